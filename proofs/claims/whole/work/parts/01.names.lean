/-! ===== BEGIN words of one list among another's, by their places ===== -/
theorem goodIn_r {big : List Cond} (ws : List Cond) (ps : List Nat) (hp : ws = ps.filterMap (fun i => big[i]?)) (h : ws.all goodWord = true) : GoodIn big ws := by
  intro w hw
  have h1 := List.all_eq_true.mp h w hw
  rw [hp] at hw
  obtain ⟨i, -, hi⟩ := List.mem_filterMap.mp hw
  have hm : w ∈ big := by first | exact List.mem_of_getElem? hi | exact List.getElem?_mem hi
  exact ⟨hm, good_of_word h1⟩
theorem goodIn_app {big a b : List Cond} (ha : GoodIn big a) (hb : GoodIn big b) : GoodIn big (a ++ b) := fun w h => (List.mem_append.mp h).elim (ha w) (hb w)
theorem goodIn_ca {big a b : List Cond} {c : Cond} (ha : GoodIn big (c :: a)) (hb : GoodIn big b) : GoodIn big (c :: (a ++ b)) := fun w h => (List.mem_cons.mp h).elim (fun e => ha w (List.mem_cons.mpr (Or.inl e))) (fun h => (List.mem_append.mp h).elim (fun h => ha w (List.mem_cons.mpr (Or.inr h))) (hb w))
theorem goodIn_sub {big ws : List Cond} (hm : ∀ w ∈ ws, w ∈ big) (h : ws.all goodWord = true) : GoodIn big ws := fun w hw => ⟨hm w hw, good_of_word (List.all_eq_true.mp h w hw)⟩
/-! ===== END ===== -/

/-! ===== BEGIN exceptions that leave a method, and their catching by the caller (launches without stack traces) ===== -/
section VXA
/-! The laws vx_back, vx_callV, vx_callS, vx_callSW, vx_throw0, vx_throwS follow proofs of the library, with one case more: JvmDerived/Free/Laws.lean (Back.of_free), Shelf42/LK1.lean (callV, callS), Shelf/KitTraced.lean (throwNew0V, throwNewS). -/
/-- where a method has thrown q: the class by its name, the cell, what was written, the world -/
def vx_T (XC : String → State → State → Prop) (st : State) (q : Addr) (t : State) (mc ms : Nat) (free : Addr → Prop) : Prop :=
  ∃ (E : String) (ce : Cell) (L : List Loc), XC E st t ∧ t.heap[q]? = some ce ∧ ce.vm = .none ∧ st.vm.findClass E = some ce.cls ∧ st.WarmedH t.vm ∧ st.sameButNew ({ t with vm := st.vm } : State) L mc ms ∧ ∀ z ∈ L, free z.base
def vx_Q (Qc : Array Value → State → Outcome → State → Prop) (XC : String → State → State → Prop) (mc ms : Nat) (free : Addr → Prop) : Array Value → State → Outcome → State → Prop := fun a st o t =>
  (Qc a st o t ∧ ∃ L, FrameEnd st o t L mc ms ∧ ∀ q ∈ L, free q.base) ∨ ∃ q, o = .threw q ∧ vx_T XC st q t mc ms free
/-- a callee that returns or throws -/
def vx_Met (l : Launch) (y : MethodName) (ws : List Cond) (rm : Room) (Pc : Array Value → State → Prop) (Qc : Array Value → State → Outcome → State → Prop) (XC : String → State → State → Prop) (mc ms : Nat) (free : Addr → Prop) : Prop :=
  MetFree l y (headSpec ws rm) Pc (fun _ _ _ _ _ => True) (vx_Q Qc XC mc ms free)
def vx_Post (XC : String → State → State → Prop) (mc ms : Nat) (free : Addr → Prop) : Pt → Array Value → Addr → Pt → Prop := fun A a q B =>
  ∃ (g : JFrame) (mk : MethodId) (t : State) (L : List Loc) (E : String) (ce : Cell), B.U.heap = t.heap ∧ B.U.vm = t.vm ∧ XC E (A.U.calling g mk a) t ∧ t.heap[q]? = some ce ∧ ce.vm = .none ∧ A.U.vm.findClass E = some ce.cls ∧ B.locs = A.locs ++ L ∧ (∀ z ∈ L, free z.base) ∧ B.cells = A.cells + mc ∧ B.slots = A.slots + ms
def vx_Back (l : Launch) (R : Room) (p : Program) (e : Env) (below : List Frame) (s : State) (sargs : Array Value) (y : MethodName) (len W9 : Nat)
    (Pre : Pt → Array Value → Prop) (Post : Pt → Array Value → Option Value → Pt → Prop) (PostX : Pt → Array Value → Addr → Pt → Prop) : Prop :=
  ∀ (m : MethodId) (meth : Method) (c : Code) (A : Pt) (g : JFrame) (ig : Instr) (mk : MethodId) (a : Array Value),
    Stand p l e R s m sargs below meth c A.U A.locs A.cells A.slots → g.method = m → g.locals.size = c.maxLocals → decode c.code g.pc = .ok (ig, len) →
    2 * g.monitorRoom + (g.stack.map fun v => v.category).sum ≤ W9 → A.U.methodNamed? y = some mk → Pre A a →
    (∃ (v : Option Value) (B : Pt), Stand p l e R s m sargs below meth c B.U B.locs B.cells B.slots ∧ Post A a v B ∧
      Steps p.tables e below (doInvoke e (A.U.setTop g) [] mk a).1 (B.U.setTop { g with pc := g.pc + len, stack := v.toList ++ g.stack })) ∨
    (∃ (q : Addr) (B : Pt), Stand p l e R s m sargs below meth c B.U B.locs B.cells B.slots ∧ PostX A a q B ∧
      Steps p.tables e below (doInvoke e (A.U.setTop g) [] mk a).1 ((B.U.setTop g).pushFrame (.throwing q)))
section Payer
variable {l : Launch} {R : Room} {p : Program} {e : Env} {below : List Frame} {s : State} {sargs : Array Value} {y : MethodName} {len W9 : Nat}
theorem vx_back {ws : List Cond} {rm : Room} {Pc : Array Value → State → Prop} {Qc : Array Value → State → Outcome → State → Prop} {XC : String → State → State → Prop} {mc ms : Nat} {free : Addr → Prop} {bytes : ByteArray} {maxL : Nat} {ret : Option FieldType}
    (hM : vx_Met l y ws rm Pc Qc XC mc ms free) (hblind : FrameBlind Pc) (hrc : rm.cells = mc) (hrs : rm.slots = ms)
    (hframes : rm.frames + 1 ≤ R.frames) (hlocals : W9 + (maxL + 11) + rm.locals ≤ R.locals)
    (hws : ∀ w ∈ ws, ∀ a' U, s.WarmedH U.vm → w.before a' U = true) (hcode : Cond.code y bytes maxL ret ∈ ws) (hinit : ∀ a' U, s.WarmedH U.vm → (Cond.initialized y.cls).before a' U = true) :
    vx_Back l R p e below s sargs y len W9 (PreOf R mc ms Pc) (PostOf Qc mc ms free) (vx_Post XC mc ms free) := by
  intro m meth c A g ig mk a X hg hsize hdg hW hn hp
  have h1 : (headSpec ws rm).pre.before a A.U = true := atoms_intro fun w hw => hws w hw _ _ X.warmed
  have h2 : (Cond.code y bytes maxL ret).before a A.U = true := hws _ hcode _ _ X.warmed
  have h3 : (Cond.initialized y.cls).before a A.U = true := hinit _ _ X.warmed
  have h4 : A.cells + (headSpec ws rm).room.cells ≤ R.cells := by rw [show (headSpec ws rm).room.cells = mc from hrc]; exact hp.1
  have h5 : A.slots + (headSpec ws rm).room.slots ≤ R.slots := by rw [show (headSpec ws rm).room.slots = ms from hrs]; exact hp.2.1
  have hPc : Pc a (A.U.calling g mk a) := hblind _ _ _ _ hp.2.2
  obtain ⟨U, Ls, c0, s0⟩ := A
  dsimp only [Pt.U, Pt.locs, Pt.cells, Pt.slots] at h1 h2 h3 h4 h5 X hn hPc ⊢
  obtain ⟨methY, cY, hmY, hcY, -, hlY, -, -, -, -⟩ := Cond.code_spec hn h2
  obtain ⟨kY, hkY, -⟩ := className_of_methodNamed hn
  have hinitY : kY.init = .initialized := Cond.initialized_spec (findClass_of_methodNamed hn) hkY h3
  have h : At U g.method c below := by rw [hg]; exact X.here
  have hlocals9 : W9 + (maxL + 11) + (headSpec ws rm).room.locals ≤ R.locals := hlocals
  have happ : (headSpec ws rm).appliesLoose y e.platform (U.calling g mk a) = true :=
    Spec.appliesLoose_calling (g := g) h hdg hn hkY hinitY
      (X.room_calling (g := g) (R' := (headSpec ws rm).room) hsize hmY hcY hframes (by rw [hlY]; omega) h4 h5) h1
  obtain ⟨mid, hmid⟩ := h.above
  have hfr : (U.setTop g).frames = (.java g :: mid) ++ below := by rw [State.frames_setTop' g h.top, hmid]; rfl
  obtain ⟨o, s₂, hsteps, -, hend, hq⟩ := Steps.callFree hM p X.admits X.cas X.clock (acts := []) hfr happ hPc trivial
  have hq' : vx_Q Qc XC mc ms free a (U.calling g mk a) o s₂ := hq
  rw [State.frames_setTop' g h.top] at hend
  obtain ⟨g₀, hg0⟩ := Option.isSome_iff_exists.mp h.top
  obtain ⟨r, hr⟩ := State.topJava?_eq_some.mp hg0
  have hr' : (({ U with heap := s₂.heap, slotsUsed := s₂.slotsUsed } : State).setVm s₂.vm).frames = .java g₀ :: r := hr
  rcases hq' with ⟨hqc, L, hfe, hL⟩ | ⟨q, rfl, E, ce, L, hx, hce, hcv, hcl, hW₂, hsm, hL⟩
  · obtain ⟨⟨v, rfl⟩, hW₂, e2, q2, q3, q4, q5, q6⟩ := id hfe
    have e3 : s₂ = ({ (U.calling g mk a).setFrames s₂.frames with heap := s₂.heap, slotsUsed := s₂.slotsUsed } : State).setVm s₂.vm := by
      have : s₂ = ({ s₂ with vm := (U.calling g mk a).vm } : State).setVm s₂.vm := rfl
      rw [e2] at this
      exact this
    obtain ⟨c₂, i₂, len₂, hc₂, hd₂, hf₂⟩ := hend
    have hW' : U.WarmedH s₂.vm := hW₂
    have hcc : c₂ = c := by
      have h1 : s₂.code? g.method = U.code? g.method := by
        rw [State.code?_eq, State.code?_eq, hW'.alike.method?]
      exact Option.some.inj (hc₂.symm.trans (h1.trans h.code))
    subst hcc
    have hlen : len₂ = len := by rw [hdg] at hd₂; cases hd₂; rfl
    subst hlen
    have hs₂ : s₂ = (({ U with heap := s₂.heap, slotsUsed := s₂.slotsUsed } : State).setVm s₂.vm).setTop { g with pc := g.pc + len₂, stack := v.toList ++ g.stack } := by
      refine e3.trans ?_
      rw [hf₂, State.calling_eq h.top, State.setFrames_setFrames, State.setTop_of_frames _ hr', hr]
      rfl
    have hsame : U.sameButNew ({ U with heap := s₂.heap, slotsUsed := s₂.slotsUsed } : State) L mc ms := by
      refine ⟨?_, q2, q3, q4, q5, q6⟩
      obtain ⟨t, ht, -⟩ := State.frames_cons hr
      show ({ U with heap := s₂.heap, slotsUsed := s₂.slotsUsed } : State) = { U.setFrames U.frames with heap := s₂.heap, slotsUsed := s₂.slotsUsed }
      rw [State.setFrames_self ht]
    subst hg
    refine Or.inl ⟨v, ⟨(({ U with heap := s₂.heap, slotsUsed := s₂.slotsUsed } : State).setVm s₂.vm), Ls ++ L, c0 + mc, s0 + ms⟩,
      ⟨X.admits, X.cas, X.clock, X.frames, X.room, X.hears, X.method, X.code, (X.here.setHeapUsed s₂.heap s₂.slotsUsed).setVm hW'.alike, X.tail, State.WarmedH.trans X.warmed hW', X.limits, X.bytes, X.same.trans (hsame.setVm s.vm)⟩,
      ⟨g, mk, s₂, L, rfl, rfl, hqc, rfl, hL, rfl, rfl⟩, ?_⟩
    show Steps p.tables e below _ ((({ U with heap := s₂.heap, slotsUsed := s₂.slotsUsed } : State).setVm s₂.vm).setTop { g with pc := g.pc + len₂, stack := v.toList ++ g.stack })
    rw [← hs₂]
    exact hsteps
  · obtain ⟨e2, q2, q3, q4, q5, q6⟩ := id hsm
    have e3 : s₂ = ({ (U.calling g mk a).setFrames s₂.frames with heap := s₂.heap, slotsUsed := s₂.slotsUsed } : State).setVm s₂.vm := by
      have : s₂ = ({ s₂ with vm := (U.calling g mk a).vm } : State).setVm s₂.vm := rfl
      rw [e2] at this
      exact this
    have hf₂ : s₂.frames = .throwing q :: .java g :: U.frames.tail := hend
    have hW' : U.WarmedH s₂.vm := hW₂
    have hs₂ : s₂ = ((({ U with heap := s₂.heap, slotsUsed := s₂.slotsUsed } : State).setVm s₂.vm).setTop g).pushFrame (.throwing q) := by
      refine e3.trans ?_
      rw [hf₂, State.calling_eq h.top, State.setFrames_setFrames, State.pushFrame, State.frames_setTop _ hr', State.setTop_of_frames _ hr', State.setFrames_setFrames, hr]
      rfl
    have hsame : U.sameButNew ({ U with heap := s₂.heap, slotsUsed := s₂.slotsUsed } : State) L mc ms := by
      refine ⟨?_, q2, q3, q4, q5, q6⟩
      obtain ⟨t, ht, -⟩ := State.frames_cons hr
      show ({ U with heap := s₂.heap, slotsUsed := s₂.slotsUsed } : State) = { U.setFrames U.frames with heap := s₂.heap, slotsUsed := s₂.slotsUsed }
      rw [State.setFrames_self ht]
    subst hg
    refine Or.inr ⟨q, ⟨(({ U with heap := s₂.heap, slotsUsed := s₂.slotsUsed } : State).setVm s₂.vm), Ls ++ L, c0 + mc, s0 + ms⟩,
      ⟨X.admits, X.cas, X.clock, X.frames, X.room, X.hears, X.method, X.code, (X.here.setHeapUsed s₂.heap s₂.slotsUsed).setVm hW'.alike, X.tail, State.WarmedH.trans X.warmed hW', X.limits, X.bytes, X.same.trans (hsame.setVm s.vm)⟩,
      ⟨g, mk, s₂, L, E, ce, rfl, rfl, hx, hce, hcv, hcl, rfl, hL, rfl, rfl⟩, ?_⟩
    show Steps p.tables e below _ (((({ U with heap := s₂.heap, slotsUsed := s₂.slotsUsed } : State).setVm s₂.vm).setTop g).pushFrame (.throwing q))
    rw [← hs₂]
    exact hsteps
end Payer
section Calls
variable {p : Program} {l : Launch} {e : Env} {R : Room} {s : State} {m : MethodId} {args : Array Value} {below : List Frame} {meth : Method} {c : Code} {T : State} {locs : List Loc} {cells slots : Nat}
theorem vx_callV (X : Stand p l e R s m args below meth c T locs cells slots) (hexec : p.tables.exec = Jvm.exec) {own C : String} {index : Nat} {y : MethodName} {bytes : ByteArray} {maxL : Nat} {ret : Option FieldType}
    (hown : s.vm.findClass own = some m.cls) (hlink : (Cond.methodLink own index y).before args s = true) (hinst : (Cond.instanceMethod y).before args s = true) (hsel : (Cond.selects C y y).before args s = true)
    (hcode : (Cond.code y bytes maxL ret).before args s = true) (hy : y.cls ≠ "java/lang/invoke/MethodHandle" ∧ y.cls ≠ "java/lang/invoke/VarHandle")
    {W9 : Nat} {Pre : Pt → Array Value → Prop} {Post : Pt → Array Value → Option Value → Pt → Prop} {PostX : Pt → Array Value → Addr → Pt → Prop} (hK : vx_Back l R p e below s args y 3 W9 Pre Post PostX)
    {b : Addr} {cellB : Cell} (hcell : T.heap[b]? = some cellB) (hobj : cellB.vm.isStatics = false) (hcls : s.vm.findClass C = some cellB.cls)
    {g : JFrame} (hg : g.method = m) (hsize : g.locals.size = c.maxLocals) {argsL rest : List Value} (hlen : ∀ sig, parseMethodDescriptor y.desc = some sig → argsL.length = sig.parameters.length)
    (hstack : g.stack = argsL.reverse ++ .ref b :: rest) (hW : 2 * g.monitorRoom + (rest.map fun v => v.category).sum ≤ W9) (hdg : decode c.code g.pc = .ok (.invokevirtual index, 3))
    (hpre : ∀ vm₁, s.WarmedH vm₁ → Pre ⟨T.setVm vm₁, locs, cells, slots⟩ (Value.ref b :: argsL).toArray) :
    (∃ (v : Option Value) (vm₁ : Vm) (B : Pt), s.WarmedH vm₁ ∧ Stand p l e R s m args below meth c B.U B.locs B.cells B.slots ∧ Post ⟨T.setVm vm₁, locs, cells, slots⟩ (Value.ref b :: argsL).toArray v B ∧
      ∀ target, Steps p.tables e below (B.U.setTop { g with pc := g.pc + 3, stack := v.toList ++ rest }) target → Steps p.tables e below (T.setTop g) target) ∨
    (∃ (q : Addr) (vm₁ : Vm) (B : Pt), s.WarmedH vm₁ ∧ Stand p l e R s m args below meth c B.U B.locs B.cells B.slots ∧ PostX ⟨T.setVm vm₁, locs, cells, slots⟩ (Value.ref b :: argsL).toArray q B ∧
      Steps p.tables e below (T.setTop g) ((B.U.setTop { g with stack := rest }).pushFrame (.throwing q))) := by
  obtain ⟨mk, methM, hnamed, hmethM, hstM, habM⟩ := Cond.instanceMethod_spec hinst
  obtain ⟨methM', cM, hmethM', -, -, -, -, -, -, hsigM⟩ := Cond.code_spec hnamed hcode
  cases hmethM.symm.trans hmethM'
  obtain ⟨c2, r2, m2, q1, q2, q3, q4, kP, hkP, hkPi⟩ := Cond.selects_spec hsel
  cases hcls.symm.trans q1
  cases (State.methodFound?_of_named hnamed hy).symm.trans q2
  cases hnamed.symm.trans q3
  have hselP : selectMethod e.platform s.vm cellB.cls mk = .method mk := by rw [Launch.admits_selectMethod X.admits]; exact q4
  obtain ⟨vm₁, X₁, hstep₁⟩ := X.invokevirtual hexec hown hlink hnamed hmethM hstM hkP hkPi hy (a := b) (cell := cellB) hcell
    (fun z h => by rw [h] at hobj; cases hobj) hselP hmethM habM hkP hkPi (g := g) hg (argsL := argsL) (rest := rest) (hlen _ hsigM) hstack hdg
  rcases hK m meth c ⟨T.setVm vm₁, locs, cells, slots⟩ { g with stack := rest } (.invokevirtual index) mk (Value.ref b :: argsL).toArray X₁ hg hsize hdg hW (X₁.named hnamed) (hpre vm₁ X₁.warmed) with ⟨v, B, X', hpost, hsteps⟩ | ⟨q, B, X', hpost, hsteps⟩
  · exact Or.inl ⟨v, vm₁, B, X₁.warmed, X', hpost, fun target h => hstep₁ _ fun acts => by rw [doInvoke_state]; exact hsteps.trans h⟩
  · exact Or.inr ⟨q, vm₁, B, X₁.warmed, X', hpost, hstep₁ _ fun acts => by rw [doInvoke_state]; exact hsteps⟩
theorem vx_callS (X : Stand p l e R s m args below meth c T locs cells slots) (hexec : p.tables.exec = Jvm.exec) {own : String} {index : Nat} {y : MethodName} {bytes : ByteArray} {maxL : Nat} {ret : Option FieldType}
    (hown : s.vm.findClass own = some m.cls) (hlink : (Cond.methodLink own index y).before args s = true) (hstat : (Cond.static y).before args s = true) (hinit : (Cond.initialized y.cls).before args s = true)
    (hcode : (Cond.code y bytes maxL ret).before args s = true) (hy : y.cls ≠ "java/lang/invoke/MethodHandle" ∧ y.cls ≠ "java/lang/invoke/VarHandle")
    {W9 : Nat} {Pre : Pt → Array Value → Prop} {Post : Pt → Array Value → Option Value → Pt → Prop} {PostX : Pt → Array Value → Addr → Pt → Prop} (hK : vx_Back l R p e below s args y 3 W9 Pre Post PostX)
    {g : JFrame} (hg : g.method = m) (hsize : g.locals.size = c.maxLocals) {argsL rest : List Value} (hlen : ∀ sig, parseMethodDescriptor y.desc = some sig → argsL.length = sig.parameters.length)
    (hstack : g.stack = argsL.reverse ++ rest) (hW : 2 * g.monitorRoom + (rest.map fun v => v.category).sum ≤ W9) (hdg : decode c.code g.pc = .ok (.invokestatic index, 3))
    (hpre : ∀ vm₁, s.WarmedH vm₁ → Pre ⟨T.setVm vm₁, locs, cells, slots⟩ argsL.toArray) :
    (∃ (v : Option Value) (vm₁ : Vm) (B : Pt), s.WarmedH vm₁ ∧ Stand p l e R s m args below meth c B.U B.locs B.cells B.slots ∧ Post ⟨T.setVm vm₁, locs, cells, slots⟩ argsL.toArray v B ∧
      ∀ target, Steps p.tables e below (B.U.setTop { g with pc := g.pc + 3, stack := v.toList ++ rest }) target → Steps p.tables e below (T.setTop g) target) ∨
    (∃ (q : Addr) (vm₁ : Vm) (B : Pt), s.WarmedH vm₁ ∧ Stand p l e R s m args below meth c B.U B.locs B.cells B.slots ∧ PostX ⟨T.setVm vm₁, locs, cells, slots⟩ argsL.toArray q B ∧
      Steps p.tables e below (T.setTop g) ((B.U.setTop { g with stack := rest }).pushFrame (.throwing q))) := by
  obtain ⟨mk, hnamed⟩ := Cond.code_named hcode
  obtain ⟨methM, cM, hmethM, -, -, -, -, -, -, hsigM⟩ := Cond.code_spec hnamed hcode
  have hstatic : methM.isStatic = true := Cond.static_spec hnamed hmethM hstat
  obtain ⟨kP, hkP, -⟩ := className_of_methodNamed hnamed
  have hinitP : kP.init = .initialized := Cond.initialized_spec (findClass_of_methodNamed hnamed) hkP hinit
  obtain ⟨vm₁, X₁, hstep₁⟩ := X.invokestatic hexec hown hlink hnamed hmethM hstatic hkP hinitP hy (g := g) hg (argsL := argsL) (rest := rest) (hlen _ hsigM) hstack hdg
  rcases hK m meth c ⟨T.setVm vm₁, locs, cells, slots⟩ { g with stack := rest } (.invokestatic index) mk argsL.toArray X₁ hg hsize hdg hW (X₁.named hnamed) (hpre vm₁ X₁.warmed) with ⟨v, B, X', hpost, hsteps⟩ | ⟨q, B, X', hpost, hsteps⟩
  · exact Or.inl ⟨v, vm₁, B, X₁.warmed, X', hpost, fun target h => hstep₁ _ fun acts => by rw [doInvoke_state]; exact hsteps.trans h⟩
  · exact Or.inr ⟨q, vm₁, B, X₁.warmed, X', hpost, hstep₁ _ fun acts => by rw [doInvoke_state]; exact hsteps⟩
end Calls
theorem vx_cls {s : State} {T : State} {vm₁ : Vm} {E : String} {k : ClassId} (hW : s.WarmedH vm₁) (h : (T.setVm vm₁).vm.findClass E = some k) : s.vm.findClass E = some k := by
  have h1 : vm₁.findClass E = some k := h
  rw [hW.alike.findClass] at h1
  exact h1
/-- the method's frame g, with q thrown over it -/
def vx_W (p : Program) (l : Launch) (e : Env) (R : Room) (s : State) (m : MethodId) (args : Array Value) (below : List Frame) (meth : Method) (c : Code) (H : Heap) (locs : List Loc) (cells slots : Nat) (Q : State → Prop) (g : JFrame) (q : Addr) : Prop :=
  ∀ T : State, T.heap = H → Stand p l e R s m args below meth c T locs cells slots → ∃ t, Steps p.tables e below ((T.setTop g).pushFrame (.throwing q)) t ∧ Q t
def vx_Run (p : Program) (l : Launch) (e : Env) (R : Room) (s : State) (m : MethodId) (args : Array Value) (below : List Frame) (meth : Method) (c : Code) (H : Heap) (locs : List Loc) (cells slots mc ms : Nat) (g : JFrame) (rest : List Value) (Qa : State → Outcome → State → Prop) (XC : String → State → State → Prop) (free : Addr → Prop) : Prop :=
  ∀ T : State, T.heap = H → Stand p l e R s m args below meth c T locs cells slots →
    (∃ (v : Option Value) (st₀ t T' : State) (L : List Loc), st₀.heap = H ∧ Stand p l e R s m args below meth c T' (locs ++ L) (cells + mc) (slots + ms) ∧ (∀ q ∈ L, free q.base) ∧ T'.heap = t.heap ∧ T'.vm = t.vm ∧ Qa st₀ (.returned v) t ∧
      Goes p e below T g T' { g with pc := g.pc + 3, stack := v.toList ++ rest }) ∨
    (∃ (q : Addr) (st₀ t T' : State) (L : List Loc) (E : String) (ce : Cell), st₀.heap = H ∧ Stand p l e R s m args below meth c T' (locs ++ L) (cells + mc) (slots + ms) ∧ (∀ z ∈ L, free z.base) ∧ T'.heap = t.heap ∧ T'.vm = t.vm ∧ XC E st₀ t ∧ t.heap[q]? = some ce ∧ ce.vm = .none ∧ s.vm.findClass E = some ce.cls ∧
      Steps p.tables e below (T.setTop g) ((T'.setTop { g with stack := rest }).pushFrame (.throwing q)))
def vx_X {S : Type} (px : S → Prop) (B : String → S → State → Prop) (A : Nat → Prop) : String → State → State → Prop := fun E st t => ∃ u : S, px u ∧ B E u t ∧ va_F A st t
section Runs
variable {p : Program} {l : Launch} {e : Env} {R : Room} {s : State} {m : MethodId} {args : Array Value} {below : List Frame} {meth : Method} {c : Code} {H : Heap} {locs : List Loc} {cells slots : Nat}
variable {y : MethodName} {bytes cc : ByteArray} {maxL nL mc ms n index : Nat} {ret : Option FieldType} {ws : List Cond} {rm : Room} {Pc : Array Value → State → Prop} {Qc : Array Value → State → Outcome → State → Prop} {XC : String → State → State → Prop} {free : Addr → Prop} {Ts : List Cond} {own C : String} {b : Addr} {As rest : List Value} {g : JFrame}
theorem vx_callBack (cb : CallB R s args own index y bytes maxL ret ws rm mc ms n) (hM : vx_Met l y ws rm Pc Qc XC mc ms free) (hbl : FrameBlind Pc) : vx_Back l R p e below s args y 3 8 (PreOf R mc ms Pc) (PostOf Qc mc ms free) (vx_Post XC mc ms free) := by
  obtain ⟨hrc, hrs, hfr, hlo, hws, hcw, -, hini, -⟩ := cb
  exact vx_back (bytes := bytes) (maxL := maxL) (ret := ret) hM hbl hrc hrs hfr hlo hws hcw (fun a' U hW => word_at hW (Or.inl (by first | rfl | simp [Cond.onTables, Cond.keeps, Cond.steady])) hini)
theorem vx_runV (S : CallFix p m c cc nL s args Ts own) (hM : vx_Met l y ws rm Pc Qc XC mc ms free) (cw : CallW R s args own C index y bytes maxL ret ws rm mc ms n) (hp : PreV s H C b Pc As)
    (hg : g.method = m) (hn : As.length = n) (hsize : g.locals.size = nL) (hstack : g.stack = As.reverse ++ .ref b :: rest) (hW : 2 * g.monitorRoom + (rest.map fun v => v.category).sum ≤ 8) (hdg : decode cc g.pc = .ok (.invokevirtual index, 3)) (hf : cells + mc ≤ R.cells ∧ slots + ms ≤ R.slots) :
    vx_Run p l e R s m args below meth c H locs cells slots mc ms g rest (Qc (Value.ref b :: As).toArray) XC free := by
  have hK : vx_Back l R p e below s args y 3 8 (PreOf R mc ms Pc) (PostOf Qc mc ms free) (vx_Post XC mc ms free) := vx_callBack cw.1 hM hp.1
  obtain ⟨⟨-, -, -, -, -, -, hcode, -, hy, hlen, hl⟩, hin, hse⟩ := cw
  obtain ⟨hx, hb, hml, ho, -⟩ := S
  obtain ⟨-, ⟨cellB, hcB, hoB, hclB⟩, hPc⟩ := hp
  intro T hT X
  rcases vx_callV X hx (C := C) (bytes := bytes) (maxL := maxL) (ret := ret) ho hl hin hse hcode hy hK (by rw [hT]; exact hcB) hoB hclB hg (hsize.trans hml.symm) (argsL := As) (rest := rest) (fun sig h => hn.trans (hlen sig h)) hstack hW (by rw [hb]; exact hdg)
    (fun vm₁ hW₁ => ⟨hf.1, hf.2, hPc (T.setVm vm₁) hT hW₁⟩) with ⟨v, vm₁, ⟨U', l2, c2, s2⟩, hW₁, X', ⟨g', mk, t, L, e1, e2, hq, h1, hL, h2, h3⟩, st⟩ | ⟨q, vm₁, ⟨U', l2, c2, s2⟩, hW₁, X', ⟨g', mk, t, L, E, ce, e1, e2, hq, hce, hcv, hcl, h1, hL, h2, h3⟩, st⟩
  · dsimp only [Pt.U, Pt.locs, Pt.cells, Pt.slots] at X' e1 e2 h1 h2 h3 st
    subst h1; subst h2; subst h3
    exact Or.inl ⟨v, (T.setVm vm₁).calling g' mk (Value.ref b :: As).toArray, t, U', L, hT, X', hL, e1, e2, hq, st⟩
  · dsimp only [Pt.U, Pt.locs, Pt.cells, Pt.slots] at X' e1 e2 h1 h2 h3 st hcl
    subst h1; subst h2; subst h3
    exact Or.inr ⟨q, (T.setVm vm₁).calling g' mk (Value.ref b :: As).toArray, t, U', L, E, ce, hT, X', hL, e1, e2, hq, hce, hcv, vx_cls hW₁ hcl, st⟩
theorem vx_runS (S : CallFix p m c cc nL s args Ts own) (hM : vx_Met l y ws rm Pc Qc XC mc ms free) (cw : CallB R s args own index y bytes maxL ret ws rm mc ms n ∧ (Cond.static y).before args s = true) (hp : PreS s H Pc As)
    (hg : g.method = m) (hn : As.length = n) (hsize : g.locals.size = nL) (hstack : g.stack = As.reverse ++ rest) (hW : 2 * g.monitorRoom + (rest.map fun v => v.category).sum ≤ 8) (hdg : decode cc g.pc = .ok (.invokestatic index, 3)) (hf : cells + mc ≤ R.cells ∧ slots + ms ≤ R.slots) :
    vx_Run p l e R s m args below meth c H locs cells slots mc ms g rest (Qc As.toArray) XC free := by
  have hK : vx_Back l R p e below s args y 3 8 (PreOf R mc ms Pc) (PostOf Qc mc ms free) (vx_Post XC mc ms free) := vx_callBack cw.1 hM hp.1
  obtain ⟨⟨-, -, -, -, -, -, hcode, hini, hy, hlen, hl⟩, hstt⟩ := cw
  obtain ⟨hx, hb, hml, ho, -⟩ := S
  intro T hT X
  rcases vx_callS X hx (bytes := bytes) (maxL := maxL) (ret := ret) ho hl hstt hini hcode hy hK hg (hsize.trans hml.symm) (argsL := As) (rest := rest) (fun sig h => hn.trans (hlen sig h)) hstack hW (by rw [hb]; exact hdg)
    (fun vm₁ hW₁ => ⟨hf.1, hf.2, hp.2 (T.setVm vm₁) hT hW₁⟩) with ⟨v, vm₁, ⟨U', l2, c2, s2⟩, hW₁, X', ⟨g', mk, t, L, e1, e2, hq, h1, hL, h2, h3⟩, st⟩ | ⟨q, vm₁, ⟨U', l2, c2, s2⟩, hW₁, X', ⟨g', mk, t, L, E, ce, e1, e2, hq, hce, hcv, hcl, h1, hL, h2, h3⟩, st⟩
  · dsimp only [Pt.U, Pt.locs, Pt.cells, Pt.slots] at X' e1 e2 h1 h2 h3 st
    subst h1; subst h2; subst h3
    exact Or.inl ⟨v, (T.setVm vm₁).calling g' mk As.toArray, t, U', L, hT, X', hL, e1, e2, hq, st⟩
  · dsimp only [Pt.U, Pt.locs, Pt.cells, Pt.slots] at X' e1 e2 h1 h2 h3 st hcl
    subst h1; subst h2; subst h3
    exact Or.inr ⟨q, (T.setVm vm₁).calling g' mk As.toArray, t, U', L, E, ce, hT, X', hL, e1, e2, hq, hce, hcv, vx_cls hW₁ hcl, st⟩
end Runs
section Rows
variable {p : Program} {l : Launch} {e : Env} {R : Room} {s : State} {m : MethodId} {args : Array Value} {below : List Frame} {meth : Method} {c : Code} {H : Heap} {locs : List Loc} {cells slots : Nat} {Q : State → Prop}
variable {mc ms : Nat} {free : Addr → Prop} {A0 A1 : Nat → Prop} {H0 : Heap} {a : Array Value} {pc : Nat} {ls : Array Slot} {st0 rest : List Value}
theorem vx_keep {st₀ t T' : State} {L : List Loc} (h0 : st₀.heap = H) (e1 : T'.heap = t.heap) (hS : va_S A0 H0 H locs) (hA : ∀ q, q < H.size → A1 q → A0 q) (hf : ∀ q, free q → A0 q) (hL : ∀ q ∈ L, free q.base) (hF : va_F A1 st₀ t) :
    H.size ≤ T'.heap.size ∧ (∀ q : Nat, q < H.size → ¬ A1 q → T'.heap[q]? = H[q]?) ∧ va_S A0 H0 T'.heap (locs ++ L) := by
  obtain ⟨hz, hk⟩ := hF
  rw [h0] at hz hk
  exact ⟨by rw [e1]; exact hz, fun q h1 h2 => by rw [e1]; exact hk q h1 h2,
    ⟨Nat.le_trans hS.1 (by rw [e1]; exact hz), fun q h1 h2 => by rw [e1, hk q (Nat.lt_of_lt_of_le h1 hS.1) (fun z => h2 (hA q (Nat.lt_of_lt_of_le h1 hS.1) z))]; exact hS.2.1 q h1 h2, fun q hq => by
      rcases List.mem_append.mp hq with h | h
      · exact hS.2.2 q h
      · exact hf _ (hL q h)⟩⟩
theorem vx_calli {S SX : Type} {post : Int32 → S → Prop} {px : SX → Prop} {B : S → State → Prop} {BX : String → SX → State → Prop} {AX : Nat → Prop} (hr : vx_Run p l e R s m args below meth c H locs cells slots mc ms (F0 m pc ls st0) rest (va_Qi post B A1 a) (vx_X px BX AX) free) (hS : va_S A0 H0 H locs) (hA : ∀ q, q < H.size → A1 q → A0 q) (hf : ∀ q, free q → A0 q) (hAX : ∀ q, q < H.size → AX q → A0 q)
    (kx : ∀ (E : String) (ce : Cell) (q9 : Addr) (u : SX) (t : State) (H1 : Heap) (locs1 : List Loc), t.heap = H1 → s.vm.Alike t.vm → px u → BX E u t → H.size ≤ H1.size → (∀ q : Nat, q < H.size → ¬ AX q → H1[q]? = H[q]?) → va_S A0 H0 H1 locs1 → H1[q9]? = some ce → ce.vm = .none → s.vm.findClass E = some ce.cls → vx_W p l e R s m args below meth c H1 locs1 (cells + mc) (slots + ms) Q (F0 m pc ls rest) q9)
    (kk : ∀ (r : Int32) (u : S) (t : State) (H1 : Heap) (locs1 : List Loc), t.heap = H1 → s.vm.Alike t.vm → post r u → B u t → H.size ≤ H1.size → (∀ q : Nat, q < H.size → ¬ A1 q → H1[q]? = H[q]?) → va_S A0 H0 H1 locs1 → W p l e R s m args below meth c H1 locs1 (cells + mc) (slots + ms) Q (F0 m (pc + 3) ls (.int r :: rest))) : W p l e R s m args below meth c H locs cells slots Q (F0 m pc ls st0) := by
  intro T hT X
  rcases hr T hT X with ⟨v, st₀, t, T', L, h0, X', hL, e1, e2, ⟨⟨r, u, hv, hp, hb⟩, hF⟩, st⟩ | ⟨q, st₀, t, T', L, E, ce, h0, X', hL, e1, e2, ⟨u, hp, hb, hF⟩, hce, hcv, hcl, st⟩
  · cases hv
    obtain ⟨k1, k2, k3⟩ := vx_keep h0 e1 hS hA hf hL hF
    obtain ⟨t2, a1, b1⟩ := kk r u t T'.heap (locs ++ L) e1.symm (by rw [← e2]; exact X'.warmed.alike) hp hb k1 k2 k3 T' rfl X'
    exact ⟨t2, st t2 a1, b1⟩
  · obtain ⟨k1, k2, k3⟩ := vx_keep h0 e1 hS hAX hf hL hF
    obtain ⟨t2, a1, b1⟩ := kx E ce q u t T'.heap (locs ++ L) e1.symm (by rw [← e2]; exact X'.warmed.alike) hp hb k1 k2 k3 (by rw [e1]; exact hce) hcv hcl T' rfl X'
    exact ⟨t2, st.trans a1, b1⟩
theorem vx_calll {S SX : Type} {post : Int64 → S → Prop} {px : SX → Prop} {B : S → State → Prop} {BX : String → SX → State → Prop} {AX : Nat → Prop} (hr : vx_Run p l e R s m args below meth c H locs cells slots mc ms (F0 m pc ls st0) rest (va_Ql post B A1 a) (vx_X px BX AX) free) (hS : va_S A0 H0 H locs) (hA : ∀ q, q < H.size → A1 q → A0 q) (hf : ∀ q, free q → A0 q) (hAX : ∀ q, q < H.size → AX q → A0 q)
    (kx : ∀ (E : String) (ce : Cell) (q9 : Addr) (u : SX) (t : State) (H1 : Heap) (locs1 : List Loc), t.heap = H1 → s.vm.Alike t.vm → px u → BX E u t → H.size ≤ H1.size → (∀ q : Nat, q < H.size → ¬ AX q → H1[q]? = H[q]?) → va_S A0 H0 H1 locs1 → H1[q9]? = some ce → ce.vm = .none → s.vm.findClass E = some ce.cls → vx_W p l e R s m args below meth c H1 locs1 (cells + mc) (slots + ms) Q (F0 m pc ls rest) q9)
    (kk : ∀ (r : Int64) (u : S) (t : State) (H1 : Heap) (locs1 : List Loc), t.heap = H1 → s.vm.Alike t.vm → post r u → B u t → H.size ≤ H1.size → (∀ q : Nat, q < H.size → ¬ A1 q → H1[q]? = H[q]?) → va_S A0 H0 H1 locs1 → W p l e R s m args below meth c H1 locs1 (cells + mc) (slots + ms) Q (F0 m (pc + 3) ls (.long r :: rest))) : W p l e R s m args below meth c H locs cells slots Q (F0 m pc ls st0) := by
  intro T hT X
  rcases hr T hT X with ⟨v, st₀, t, T', L, h0, X', hL, e1, e2, ⟨⟨r, u, hv, hp, hb⟩, hF⟩, st⟩ | ⟨q, st₀, t, T', L, E, ce, h0, X', hL, e1, e2, ⟨u, hp, hb, hF⟩, hce, hcv, hcl, st⟩
  · cases hv
    obtain ⟨k1, k2, k3⟩ := vx_keep h0 e1 hS hA hf hL hF
    obtain ⟨t2, a1, b1⟩ := kk r u t T'.heap (locs ++ L) e1.symm (by rw [← e2]; exact X'.warmed.alike) hp hb k1 k2 k3 T' rfl X'
    exact ⟨t2, st t2 a1, b1⟩
  · obtain ⟨k1, k2, k3⟩ := vx_keep h0 e1 hS hAX hf hL hF
    obtain ⟨t2, a1, b1⟩ := kx E ce q u t T'.heap (locs ++ L) e1.symm (by rw [← e2]; exact X'.warmed.alike) hp hb k1 k2 k3 (by rw [e1]; exact hce) hcv hcl T' rfl X'
    exact ⟨t2, st.trans a1, b1⟩
theorem vx_callf {S SX : Type} {post : UInt32 → S → Prop} {px : SX → Prop} {B : S → State → Prop} {BX : String → SX → State → Prop} {AX : Nat → Prop} (hr : vx_Run p l e R s m args below meth c H locs cells slots mc ms (F0 m pc ls st0) rest (va_Qf post B A1 a) (vx_X px BX AX) free) (hS : va_S A0 H0 H locs) (hA : ∀ q, q < H.size → A1 q → A0 q) (hf : ∀ q, free q → A0 q) (hAX : ∀ q, q < H.size → AX q → A0 q)
    (kx : ∀ (E : String) (ce : Cell) (q9 : Addr) (u : SX) (t : State) (H1 : Heap) (locs1 : List Loc), t.heap = H1 → s.vm.Alike t.vm → px u → BX E u t → H.size ≤ H1.size → (∀ q : Nat, q < H.size → ¬ AX q → H1[q]? = H[q]?) → va_S A0 H0 H1 locs1 → H1[q9]? = some ce → ce.vm = .none → s.vm.findClass E = some ce.cls → vx_W p l e R s m args below meth c H1 locs1 (cells + mc) (slots + ms) Q (F0 m pc ls rest) q9)
    (kk : ∀ (r : UInt32) (u : S) (t : State) (H1 : Heap) (locs1 : List Loc), t.heap = H1 → s.vm.Alike t.vm → post r u → B u t → H.size ≤ H1.size → (∀ q : Nat, q < H.size → ¬ A1 q → H1[q]? = H[q]?) → va_S A0 H0 H1 locs1 → W p l e R s m args below meth c H1 locs1 (cells + mc) (slots + ms) Q (F0 m (pc + 3) ls (.float r :: rest))) : W p l e R s m args below meth c H locs cells slots Q (F0 m pc ls st0) := by
  intro T hT X
  rcases hr T hT X with ⟨v, st₀, t, T', L, h0, X', hL, e1, e2, ⟨⟨r, u, hv, hp, hb⟩, hF⟩, st⟩ | ⟨q, st₀, t, T', L, E, ce, h0, X', hL, e1, e2, ⟨u, hp, hb, hF⟩, hce, hcv, hcl, st⟩
  · cases hv
    obtain ⟨k1, k2, k3⟩ := vx_keep h0 e1 hS hA hf hL hF
    obtain ⟨t2, a1, b1⟩ := kk r u t T'.heap (locs ++ L) e1.symm (by rw [← e2]; exact X'.warmed.alike) hp hb k1 k2 k3 T' rfl X'
    exact ⟨t2, st t2 a1, b1⟩
  · obtain ⟨k1, k2, k3⟩ := vx_keep h0 e1 hS hAX hf hL hF
    obtain ⟨t2, a1, b1⟩ := kx E ce q u t T'.heap (locs ++ L) e1.symm (by rw [← e2]; exact X'.warmed.alike) hp hb k1 k2 k3 (by rw [e1]; exact hce) hcv hcl T' rfl X'
    exact ⟨t2, st.trans a1, b1⟩
theorem vx_calld {S SX : Type} {post : UInt64 → S → Prop} {px : SX → Prop} {B : S → State → Prop} {BX : String → SX → State → Prop} {AX : Nat → Prop} (hr : vx_Run p l e R s m args below meth c H locs cells slots mc ms (F0 m pc ls st0) rest (va_Qd post B A1 a) (vx_X px BX AX) free) (hS : va_S A0 H0 H locs) (hA : ∀ q, q < H.size → A1 q → A0 q) (hf : ∀ q, free q → A0 q) (hAX : ∀ q, q < H.size → AX q → A0 q)
    (kx : ∀ (E : String) (ce : Cell) (q9 : Addr) (u : SX) (t : State) (H1 : Heap) (locs1 : List Loc), t.heap = H1 → s.vm.Alike t.vm → px u → BX E u t → H.size ≤ H1.size → (∀ q : Nat, q < H.size → ¬ AX q → H1[q]? = H[q]?) → va_S A0 H0 H1 locs1 → H1[q9]? = some ce → ce.vm = .none → s.vm.findClass E = some ce.cls → vx_W p l e R s m args below meth c H1 locs1 (cells + mc) (slots + ms) Q (F0 m pc ls rest) q9)
    (kk : ∀ (r : UInt64) (u : S) (t : State) (H1 : Heap) (locs1 : List Loc), t.heap = H1 → s.vm.Alike t.vm → post r u → B u t → H.size ≤ H1.size → (∀ q : Nat, q < H.size → ¬ A1 q → H1[q]? = H[q]?) → va_S A0 H0 H1 locs1 → W p l e R s m args below meth c H1 locs1 (cells + mc) (slots + ms) Q (F0 m (pc + 3) ls (.double r :: rest))) : W p l e R s m args below meth c H locs cells slots Q (F0 m pc ls st0) := by
  intro T hT X
  rcases hr T hT X with ⟨v, st₀, t, T', L, h0, X', hL, e1, e2, ⟨⟨r, u, hv, hp, hb⟩, hF⟩, st⟩ | ⟨q, st₀, t, T', L, E, ce, h0, X', hL, e1, e2, ⟨u, hp, hb, hF⟩, hce, hcv, hcl, st⟩
  · cases hv
    obtain ⟨k1, k2, k3⟩ := vx_keep h0 e1 hS hA hf hL hF
    obtain ⟨t2, a1, b1⟩ := kk r u t T'.heap (locs ++ L) e1.symm (by rw [← e2]; exact X'.warmed.alike) hp hb k1 k2 k3 T' rfl X'
    exact ⟨t2, st t2 a1, b1⟩
  · obtain ⟨k1, k2, k3⟩ := vx_keep h0 e1 hS hAX hf hL hF
    obtain ⟨t2, a1, b1⟩ := kx E ce q u t T'.heap (locs ++ L) e1.symm (by rw [← e2]; exact X'.warmed.alike) hp hb k1 k2 k3 (by rw [e1]; exact hce) hcv hcl T' rfl X'
    exact ⟨t2, st.trans a1, b1⟩
theorem vx_callv {S SX : Type} {post : S → Prop} {px : SX → Prop} {B : S → State → Prop} {BX : String → SX → State → Prop} {AX : Nat → Prop} (hr : vx_Run p l e R s m args below meth c H locs cells slots mc ms (F0 m pc ls st0) rest (va_Qv post B A1 a) (vx_X px BX AX) free) (hS : va_S A0 H0 H locs) (hA : ∀ q, q < H.size → A1 q → A0 q) (hf : ∀ q, free q → A0 q) (hAX : ∀ q, q < H.size → AX q → A0 q)
    (kx : ∀ (E : String) (ce : Cell) (q9 : Addr) (u : SX) (t : State) (H1 : Heap) (locs1 : List Loc), t.heap = H1 → s.vm.Alike t.vm → px u → BX E u t → H.size ≤ H1.size → (∀ q : Nat, q < H.size → ¬ AX q → H1[q]? = H[q]?) → va_S A0 H0 H1 locs1 → H1[q9]? = some ce → ce.vm = .none → s.vm.findClass E = some ce.cls → vx_W p l e R s m args below meth c H1 locs1 (cells + mc) (slots + ms) Q (F0 m pc ls rest) q9)
    (kk : ∀ (u : S) (t : State) (H1 : Heap) (locs1 : List Loc), t.heap = H1 → s.vm.Alike t.vm → post u → B u t → H.size ≤ H1.size → (∀ q : Nat, q < H.size → ¬ A1 q → H1[q]? = H[q]?) → va_S A0 H0 H1 locs1 → W p l e R s m args below meth c H1 locs1 (cells + mc) (slots + ms) Q (F0 m (pc + 3) ls (rest))) : W p l e R s m args below meth c H locs cells slots Q (F0 m pc ls st0) := by
  intro T hT X
  rcases hr T hT X with ⟨v, st₀, t, T', L, h0, X', hL, e1, e2, ⟨⟨u, hv, hp, hb⟩, hF⟩, st⟩ | ⟨q, st₀, t, T', L, E, ce, h0, X', hL, e1, e2, ⟨u, hp, hb, hF⟩, hce, hcv, hcl, st⟩
  · cases hv
    obtain ⟨k1, k2, k3⟩ := vx_keep h0 e1 hS hA hf hL hF
    obtain ⟨t2, a1, b1⟩ := kk u t T'.heap (locs ++ L) e1.symm (by rw [← e2]; exact X'.warmed.alike) hp hb k1 k2 k3 T' rfl X'
    exact ⟨t2, st t2 a1, b1⟩
  · obtain ⟨k1, k2, k3⟩ := vx_keep h0 e1 hS hAX hf hL hF
    obtain ⟨t2, a1, b1⟩ := kx E ce q u t T'.heap (locs ++ L) e1.symm (by rw [← e2]; exact X'.warmed.alike) hp hb k1 k2 k3 (by rw [e1]; exact hce) hcv hcl T' rfl X'
    exact ⟨t2, st.trans a1, b1⟩
/-- caught by the row x of this method's table; the rows ahead don't take it -/
theorem vx_catch {own name : String} {E : String} {ce : Cell} {q : Addr} (hown : s.vm.findClass own = some m.cls) (pre : List ExceptionTableEntry) (x : ExceptionTableEntry) (suf : List ExceptionTableEntry) (hsplit : c.exceptionTable.toList = pre ++ x :: suf)
    (hpass : ∀ z ∈ pre, covers z pc = false ∨ (z.catchType ≠ 0 ∧ ∃ nm : String, (Cond.classLink own z.catchType nm).before args s = true ∧ va_Nc E nm s)) (hx : covers x pc = true) (h0 : x.catchType ≠ 0)
    (hlink : (Cond.classLink own x.catchType name).before args s = true) (hcast : (Cond.castable E name).before args s = true) (hcell : H[q]? = some ce) (hv : ce.vm = .none) (hcl : s.vm.findClass E = some ce.cls)
    (kk : W p l e R s m args below meth c H locs cells slots Q (F0 m x.handlerPc ls [.ref q])) : vx_W p l e R s m args below meth c H locs cells slots Q (F0 m pc ls rest) q := by
  intro T hT X
  have hpl : e.platform.magicAccessors = ({} : Platform).magicAccessors := by rw [X.admits.platform]
  obtain ⟨c3, c4, hc3, hc4, hasg⟩ := Cond.castable_spec hcast
  cases Option.some.inj (hc3.symm.trans hcl)
  obtain ⟨c5, hc5, hcl5⟩ := Cond.classLink_spec hown hlink e.platform hpl
  cases Option.some.inj (hc4.symm.trans hc5)
  obtain ⟨vm', X', st⟩ := X.thenCaughtThrough q (g := F0 m pc ls rest) rfl (Steps.refl _) (by rw [hT]; exact hcell) (by rw [hv]; rfl) (by obtain ⟨k9, h9, -⟩ := Vm.findClass_spec hcl; exact ⟨k9, h9⟩) pre x suf hsplit
    (fun z hz => by
      rcases hpass z hz with h | ⟨hz0, nm, hl1, hn1⟩
      · exact Or.inl h
      · obtain ⟨c6, hc6, hcl6⟩ := Cond.classLink_spec hown hl1 e.platform hpl
        obtain ⟨a8, b8, h1, h2, h3⟩ := hn1
        cases Option.some.inj (h1.symm.trans hcl)
        cases Option.some.inj (h2.symm.trans hc6)
        exact Or.inr ⟨hz0, _, hcl6, h3⟩) hx (Or.inr ⟨h0, c4, hcl5, hasg⟩)
  obtain ⟨t, a1, b1⟩ := kk (T.setVm vm') hT X'
  exact ⟨t, st.trans a1, b1⟩
end Rows
section Ends
variable {p : Program} {l : Launch} {e : Env} {R : Room} {s : State} {m : MethodId} {args : Array Value} {below : List Frame} {meth : Method} {c : Code} {H : Heap} {locs : List Loc} {cells slots : Nat} {Q : State → Prop}
variable {mc ms : Nat} {free : Addr → Prop} {A0 A1 : Nat → Prop} {H0 : Heap} {a : Array Value} {ls : Array Slot} {st0 rest : List Value}
variable {Qc : Array Value → State → Outcome → State → Prop} {XC : String → State → State → Prop}
/-- what a body that may throw owes at its end -/
def vx_MQ (below : List Frame) (Qc : Array Value → State → Outcome → State → Prop) (XC : String → State → State → Prop) (a : Array Value) (s : State) (mc ms : Nat) (free : Addr → Prop) : State → Prop := fun t =>
  ∃ o, t.status = .running ∧ Ended t below o ∧ vx_Q Qc XC mc ms free a s o t
theorem vx_ret {g : JFrame} {mc ms : Nat} (k : W p l e R s m args below meth c H locs cells slots (MQ below Qc args s mc ms free) g) : W p l e R s m args below meth c H locs cells slots (vx_MQ below Qc XC args s mc ms free) g := by
  intro T hT X
  obtain ⟨t, a1, o, b1, b2, b3, b4⟩ := k T hT X
  exact ⟨t, a1, o, b1, b2, Or.inl ⟨b3, b4⟩⟩
/-- not caught here: it goes on to the caller -/
theorem vx_widen {g : JFrame} {q : Addr} {k n : Nat} (h1 : cells ≤ k) (h2 : slots ≤ n) (kk : vx_W p l e R s m args below meth c H locs k n Q g q) : vx_W p l e R s m args below meth c H locs cells slots Q g q := fun T hT X => kk T hT (stand_widen X h1 h2)
theorem vx_out {pc : Nat} {E : String} {ce : Cell} {q : Addr} {mc ms : Nat} (hout : ∀ x ∈ c.exceptionTable.toList, covers x pc = false) (hlocks : meth.locks = false) (hcell : H[q]? = some ce) (hv : ce.vm = .none) (hcl : s.vm.findClass E = some ce.cls)
    (hx : ∀ t : State, t.heap = H → s.vm.Alike t.vm → XC E s t) (hf : ∀ z ∈ locs, free z.base) (hc : cells ≤ mc) (hs : slots ≤ ms) :
    vx_W p l e R s m args below meth c H locs cells slots (vx_MQ below Qc XC args s mc ms free) (F0 m pc ls rest) q := by
  intro T hT X
  obtain ⟨st1, hrun, hend, hW, hsm⟩ := X.leaveThrown q (g := F0 m pc ls rest) rfl rfl rfl hout hlocks
  have hcell9 : (T.setFrames (.throwing q :: below)).heap[q]? = some ce := by
    show T.heap[q]? = some ce
    rw [hT]; exact hcell
  exact ⟨_, st1, .threw q, hrun, hend, Or.inr ⟨q, rfl, E, ce, locs, hx _ hT hW.alike, hcell9, hv, hcl, hW, hsm.mono hc hs, hf⟩⟩
theorem vx_frame {U : State} {k n : Nat} (h : s.sameButNew ({ U with vm := s.vm } : State) locs k n) : s.heap.size ≤ U.heap.size ∧ ∀ q : Nat, q < s.heap.size → (∀ z ∈ locs, z.base ≠ q) → U.heap[q]? = s.heap[q]? := by
  obtain ⟨-, h2, -, -, -, h6⟩ := h
  refine ⟨h2, fun q hq hz => ?_⟩
  obtain ⟨c9, e1, e2, e3, e4⟩ := h6 q _ (Array.getElem?_eq_getElem hq)
  have hs : c9.slots = (s.heap[q]).slots := Array.ext_getElem? fun i => e4 i fun hm => hz _ hm rfl
  have h9 : c9 = s.heap[q] := by
    rw [hs] at e2
    exact e2
  have e5 : U.heap[q]? = some c9 := e1
  rw [e5, h9, Array.getElem?_eq_getElem hq]
/-- the words of a throw but the four that speak of the heap -/
def vx_no (w : Cond) : Bool := decide (w ≠ .isRef (.static Bundle.tN "UNASSIGNED_STACK" Bundle.steD)) && decide (w ≠ .isRef (.static Bundle.tN "SUPPRESSED_SENTINEL" Bundle.listD)) && decide (w ≠ .laysStatic Bundle.tN "UNASSIGNED_STACK" Bundle.steD) && decide (w ≠ .laysStatic Bundle.tN "SUPPRESSED_SENTINEL" Bundle.listD)
def vx_at0 (own : String) (ic : Nat) (X : String) (names : List String) : List Cond := (Bundle.ownAtoms0 own ic X names).filter vx_no
def vx_atS (own : String) (ic : Nat) (X : String) (names : List String) : List Cond := (Bundle.ownAtoms own ic X names).filter vx_no
/-- a word that the tables alone decide, or a good one -/
def vx_ot (w : Cond) : Bool := w.onTables || goodWord w
theorem vx_ot_at {args a' : Array Value} {s U : State} {w : Cond} (hW : s.WarmedH U.vm) (hvm : s.vm = U.vm) (hg : vx_ot w = true) (h : w.before args s = true) : w.before a' U = true := by
  simp only [vx_ot, Bool.or_eq_true] at hg
  rcases hg with hg | hg
  · exact va_tabs hg hvm h
  · exact word_at hW (good_of_word hg) h
/-- a list's words: the good ones out of the method's own list, the others by premises of their own -/
theorem vx_hat {args : Array Value} {s : State} {L B : List Cond} (h1 : ∀ w ∈ L.filter goodWord, w.before args s = true) (h2 : ∀ w ∈ L.filter (fun w => !goodWord w), w ∈ B) (h3 : ∀ w ∈ B, w.before args s = true) : ∀ w ∈ L, w.before args s = true := by
  intro w hw
  by_cases g : goodWord w = true
  · exact h1 w (List.mem_filter.mpr ⟨hw, g⟩)
  · refine h3 w (h2 w (List.mem_filter.mpr ⟨hw, ?_⟩))
    show (!goodWord w) = true
    cases hgw : goodWord w
    · rfl
    · exact absurd hgw g
theorem vx_c {args : Array Value} {s : State} {w : Cond} {B : List Cond} (h : w.before args s = true) (t : ∀ w ∈ B, w.before args s = true) : ∀ w' ∈ w :: B, w'.before args s = true := fun w' h' => (List.mem_cons.mp h').elim (fun e => by rw [e]; exact h) (t w')
theorem vx_n {args : Array Value} {s : State} : ∀ w ∈ ([] : List Cond), w.before args s = true := fun _ h => nomatch h
theorem vx_own {args : Array Value} {s : State} {L : List Cond} (h1 : ∀ w ∈ L.filter vx_no, w.before args s = true)
    (hU : (Cond.isRef (.static Bundle.tN "UNASSIGNED_STACK" Bundle.steD)).before args s = true) (hN : (Cond.isRef (.static Bundle.tN "SUPPRESSED_SENTINEL" Bundle.listD)).before args s = true)
    (lU : (Cond.laysStatic Bundle.tN "UNASSIGNED_STACK" Bundle.steD).before args s = true) (lN : (Cond.laysStatic Bundle.tN "SUPPRESSED_SENTINEL" Bundle.listD).before args s = true) : ∀ w ∈ L, w.before args s = true := by
  intro w hw
  by_cases e1 : w = .isRef (.static Bundle.tN "UNASSIGNED_STACK" Bundle.steD)
  · rw [e1]; exact hU
  · by_cases e2 : w = .isRef (.static Bundle.tN "SUPPRESSED_SENTINEL" Bundle.listD)
    · rw [e2]; exact hN
    · by_cases e3 : w = .laysStatic Bundle.tN "UNASSIGNED_STACK" Bundle.steD
      · rw [e3]; exact lU
      · by_cases e4 : w = .laysStatic Bundle.tN "SUPPRESSED_SENTINEL" Bundle.listD
        · rw [e4]; exact lN
        · exact h1 w (List.mem_filter.mpr ⟨hw, by unfold vx_no; rw [decide_eq_true e1, decide_eq_true e2, decide_eq_true e3, decide_eq_true e4]; rfl⟩)
/-- where a static field lies, its class's statics cell in H -/
def vx_L (C n d : String) (A : Nat → Prop) (U : State) (H : Heap) : Prop := ∃ (c : ClassId) (k : Class) (i : Nat) (f : Field) (a : Nat) (cell : Cell), U.vm.findClass C = some c ∧ U.fieldFound? C n d = some (c, k, i, f) ∧ f.isStatic = true ∧ k.statics = some a ∧ H[a]? = some cell ∧ cell.vm.isStatics = true ∧ cell.cls = c ∧ f.slot < cell.slots.size ∧ k.staticTypes[f.slot]? = some f.type ∧ ¬ A a
theorem vx_L.moved {C n d : String} {A : Nat → Prop} {u U : State} {H : Heap} (hvm : u.vm.Alike U.vm) (h : vx_L C n d A u H) : vx_L C n d A U H := by
  obtain ⟨c, k, i, f, a, cell, h1, h2, h3, h4, h5, h6, h7, h8, h9, h10⟩ := h
  obtain ⟨k', hi', he⟩ := State.fieldFound?_setVm hvm h2
  exact ⟨c, k', i, f, a, cell, by rw [hvm.findClass]; exact h1, hi', h3, by rw [he]; exact h4, h5, h6, h7, h8, by rw [he]; exact h9, h10⟩
theorem vx_L.kept {C n d : String} {A : Nat → Prop} {U : State} {H H1 : Heap} (h : vx_L C n d A U H) (hq : ∀ a : Nat, a < H.size → ¬ A a → H1[a]? = H[a]?) : vx_L C n d A U H1 := by
  obtain ⟨c, k, i, f, a, cell, h1, h2, h3, h4, h5, h6, h7, h8, h9, h10⟩ := h
  exact ⟨c, k, i, f, a, cell, h1, h2, h3, h4, by rw [hq a (Array.getElem?_eq_some_iff.mp h5).1 h10]; exact h5, h6, h7, h8, h9, h10⟩
theorem vx_L.narrow {C n d : String} {A B : Nat → Prop} {U : State} {H : Heap} (h : vx_L C n d A U H) (hAB : ∀ q, B q → A q) : vx_L C n d B U H := by
  obtain ⟨c, k, i, f, a, cell, h1, h2, h3, h4, h5, h6, h7, h8, h9, h10⟩ := h
  exact ⟨c, k, i, f, a, cell, h1, h2, h3, h4, h5, h6, h7, h8, h9, fun z => h10 (hAB _ z)⟩
theorem vx_L.word {C n d : String} {A : Nat → Prop} {s : State} {args : Array Value} (h : vx_L C n d A s s.heap) : (Cond.laysStatic C n d).before args s = true := by
  obtain ⟨c, k, i, f, a, cell, h1, h2, h3, h4, h5, h6, h7, h8, h9, -⟩ := h
  show (Cond.laysStatic C n d).holds args s none s [] = true
  exact Cond.laysStatic_of h1 h2 h3 h4 h5 h6 h7 h8 h9
/-- .. and what it holds: null or some reference -/
def vx_Zq (C n d : String) (A : Nat → Prop) (U : State) (H : Heap) : Prop := va_Zq C n d A U H ∧ vx_L C n d A U H
theorem vx_Zq.moved {C n d : String} {A : Nat → Prop} {u U : State} {H : Heap} (hvm : u.vm.Alike U.vm) (h : vx_Zq C n d A u H) : vx_Zq C n d A U H := ⟨va_Zq.moved hvm h.1, vx_L.moved hvm h.2⟩
theorem vx_Zq.kept {C n d : String} {A : Nat → Prop} {U : State} {H H1 : Heap} (h : vx_Zq C n d A U H) (hq : ∀ a : Nat, a < H.size → ¬ A a → H1[a]? = H[a]?) : vx_Zq C n d A U H1 := ⟨va_Zq.kept h.1 hq, vx_L.kept h.2 hq⟩
theorem vx_Zq.narrow {C n d : String} {A B : Nat → Prop} {U : State} {H : Heap} (h : vx_Zq C n d A U H) (hAB : ∀ q, B q → A q) : vx_Zq C n d B U H := ⟨va_Zq.narrow h.1 hAB, vx_L.narrow h.2 hAB⟩
theorem vx_Zqof {args : Array Value} {s : State} {C n d : String} {A : Nat → Prop} (hl : (Cond.laysStatic C n d).before args s = true) (hini : (Cond.initialized C).before args s = true) (h : (Cond.isRef (.static C n d)).before args s = true) (hA : ∀ a : Nat, a < s.heap.size → ¬ A a) : vx_Zq C n d A s s.heap := by
  refine ⟨va_Zqof hl hini h hA, ?_⟩
  obtain ⟨c, k, i, f, a, cell, h1, h2, h3, h4, h5, h6, h7, h8, h9⟩ := Cond.laysStatic_spec hl
  exact ⟨c, k, i, f, a, cell, h1, h2, h3, h4, h5, h6, h7, h8, h9, hA a (Array.getElem?_eq_some_iff.mp h5).1⟩
theorem vx_isRef {C n d : String} {v : Value} {A : Nat → Prop} {s : State} {args : Array Value} (h : va_Z C n d v A s s.heap) (hv : v.isRef = true) : (Cond.isRef (.static C n d)).before args s = true := by
  obtain ⟨cf, kf, fi, f, a, cell, h1, h2, h3, h4, h5, h6, h7, -⟩ := h
  have he : (Term.static C n d).eval args s none [] s = some v := by
    simp [Term.eval, State.fieldNamed?, h1, h2, h4, h5, h6, h7]
  simp only [Cond.before, Cond.holds, Cond.value, he]
  cases v <;> simp_all [Value.isRef]
theorem vx_isRefq {C n d : String} {A : Nat → Prop} {s : State} {args : Array Value} (h : va_Zq C n d A s s.heap) : (Cond.isRef (.static C n d)).before args s = true := by
  rcases h with h | ⟨t, h⟩
  · exact vx_isRef h rfl
  · exact vx_isRef h rfl
/-- the same frame, seen from here: as if the method were called anew in this heap -/
theorem vx_rebase {T : State} (X : Stand p l e R s m args below meth c T locs cells slots) {R' : Room} (hf : R'.frames ≤ R.frames) (hl : R'.locals ≤ R.locals) (hc : cells + R'.cells ≤ R.cells) (hs : slots + R'.slots ≤ R.slots) :
    Stand p l e R' ((T.setVm s.vm).setFrames (.invoking m args :: below)) m args below meth c T [] 0 0 := by
  have htop : (T.setVm s.vm).topJava?.isSome := X.here.top
  have hF : ((T.setVm s.vm).setFrames (.invoking m args :: below)).frames = .invoking m args :: below := State.frames_setFrames _ (State.cur_lt_of_top htop)
  obtain ⟨g₀, hg0⟩ := Option.isSome_iff_exists.mp htop
  obtain ⟨r, hr⟩ := State.topJava?_eq_some.mp hg0
  have hl9 : e.platform.stackLimits (T.setVm s.vm).me = e.platform.stackLimits s.me := X.limits
  have hb9 : (T.setVm s.vm).me.stackBytes = s.me.stackBytes := X.bytes
  refine ⟨X.admits, X.cas, X.clock, hF, ?_, X.hears, X.method, X.code, X.here, X.tail, X.warmed, ?_, ?_, ?_⟩
  · have h := X.room
    have hU : ((T.setVm s.vm).setFrames (.invoking m args :: below)).localsInUse = s.localsInUse := by
      rw [State.localsInUse_invoking hF (meth := meth) (c := c) X.method X.code, State.localsInUse_invoking X.frames X.method X.code]
    simp only [State.hasRoom, Bool.and_eq_true, decide_eq_true_eq] at h ⊢
    obtain ⟨⟨⟨⟨h1, h2, h3, h4, h5, h6⟩, h7⟩, h8⟩, h9⟩ := h
    rw [X.frames, List.length_cons] at h2 h3
    have q1 := X.heapSize
    have q2 := X.used
    simp only [hF, hU, List.length_cons, State.stackLimits_setFrames, State.stackBytes_setFrames, hl9, hb9]
    refine ⟨⟨⟨⟨by omega, by omega, by omega, by omega, by omega, h6⟩, ?_⟩, ?_⟩, X.book⟩
    · show T.heap.size + R'.cells ≤ e.platform.maxCells
      omega
    · show T.slotsUsed + R'.slots ≤ e.platform.maxSlots
      omega
  · rw [State.stackLimits_setFrames]; rfl
  · rw [State.stackBytes_setFrames]; rfl
  · refine ⟨?_, Nat.le_refl _, Nat.le_refl _, ?_, ?_, fun a c9 h9 => ⟨c9, h9, rfl, rfl, fun _ _ => rfl⟩⟩
    · obtain ⟨t, ht, -⟩ := State.frames_cons hr
      show T.setVm s.vm = { ((T.setVm s.vm).setFrames (.invoking m args :: below)).setFrames (T.setVm s.vm).frames with heap := T.heap, slotsUsed := T.slotsUsed }
      rw [State.setFrames_setFrames, State.setFrames_self ht]
      rfl
    · show T.slotsUsed = T.slotsUsed + ((T.heap.toList.drop T.heap.size).map (·.slots.size)).sum
      rw [List.drop_eq_nil_of_le (Nat.le_of_eq Array.length_toList)]
      rfl
    · show ((T.heap.toList.drop T.heap.size).map (·.slots.size)).sum ≤ 0
      rw [List.drop_eq_nil_of_le (Nat.le_of_eq Array.length_toList)]
      exact Nat.le_refl _
/-- 'throw new E()': new; dup; invokespecial; athrow -/
theorem vx_throw0 {cc : ByteArray} {pc : Nat} (hexec : p.tables.exec = Jvm.exec) (hb : c.code = cc) (hl : l.stackTraces = false) {own cls : String} {names : List String} {ik ic mc ms : Nat} {A : Nat → Prop}
    (hown : s.vm.findClass own = some m.cls) (hcls : Bundle.fit cls = true) (hnames : ∀ n ∈ names, Bundle.fit n = true)
    (hk : (Cond.classLink own ik cls).before args s = true) (hini : (Cond.initialized cls).before args s = true) (hat : ∀ w ∈ vx_at0 own ic cls names, w.before args s = true)
    (hgood : ∀ w ∈ Cond.classLink own ik cls :: Cond.initialized cls :: vx_at0 own ic cls names, vx_ot w = true)
    (hU : vx_Zq Bundle.tN "UNASSIGNED_STACK" Bundle.steD A s s.heap) (hN : vx_Zq Bundle.tN "SUPPRESSED_SENTINEL" Bundle.listD A s s.heap) (hS : va_S A s.heap H locs) (hsize : ls.size = c.maxLocals)
    (d0 : decode cc pc = .ok (.new ik, 3)) (d3 : decode cc (pc + 3) = .ok (.dup, 1)) (d4 : decode cc (pc + 4) = .ok (.invokespecial ic, 3)) (d7 : decode cc (pc + 7) = .ok (.athrow, 1))
    (hout : ∀ x ∈ c.exceptionTable.toList, covers x (pc + 7) = false)
    (hRframes : names.length + 3 < R.frames) (hRlocals : (rest.map fun v => v.category).sum + (13 * (names.length + 1) + 42) ≤ R.locals) (hRcells : cells + 1 ≤ R.cells) (hRslots : slots + 6 ≤ R.slots) (hlocks : meth.locks = false)
    (hx : ∀ t : State, s.vm.Alike t.vm → H.size ≤ t.heap.size → (∀ q : Nat, q < H.size → t.heap[q]? = H[q]?) → XC cls s t)
    (hf : ∀ z ∈ locs, free z.base) (hc : cells + 1 ≤ mc) (hs : slots + 6 ≤ ms) :
    W p l e R s m args below meth c H locs cells slots (vx_MQ below Qc XC args s mc ms free) (F0 m pc ls rest) := by
  intro T hT X
  have htr : e.platform.stackTraces = false := (show e.platform.stackTraces = l.stackTraces by rw [X.admits.platform]).trans hl
  have Y := vx_rebase X (R' := { frames := R.frames, locals := R.locals, cells := 1, slots := 6 }) (Nat.le_refl _) (Nat.le_refl _) hRcells hRslots
  obtain ⟨s', hA⟩ : ∃ z, z = (T.setVm s.vm).setFrames (.invoking m args :: below) := ⟨_, rfl⟩
  rw [← hA] at Y
  have hvm : s'.vm = s.vm := by rw [hA]; rfl
  have hhp : s'.heap = H := by rw [hA]; exact hT
  have hW0 : s.WarmedH s'.vm := by rw [hvm]; exact State.WarmedH.refl s
  have hat' : ∀ w ∈ vx_at0 own ic cls names, w.before args s' = true := fun w hw => vx_ot_at hW0 hvm.symm (hgood w (List.mem_cons_of_mem _ (List.mem_cons_of_mem _ hw))) (hat w hw)
  have hk' : (Cond.classLink own ik cls).before args s' = true := vx_ot_at hW0 hvm.symm (hgood _ List.mem_cons_self) hk
  have hini' : (Cond.initialized cls).before args s' = true := vx_ot_at hW0 hvm.symm (hgood _ (List.mem_cons_of_mem _ List.mem_cons_self)) hini
  have hU' : vx_Zq Bundle.tN "UNASSIGNED_STACK" Bundle.steD A s' s'.heap := by rw [hhp]; exact vx_Zq.moved hW0.alike (hU.kept hS.2.1)
  have hN' : vx_Zq Bundle.tN "SUPPRESSED_SENTINEL" Bundle.listD A s' s'.heap := by rw [hhp]; exact vx_Zq.moved hW0.alike (hN.kept hS.2.1)
  have h : ∀ w ∈ Bundle.ownAtoms0 own ic cls names, w.before args s' = true := vx_own hat' (vx_isRefq hU'.1) (vx_isRefq hN'.1) hU'.2.word hN'.2.word
  have hown' : s'.vm.findClass own = some m.cls := by rw [hvm]; exact hown
  have hins : (Cond.instantiable cls 6).before args s' = true := h _ (by simp [Bundle.ownAtoms0])
  obtain ⟨vm₁, cX, kX, hfX, hkX, -, -, X₁, st1⟩ := Y.newCold hexec (own := own) (C := cls) (index := ik) (n := 6) hown' hk' hins hini'
    (g := F0 m pc ls rest) rfl (by rw [hb]; exact d0) (Nat.le_refl _) (Nat.le_refl _)
  generalize hT1 : (T.setVm vm₁).pushCell { cls := cX, slots := kX.instanceTypes.map defaultValue, vm := .none } = T1 at X₁ st1
  have hcat : (Value.ref T.heap.size).category = 1 := rfl
  have hcellA : T1.heap[T.heap.size]? = some (freshCell cX kX) := by rw [← hT1]; exact State.heap_pushCell_size _ _
  have d3' : decode c.code (pc + 3) = .ok (.dup, 1) := by rw [hb]; exact d3
  obtain ⟨U, hsteps, hrun, hend, hW, hsame, ce, hce, hO⟩ := X₁.ctorThrow0 hexec htr (own := own) (cls := cls) (names := names) (ic := ic) hown' hcls hnames h (fun x hx => nomatch hx) hfX hkX hcellA (by rw [hhp, hT]; exact Nat.le_refl _)
    (g := { method := m, pc := pc + 4, locals := ls, stack := .ref T.heap.size :: .ref T.heap.size :: rest, locked := none }) rfl hsize rfl rfl (rest := rest) rfl
    (by rw [hb]; exact d4) (by rw [hb]; exact d7) hout hRframes (by simp only [List.map_cons, List.sum_cons, hcat]; omega) hlocks
  obtain ⟨f1, f2⟩ := vx_frame hsame
  rw [hhp] at f1 f2
  have hWs : s.WarmedH U.vm := State.WarmedH.trans hW0 hW
  have hcl : s.vm.findClass cls = some ce.cls := by
    have h9 := hO.cls
    rw [hvm] at h9
    exact h9
  have hall : s.sameButNew ({ U with vm := s.vm } : State) locs mc ms := by
    subst hA
    obtain ⟨e1, e2⟩ := hsame
    rw [State.setFrames_setFrames] at e1
    have h2 : (T.setVm s.vm).sameButNew ({ U with vm := s.vm } : State) [] (0 + 1) (0 + 6) := ⟨e1, e2⟩
    have h3 := X.same.trans h2
    rw [List.append_nil] at h3
    exact h3.mono hc hs
  refine ⟨U, ?_, .threw T.heap.size, hrun, hend, Or.inr ⟨T.heap.size, rfl, cls, ce, locs, hx U hWs.alike f1 (fun q hq => f2 q hq (fun z hz => nomatch hz)), hce, hO.vm, hcl, hWs, hall, hf⟩⟩
  refine st1 _ ?_
  show Steps p.tables e below (T1.setTop { method := m, pc := pc + 3, locals := ls, stack := .ref T.heap.size :: rest, locked := none }) _
  jvm_step X₁.here [X₁.here.top, hexec, d3', Value.category]
  exact hsteps
/-- 'throw new E("text")': new; dup; ldc; invokespecial; athrow -/
theorem vx_throwS {cc : ByteArray} {pc : Nat} (hexec : p.tables.exec = Jvm.exec) (hb : c.code = cc) (hl : l.stackTraces = false) {own cls text : String} {names : List String} {ik is ic mc ms sa : Nat} {A : Nat → Prop}
    (hown : s.vm.findClass own = some m.cls) (hcls : Bundle.fit cls = true) (hnames : ∀ n ∈ names, Bundle.fit n = true)
    (hk : (Cond.classLink own ik cls).before args s = true) (hini : (Cond.initialized cls).before args s = true) (hstr : vk_R own is text sa s) (hat : ∀ w ∈ vx_atS own ic cls names, w.before args s = true)
    (hgood : ∀ w ∈ Cond.classLink own ik cls :: Cond.initialized cls :: vx_atS own ic cls names, vx_ot w = true)
    (hU : vx_Zq Bundle.tN "UNASSIGNED_STACK" Bundle.steD A s s.heap) (hN : vx_Zq Bundle.tN "SUPPRESSED_SENTINEL" Bundle.listD A s s.heap) (hS : va_S A s.heap H locs) (hsize : ls.size = c.maxLocals)
    (d0 : decode cc pc = .ok (.new ik, 3)) (d3 : decode cc (pc + 3) = .ok (.dup, 1)) (d4 : decode cc (pc + 4) = .ok (.ldc is, 2)) (d6 : decode cc (pc + 6) = .ok (.invokespecial ic, 3)) (d9 : decode cc (pc + 9) = .ok (.athrow, 1))
    (hout : ∀ x ∈ c.exceptionTable.toList, covers x (pc + 9) = false)
    (hRframes : names.length + 3 < R.frames) (hRlocals : (rest.map fun v => v.category).sum + (13 * (names.length + 1) + 43) ≤ R.locals) (hRcells : cells + 1 ≤ R.cells) (hRslots : slots + 6 ≤ R.slots) (hlocks : meth.locks = false)
    (hx : ∀ t : State, s.vm.Alike t.vm → H.size ≤ t.heap.size → (∀ q : Nat, q < H.size → t.heap[q]? = H[q]?) → XC cls s t)
    (hf : ∀ z ∈ locs, free z.base) (hc : cells + 1 ≤ mc) (hs : slots + 6 ≤ ms) :
    W p l e R s m args below meth c H locs cells slots (vx_MQ below Qc XC args s mc ms free) (F0 m pc ls rest) := by
  intro T hT X
  have htr : e.platform.stackTraces = false := (show e.platform.stackTraces = l.stackTraces by rw [X.admits.platform]).trans hl
  have Y := vx_rebase X (R' := { frames := R.frames, locals := R.locals, cells := 1, slots := 6 }) (Nat.le_refl _) (Nat.le_refl _) hRcells hRslots
  obtain ⟨s', hA⟩ : ∃ z, z = (T.setVm s.vm).setFrames (.invoking m args :: below) := ⟨_, rfl⟩
  rw [← hA] at Y
  have hvm : s'.vm = s.vm := by rw [hA]; rfl
  have hhp : s'.heap = H := by rw [hA]; exact hT
  have hW0 : s.WarmedH s'.vm := by rw [hvm]; exact State.WarmedH.refl s
  have hat' : ∀ w ∈ vx_atS own ic cls names, w.before args s' = true := fun w hw => vx_ot_at hW0 hvm.symm (hgood w (List.mem_cons_of_mem _ (List.mem_cons_of_mem _ hw))) (hat w hw)
  have hk' : (Cond.classLink own ik cls).before args s' = true := vx_ot_at hW0 hvm.symm (hgood _ List.mem_cons_self) hk
  have hini' : (Cond.initialized cls).before args s' = true := vx_ot_at hW0 hvm.symm (hgood _ (List.mem_cons_of_mem _ List.mem_cons_self)) hini
  have hU' : vx_Zq Bundle.tN "UNASSIGNED_STACK" Bundle.steD A s' s'.heap := by rw [hhp]; exact vx_Zq.moved hW0.alike (hU.kept hS.2.1)
  have hN' : vx_Zq Bundle.tN "SUPPRESSED_SENTINEL" Bundle.listD A s' s'.heap := by rw [hhp]; exact vx_Zq.moved hW0.alike (hN.kept hS.2.1)
  have h : ∀ w ∈ Bundle.ownAtoms own ic cls names, w.before args s' = true := vx_own hat' (vx_isRefq hU'.1) (vx_isRefq hN'.1) hU'.2.word hN'.2.word
  have hown' : s'.vm.findClass own = some m.cls := by rw [hvm]; exact hown
  have hins : (Cond.instantiable cls 6).before args s' = true := h _ (by simp [Bundle.ownAtoms])
  obtain ⟨vm₁, cX, kX, hfX, hkX, -, -, X₁, st1⟩ := Y.newCold hexec (own := own) (C := cls) (index := ik) (n := 6) hown' hk' hins hini'
    (g := F0 m pc ls rest) rfl (by rw [hb]; exact d0) (Nat.le_refl _) (Nat.le_refl _)
  generalize hT1 : (T.setVm vm₁).pushCell { cls := cX, slots := kX.instanceTypes.map defaultValue, vm := .none } = T1 at X₁ st1
  have hcat : (Value.ref T.heap.size).category = 1 := rfl
  have hcellA : T1.heap[T.heap.size]? = some (freshCell cX kX) := by rw [← hT1]; exact State.heap_pushCell_size _ _
  have d3' : decode c.code (pc + 3) = .ok (.dup, 1) := by rw [hb]; exact d3
  have d4' : decode c.code (pc + 4) = .ok (.ldc is, 2) := by rw [hb]; exact d4
  have hstr' : vk_R own is text sa s' := vk_R.warm hW0 hstr
  obtain ⟨U, hsteps, hrun, hend, hW, hsame, ce, hce, hO⟩ := X₁.ctorThrowS hexec htr (own := own) (cls := cls) (names := names) (ic := ic) hown' hcls hnames h (fun x hx => nomatch hx) hfX hkX hcellA (by rw [hhp, hT]; exact Nat.le_refl _) (msg := .ref sa) rfl
    (g := { method := m, pc := pc + 6, locals := ls, stack := .ref sa :: .ref T.heap.size :: .ref T.heap.size :: rest, locked := none }) rfl hsize rfl rfl (rest := rest) rfl
    (by rw [hb]; exact d6) (by rw [hb]; exact d9) hout hRframes (by simp only [List.map_cons, List.sum_cons, hcat]; omega) hlocks
  obtain ⟨f1, f2⟩ := vx_frame hsame
  rw [hhp] at f1 f2
  have hWs : s.WarmedH U.vm := State.WarmedH.trans hW0 hW
  have hcl : s.vm.findClass cls = some ce.cls := by
    have h9 := hO.cls
    rw [hvm] at h9
    exact h9
  have hall : s.sameButNew ({ U with vm := s.vm } : State) locs mc ms := by
    subst hA
    obtain ⟨e1, e2⟩ := hsame
    rw [State.setFrames_setFrames] at e1
    have h2 : (T.setVm s.vm).sameButNew ({ U with vm := s.vm } : State) [] (0 + 1) (0 + 6) := ⟨e1, e2⟩
    have h3 := X.same.trans h2
    rw [List.append_nil] at h3
    exact h3.mono hc hs
  refine ⟨U, ?_, .threw T.heap.size, hrun, hend, Or.inr ⟨T.heap.size, rfl, cls, ce, locs, hx U hWs.alike f1 (fun q hq => f2 q hq (fun z hz => nomatch hz)), hce, hO.vm, hcl, hWs, hall, hf⟩⟩
  refine st1 _ ?_
  show Steps p.tables e below (T1.setTop { method := m, pc := pc + 3, locals := ls, stack := .ref T.heap.size :: rest, locked := none }) _
  jvm_step X₁.here [X₁.here.top, hexec, d3', Value.category]
  exact X₁.ldcString hexec (own := own) (text := text) (index := is) (a := sa) hown' hstr'.1 hstr'.2
    (g := { method := m, pc := pc + 4, locals := ls, stack := .ref T.heap.size :: .ref T.heap.size :: rest, locked := none }) rfl d4' _ hsteps
/-- 'throw new E("text")', the text by a wide index -/
theorem vx_throwSW {cc : ByteArray} {pc : Nat} (hexec : p.tables.exec = Jvm.exec) (hb : c.code = cc) (hl : l.stackTraces = false) {own cls text : String} {names : List String} {ik is ic mc ms sa : Nat} {A : Nat → Prop}
    (hown : s.vm.findClass own = some m.cls) (hcls : Bundle.fit cls = true) (hnames : ∀ n ∈ names, Bundle.fit n = true)
    (hk : (Cond.classLink own ik cls).before args s = true) (hini : (Cond.initialized cls).before args s = true) (hstr : vk_R own is text sa s) (hat : ∀ w ∈ vx_atS own ic cls names, w.before args s = true)
    (hgood : ∀ w ∈ Cond.classLink own ik cls :: Cond.initialized cls :: vx_atS own ic cls names, vx_ot w = true)
    (hU : vx_Zq Bundle.tN "UNASSIGNED_STACK" Bundle.steD A s s.heap) (hN : vx_Zq Bundle.tN "SUPPRESSED_SENTINEL" Bundle.listD A s s.heap) (hS : va_S A s.heap H locs) (hsize : ls.size = c.maxLocals)
    (d0 : decode cc pc = .ok (.new ik, 3)) (d3 : decode cc (pc + 3) = .ok (.dup, 1)) (d4 : decode cc (pc + 4) = .ok (.ldc_w is, 3)) (d7 : decode cc (pc + 7) = .ok (.invokespecial ic, 3)) (d10 : decode cc (pc + 10) = .ok (.athrow, 1))
    (hout : ∀ x ∈ c.exceptionTable.toList, covers x (pc + 10) = false)
    (hRframes : names.length + 3 < R.frames) (hRlocals : (rest.map fun v => v.category).sum + (13 * (names.length + 1) + 43) ≤ R.locals) (hRcells : cells + 1 ≤ R.cells) (hRslots : slots + 6 ≤ R.slots) (hlocks : meth.locks = false)
    (hx : ∀ t : State, s.vm.Alike t.vm → H.size ≤ t.heap.size → (∀ q : Nat, q < H.size → t.heap[q]? = H[q]?) → XC cls s t)
    (hf : ∀ z ∈ locs, free z.base) (hc : cells + 1 ≤ mc) (hs : slots + 6 ≤ ms) :
    W p l e R s m args below meth c H locs cells slots (vx_MQ below Qc XC args s mc ms free) (F0 m pc ls rest) := by
  intro T hT X
  have htr : e.platform.stackTraces = false := (show e.platform.stackTraces = l.stackTraces by rw [X.admits.platform]).trans hl
  have Y := vx_rebase X (R' := { frames := R.frames, locals := R.locals, cells := 1, slots := 6 }) (Nat.le_refl _) (Nat.le_refl _) hRcells hRslots
  obtain ⟨s', hA⟩ : ∃ z, z = (T.setVm s.vm).setFrames (.invoking m args :: below) := ⟨_, rfl⟩
  rw [← hA] at Y
  have hvm : s'.vm = s.vm := by rw [hA]; rfl
  have hhp : s'.heap = H := by rw [hA]; exact hT
  have hW0 : s.WarmedH s'.vm := by rw [hvm]; exact State.WarmedH.refl s
  have hat' : ∀ w ∈ vx_atS own ic cls names, w.before args s' = true := fun w hw => vx_ot_at hW0 hvm.symm (hgood w (List.mem_cons_of_mem _ (List.mem_cons_of_mem _ hw))) (hat w hw)
  have hk' : (Cond.classLink own ik cls).before args s' = true := vx_ot_at hW0 hvm.symm (hgood _ List.mem_cons_self) hk
  have hini' : (Cond.initialized cls).before args s' = true := vx_ot_at hW0 hvm.symm (hgood _ (List.mem_cons_of_mem _ List.mem_cons_self)) hini
  have hU' : vx_Zq Bundle.tN "UNASSIGNED_STACK" Bundle.steD A s' s'.heap := by rw [hhp]; exact vx_Zq.moved hW0.alike (hU.kept hS.2.1)
  have hN' : vx_Zq Bundle.tN "SUPPRESSED_SENTINEL" Bundle.listD A s' s'.heap := by rw [hhp]; exact vx_Zq.moved hW0.alike (hN.kept hS.2.1)
  have h : ∀ w ∈ Bundle.ownAtoms own ic cls names, w.before args s' = true := vx_own hat' (vx_isRefq hU'.1) (vx_isRefq hN'.1) hU'.2.word hN'.2.word
  have hown' : s'.vm.findClass own = some m.cls := by rw [hvm]; exact hown
  have hins : (Cond.instantiable cls 6).before args s' = true := h _ (by simp [Bundle.ownAtoms])
  obtain ⟨vm₁, cX, kX, hfX, hkX, -, -, X₁, st1⟩ := Y.newCold hexec (own := own) (C := cls) (index := ik) (n := 6) hown' hk' hins hini'
    (g := F0 m pc ls rest) rfl (by rw [hb]; exact d0) (Nat.le_refl _) (Nat.le_refl _)
  generalize hT1 : (T.setVm vm₁).pushCell { cls := cX, slots := kX.instanceTypes.map defaultValue, vm := .none } = T1 at X₁ st1
  have hcat : (Value.ref T.heap.size).category = 1 := rfl
  have hcellA : T1.heap[T.heap.size]? = some (freshCell cX kX) := by rw [← hT1]; exact State.heap_pushCell_size _ _
  have d3' : decode c.code (pc + 3) = .ok (.dup, 1) := by rw [hb]; exact d3
  have d4' : decode c.code (pc + 4) = .ok (.ldc_w is, 3) := by rw [hb]; exact d4
  have hstr' : vk_R own is text sa s' := vk_R.warm hW0 hstr
  obtain ⟨U, hsteps, hrun, hend, hW, hsame, ce, hce, hO⟩ := X₁.ctorThrowS hexec htr (own := own) (cls := cls) (names := names) (ic := ic) hown' hcls hnames h (fun x hx => nomatch hx) hfX hkX hcellA (by rw [hhp, hT]; exact Nat.le_refl _) (msg := .ref sa) rfl
    (g := { method := m, pc := pc + 7, locals := ls, stack := .ref sa :: .ref T.heap.size :: .ref T.heap.size :: rest, locked := none }) rfl hsize rfl rfl (rest := rest) rfl
    (by rw [hb]; exact d7) (by rw [hb]; exact d10) hout hRframes (by simp only [List.map_cons, List.sum_cons, hcat]; omega) hlocks
  obtain ⟨f1, f2⟩ := vx_frame hsame
  rw [hhp] at f1 f2
  have hWs : s.WarmedH U.vm := State.WarmedH.trans hW0 hW
  have hcl : s.vm.findClass cls = some ce.cls := by
    have h9 := hO.cls
    rw [hvm] at h9
    exact h9
  have hall : s.sameButNew ({ U with vm := s.vm } : State) locs mc ms := by
    subst hA
    obtain ⟨e1, e2⟩ := hsame
    rw [State.setFrames_setFrames] at e1
    have h2 : (T.setVm s.vm).sameButNew ({ U with vm := s.vm } : State) [] (0 + 1) (0 + 6) := ⟨e1, e2⟩
    have h3 := X.same.trans h2
    rw [List.append_nil] at h3
    exact h3.mono hc hs
  refine ⟨U, ?_, .threw T.heap.size, hrun, hend, Or.inr ⟨T.heap.size, rfl, cls, ce, locs, hx U hWs.alike f1 (fun q hq => f2 q hq (fun z hz => nomatch hz)), hce, hO.vm, hcl, hWs, hall, hf⟩⟩
  refine st1 _ ?_
  show Steps p.tables e below (T1.setTop { method := m, pc := pc + 3, locals := ls, stack := .ref T.heap.size :: rest, locked := none }) _
  jvm_step X₁.here [X₁.here.top, hexec, d3', Value.category]
  exact X₁.ldcStringW hexec (own := own) (text := text) (index := is) (a := sa) hown' hstr'.1 hstr'.2
    (g := { method := m, pc := pc + 4, locals := ls, stack := .ref T.heap.size :: .ref T.heap.size :: rest, locked := none }) rfl d4' _ hsteps
end Ends
section Bodies
variable {l : Launch}
theorem vx_ofW {y : MethodName} {ws ws' : List Cond} {rm : Room} {Pc : Array Value → State → Prop} {Qc : Array Value → State → Outcome → State → Prop} {XC : String → State → State → Prop} {mc ms : Nat} {free : Addr → Prop} {cc : ByteArray} {maxL : Nat} {ret : Option FieldType}
    (hy : plainName y.cls = true) (hw : ws = Cond.code y cc maxL ret :: ws')
    (body : ∀ p e s m args below meth c s₁, BodyLoose p l y (headSpec ws rm) cc maxL ret e s m args below meth c s₁ → c.maxLocals = maxL → (∀ x ∈ c.exceptionTable.toList, False) → Pc args s →
      W p l e (headSpec ws rm).room s m args below meth c s.heap [] 0 0 (vx_MQ below Qc XC args s mc ms free) (entryFrame m args maxL)) : vx_Met l y ws rm Pc Qc XC mc ms free := by
  refine MetFree.of_bodyS (code := cc) (maxLocals := maxL) (ret := ret) hy ?_ ?_
  · intro args s m h hn
    obtain ⟨meth, c, h1, h2, h3, h4, h5, h6, -, -⟩ := Cond.code_spec hn (atoms_spec (ws := ws) h _ (by rw [hw]; exact List.mem_cons_self))
    exact ⟨meth, c, h1, h2, h3, h4, h5, h6⟩
  · intro p e s m args below meth c s₁ B hml hP _
    have hh0 : s₁.heap = s.heap := by rw [B.state]; rfl
    have ht : ∀ x ∈ c.exceptionTable.toList, False := by
      obtain ⟨meth9, c9, h1, h2, -, -, -, -, h7, -⟩ := Cond.code_spec B.named (atoms_spec (ws := ws) B.pre _ (by rw [hw]; exact List.mem_cons_self))
      cases Option.some.inj (h1.symm.trans B.method)
      cases Option.some.inj (h2.symm.trans (Stand.of_body B).code)
      intro x hx
      rw [Array.isEmpty_iff.mp h7] at hx
      cases hx
    obtain ⟨t, a1, o, b1, b2, b3⟩ := body p e s m args below meth c s₁ B hml ht hP s₁ hh0 (Stand.of_body B)
    exact ⟨t, o, a1, b1, b2, b3⟩
/-- the table of a body with handlers -/
theorem vx_table {p : Program} {x y : MethodName} {S : Spec} {cc bytes : ByteArray} {maxL maxL' : Nat} {ret ret' : Option FieldType} {e : Env} {s s₁ : State} {m : MethodId} {args : Array Value} {below : List Frame} {meth : Method} {c : Code} {hh : List (Nat × Nat × Nat × Nat)}
    (B : BodyLoose p l y S cc maxL ret e s m args below meth c s₁) (h : (Cond.codeWith y bytes maxL' ret' hh).before args s = true) : c.exceptionTable.toList = tableOf hh := by
  obtain ⟨m9, meth9, c9, hn9, h1, h2, -, -, h6, -⟩ := Cond.codeWith_spec h
  cases Option.some.inj (hn9.symm.trans B.named)
  cases Option.some.inj (h1.symm.trans B.method)
  cases Option.some.inj (h2.symm.trans (Stand.of_body B).code)
  rw [← h6, table_eq]
end Bodies
end VXA
/-! ===== END ===== -/
/-! ===== BEGIN a static call of a method with an exception table ===== -/
section VXS
variable {p : Program} {l : Launch} {e : Env} {R : Room} {s : State} {m : MethodId} {args : Array Value} {below : List Frame} {meth : Method} {c : Code} {T : State} {H : Heap} {locs : List Loc} {cells slots : Nat}
abbrev vx_CSW (R : Room) (s : State) (args : Array Value) (own : String) (index : Nat) (y : MethodName) (bytes : ByteArray) (maxL : Nat) (ret : Option FieldType) (hh : List (Nat × Nat × Nat × Nat)) (ws : List Cond) (rm : Room) (mc ms n : Nat) : Prop :=
  (rm.cells = mc ∧ rm.slots = ms ∧ rm.frames + 1 ≤ R.frames ∧ 8 + (maxL + 11) + rm.locals ≤ R.locals ∧ (∀ w ∈ ws, ∀ (a' : Array Value) (U : State), s.WarmedH U.vm → w.before a' U = true) ∧ Cond.codeWith y bytes maxL ret hh ∈ ws) ∧
  (Cond.codeWith y bytes maxL ret hh).before args s = true ∧ (Cond.initialized y.cls).before args s = true ∧ (y.cls ≠ "java/lang/invoke/MethodHandle" ∧ y.cls ≠ "java/lang/invoke/VarHandle") ∧
  (∀ sig, parseMethodDescriptor y.desc = some sig → n = sig.parameters.length) ∧ (Cond.methodLink own index y).before args s = true ∧ (Cond.static y).before args s = true
theorem vx_cwSW {own : String} {index maxL mc ms : Nat} {y : MethodName} {bytes : ByteArray} {ret : Option FieldType} {hh : List (Nat × Nat × Nat × Nat)} {Ts ws ws' : List Cond} {rm : Room} (n : Nat) (ht : ∀ w ∈ Ts, w.before args s = true) (hT : GoodIn Ts (va_wsS own index y ws)) (hw : ws = Cond.codeWith y bytes maxL ret hh :: ws') (hrc : rm.cells = mc) (hrs : rm.slots = ms)
    (hd : y.cls ≠ "java/lang/invoke/MethodHandle" ∧ y.cls ≠ "java/lang/invoke/VarHandle" ∧ (parseMethodDescriptor y.desc).map (fun d => d.parameters.length) = some n) (hR : rm.frames + 1 ≤ R.frames ∧ 8 + (maxL + 11) + rm.locals ≤ R.locals) :
    vx_CSW R s args own index y bytes maxL ret hh ws rm mc ms n := by
  have ok : ∀ w ∈ va_wsS own index y ws, w.before args s = true := fun w h => ht w (hT w h).1
  have hG : GoodIn Ts ws := fun w h => hT w (by unfold va_wsS; exact List.mem_append_right _ h)
  have hc : Cond.codeWith y bytes maxL ret hh ∈ ws := by rw [hw]; exact List.mem_cons_self
  refine ⟨⟨hrc, hrs, hR.1, hR.2, pay_in ht hG, hc⟩, ht _ (hG _ hc).1, ok _ (by simp [va_wsS]), ⟨hd.1, hd.2.1⟩, fun sig h => ?_, ok _ (by simp [va_wsS]), ok _ (by simp [va_wsS])⟩
  have h2 := hd.2.2
  rw [h] at h2
  exact (Option.some.inj h2).symm
theorem vx_callSW (X : Stand p l e R s m args below meth c T locs cells slots) (hexec : p.tables.exec = Jvm.exec) {own : String} {index : Nat} {y : MethodName} {bytes : ByteArray} {maxL : Nat} {ret : Option FieldType} {hh : List (Nat × Nat × Nat × Nat)}
    (hown : s.vm.findClass own = some m.cls) (hlink : (Cond.methodLink own index y).before args s = true) (hstat : (Cond.static y).before args s = true) (hinit : (Cond.initialized y.cls).before args s = true)
    (hcode : (Cond.codeWith y bytes maxL ret hh).before args s = true) (hy : y.cls ≠ "java/lang/invoke/MethodHandle" ∧ y.cls ≠ "java/lang/invoke/VarHandle")
    {W9 : Nat} {Pre : Pt → Array Value → Prop} {Post : Pt → Array Value → Option Value → Pt → Prop} (hK : Back l R p e below s args y 3 W9 Pre Post)
    {g : JFrame} (hg : g.method = m) (hsize : g.locals.size = c.maxLocals) {argsL rest : List Value} (hlen : ∀ sig, parseMethodDescriptor y.desc = some sig → argsL.length = sig.parameters.length)
    (hstack : g.stack = argsL.reverse ++ rest) (hW : 2 * g.monitorRoom + (rest.map fun v => v.category).sum ≤ W9) (hdg : decode c.code g.pc = .ok (.invokestatic index, 3))
    (hpre : ∀ vm₁, s.WarmedH vm₁ → Pre ⟨T.setVm vm₁, locs, cells, slots⟩ argsL.toArray) :
    ∃ (v : Option Value) (vm₁ : Vm) (B : Pt), s.WarmedH vm₁ ∧ Stand p l e R s m args below meth c B.U B.locs B.cells B.slots ∧ Post ⟨T.setVm vm₁, locs, cells, slots⟩ argsL.toArray v B ∧
      ∀ target, Steps p.tables e below (B.U.setTop { g with pc := g.pc + 3, stack := v.toList ++ rest }) target → Steps p.tables e below (T.setTop g) target := by
  obtain ⟨mk, methM, cM, hnamed, hmethM, -, -, -, -, -, -, hsigM⟩ := Cond.codeWith_spec hcode
  have hstatic : methM.isStatic = true := Cond.static_spec hnamed hmethM hstat
  obtain ⟨kP, hkP, -⟩ := className_of_methodNamed hnamed
  have hinitP : kP.init = .initialized := Cond.initialized_spec (findClass_of_methodNamed hnamed) hkP hinit
  obtain ⟨vm₁, X₁, hstep₁⟩ := X.invokestatic hexec hown hlink hnamed hmethM hstatic hkP hinitP hy (g := g) hg (argsL := argsL) (rest := rest) (hlen _ hsigM) hstack hdg
  obtain ⟨v, B, X', hpost, hsteps⟩ := hK m meth c ⟨T.setVm vm₁, locs, cells, slots⟩ { g with stack := rest } (.invokestatic index) mk argsL.toArray X₁ hg hsize hdg hW (X₁.named hnamed) (hpre vm₁ X₁.warmed)
  exact ⟨v, vm₁, B, X₁.warmed, X', hpost, fun target h => hstep₁ _ fun acts => by rw [doInvoke_state]; exact hsteps.trans h⟩
theorem vx_runSW {y : MethodName} {bytes cc : ByteArray} {maxL nL mc ms n index : Nat} {ret : Option FieldType} {hh : List (Nat × Nat × Nat × Nat)} {ws : List Cond} {rm : Room} {Pc : Array Value → State → Prop} {Qc : Array Value → State → Outcome → State → Prop} {free : Addr → Prop} {Ts : List Cond} {own : String} {As rest : List Value} {g : JFrame}
    (S : CallFix p m c cc nL s args Ts own) (hM : Met l y ws rm Pc Qc mc ms free) (cw : vx_CSW R s args own index y bytes maxL ret hh ws rm mc ms n) (hp : PreS s H Pc As)
    (hg : g.method = m) (hn : As.length = n) (hsize : g.locals.size = nL) (hstack : g.stack = As.reverse ++ rest) (hW : 2 * g.monitorRoom + (rest.map fun v => v.category).sum ≤ 8) (hdg : decode cc g.pc = .ok (.invokestatic index, 3)) (hf : cells + mc ≤ R.cells ∧ slots + ms ≤ R.slots) :
    va_Run p l e R s m args below meth c H locs cells slots mc ms g rest (Qc As.toArray) (free) := by
  obtain ⟨⟨hrc, hrs, hfr, hlo, hws, hcw⟩, hcode, hini, hy, hlen, hl, hstt⟩ := cw
  have hK : Back l R p e below s args y 3 8 (PreOf R mc ms Pc) (PostOf Qc mc ms free) := va_backW (hh := hh) (bytes := bytes) (maxL := maxL) (ret := ret) hM hp.1 hrc hrs hfr hlo hws hcw (fun a' U hW => word_at hW (Or.inl (by first | rfl | simp [Cond.onTables, Cond.keeps, Cond.steady])) hini)
  obtain ⟨hx, hb, hml, ho, -⟩ := S
  intro T hT X
  obtain ⟨v, vm₁, ⟨U', l2, c2, s2⟩, hW₁, X', ⟨g', mk, t, L, e1, e2, hq, h1, hL, h2, h3⟩, st⟩ := vx_callSW X hx (hh := hh) (bytes := bytes) (maxL := maxL) (ret := ret) ho hl hstt hini hcode hy hK hg (hsize.trans hml.symm) (argsL := As) (rest := rest) (fun sig h => hn.trans (hlen sig h)) hstack hW (by rw [hb]; exact hdg)
    (fun vm₁ hW₁ => ⟨hf.1, hf.2, hp.2 (T.setVm vm₁) hT hW₁⟩)
  dsimp only [Pt.U, Pt.locs, Pt.cells, Pt.slots] at X' e1 e2 h1 h2 h3 st
  subst h1; subst h2; subst h3
  exact ⟨v, (T.setVm vm₁).calling g' mk As.toArray, t, U', L, hT, X', hL, e1, e2, hq, st⟩
/-- not caught here, past rows that name other classes: it goes on to the caller -/
theorem vx_outP {p : Program} {l : Launch} {e : Env} {R : Room} {s : State} {m : MethodId} {args : Array Value} {below : List Frame} {meth : Method} {c : Code} {H : Heap} {locs : List Loc} {cells slots : Nat} {free : Addr → Prop} {ls : Array Slot} {rest : List Value} {Qc : Array Value → State → Outcome → State → Prop} {XC : String → State → State → Prop}
    {pc : Nat} {own E : String} {ce : Cell} {q : Addr} {mc ms : Nat} (hown : s.vm.findClass own = some m.cls) (hlocks : meth.locks = false)
    (hpass : ∀ z ∈ c.exceptionTable.toList, covers z pc = false ∨ (z.catchType ≠ 0 ∧ ∃ nm : String, (Cond.classLink own z.catchType nm).before args s = true ∧ va_Nc E nm s)) (hcell : H[q]? = some ce) (hv : ce.vm = .none) (hcl : s.vm.findClass E = some ce.cls)
    (hx : ∀ t : State, t.heap = H → s.vm.Alike t.vm → XC E s t) (hf : ∀ z ∈ locs, free z.base) (hc : cells ≤ mc) (hs : slots ≤ ms) :
    vx_W p l e R s m args below meth c H locs cells slots (vx_MQ below Qc XC args s mc ms free) (F0 m pc ls rest) q := by
  intro T hT X
  have hpl : e.platform.magicAccessors = ({} : Platform).magicAccessors := by rw [X.admits.platform]
  obtain ⟨vm', hW', X', st⟩ := X.outThrough hlocks q (g := F0 m pc ls rest) rfl rfl rfl (cell := ce) (by rw [hT]; exact hcell) (by rw [hv]; rfl)
    (by obtain ⟨k9, h9, -⟩ := Vm.findClass_spec hcl; exact ⟨k9, h9⟩) (fun z hz => by
      rcases hpass z hz with h | ⟨hz0, nm, hl1, hn1⟩
      · exact Or.inl h
      · obtain ⟨c6, hc6, hcl6⟩ := Cond.classLink_spec hown hl1 e.platform hpl
        obtain ⟨a8, b8, h1, h2, h3⟩ := hn1
        cases Option.some.inj (h1.symm.trans hcl)
        cases Option.some.inj (h2.symm.trans hc6)
        exact Or.inr ⟨hz0, _, hcl6, h3⟩)
  obtain ⟨g₀, hfr⟩ := X'.frames_eq
  have hcell9 : ((T.setVm vm').setFrames (.throwing q :: below)).heap[q]? = some ce := by
    show T.heap[q]? = some ce
    rw [hT]; exact hcell
  have hend : Ended ((T.setVm vm').setFrames (.throwing q :: below)) below (.threw q) := State.frames_setFrames _ (State.cur_lt_of_frames hfr)
  refine ⟨(T.setVm vm').setFrames (.throwing q :: below), ?_, .threw q, X'.here.running, hend, Or.inr ⟨q, rfl, E, ce, locs, hx _ hT (X'.ends _).1.alike, hcell9, hv, hcl, (X'.ends _).1, (X'.ends _).2.mono hc hs, hf⟩⟩
  rw [X.pushThrowing_eq]
  exact st
/-- a thing of a world lies in the heap -/
theorem vx_lt {D : va_G} {cl : List vw_C} {ws : va_W} {H1 : Heap} (h : va_P D cl ws H1) {k : Nat} {q : Nat × va_E} (hk : ws[k]? = some q) : q.1 < H1.size := (h k q hk).lt
end VXS
/-! ===== END ===== -/
/-! ===== BEGIN methods with a table of their own: called by a name, returning or throwing ===== -/
section VXH
/-! vx_backW, vx_callVX, vx_callSX, vx_callVW, vx_runVW, vx_runVX, vx_runSX, vx_ofWH follow the same proofs as their sisters above (Free/Laws.lean, Shelf42/LK1.lean); vx_outP calls Shelf42/NT130.lean (outThrough). -/
section
variable {l : Launch} {R : Room} {p : Program} {e : Env} {below : List Frame} {s : State} {sargs : Array Value} {y : MethodName} {len W9 : Nat}
theorem vx_backW {ws : List Cond} {rm : Room} {Pc : Array Value → State → Prop} {Qc : Array Value → State → Outcome → State → Prop} {XC : String → State → State → Prop} {mc ms : Nat} {free : Addr → Prop} {bytes : ByteArray} {maxL : Nat} {ret : Option FieldType} {hh : List (Nat × Nat × Nat × Nat)}
    (hM : vx_Met l y ws rm Pc Qc XC mc ms free) (hblind : FrameBlind Pc) (hrc : rm.cells = mc) (hrs : rm.slots = ms)
    (hframes : rm.frames + 1 ≤ R.frames) (hlocals : W9 + (maxL + 11) + rm.locals ≤ R.locals)
    (hws : ∀ w ∈ ws, ∀ a' U, s.WarmedH U.vm → w.before a' U = true) (hcode : Cond.codeWith y bytes maxL ret hh ∈ ws) (hinit : ∀ a' U, s.WarmedH U.vm → (Cond.initialized y.cls).before a' U = true) :
    vx_Back l R p e below s sargs y len W9 (PreOf R mc ms Pc) (PostOf Qc mc ms free) (vx_Post XC mc ms free) := by
  intro m meth c A g ig mk a X hg hsize hdg hW hn hp
  have h1 : (headSpec ws rm).pre.before a A.U = true := atoms_intro fun w hw => hws w hw _ _ X.warmed
  have h2 : (Cond.codeWith y bytes maxL ret hh).before a A.U = true := hws _ hcode _ _ X.warmed
  have h3 : (Cond.initialized y.cls).before a A.U = true := hinit _ _ X.warmed
  have h4 : A.cells + (headSpec ws rm).room.cells ≤ R.cells := by rw [show (headSpec ws rm).room.cells = mc from hrc]; exact hp.1
  have h5 : A.slots + (headSpec ws rm).room.slots ≤ R.slots := by rw [show (headSpec ws rm).room.slots = ms from hrs]; exact hp.2.1
  have hPc : Pc a (A.U.calling g mk a) := hblind _ _ _ _ hp.2.2
  obtain ⟨U, Ls, c0, s0⟩ := A
  dsimp only [Pt.U, Pt.locs, Pt.cells, Pt.slots] at h1 h2 h3 h4 h5 X hn hPc ⊢
  obtain ⟨m9, methY, cY, hn9, hmY, hcY, -, hlY, -⟩ := Cond.codeWith_spec h2
  cases Option.some.inj (hn9.symm.trans hn)
  obtain ⟨kY, hkY, -⟩ := className_of_methodNamed hn
  have hinitY : kY.init = .initialized := Cond.initialized_spec (findClass_of_methodNamed hn) hkY h3
  have h : At U g.method c below := by rw [hg]; exact X.here
  have hlocals9 : W9 + (maxL + 11) + (headSpec ws rm).room.locals ≤ R.locals := hlocals
  have happ : (headSpec ws rm).appliesLoose y e.platform (U.calling g mk a) = true :=
    Spec.appliesLoose_calling (g := g) h hdg hn hkY hinitY
      (X.room_calling (g := g) (R' := (headSpec ws rm).room) hsize hmY hcY hframes (by rw [hlY]; omega) h4 h5) h1
  obtain ⟨mid, hmid⟩ := h.above
  have hfr : (U.setTop g).frames = (.java g :: mid) ++ below := by rw [State.frames_setTop' g h.top, hmid]; rfl
  obtain ⟨o, s₂, hsteps, -, hend, hq⟩ := Steps.callFree hM p X.admits X.cas X.clock (acts := []) hfr happ hPc trivial
  have hq' : vx_Q Qc XC mc ms free a (U.calling g mk a) o s₂ := hq
  rw [State.frames_setTop' g h.top] at hend
  obtain ⟨g₀, hg0⟩ := Option.isSome_iff_exists.mp h.top
  obtain ⟨r, hr⟩ := State.topJava?_eq_some.mp hg0
  have hr' : (({ U with heap := s₂.heap, slotsUsed := s₂.slotsUsed } : State).setVm s₂.vm).frames = .java g₀ :: r := hr
  rcases hq' with ⟨hqc, L, hfe, hL⟩ | ⟨q, rfl, E, ce, L, hx, hce, hcv, hcl, hW₂, hsm, hL⟩
  · obtain ⟨⟨v, rfl⟩, hW₂, e2, q2, q3, q4, q5, q6⟩ := id hfe
    have e3 : s₂ = ({ (U.calling g mk a).setFrames s₂.frames with heap := s₂.heap, slotsUsed := s₂.slotsUsed } : State).setVm s₂.vm := by
      have : s₂ = ({ s₂ with vm := (U.calling g mk a).vm } : State).setVm s₂.vm := rfl
      rw [e2] at this
      exact this
    obtain ⟨c₂, i₂, len₂, hc₂, hd₂, hf₂⟩ := hend
    have hW' : U.WarmedH s₂.vm := hW₂
    have hcc : c₂ = c := by
      have h1 : s₂.code? g.method = U.code? g.method := by
        rw [State.code?_eq, State.code?_eq, hW'.alike.method?]
      exact Option.some.inj (hc₂.symm.trans (h1.trans h.code))
    subst hcc
    have hlen : len₂ = len := by rw [hdg] at hd₂; cases hd₂; rfl
    subst hlen
    have hs₂ : s₂ = (({ U with heap := s₂.heap, slotsUsed := s₂.slotsUsed } : State).setVm s₂.vm).setTop { g with pc := g.pc + len₂, stack := v.toList ++ g.stack } := by
      refine e3.trans ?_
      rw [hf₂, State.calling_eq h.top, State.setFrames_setFrames, State.setTop_of_frames _ hr', hr]
      rfl
    have hsame : U.sameButNew ({ U with heap := s₂.heap, slotsUsed := s₂.slotsUsed } : State) L mc ms := by
      refine ⟨?_, q2, q3, q4, q5, q6⟩
      obtain ⟨t, ht, -⟩ := State.frames_cons hr
      show ({ U with heap := s₂.heap, slotsUsed := s₂.slotsUsed } : State) = { U.setFrames U.frames with heap := s₂.heap, slotsUsed := s₂.slotsUsed }
      rw [State.setFrames_self ht]
    subst hg
    refine Or.inl ⟨v, ⟨(({ U with heap := s₂.heap, slotsUsed := s₂.slotsUsed } : State).setVm s₂.vm), Ls ++ L, c0 + mc, s0 + ms⟩,
      ⟨X.admits, X.cas, X.clock, X.frames, X.room, X.hears, X.method, X.code, (X.here.setHeapUsed s₂.heap s₂.slotsUsed).setVm hW'.alike, X.tail, State.WarmedH.trans X.warmed hW', X.limits, X.bytes, X.same.trans (hsame.setVm s.vm)⟩,
      ⟨g, mk, s₂, L, rfl, rfl, hqc, rfl, hL, rfl, rfl⟩, ?_⟩
    show Steps p.tables e below _ ((({ U with heap := s₂.heap, slotsUsed := s₂.slotsUsed } : State).setVm s₂.vm).setTop { g with pc := g.pc + len₂, stack := v.toList ++ g.stack })
    rw [← hs₂]
    exact hsteps
  · obtain ⟨e2, q2, q3, q4, q5, q6⟩ := id hsm
    have e3 : s₂ = ({ (U.calling g mk a).setFrames s₂.frames with heap := s₂.heap, slotsUsed := s₂.slotsUsed } : State).setVm s₂.vm := by
      have : s₂ = ({ s₂ with vm := (U.calling g mk a).vm } : State).setVm s₂.vm := rfl
      rw [e2] at this
      exact this
    have hf₂ : s₂.frames = .throwing q :: .java g :: U.frames.tail := hend
    have hW' : U.WarmedH s₂.vm := hW₂
    have hs₂ : s₂ = ((({ U with heap := s₂.heap, slotsUsed := s₂.slotsUsed } : State).setVm s₂.vm).setTop g).pushFrame (.throwing q) := by
      refine e3.trans ?_
      rw [hf₂, State.calling_eq h.top, State.setFrames_setFrames, State.pushFrame, State.frames_setTop _ hr', State.setTop_of_frames _ hr', State.setFrames_setFrames, hr]
      rfl
    have hsame : U.sameButNew ({ U with heap := s₂.heap, slotsUsed := s₂.slotsUsed } : State) L mc ms := by
      refine ⟨?_, q2, q3, q4, q5, q6⟩
      obtain ⟨t, ht, -⟩ := State.frames_cons hr
      show ({ U with heap := s₂.heap, slotsUsed := s₂.slotsUsed } : State) = { U.setFrames U.frames with heap := s₂.heap, slotsUsed := s₂.slotsUsed }
      rw [State.setFrames_self ht]
    subst hg
    refine Or.inr ⟨q, ⟨(({ U with heap := s₂.heap, slotsUsed := s₂.slotsUsed } : State).setVm s₂.vm), Ls ++ L, c0 + mc, s0 + ms⟩,
      ⟨X.admits, X.cas, X.clock, X.frames, X.room, X.hears, X.method, X.code, (X.here.setHeapUsed s₂.heap s₂.slotsUsed).setVm hW'.alike, X.tail, State.WarmedH.trans X.warmed hW', X.limits, X.bytes, X.same.trans (hsame.setVm s.vm)⟩,
      ⟨g, mk, s₂, L, E, ce, rfl, rfl, hx, hce, hcv, hcl, rfl, hL, rfl, rfl⟩, ?_⟩
    show Steps p.tables e below _ (((({ U with heap := s₂.heap, slotsUsed := s₂.slotsUsed } : State).setVm s₂.vm).setTop g).pushFrame (.throwing q))
    rw [← hs₂]
    exact hsteps
end
variable {p : Program} {l : Launch} {e : Env} {R : Room} {s : State} {m : MethodId} {args : Array Value} {below : List Frame} {meth : Method} {c : Code} {T : State} {H : Heap} {locs : List Loc} {cells slots : Nat}
theorem vx_callVX (X : Stand p l e R s m args below meth c T locs cells slots) (hexec : p.tables.exec = Jvm.exec) {own C : String} {index : Nat} {y : MethodName} {bytes : ByteArray} {maxL : Nat} {ret : Option FieldType} {hh : List (Nat × Nat × Nat × Nat)}
    (hown : s.vm.findClass own = some m.cls) (hlink : (Cond.methodLink own index y).before args s = true) (hinst : (Cond.instanceMethod y).before args s = true) (hsel : (Cond.selects C y y).before args s = true)
    (hcode : (Cond.codeWith y bytes maxL ret hh).before args s = true) (hy : y.cls ≠ "java/lang/invoke/MethodHandle" ∧ y.cls ≠ "java/lang/invoke/VarHandle")
    {W9 : Nat} {Pre : Pt → Array Value → Prop} {Post : Pt → Array Value → Option Value → Pt → Prop} {PostX : Pt → Array Value → Addr → Pt → Prop} (hK : vx_Back l R p e below s args y 3 W9 Pre Post PostX)
    {b : Addr} {cellB : Cell} (hcell : T.heap[b]? = some cellB) (hobj : cellB.vm.isStatics = false) (hcls : s.vm.findClass C = some cellB.cls)
    {g : JFrame} (hg : g.method = m) (hsize : g.locals.size = c.maxLocals) {argsL rest : List Value} (hlen : ∀ sig, parseMethodDescriptor y.desc = some sig → argsL.length = sig.parameters.length)
    (hstack : g.stack = argsL.reverse ++ .ref b :: rest) (hW : 2 * g.monitorRoom + (rest.map fun v => v.category).sum ≤ W9) (hdg : decode c.code g.pc = .ok (.invokevirtual index, 3))
    (hpre : ∀ vm₁, s.WarmedH vm₁ → Pre ⟨T.setVm vm₁, locs, cells, slots⟩ (Value.ref b :: argsL).toArray) :
    (∃ (v : Option Value) (vm₁ : Vm) (B : Pt), s.WarmedH vm₁ ∧ Stand p l e R s m args below meth c B.U B.locs B.cells B.slots ∧ Post ⟨T.setVm vm₁, locs, cells, slots⟩ (Value.ref b :: argsL).toArray v B ∧
      ∀ target, Steps p.tables e below (B.U.setTop { g with pc := g.pc + 3, stack := v.toList ++ rest }) target → Steps p.tables e below (T.setTop g) target) ∨
    (∃ (q : Addr) (vm₁ : Vm) (B : Pt), s.WarmedH vm₁ ∧ Stand p l e R s m args below meth c B.U B.locs B.cells B.slots ∧ PostX ⟨T.setVm vm₁, locs, cells, slots⟩ (Value.ref b :: argsL).toArray q B ∧
      Steps p.tables e below (T.setTop g) ((B.U.setTop { g with stack := rest }).pushFrame (.throwing q))) := by
  obtain ⟨mk, methM, hnamed, hmethM, hstM, habM⟩ := Cond.instanceMethod_spec hinst
  obtain ⟨m8, methM', cM, hn8, hmethM', -, -, -, -, -, -, hsigM⟩ := Cond.codeWith_spec hcode
  cases Option.some.inj (hn8.symm.trans hnamed)
  cases hmethM.symm.trans hmethM'
  obtain ⟨c2, r2, m2, q1, q2, q3, q4, kP, hkP, hkPi⟩ := Cond.selects_spec hsel
  cases hcls.symm.trans q1
  cases (State.methodFound?_of_named hnamed hy).symm.trans q2
  cases hnamed.symm.trans q3
  have hselP : selectMethod e.platform s.vm cellB.cls mk = .method mk := by rw [Launch.admits_selectMethod X.admits]; exact q4
  obtain ⟨vm₁, X₁, hstep₁⟩ := X.invokevirtual hexec hown hlink hnamed hmethM hstM hkP hkPi hy (a := b) (cell := cellB) hcell
    (fun z h => by rw [h] at hobj; cases hobj) hselP hmethM habM hkP hkPi (g := g) hg (argsL := argsL) (rest := rest) (hlen _ hsigM) hstack hdg
  rcases hK m meth c ⟨T.setVm vm₁, locs, cells, slots⟩ { g with stack := rest } (.invokevirtual index) mk (Value.ref b :: argsL).toArray X₁ hg hsize hdg hW (X₁.named hnamed) (hpre vm₁ X₁.warmed) with ⟨v, B, X', hpost, hsteps⟩ | ⟨q, B, X', hpost, hsteps⟩
  · exact Or.inl ⟨v, vm₁, B, X₁.warmed, X', hpost, fun target h => hstep₁ _ fun acts => by rw [doInvoke_state]; exact hsteps.trans h⟩
  · exact Or.inr ⟨q, vm₁, B, X₁.warmed, X', hpost, hstep₁ _ fun acts => by rw [doInvoke_state]; exact hsteps⟩
theorem vx_callSX (X : Stand p l e R s m args below meth c T locs cells slots) (hexec : p.tables.exec = Jvm.exec) {own : String} {index : Nat} {y : MethodName} {bytes : ByteArray} {maxL : Nat} {ret : Option FieldType} {hh : List (Nat × Nat × Nat × Nat)}
    (hown : s.vm.findClass own = some m.cls) (hlink : (Cond.methodLink own index y).before args s = true) (hstat : (Cond.static y).before args s = true) (hinit : (Cond.initialized y.cls).before args s = true)
    (hcode : (Cond.codeWith y bytes maxL ret hh).before args s = true) (hy : y.cls ≠ "java/lang/invoke/MethodHandle" ∧ y.cls ≠ "java/lang/invoke/VarHandle")
    {W9 : Nat} {Pre : Pt → Array Value → Prop} {Post : Pt → Array Value → Option Value → Pt → Prop} {PostX : Pt → Array Value → Addr → Pt → Prop} (hK : vx_Back l R p e below s args y 3 W9 Pre Post PostX)
    {g : JFrame} (hg : g.method = m) (hsize : g.locals.size = c.maxLocals) {argsL rest : List Value} (hlen : ∀ sig, parseMethodDescriptor y.desc = some sig → argsL.length = sig.parameters.length)
    (hstack : g.stack = argsL.reverse ++ rest) (hW : 2 * g.monitorRoom + (rest.map fun v => v.category).sum ≤ W9) (hdg : decode c.code g.pc = .ok (.invokestatic index, 3))
    (hpre : ∀ vm₁, s.WarmedH vm₁ → Pre ⟨T.setVm vm₁, locs, cells, slots⟩ argsL.toArray) :
    (∃ (v : Option Value) (vm₁ : Vm) (B : Pt), s.WarmedH vm₁ ∧ Stand p l e R s m args below meth c B.U B.locs B.cells B.slots ∧ Post ⟨T.setVm vm₁, locs, cells, slots⟩ argsL.toArray v B ∧
      ∀ target, Steps p.tables e below (B.U.setTop { g with pc := g.pc + 3, stack := v.toList ++ rest }) target → Steps p.tables e below (T.setTop g) target) ∨
    (∃ (q : Addr) (vm₁ : Vm) (B : Pt), s.WarmedH vm₁ ∧ Stand p l e R s m args below meth c B.U B.locs B.cells B.slots ∧ PostX ⟨T.setVm vm₁, locs, cells, slots⟩ argsL.toArray q B ∧
      Steps p.tables e below (T.setTop g) ((B.U.setTop { g with stack := rest }).pushFrame (.throwing q))) := by
  obtain ⟨mk, methM, cM, hnamed, hmethM, -, -, -, -, -, -, hsigM⟩ := Cond.codeWith_spec hcode
  have hstatic : methM.isStatic = true := Cond.static_spec hnamed hmethM hstat
  obtain ⟨kP, hkP, -⟩ := className_of_methodNamed hnamed
  have hinitP : kP.init = .initialized := Cond.initialized_spec (findClass_of_methodNamed hnamed) hkP hinit
  obtain ⟨vm₁, X₁, hstep₁⟩ := X.invokestatic hexec hown hlink hnamed hmethM hstatic hkP hinitP hy (g := g) hg (argsL := argsL) (rest := rest) (hlen _ hsigM) hstack hdg
  rcases hK m meth c ⟨T.setVm vm₁, locs, cells, slots⟩ { g with stack := rest } (.invokestatic index) mk argsL.toArray X₁ hg hsize hdg hW (X₁.named hnamed) (hpre vm₁ X₁.warmed) with ⟨v, B, X', hpost, hsteps⟩ | ⟨q, B, X', hpost, hsteps⟩
  · exact Or.inl ⟨v, vm₁, B, X₁.warmed, X', hpost, fun target h => hstep₁ _ fun acts => by rw [doInvoke_state]; exact hsteps.trans h⟩
  · exact Or.inr ⟨q, vm₁, B, X₁.warmed, X', hpost, hstep₁ _ fun acts => by rw [doInvoke_state]; exact hsteps⟩
theorem vx_callVW (X : Stand p l e R s m args below meth c T locs cells slots) (hexec : p.tables.exec = Jvm.exec) {own C : String} {index : Nat} {y : MethodName} {bytes : ByteArray} {maxL : Nat} {ret : Option FieldType} {hh : List (Nat × Nat × Nat × Nat)}
    (hown : s.vm.findClass own = some m.cls) (hlink : (Cond.methodLink own index y).before args s = true) (hinst : (Cond.instanceMethod y).before args s = true) (hsel : (Cond.selects C y y).before args s = true)
    (hcode : (Cond.codeWith y bytes maxL ret hh).before args s = true) (hy : y.cls ≠ "java/lang/invoke/MethodHandle" ∧ y.cls ≠ "java/lang/invoke/VarHandle")
    {W9 : Nat} {Pre : Pt → Array Value → Prop} {Post : Pt → Array Value → Option Value → Pt → Prop} (hK : Back l R p e below s args y 3 W9 Pre Post)
    {b : Addr} {cellB : Cell} (hcell : T.heap[b]? = some cellB) (hobj : cellB.vm.isStatics = false) (hcls : s.vm.findClass C = some cellB.cls)
    {g : JFrame} (hg : g.method = m) (hsize : g.locals.size = c.maxLocals) {argsL rest : List Value} (hlen : ∀ sig, parseMethodDescriptor y.desc = some sig → argsL.length = sig.parameters.length)
    (hstack : g.stack = argsL.reverse ++ .ref b :: rest) (hW : 2 * g.monitorRoom + (rest.map fun v => v.category).sum ≤ W9) (hdg : decode c.code g.pc = .ok (.invokevirtual index, 3))
    (hpre : ∀ vm₁, s.WarmedH vm₁ → Pre ⟨T.setVm vm₁, locs, cells, slots⟩ (Value.ref b :: argsL).toArray) :
    ∃ (v : Option Value) (vm₁ : Vm) (B : Pt), s.WarmedH vm₁ ∧ Stand p l e R s m args below meth c B.U B.locs B.cells B.slots ∧ Post ⟨T.setVm vm₁, locs, cells, slots⟩ (Value.ref b :: argsL).toArray v B ∧
      ∀ target, Steps p.tables e below (B.U.setTop { g with pc := g.pc + 3, stack := v.toList ++ rest }) target → Steps p.tables e below (T.setTop g) target := by
  obtain ⟨mk, methM, hnamed, hmethM, hstM, habM⟩ := Cond.instanceMethod_spec hinst
  obtain ⟨m8, methM', cM, hn8, hmethM', -, -, -, -, -, -, hsigM⟩ := Cond.codeWith_spec hcode
  cases Option.some.inj (hn8.symm.trans hnamed)
  cases hmethM.symm.trans hmethM'
  obtain ⟨c2, r2, m2, q1, q2, q3, q4, kP, hkP, hkPi⟩ := Cond.selects_spec hsel
  cases hcls.symm.trans q1
  cases (State.methodFound?_of_named hnamed hy).symm.trans q2
  cases hnamed.symm.trans q3
  have hselP : selectMethod e.platform s.vm cellB.cls mk = .method mk := by rw [Launch.admits_selectMethod X.admits]; exact q4
  obtain ⟨vm₁, X₁, hstep₁⟩ := X.invokevirtual hexec hown hlink hnamed hmethM hstM hkP hkPi hy (a := b) (cell := cellB) hcell
    (fun z h => by rw [h] at hobj; cases hobj) hselP hmethM habM hkP hkPi (g := g) hg (argsL := argsL) (rest := rest) (hlen _ hsigM) hstack hdg
  obtain ⟨v, B, X', hpost, hsteps⟩ := hK m meth c ⟨T.setVm vm₁, locs, cells, slots⟩ { g with stack := rest } (.invokevirtual index) mk (Value.ref b :: argsL).toArray X₁ hg hsize hdg hW (X₁.named hnamed) (hpre vm₁ X₁.warmed)
  exact ⟨v, vm₁, B, X₁.warmed, X', hpost, fun target h => hstep₁ _ fun acts => by rw [doInvoke_state]; exact hsteps.trans h⟩
abbrev vx_CVW (R : Room) (s : State) (args : Array Value) (own C : String) (index : Nat) (y : MethodName) (bytes : ByteArray) (maxL : Nat) (ret : Option FieldType) (hh : List (Nat × Nat × Nat × Nat)) (ws : List Cond) (rm : Room) (mc ms n : Nat) : Prop :=
  (rm.cells = mc ∧ rm.slots = ms ∧ rm.frames + 1 ≤ R.frames ∧ 8 + (maxL + 11) + rm.locals ≤ R.locals ∧ (∀ w ∈ ws, ∀ (a' : Array Value) (U : State), s.WarmedH U.vm → w.before a' U = true) ∧ Cond.codeWith y bytes maxL ret hh ∈ ws) ∧
  (Cond.codeWith y bytes maxL ret hh).before args s = true ∧ (Cond.initialized y.cls).before args s = true ∧ (y.cls ≠ "java/lang/invoke/MethodHandle" ∧ y.cls ≠ "java/lang/invoke/VarHandle") ∧
  (∀ sig, parseMethodDescriptor y.desc = some sig → n = sig.parameters.length) ∧ (Cond.methodLink own index y).before args s = true ∧ (Cond.instanceMethod y).before args s = true ∧ (Cond.selects C y y).before args s = true
theorem vx_cwVW {own C : String} {index maxL mc ms : Nat} {y : MethodName} {bytes : ByteArray} {ret : Option FieldType} {hh : List (Nat × Nat × Nat × Nat)} {Ts ws ws' : List Cond} {rm : Room} (n : Nat) (ht : ∀ w ∈ Ts, w.before args s = true) (hT : GoodIn Ts (wsV own index C y ws)) (hw : ws = Cond.codeWith y bytes maxL ret hh :: ws') (hrc : rm.cells = mc) (hrs : rm.slots = ms)
    (hd : y.cls = C ∧ y.cls ≠ "java/lang/invoke/MethodHandle" ∧ y.cls ≠ "java/lang/invoke/VarHandle" ∧ (parseMethodDescriptor y.desc).map (fun d => d.parameters.length) = some n) (hR : rm.frames + 1 ≤ R.frames ∧ 8 + (maxL + 11) + rm.locals ≤ R.locals) :
    vx_CVW R s args own C index y bytes maxL ret hh ws rm mc ms n := by
  obtain ⟨hC, hd⟩ := hd
  subst hC
  have ok : ∀ w ∈ wsV own index y.cls y ws, w.before args s = true := fun w h => ht w (hT w h).1
  have hG : GoodIn Ts ws := fun w h => hT w (by unfold wsV; exact List.mem_append_right _ h)
  have hc : Cond.codeWith y bytes maxL ret hh ∈ ws := by rw [hw]; exact List.mem_cons_self
  refine ⟨⟨hrc, hrs, hR.1, hR.2, pay_in ht hG, hc⟩, ht _ (hG _ hc).1, ok _ (by simp [wsV]), ⟨hd.1, hd.2.1⟩, fun sig h => ?_, ok _ (by simp [wsV]), ok _ (by simp [wsV]), ok _ (by simp [wsV])⟩
  have h2 := hd.2.2
  rw [h] at h2
  exact (Option.some.inj h2).symm
theorem vx_runVW {y : MethodName} {bytes cc : ByteArray} {maxL nL mc ms n index : Nat} {ret : Option FieldType} {hh : List (Nat × Nat × Nat × Nat)} {ws : List Cond} {rm : Room} {Pc : Array Value → State → Prop} {Qc : Array Value → State → Outcome → State → Prop} {free : Addr → Prop} {Ts : List Cond} {own C : String} {b : Addr} {As rest : List Value} {g : JFrame}
    (S : CallFix p m c cc nL s args Ts own) (hM : Met l y ws rm Pc Qc mc ms free) (cw : vx_CVW R s args own C index y bytes maxL ret hh ws rm mc ms n) (hp : PreV s H C b Pc As)
    (hg : g.method = m) (hn : As.length = n) (hsize : g.locals.size = nL) (hstack : g.stack = As.reverse ++ .ref b :: rest) (hW : 2 * g.monitorRoom + (rest.map fun v => v.category).sum ≤ 8) (hdg : decode cc g.pc = .ok (.invokevirtual index, 3)) (hf : cells + mc ≤ R.cells ∧ slots + ms ≤ R.slots) :
    va_Run p l e R s m args below meth c H locs cells slots mc ms g rest (Qc (Value.ref b :: As).toArray) free := by
  obtain ⟨⟨hrc, hrs, hfr, hlo, hws, hcw⟩, hcode, hini, hy, hlen, hl, hin, hse⟩ := cw
  have hK : Back l R p e below s args y 3 8 (PreOf R mc ms Pc) (PostOf Qc mc ms free) := va_backW (hh := hh) (bytes := bytes) (maxL := maxL) (ret := ret) hM hp.1 hrc hrs hfr hlo hws hcw (fun a' U hW => word_at hW (Or.inl (by first | rfl | simp [Cond.onTables, Cond.keeps, Cond.steady])) hini)
  obtain ⟨hx, hb, hml, ho, -⟩ := S
  obtain ⟨-, ⟨cellB, hcB, hoB, hclB⟩, hPc⟩ := hp
  intro T hT X
  obtain ⟨v, vm₁, ⟨U', l2, c2, s2⟩, hW₁, X', ⟨g', mk, t, L, e1, e2, hq, h1, hL, h2, h3⟩, st⟩ := vx_callVW X hx (C := C) (hh := hh) (bytes := bytes) (maxL := maxL) (ret := ret) ho hl hin hse hcode hy hK (by rw [hT]; exact hcB) hoB hclB hg (hsize.trans hml.symm) (argsL := As) (rest := rest) (fun sig h => hn.trans (hlen sig h)) hstack hW (by rw [hb]; exact hdg)
    (fun vm₁ hW₁ => ⟨hf.1, hf.2, hPc (T.setVm vm₁) hT hW₁⟩)
  dsimp only [Pt.U, Pt.locs, Pt.cells, Pt.slots] at X' e1 e2 h1 h2 h3 st
  subst h1; subst h2; subst h3
  exact ⟨v, (T.setVm vm₁).calling g' mk (Value.ref b :: As).toArray, t, U', L, hT, X', hL, e1, e2, hq, st⟩
section
variable {y : MethodName} {bytes cc : ByteArray} {maxL nL mc ms n index : Nat} {ret : Option FieldType} {ws : List Cond} {rm : Room} {Pc : Array Value → State → Prop} {Qc : Array Value → State → Outcome → State → Prop} {XC : String → State → State → Prop} {free : Addr → Prop} {Ts : List Cond} {own C : String} {b : Addr} {As rest : List Value} {g : JFrame}
theorem vx_runVX {hh : List (Nat × Nat × Nat × Nat)} (S : CallFix p m c cc nL s args Ts own) (hM : vx_Met l y ws rm Pc Qc XC mc ms free) (cw : vx_CVW R s args own C index y bytes maxL ret hh ws rm mc ms n) (hp : PreV s H C b Pc As)
    (hg : g.method = m) (hn : As.length = n) (hsize : g.locals.size = nL) (hstack : g.stack = As.reverse ++ .ref b :: rest) (hW : 2 * g.monitorRoom + (rest.map fun v => v.category).sum ≤ 8) (hdg : decode cc g.pc = .ok (.invokevirtual index, 3)) (hf : cells + mc ≤ R.cells ∧ slots + ms ≤ R.slots) :
    vx_Run p l e R s m args below meth c H locs cells slots mc ms g rest (Qc (Value.ref b :: As).toArray) XC free := by
  obtain ⟨⟨hrc, hrs, hfr, hlo, hws, hcw⟩, hcode, hini, hy, hlen, hl, hin, hse⟩ := cw
  have hK : vx_Back l R p e below s args y 3 8 (PreOf R mc ms Pc) (PostOf Qc mc ms free) (vx_Post XC mc ms free) := vx_backW (hh := hh) (bytes := bytes) (maxL := maxL) (ret := ret) hM hp.1 hrc hrs hfr hlo hws hcw (fun a' U hW => word_at hW (Or.inl (by first | rfl | simp [Cond.onTables, Cond.keeps, Cond.steady])) hini)
  obtain ⟨hx, hb, hml, ho, -⟩ := S
  obtain ⟨-, ⟨cellB, hcB, hoB, hclB⟩, hPc⟩ := hp
  intro T hT X
  rcases vx_callVX X hx (C := C) (hh := hh) (bytes := bytes) (maxL := maxL) (ret := ret) ho hl hin hse hcode hy hK (by rw [hT]; exact hcB) hoB hclB hg (hsize.trans hml.symm) (argsL := As) (rest := rest) (fun sig h => hn.trans (hlen sig h)) hstack hW (by rw [hb]; exact hdg)
    (fun vm₁ hW₁ => ⟨hf.1, hf.2, hPc (T.setVm vm₁) hT hW₁⟩) with ⟨v, vm₁, ⟨U', l2, c2, s2⟩, hW₁, X', ⟨g', mk, t, L, e1, e2, hq, h1, hL, h2, h3⟩, st⟩ | ⟨q, vm₁, ⟨U', l2, c2, s2⟩, hW₁, X', ⟨g', mk, t, L, E, ce, e1, e2, hq, hce, hcv, hcl, h1, hL, h2, h3⟩, st⟩
  · dsimp only [Pt.U, Pt.locs, Pt.cells, Pt.slots] at X' e1 e2 h1 h2 h3 st
    subst h1; subst h2; subst h3
    exact Or.inl ⟨v, (T.setVm vm₁).calling g' mk (Value.ref b :: As).toArray, t, U', L, hT, X', hL, e1, e2, hq, st⟩
  · dsimp only [Pt.U, Pt.locs, Pt.cells, Pt.slots] at X' e1 e2 h1 h2 h3 st hcl
    subst h1; subst h2; subst h3
    exact Or.inr ⟨q, (T.setVm vm₁).calling g' mk (Value.ref b :: As).toArray, t, U', L, E, ce, hT, X', hL, e1, e2, hq, hce, hcv, vx_cls hW₁ hcl, st⟩
theorem vx_runSX {hh : List (Nat × Nat × Nat × Nat)} (S : CallFix p m c cc nL s args Ts own) (hM : vx_Met l y ws rm Pc Qc XC mc ms free) (cw : vx_CSW R s args own index y bytes maxL ret hh ws rm mc ms n) (hp : PreS s H Pc As)
    (hg : g.method = m) (hn : As.length = n) (hsize : g.locals.size = nL) (hstack : g.stack = As.reverse ++ rest) (hW : 2 * g.monitorRoom + (rest.map fun v => v.category).sum ≤ 8) (hdg : decode cc g.pc = .ok (.invokestatic index, 3)) (hf : cells + mc ≤ R.cells ∧ slots + ms ≤ R.slots) :
    vx_Run p l e R s m args below meth c H locs cells slots mc ms g rest (Qc As.toArray) XC free := by
  obtain ⟨⟨hrc, hrs, hfr, hlo, hws, hcw⟩, hcode, hini, hy, hlen, hl, hstt⟩ := cw
  have hK : vx_Back l R p e below s args y 3 8 (PreOf R mc ms Pc) (PostOf Qc mc ms free) (vx_Post XC mc ms free) := vx_backW (hh := hh) (bytes := bytes) (maxL := maxL) (ret := ret) hM hp.1 hrc hrs hfr hlo hws hcw (fun a' U hW => word_at hW (Or.inl (by first | rfl | simp [Cond.onTables, Cond.keeps, Cond.steady])) hini)
  obtain ⟨hx, hb, hml, ho, -⟩ := S
  intro T hT X
  rcases vx_callSX X hx (hh := hh) (bytes := bytes) (maxL := maxL) (ret := ret) ho hl hstt hini hcode hy hK hg (hsize.trans hml.symm) (argsL := As) (rest := rest) (fun sig h => hn.trans (hlen sig h)) hstack hW (by rw [hb]; exact hdg)
    (fun vm₁ hW₁ => ⟨hf.1, hf.2, hp.2 (T.setVm vm₁) hT hW₁⟩) with ⟨v, vm₁, ⟨U', l2, c2, s2⟩, hW₁, X', ⟨g', mk, t, L, e1, e2, hq, h1, hL, h2, h3⟩, st⟩ | ⟨q, vm₁, ⟨U', l2, c2, s2⟩, hW₁, X', ⟨g', mk, t, L, E, ce, e1, e2, hq, hce, hcv, hcl, h1, hL, h2, h3⟩, st⟩
  · dsimp only [Pt.U, Pt.locs, Pt.cells, Pt.slots] at X' e1 e2 h1 h2 h3 st
    subst h1; subst h2; subst h3
    exact Or.inl ⟨v, (T.setVm vm₁).calling g' mk As.toArray, t, U', L, hT, X', hL, e1, e2, hq, st⟩
  · dsimp only [Pt.U, Pt.locs, Pt.cells, Pt.slots] at X' e1 e2 h1 h2 h3 st hcl
    subst h1; subst h2; subst h3
    exact Or.inr ⟨q, (T.setVm vm₁).calling g' mk As.toArray, t, U', L, E, ce, hT, X', hL, e1, e2, hq, hce, hcv, vx_cls hW₁ hcl, st⟩
end
end VXH
theorem vx_ofWH {l : Launch} {y : MethodName} {ws ws' : List Cond} {rm : Room} {Pc : Array Value → State → Prop} {Qc : Array Value → State → Outcome → State → Prop} {XC : String → State → State → Prop} {mc ms : Nat} {free : Addr → Prop} {cc : ByteArray} {maxL : Nat} {ret : Option FieldType} {hh : List (Nat × Nat × Nat × Nat)}
    (hy : plainName y.cls = true) (hw : ws = Cond.codeWith y cc maxL ret hh :: ws')
    (body : ∀ p e s m args below meth c s₁, BodyLoose p l y (headSpec ws rm) cc maxL ret e s m args below meth c s₁ → c.maxLocals = maxL → Pc args s →
      W p l e (headSpec ws rm).room s m args below meth c s.heap [] 0 0 (vx_MQ below Qc XC args s mc ms free) (entryFrame m args maxL)) : vx_Met l y ws rm Pc Qc XC mc ms free := by
  refine MetFree.of_bodyS (code := cc) (maxLocals := maxL) (ret := ret) hy ?_ ?_
  · intro args s m h hn
    obtain ⟨m9, meth, c, hn9, h1, h2, h3, h4, -, h5, h6, -⟩ := Cond.codeWith_spec (atoms_spec (ws := ws) h _ (by rw [hw]; exact List.mem_cons_self))
    cases hn.symm.trans hn9
    exact ⟨meth, c, h1, h2, h3, h4, h5, h6⟩
  · intro p e s m args below meth c s₁ B hml hP _
    have hh0 : s₁.heap = s.heap := by rw [B.state]; rfl
    obtain ⟨t, a1, o, b1, b2, b3⟩ := body p e s m args below meth c s₁ B hml hP s₁ hh0 (Stand.of_body B)
    exact ⟨t, o, a1, b1, b2, b3⟩
/-! ===== END ===== -/

/-! ===== BEGIN printed: names, fields, word lists, decode rows ===== -/
def RX0 : String := "ToneButterflies"
def TX0 : u_T := fun k => match k with
  | 0 => ("ToneButterflies", "numbers", "[I", true)
  | 1 => ("ToneButterflies", "length", "I", false)
  | 2 => ("ToneButterflies", "prime", "I", false)
  | 3 => ("ToneButterflies", "bits", "I", false)
  | 4 => ("ToneButterflies", "unityRoot", "I", false)
  | 5 => ("ToneButterflies", "unityRootInverse", "I", false)
  | _ => ("ToneButterflies", "lengthInverse", "I", false)
def tyX0 : Nat → FieldType := fun k => match k with
  | 0 => .array .int
  | 1 => .int
  | 2 => .int
  | 3 => .int
  | 4 => .int
  | 5 => .int
  | _ => .int
abbrev wsX00 : List Cond := u_ws RX0 TX0 7
theorem nmX0 : ∀ a, a < 7 → ∀ b, b < 7 → a ≠ b → (TX0 a).2.1 ≠ (TX0 b).2.1 := by decide +kernel
theorem tyX0_ok : ∀ k, k < 7 → parseFieldDescriptor (TX0 k).2.2.1 = some (tyX0 k) := by decide +kernel
abbrev cX0_init : ByteArray := prog_1_method_1_code
def yX0_init : MethodName := ⟨RX0, "<init>", "()V"⟩
abbrev cX0_ring : ByteArray := prog_1_method_2_code
def yX0_ring : MethodName := ⟨RX0, "ring", "(II)I"⟩
abbrev cX0_order : ByteArray := prog_1_method_3_code
def yX0_order : MethodName := ⟨RX0, "order", "(I)I"⟩
abbrev cX0_inverse : ByteArray := prog_1_method_4_code
def yX0_inverse : MethodName := ⟨RX0, "inverse", "(I)I"⟩
abbrev cX0_root : ByteArray := prog_1_method_5_code
def yX0_root : MethodName := ⟨RX0, "root", "(I)I"⟩
abbrev cX0_set : ByteArray := prog_1_method_6_code
def yX0_set : MethodName := ⟨RX0, "set", "(III)I"⟩
abbrev cX0_copy : ByteArray := prog_1_method_7_code
def yX0_copy : MethodName := ⟨RX0, "copy", "(II)I"⟩
abbrev cX0_turn : ByteArray := prog_1_method_8_code
def yX0_turn : MethodName := ⟨RX0, "turn", "(IZ)I"⟩
abbrev cX0_mirror : ByteArray := prog_1_method_9_code
def yX0_mirror : MethodName := ⟨RX0, "mirror", "(I)I"⟩
abbrev cX0_stage : ByteArray := prog_1_method_10_code
def yX0_stage : MethodName := ⟨RX0, "stage", "(II)I"⟩
abbrev cX0_fold : ByteArray := prog_1_method_11_code
def yX0_fold : MethodName := ⟨RX0, "fold", "(II)I"⟩
abbrev cX0_join : ByteArray := prog_1_method_12_code
def yX0_join : MethodName := ⟨RX0, "join", "(III)I"⟩
abbrev cX0_move : ByteArray := prog_1_method_13_code
def yX0_move : MethodName := ⟨RX0, "move", "(II)I"⟩
abbrev cX0_times : ByteArray := prog_1_method_14_code
def yX0_times : MethodName := ⟨RX0, "times", "(II)I"⟩
abbrev cX0_at : ByteArray := prog_1_method_15_code
def yX0_at : MethodName := ⟨RX0, "at", "(II)I"⟩
abbrev cX0_point : ByteArray := prog_1_method_16_code
def yX0_point : MethodName := ⟨RX0, "point", "(II)I"⟩
abbrev cX0_about : ByteArray := prog_1_method_17_code
def yX0_about : MethodName := ⟨RX0, "about", "(II)I"⟩
abbrev cX0_count : ByteArray := prog_1_method_18_code
def yX0_count : MethodName := ⟨RX0, "count", "(I)I"⟩
abbrev cX0_would : ByteArray := prog_1_method_19_code
def yX0_would : MethodName := ⟨RX0, "would", "(III)I"⟩
abbrev cX0_comes : ByteArray := prog_1_method_20_code
def yX0_comes : MethodName := ⟨RX0, "comes", "(II)I"⟩
abbrev cX0_advise : ByteArray := prog_1_method_21_code
def yX0_advise : MethodName := ⟨RX0, "advise", "(II)I"⟩
abbrev cX0_tones : ByteArray := prog_1_method_22_code
def yX0_tones : MethodName := ⟨RX0, "tones", "(II)Z"⟩
abbrev cX0_mean : ByteArray := prog_1_method_23_code
def yX0_mean : MethodName := ⟨RX0, "mean", "(I)D"⟩
abbrev cX0_digest : ByteArray := prog_1_method_24_code
def yX0_digest : MethodName := ⟨RX0, "digest", "()J"⟩
abbrev cX0_requireRow : ByteArray := prog_1_method_25_code
def yX0_requireRow : MethodName := ⟨RX0, "requireRow", "(I)V"⟩
abbrev cX0_requirePlace : ByteArray := prog_1_method_26_code
def yX0_requirePlace : MethodName := ⟨RX0, "requirePlace", "(I)V"⟩
abbrev cX0_requireNumber : ByteArray := prog_1_method_27_code
def yX0_requireNumber : MethodName := ⟨RX0, "requireNumber", "(I)V"⟩
abbrev cX0_requireInvertible : ByteArray := prog_1_method_28_code
def yX0_requireInvertible : MethodName := ⟨RX0, "requireInvertible", "(I)V"⟩
abbrev cX0_isLength : ByteArray := prog_1_method_29_code
def yX0_isLength : MethodName := ⟨RX0, "isLength", "(I)Z"⟩
abbrev cX0_isPrimeOfRing : ByteArray := prog_1_method_30_code
def yX0_isPrimeOfRing : MethodName := ⟨RX0, "isPrimeOfRing", "(I)Z"⟩
abbrev cX0_divides : ByteArray := prog_1_method_31_code
def yX0_divides : MethodName := ⟨RX0, "divides", "(II)Z"⟩
abbrev cX0_takeRing : ByteArray := prog_1_method_32_code
def yX0_takeRing : MethodName := ⟨RX0, "takeRing", "(II)V"⟩
abbrev cX0_smallestRoot : ByteArray := prog_1_method_33_code
def yX0_smallestRoot : MethodName := ⟨RX0, "smallestRoot", "()I"⟩
abbrev cX0_reduced : ByteArray := prog_1_method_34_code
def yX0_reduced : MethodName := ⟨RX0, "reduced", "(I)I"⟩
abbrev cX0_powerOf : ByteArray := prog_1_method_35_code
def yX0_powerOf : MethodName := ⟨RX0, "powerOf", "(II)I"⟩
abbrev cX0_inverseOf : ByteArray := prog_1_method_36_code
def yX0_inverseOf : MethodName := ⟨RX0, "inverseOf", "(I)I"⟩
abbrev cX0_joined : ByteArray := prog_1_method_37_code
def yX0_joined : MethodName := ⟨RX0, "joined", "(III)I"⟩
abbrev cX0_wrapped : ByteArray := prog_1_method_38_code
def yX0_wrapped : MethodName := ⟨RX0, "wrapped", "(I)I"⟩
abbrev cX0_mirrored : ByteArray := prog_1_method_39_code
def yX0_mirrored : MethodName := ⟨RX0, "mirrored", "(I)I"⟩
abbrev cX0_read : ByteArray := prog_1_method_40_code
def yX0_read : MethodName := ⟨RX0, "read", "(II)I"⟩
abbrev cX0_write : ByteArray := prog_1_method_41_code
def yX0_write : MethodName := ⟨RX0, "write", "(III)V"⟩
abbrev cX0_copyRow : ByteArray := prog_1_method_42_code
def yX0_copyRow : MethodName := ⟨RX0, "copyRow", "(II)I"⟩
abbrev cX0_butterfly : ByteArray := prog_1_method_43_code
def yX0_butterfly : MethodName := ⟨RX0, "butterfly", "(IIII)V"⟩
abbrev cX0_valueAt : ByteArray := prog_1_method_44_code
def yX0_valueAt : MethodName := ⟨RX0, "valueAt", "(II)I"⟩
abbrev cX0_scratchTones : ByteArray := prog_1_method_45_code
def yX0_scratchTones : MethodName := ⟨RX0, "scratchTones", "(I)V"⟩
abbrev cX0_scratchTurnedBack : ByteArray := prog_1_method_46_code
def yX0_scratchTurnedBack : MethodName := ⟨RX0, "scratchTurnedBack", "(I)V"⟩
abbrev cX0_scratchValues : ByteArray := prog_1_method_47_code
def yX0_scratchValues : MethodName := ⟨RX0, "scratchValues", "(III)V"⟩
abbrev cX0_foldedAt : ByteArray := prog_1_method_48_code
def yX0_foldedAt : MethodName := ⟨RX0, "foldedAt", "(III)I"⟩
abbrev cX0_isWhenMoved : ByteArray := prog_1_method_49_code
def yX0_isWhenMoved : MethodName := ⟨RX0, "isWhenMoved", "(III)Z"⟩
abbrev cX0_soundWhenMoved : ByteArray := prog_1_method_50_code
def yX0_soundWhenMoved : MethodName := ⟨RX0, "soundWhenMoved", "(III)I"⟩
abbrev cX0_counted : ByteArray := prog_1_method_51_code
def yX0_counted : MethodName := ⟨RX0, "counted", "(I)I"⟩
abbrev cX0_told : ByteArray := prog_1_method_52_code
def yX0_told : MethodName := ⟨RX0, "told", "(II)I"⟩
abbrev cX0_plainSum : ByteArray := prog_1_method_53_code
def yX0_plainSum : MethodName := ⟨RX0, "plainSum", "(I)I"⟩
abbrev cX0_nonZeros : ByteArray := prog_1_method_54_code
def yX0_nonZeros : MethodName := ⟨RX0, "nonZeros", "(I)I"⟩
abbrev cX0_lastNonZero : ByteArray := prog_1_method_55_code
def yX0_lastNonZero : MethodName := ⟨RX0, "lastNonZero", "(I)I"⟩
abbrev cX0_period : ByteArray := prog_1_method_56_code
def yX0_period : MethodName := ⟨RX0, "period", "(I)I"⟩
abbrev cX0_greatestNumber : ByteArray := prog_1_method_57_code
def yX0_greatestNumber : MethodName := ⟨RX0, "greatestNumber", "(I)I"⟩
abbrev cX0_digestRow : ByteArray := prog_1_method_58_code
def yX0_digestRow : MethodName := ⟨RX0, "digestRow", "(JI)J"⟩
def RX1 : String := "ToneButterfliesModel"
def TX1 : u_T := fun k => match k with
  | 0 => ("ToneButterfliesModel", "thrown", "I", false)
  | 1 => ("ToneButterfliesModel", "n", "I", false)
  | 2 => ("ToneButterfliesModel", "p", "I", false)
  | 3 => ("ToneButterfliesModel", "w", "I", false)
  | 4 => ("ToneButterfliesModel", "bits", "I", false)
  | 5 => ("ToneButterfliesModel", "rows", "[I", true)
  | _ => ("ToneButterfliesModel", "made", "[I", true)
def tyX1 : Nat → FieldType := fun k => match k with
  | 0 => .int
  | 1 => .int
  | 2 => .int
  | 3 => .int
  | 4 => .int
  | 5 => .array .int
  | _ => .array .int
abbrev wsX10 : List Cond := u_ws RX1 TX1 7
theorem nmX1 : ∀ a, a < 7 → ∀ b, b < 7 → a ≠ b → (TX1 a).2.1 ≠ (TX1 b).2.1 := by decide +kernel
theorem tyX1_ok : ∀ k, k < 7 → parseFieldDescriptor (TX1 k).2.2.1 = some (tyX1 k) := by decide +kernel
abbrev cX1_init : ByteArray := prog_3_method_1_code
def yX1_init : MethodName := ⟨RX1, "<init>", "()V"⟩
abbrev cX1_thrown : ByteArray := prog_3_method_2_code
def yX1_thrown : MethodName := ⟨RX1, "thrown", "()I"⟩
abbrev cX1_no : ByteArray := prog_3_method_3_code
def yX1_no : MethodName := ⟨RX1, "no", "(I)I"⟩
abbrev cX1_isIn : ByteArray := prog_3_method_4_code
def yX1_isIn : MethodName := ⟨RX1, "isIn", "(III)Z"⟩
abbrev cX1_isRow : ByteArray := prog_3_method_5_code
def yX1_isRow : MethodName := ⟨RX1, "isRow", "(I)Z"⟩
abbrev cX1_isPlace : ByteArray := prog_3_method_6_code
def yX1_isPlace : MethodName := ⟨RX1, "isPlace", "(I)Z"⟩
abbrev cX1_its : ByteArray := prog_3_method_7_code
def yX1_its : MethodName := ⟨RX1, "its", "(II)I"⟩
abbrev cX1_plus : ByteArray := prog_3_method_8_code
def yX1_plus : MethodName := ⟨RX1, "plus", "(II)I"⟩
abbrev cX1_minus : ByteArray := prog_3_method_9_code
def yX1_minus : MethodName := ⟨RX1, "minus", "(II)I"⟩
abbrev cX1_by : ByteArray := prog_3_method_10_code
def yX1_by : MethodName := ⟨RX1, "by", "(II)I"⟩
abbrev cX1_power : ByteArray := prog_3_method_11_code
def yX1_power : MethodName := ⟨RX1, "power", "(II)I"⟩
abbrev cX1_inverseOf : ByteArray := prog_3_method_12_code
def yX1_inverseOf : MethodName := ⟨RX1, "inverseOf", "(I)I"⟩
abbrev cX1_orderOf : ByteArray := prog_3_method_13_code
def yX1_orderOf : MethodName := ⟨RX1, "orderOf", "(I)I"⟩
abbrev cX1_isPrime : ByteArray := prog_3_method_14_code
def yX1_isPrime : MethodName := ⟨RX1, "isPrime", "(I)Z"⟩
abbrev cX1_rootOf : ByteArray := prog_3_method_15_code
def yX1_rootOf : MethodName := ⟨RX1, "rootOf", "()I"⟩
abbrev cX1_ring : ByteArray := prog_3_method_16_code
def yX1_ring : MethodName := ⟨RX1, "ring", "(II)I"⟩
abbrev cX1_isUnit : ByteArray := prog_3_method_17_code
def yX1_isUnit : MethodName := ⟨RX1, "isUnit", "(I)Z"⟩
abbrev cX1_order : ByteArray := prog_3_method_18_code
def yX1_order : MethodName := ⟨RX1, "order", "(I)I"⟩
abbrev cX1_inverse : ByteArray := prog_3_method_19_code
def yX1_inverse : MethodName := ⟨RX1, "inverse", "(I)I"⟩
abbrev cX1_root : ByteArray := prog_3_method_20_code
def yX1_root : MethodName := ⟨RX1, "root", "(I)I"⟩
abbrev cX1_lay : ByteArray := prog_3_method_21_code
def yX1_lay : MethodName := ⟨RX1, "lay", "(I)V"⟩
abbrev cX1_changes : ByteArray := prog_3_method_22_code
def yX1_changes : MethodName := ⟨RX1, "changes", "(I)I"⟩
abbrev cX1_others : ByteArray := prog_3_method_23_code
def yX1_others : MethodName := ⟨RX1, "others", "(I)I"⟩
abbrev cX1_pointOf : ByteArray := prog_3_method_24_code
def yX1_pointOf : MethodName := ⟨RX1, "pointOf", "(II)I"⟩
abbrev cX1_makeTones : ByteArray := prog_3_method_25_code
def yX1_makeTones : MethodName := ⟨RX1, "makeTones", "(III)V"⟩
abbrev cX1_folded : ByteArray := prog_3_method_26_code
def yX1_folded : MethodName := ⟨RX1, "folded", "(III)I"⟩
abbrev cX1_mirrored : ByteArray := prog_3_method_27_code
def yX1_mirrored : MethodName := ⟨RX1, "mirrored", "(I)I"⟩
abbrev cX1_set : ByteArray := prog_3_method_28_code
def yX1_set : MethodName := ⟨RX1, "set", "(III)I"⟩
abbrev cX1_copy : ByteArray := prog_3_method_29_code
def yX1_copy : MethodName := ⟨RX1, "copy", "(II)I"⟩
abbrev cX1_turn : ByteArray := prog_3_method_30_code
def yX1_turn : MethodName := ⟨RX1, "turn", "(IZ)I"⟩
abbrev cX1_mirror : ByteArray := prog_3_method_31_code
def yX1_mirror : MethodName := ⟨RX1, "mirror", "(I)I"⟩
abbrev cX1_stage : ByteArray := prog_3_method_32_code
def yX1_stage : MethodName := ⟨RX1, "stage", "(II)I"⟩
abbrev cX1_fold : ByteArray := prog_3_method_33_code
def yX1_fold : MethodName := ⟨RX1, "fold", "(II)I"⟩
abbrev cX1_join : ByteArray := prog_3_method_34_code
def yX1_join : MethodName := ⟨RX1, "join", "(III)I"⟩
abbrev cX1_move : ByteArray := prog_3_method_35_code
def yX1_move : MethodName := ⟨RX1, "move", "(II)I"⟩
abbrev cX1_times : ByteArray := prog_3_method_36_code
def yX1_times : MethodName := ⟨RX1, "times", "(II)I"⟩
abbrev cX1_at : ByteArray := prog_3_method_37_code
def yX1_at : MethodName := ⟨RX1, "at", "(II)I"⟩
abbrev cX1_point : ByteArray := prog_3_method_38_code
def yX1_point : MethodName := ⟨RX1, "point", "(II)I"⟩
abbrev cX1_isMoved : ByteArray := prog_3_method_39_code
def yX1_isMoved : MethodName := ⟨RX1, "isMoved", "(III)Z"⟩
abbrev cX1_aboutTold : ByteArray := prog_3_method_40_code
def yX1_aboutTold : MethodName := ⟨RX1, "aboutTold", "(II)I"⟩
abbrev cX1_about : ByteArray := prog_3_method_41_code
def yX1_about : MethodName := ⟨RX1, "about", "(II)I"⟩
abbrev cX1_counted : ByteArray := prog_3_method_42_code
def yX1_counted : MethodName := ⟨RX1, "counted", "(I)I"⟩
abbrev cX1_count : ByteArray := prog_3_method_43_code
def yX1_count : MethodName := ⟨RX1, "count", "(I)I"⟩
abbrev cX1_would : ByteArray := prog_3_method_44_code
def yX1_would : MethodName := ⟨RX1, "would", "(III)I"⟩
abbrev cX1_comesBy : ByteArray := prog_3_method_45_code
def yX1_comesBy : MethodName := ⟨RX1, "comesBy", "(II)I"⟩
abbrev cX1_comes : ByteArray := prog_3_method_46_code
def yX1_comes : MethodName := ⟨RX1, "comes", "(II)I"⟩
abbrev cX1_together : ByteArray := prog_3_method_47_code
def yX1_together : MethodName := ⟨RX1, "together", "(III)I"⟩
abbrev cX1_advise : ByteArray := prog_3_method_48_code
def yX1_advise : MethodName := ⟨RX1, "advise", "(II)I"⟩
abbrev cX1_areTones : ByteArray := prog_3_method_49_code
def yX1_areTones : MethodName := ⟨RX1, "areTones", "(II)Z"⟩
abbrev cX1_tones : ByteArray := prog_3_method_50_code
def yX1_tones : MethodName := ⟨RX1, "tones", "(II)Z"⟩
abbrev cX1_mean : ByteArray := prog_3_method_51_code
def yX1_mean : MethodName := ⟨RX1, "mean", "(I)D"⟩
abbrev cX1_digest : ByteArray := prog_3_method_52_code
def yX1_digest : MethodName := ⟨RX1, "digest", "()J"⟩
def RJ9 : String := "java/lang/Math"
def TJ9 : u_T := fun k => match k with
  | _ => ("", "", "", false)
def tyJ9 : Nat → FieldType := fun k => match k with
  | _ => .int
abbrev wsJ90 : List Cond := u_ws RJ9 TJ9 0
theorem nmJ9 : ∀ a, a < 0 → ∀ b, b < 0 → a ≠ b → (TJ9 a).2.1 ≠ (TJ9 b).2.1 := by decide +kernel
theorem tyJ9_ok : ∀ k, k < 0 → parseFieldDescriptor (TJ9 k).2.2.1 = some (tyJ9 k) := by decide +kernel
abbrev cJ9_floorMod_7cf53 : ByteArray := prog_7_method_50_code
def yJ9_floorMod_7cf53 : MethodName := ⟨RJ9, "floorMod", "(II)I"⟩
abbrev cJ9_max_7cf53 : ByteArray := prog_7_method_65_code
def yJ9_max_7cf53 : MethodName := ⟨RJ9, "max", "(II)I"⟩
def RJ0 : String := "java/lang/String"
def TJ0 : u_T := fun k => match k with
  | _ => ("", "", "", false)
def tyJ0 : Nat → FieldType := fun k => match k with
  | _ => .int
abbrev wsJ00 : List Cond := u_ws RJ0 TJ0 0
theorem nmJ0 : ∀ a, a < 0 → ∀ b, b < 0 → a ≠ b → (TJ0 a).2.1 ≠ (TJ0 b).2.1 := by decide +kernel
theorem tyJ0_ok : ∀ k, k < 0 → parseFieldDescriptor (TJ0 k).2.2.1 = some (tyJ0 k) := by decide +kernel
def RJ10 : String := "java/lang/System"
def TJ10 : u_T := fun k => match k with
  | _ => ("", "", "", false)
def tyJ10 : Nat → FieldType := fun k => match k with
  | _ => .int
abbrev wsJ100 : List Cond := u_ws RJ10 TJ10 0
theorem nmJ10 : ∀ a, a < 0 → ∀ b, b < 0 → a ≠ b → (TJ10 a).2.1 ≠ (TJ10 b).2.1 := by decide +kernel
theorem tyJ10_ok : ∀ k, k < 0 → parseFieldDescriptor (TJ10 k).2.2.1 = some (tyJ10 k) := by decide +kernel
def RL : String := "ToneButterfliesLaw"
abbrev cL_ring : ByteArray := method_3_code
def yL_ring : MethodName := ⟨RL, "ring", "(LToneButterflies;II[J)I"⟩
abbrev cL_order : ByteArray := method_4_code
def yL_order : MethodName := ⟨RL, "order", "(LToneButterflies;I[J)I"⟩
abbrev cL_inverse : ByteArray := method_5_code
def yL_inverse : MethodName := ⟨RL, "inverse", "(LToneButterflies;I[J)I"⟩
abbrev cL_root : ByteArray := method_6_code
def yL_root : MethodName := ⟨RL, "root", "(LToneButterflies;I[J)I"⟩
abbrev cL_set : ByteArray := method_7_code
def yL_set : MethodName := ⟨RL, "set", "(LToneButterflies;III[J)I"⟩
abbrev cL_copy : ByteArray := method_8_code
def yL_copy : MethodName := ⟨RL, "copy", "(LToneButterflies;II[J)I"⟩
abbrev cL_turn : ByteArray := method_9_code
def yL_turn : MethodName := ⟨RL, "turn", "(LToneButterflies;IZ[J)I"⟩
abbrev cL_mirror : ByteArray := method_10_code
def yL_mirror : MethodName := ⟨RL, "mirror", "(LToneButterflies;I[J)I"⟩
abbrev cL_stage : ByteArray := method_11_code
def yL_stage : MethodName := ⟨RL, "stage", "(LToneButterflies;II[J)I"⟩
abbrev cL_fold : ByteArray := method_12_code
def yL_fold : MethodName := ⟨RL, "fold", "(LToneButterflies;II[J)I"⟩
abbrev cL_join : ByteArray := method_13_code
def yL_join : MethodName := ⟨RL, "join", "(LToneButterflies;III[J)I"⟩
abbrev cL_move : ByteArray := method_14_code
def yL_move : MethodName := ⟨RL, "move", "(LToneButterflies;II[J)I"⟩
abbrev cL_times : ByteArray := method_15_code
def yL_times : MethodName := ⟨RL, "times", "(LToneButterflies;II[J)I"⟩
abbrev cL_at : ByteArray := method_16_code
def yL_at : MethodName := ⟨RL, "at", "(LToneButterflies;II[J)I"⟩
abbrev cL_point : ByteArray := method_17_code
def yL_point : MethodName := ⟨RL, "point", "(LToneButterflies;II[J)I"⟩
abbrev cL_about : ByteArray := method_18_code
def yL_about : MethodName := ⟨RL, "about", "(LToneButterflies;II[J)I"⟩
abbrev cL_count : ByteArray := method_19_code
def yL_count : MethodName := ⟨RL, "count", "(LToneButterflies;I[J)I"⟩
abbrev cL_would : ByteArray := method_20_code
def yL_would : MethodName := ⟨RL, "would", "(LToneButterflies;III[J)I"⟩
abbrev cL_comes : ByteArray := method_21_code
def yL_comes : MethodName := ⟨RL, "comes", "(LToneButterflies;II[J)I"⟩
abbrev cL_advise : ByteArray := method_22_code
def yL_advise : MethodName := ⟨RL, "advise", "(LToneButterflies;II[J)I"⟩
abbrev cL_tones : ByteArray := method_23_code
def yL_tones : MethodName := ⟨RL, "tones", "(LToneButterflies;II[J)I"⟩
abbrev cL_mean : ByteArray := method_24_code
def yL_mean : MethodName := ⟨RL, "mean", "(LToneButterflies;I[D)I"⟩
abbrev cL_law : ByteArray := code
def yL_law : MethodName := ⟨RL, "law", "([I)Z"⟩
def wsJ9_floorMod_7cf53 : List Cond := .code yJ9_floorMod_7cf53 cJ9_floorMod_7cf53 3 (some .int) :: ([])
def wsX0_reduced : List Cond := .code yX0_reduced cX0_reduced 2 (some .int) :: ([.fieldLink RX0 43 "ToneButterflies" "prime" "I", .methodLink RX0 168 yJ9_floorMod_7cf53, .static yJ9_floorMod_7cf53, .initialized RJ9, .code yJ9_floorMod_7cf53 cJ9_floorMod_7cf53 3 (some .int)] ++ wsX00)
def wsX0_powerOf : List Cond := .code yX0_powerOf cX0_powerOf 6 (some .int) :: ([.methodLink RX0 46 yX0_reduced, .instanceMethod yX0_reduced, .selects RX0 yX0_reduced yX0_reduced, .initialized RX0, .code yX0_reduced cX0_reduced 2 (some .int), .fieldLink RX0 43 "ToneButterflies" "prime" "I", .methodLink RX0 168 yJ9_floorMod_7cf53, .static yJ9_floorMod_7cf53, .initialized RJ9, .code yJ9_floorMod_7cf53 cJ9_floorMod_7cf53 3 (some .int)] ++ wsX00)
def wsX0_smallestRoot : List Cond := .code yX0_smallestRoot cX0_smallestRoot 2 (some .int) :: ([.fieldLink RX0 43 "ToneButterflies" "prime" "I", .fieldLink RX0 84 "ToneButterflies" "length" "I", .methodLink RX0 55 yX0_powerOf, .instanceMethod yX0_powerOf, .selects RX0 yX0_powerOf yX0_powerOf, .initialized RX0, .code yX0_powerOf cX0_powerOf 6 (some .int), .methodLink RX0 46 yX0_reduced, .instanceMethod yX0_reduced, .selects RX0 yX0_reduced yX0_reduced, .code yX0_reduced cX0_reduced 2 (some .int), .methodLink RX0 168 yJ9_floorMod_7cf53, .static yJ9_floorMod_7cf53, .initialized RJ9, .code yJ9_floorMod_7cf53 cJ9_floorMod_7cf53 3 (some .int)] ++ wsX00)
def wsX0_inverseOf : List Cond := .code yX0_inverseOf cX0_inverseOf 2 (some .int) :: ([.fieldLink RX0 43 "ToneButterflies" "prime" "I", .methodLink RX0 55 yX0_powerOf, .instanceMethod yX0_powerOf, .selects RX0 yX0_powerOf yX0_powerOf, .initialized RX0, .code yX0_powerOf cX0_powerOf 6 (some .int), .methodLink RX0 46 yX0_reduced, .instanceMethod yX0_reduced, .selects RX0 yX0_reduced yX0_reduced, .code yX0_reduced cX0_reduced 2 (some .int), .methodLink RX0 168 yJ9_floorMod_7cf53, .static yJ9_floorMod_7cf53, .initialized RJ9, .code yJ9_floorMod_7cf53 cJ9_floorMod_7cf53 3 (some .int)] ++ wsX00)
def wsX0_takeRing_r1 : List Cond := [Cond.fieldLink RX0 84 "ToneButterflies" "length" "I", Cond.fieldLink RX0 43 "ToneButterflies" "prime" "I", Cond.fieldLink RX0 90 "ToneButterflies" "bits" "I", Cond.fieldLink RX0 35 "ToneButterflies" "unityRoot" "I", Cond.fieldLink RX0 162 "ToneButterflies" "unityRootInverse" "I", Cond.fieldLink RX0 165 "ToneButterflies" "lengthInverse" "I", Cond.fieldLink RX0 9 "ToneButterflies" "numbers" "[I", Cond.methodLink RX0 158 yX0_smallestRoot, Cond.instanceMethod yX0_smallestRoot, Cond.selects RX0 yX0_smallestRoot yX0_smallestRoot, Cond.initialized RX0, Cond.code yX0_smallestRoot cX0_smallestRoot 2 (some .int), Cond.methodLink RX0 55 yX0_powerOf, Cond.instanceMethod yX0_powerOf, Cond.selects RX0 yX0_powerOf yX0_powerOf, Cond.code yX0_powerOf cX0_powerOf 6 (some .int), Cond.methodLink RX0 46 yX0_reduced, Cond.instanceMethod yX0_reduced, Cond.selects RX0 yX0_reduced yX0_reduced, Cond.code yX0_reduced cX0_reduced 2 (some .int), Cond.methodLink RX0 168 yJ9_floorMod_7cf53, Cond.static yJ9_floorMod_7cf53, Cond.initialized RJ9, Cond.code yJ9_floorMod_7cf53 cJ9_floorMod_7cf53 3 (some .int)]
def wsX0_takeRing_r2 : List Cond := [Cond.methodLink RX0 50 yX0_inverseOf, Cond.instanceMethod yX0_inverseOf, Cond.selects RX0 yX0_inverseOf yX0_inverseOf, Cond.code yX0_inverseOf cX0_inverseOf 2 (some .int)]
def wsX0_takeRing : List Cond := .code yX0_takeRing cX0_takeRing 4 none :: ((wsX0_takeRing_r1 ++ wsX0_takeRing_r2) ++ wsX00)
def wsX0_init_r1 : List Cond := [Cond.methodLink RX0 3 objectInit, Cond.instanceMethod objectInit, Cond.code objectInit ⟨#[0xb1]⟩ 1 none, Cond.arrayClass .int, Cond.fieldLink RX0 9 "ToneButterflies" "numbers" "[I", Cond.methodLink RX0 13 yX0_takeRing, Cond.instanceMethod yX0_takeRing, Cond.selects RX0 yX0_takeRing yX0_takeRing, Cond.initialized RX0, Cond.code yX0_takeRing cX0_takeRing 4 none, Cond.fieldLink RX0 84 "ToneButterflies" "length" "I", Cond.fieldLink RX0 43 "ToneButterflies" "prime" "I", Cond.fieldLink RX0 90 "ToneButterflies" "bits" "I", Cond.fieldLink RX0 35 "ToneButterflies" "unityRoot" "I", Cond.fieldLink RX0 162 "ToneButterflies" "unityRootInverse" "I", Cond.fieldLink RX0 165 "ToneButterflies" "lengthInverse" "I", Cond.methodLink RX0 158 yX0_smallestRoot, Cond.instanceMethod yX0_smallestRoot, Cond.selects RX0 yX0_smallestRoot yX0_smallestRoot, Cond.code yX0_smallestRoot cX0_smallestRoot 2 (some .int), Cond.methodLink RX0 55 yX0_powerOf, Cond.instanceMethod yX0_powerOf, Cond.selects RX0 yX0_powerOf yX0_powerOf, Cond.code yX0_powerOf cX0_powerOf 6 (some .int)]
def wsX0_init_r2 : List Cond := [Cond.methodLink RX0 46 yX0_reduced, Cond.instanceMethod yX0_reduced, Cond.selects RX0 yX0_reduced yX0_reduced, Cond.code yX0_reduced cX0_reduced 2 (some .int), Cond.methodLink RX0 168 yJ9_floorMod_7cf53, Cond.static yJ9_floorMod_7cf53, Cond.initialized RJ9, Cond.code yJ9_floorMod_7cf53 cJ9_floorMod_7cf53 3 (some .int), Cond.methodLink RX0 50 yX0_inverseOf, Cond.instanceMethod yX0_inverseOf, Cond.selects RX0 yX0_inverseOf yX0_inverseOf, Cond.code yX0_inverseOf cX0_inverseOf 2 (some .int)]
def wsX0_init : List Cond := .code yX0_init cX0_init 1 none :: ((wsX0_init_r1 ++ wsX0_init_r2) ++ wsX00)
def wsX0_isLength : List Cond := .code yX0_isLength cX0_isLength 1 (some .boolean) :: ([])
def wsX0_divides : List Cond := .code yX0_divides cX0_divides 2 (some .boolean) :: ([])
def wsX0_isPrimeOfRing : List Cond := .code yX0_isPrimeOfRing cX0_isPrimeOfRing 2 (some .boolean) :: ([.methodLink RX0 24 yX0_divides, .static yX0_divides, .initialized RX0, .code yX0_divides cX0_divides 2 (some .boolean)])
def wsX0_ring_r1 : List Cond := [Cond.classLink RX0 28 "java/lang/IllegalArgumentException", Cond.initialized "java/lang/IllegalArgumentException", Cond.fieldLink RX0 35 "ToneButterflies" "unityRoot" "I", Cond.methodLink RX0 17 yX0_isLength, Cond.static yX0_isLength, Cond.initialized RX0, Cond.code yX0_isLength cX0_isLength 1 (some .boolean), Cond.methodLink RX0 21 yX0_isPrimeOfRing, Cond.static yX0_isPrimeOfRing, Cond.code yX0_isPrimeOfRing cX0_isPrimeOfRing 2 (some .boolean), Cond.methodLink RX0 24 yX0_divides, Cond.static yX0_divides, Cond.code yX0_divides cX0_divides 2 (some .boolean), Cond.methodLink RX0 13 yX0_takeRing, Cond.instanceMethod yX0_takeRing, Cond.selects RX0 yX0_takeRing yX0_takeRing, Cond.code yX0_takeRing cX0_takeRing 4 none, Cond.fieldLink RX0 84 "ToneButterflies" "length" "I", Cond.fieldLink RX0 43 "ToneButterflies" "prime" "I", Cond.fieldLink RX0 90 "ToneButterflies" "bits" "I", Cond.fieldLink RX0 162 "ToneButterflies" "unityRootInverse" "I", Cond.fieldLink RX0 165 "ToneButterflies" "lengthInverse" "I", Cond.fieldLink RX0 9 "ToneButterflies" "numbers" "[I", Cond.methodLink RX0 158 yX0_smallestRoot]
def wsX0_ring_r2 : List Cond := [Cond.instanceMethod yX0_smallestRoot, Cond.selects RX0 yX0_smallestRoot yX0_smallestRoot, Cond.code yX0_smallestRoot cX0_smallestRoot 2 (some .int), Cond.methodLink RX0 55 yX0_powerOf, Cond.instanceMethod yX0_powerOf, Cond.selects RX0 yX0_powerOf yX0_powerOf, Cond.code yX0_powerOf cX0_powerOf 6 (some .int), Cond.methodLink RX0 46 yX0_reduced, Cond.instanceMethod yX0_reduced, Cond.selects RX0 yX0_reduced yX0_reduced, Cond.code yX0_reduced cX0_reduced 2 (some .int), Cond.methodLink RX0 168 yJ9_floorMod_7cf53, Cond.static yJ9_floorMod_7cf53, Cond.initialized RJ9, Cond.code yJ9_floorMod_7cf53 cJ9_floorMod_7cf53 3 (some .int), Cond.methodLink RX0 50 yX0_inverseOf, Cond.instanceMethod yX0_inverseOf, Cond.selects RX0 yX0_inverseOf yX0_inverseOf, Cond.code yX0_inverseOf cX0_inverseOf 2 (some .int)]
def wsX0_ring : List Cond := .code yX0_ring cX0_ring 3 (some .int) :: ((wsX0_ring_r1 ++ wsX0_ring_r2) ++ wsX00 ++ (vx_atS RX0 32 "java/lang/IllegalArgumentException" ["java/lang/RuntimeException", "java/lang/Exception"]).filter goodWord)
def wsX0_requireInvertible : List Cond := .code yX0_requireInvertible cX0_requireInvertible 2 none :: ([.classLink RX0 28 "java/lang/IllegalArgumentException", .initialized "java/lang/IllegalArgumentException", .fieldLink RX0 43 "ToneButterflies" "prime" "I"] ++ wsX00 ++ (vx_atS RX0 32 "java/lang/IllegalArgumentException" ["java/lang/RuntimeException", "java/lang/Exception"]).filter goodWord)
def wsX0_order : List Cond := .code yX0_order cX0_order 4 (some .int) :: ([.fieldLink RX0 43 "ToneButterflies" "prime" "I", .methodLink RX0 39 yX0_requireInvertible, .instanceMethod yX0_requireInvertible, .selects RX0 yX0_requireInvertible yX0_requireInvertible, .initialized RX0, .code yX0_requireInvertible cX0_requireInvertible 2 none, .classLink RX0 28 "java/lang/IllegalArgumentException", .initialized "java/lang/IllegalArgumentException", .methodLink RX0 46 yX0_reduced, .instanceMethod yX0_reduced, .selects RX0 yX0_reduced yX0_reduced, .code yX0_reduced cX0_reduced 2 (some .int), .methodLink RX0 168 yJ9_floorMod_7cf53, .static yJ9_floorMod_7cf53, .initialized RJ9, .code yJ9_floorMod_7cf53 cJ9_floorMod_7cf53 3 (some .int)] ++ wsX00 ++ (vx_atS RX0 32 "java/lang/IllegalArgumentException" ["java/lang/RuntimeException", "java/lang/Exception"]).filter goodWord)
def wsX0_inverse : List Cond := .code yX0_inverse cX0_inverse 2 (some .int) :: ([.methodLink RX0 39 yX0_requireInvertible, .instanceMethod yX0_requireInvertible, .selects RX0 yX0_requireInvertible yX0_requireInvertible, .initialized RX0, .code yX0_requireInvertible cX0_requireInvertible 2 none, .classLink RX0 28 "java/lang/IllegalArgumentException", .initialized "java/lang/IllegalArgumentException", .fieldLink RX0 43 "ToneButterflies" "prime" "I", .methodLink RX0 50 yX0_inverseOf, .instanceMethod yX0_inverseOf, .selects RX0 yX0_inverseOf yX0_inverseOf, .code yX0_inverseOf cX0_inverseOf 2 (some .int), .methodLink RX0 55 yX0_powerOf, .instanceMethod yX0_powerOf, .selects RX0 yX0_powerOf yX0_powerOf, .code yX0_powerOf cX0_powerOf 6 (some .int), .methodLink RX0 46 yX0_reduced, .instanceMethod yX0_reduced, .selects RX0 yX0_reduced yX0_reduced, .code yX0_reduced cX0_reduced 2 (some .int), .methodLink RX0 168 yJ9_floorMod_7cf53, .static yJ9_floorMod_7cf53, .initialized RJ9, .code yJ9_floorMod_7cf53 cJ9_floorMod_7cf53 3 (some .int)] ++ wsX00 ++ (vx_atS RX0 32 "java/lang/IllegalArgumentException" ["java/lang/RuntimeException", "java/lang/Exception"]).filter goodWord)
def wsX0_root : List Cond := .code yX0_root cX0_root 2 (some .int) :: ([.classLink RX0 28 "java/lang/IllegalArgumentException", .initialized "java/lang/IllegalArgumentException", .fieldLink RX0 35 "ToneButterflies" "unityRoot" "I", .methodLink RX0 55 yX0_powerOf, .instanceMethod yX0_powerOf, .selects RX0 yX0_powerOf yX0_powerOf, .initialized RX0, .code yX0_powerOf cX0_powerOf 6 (some .int), .methodLink RX0 46 yX0_reduced, .instanceMethod yX0_reduced, .selects RX0 yX0_reduced yX0_reduced, .code yX0_reduced cX0_reduced 2 (some .int), .fieldLink RX0 43 "ToneButterflies" "prime" "I", .methodLink RX0 168 yJ9_floorMod_7cf53, .static yJ9_floorMod_7cf53, .initialized RJ9, .code yJ9_floorMod_7cf53 cJ9_floorMod_7cf53 3 (some .int)] ++ wsX00 ++ (vx_atS RX0 32 "java/lang/IllegalArgumentException" ["java/lang/RuntimeException", "java/lang/Exception"]).filter goodWord)
def wsX0_requireRow : List Cond := .code yX0_requireRow cX0_requireRow 2 none :: ([.classLink RX0 93 "java/lang/IndexOutOfBoundsException", .initialized "java/lang/IndexOutOfBoundsException"] ++ (vx_atS RX0 97 "java/lang/IndexOutOfBoundsException" ["java/lang/RuntimeException", "java/lang/Exception"]).filter goodWord)
def wsX0_requirePlace : List Cond := .code yX0_requirePlace cX0_requirePlace 2 none :: ([.classLink RX0 93 "java/lang/IndexOutOfBoundsException", .initialized "java/lang/IndexOutOfBoundsException", .fieldLink RX0 84 "ToneButterflies" "length" "I"] ++ wsX00 ++ (vx_atS RX0 97 "java/lang/IndexOutOfBoundsException" ["java/lang/RuntimeException", "java/lang/Exception"]).filter goodWord)
def wsX0_requireNumber : List Cond := .code yX0_requireNumber cX0_requireNumber 2 none :: ([.classLink RX0 28 "java/lang/IllegalArgumentException", .initialized "java/lang/IllegalArgumentException", .fieldLink RX0 43 "ToneButterflies" "prime" "I"] ++ wsX00 ++ (vx_atS RX0 32 "java/lang/IllegalArgumentException" ["java/lang/RuntimeException", "java/lang/Exception"]).filter goodWord)
def wsX0_read : List Cond := .code yX0_read cX0_read 4 (some .int) :: ([.fieldLink RX0 9 "ToneButterflies" "numbers" "[I"] ++ wsX00)
def wsX0_write : List Cond := .code yX0_write cX0_write 5 none :: ([.fieldLink RX0 9 "ToneButterflies" "numbers" "[I"] ++ wsX00)
def wsX0_set_r1 : List Cond := [Cond.methodLink RX0 59 yX0_requireRow, Cond.instanceMethod yX0_requireRow, Cond.selects RX0 yX0_requireRow yX0_requireRow, Cond.initialized RX0, Cond.code yX0_requireRow cX0_requireRow 2 none, Cond.classLink RX0 93 "java/lang/IndexOutOfBoundsException", Cond.initialized "java/lang/IndexOutOfBoundsException", Cond.methodLink RX0 62 yX0_requirePlace, Cond.instanceMethod yX0_requirePlace, Cond.selects RX0 yX0_requirePlace yX0_requirePlace, Cond.code yX0_requirePlace cX0_requirePlace 2 none, Cond.fieldLink RX0 84 "ToneButterflies" "length" "I", Cond.methodLink RX0 65 yX0_requireNumber, Cond.instanceMethod yX0_requireNumber, Cond.selects RX0 yX0_requireNumber yX0_requireNumber, Cond.code yX0_requireNumber cX0_requireNumber 2 none, Cond.classLink RX0 28 "java/lang/IllegalArgumentException", Cond.initialized "java/lang/IllegalArgumentException", Cond.fieldLink RX0 43 "ToneButterflies" "prime" "I", Cond.methodLink RX0 68 yX0_read, Cond.instanceMethod yX0_read, Cond.selects RX0 yX0_read yX0_read, Cond.code yX0_read cX0_read 4 (some .int), Cond.fieldLink RX0 9 "ToneButterflies" "numbers" "[I"]
def wsX0_set_r2 : List Cond := [Cond.methodLink RX0 71 yX0_write, Cond.instanceMethod yX0_write, Cond.selects RX0 yX0_write yX0_write, Cond.code yX0_write cX0_write 5 none]
def wsX0_set : List Cond := .code yX0_set cX0_set 5 (some .int) :: ((wsX0_set_r1 ++ wsX0_set_r2) ++ wsX00 ++ (vx_atS RX0 97 "java/lang/IndexOutOfBoundsException" ["java/lang/RuntimeException", "java/lang/Exception"]).filter goodWord ++ (vx_atS RX0 32 "java/lang/IllegalArgumentException" ["java/lang/RuntimeException", "java/lang/Exception"]).filter goodWord)
def wsX0_copyRow : List Cond := .code yX0_copyRow cX0_copyRow 6 (some .int) :: ([.fieldLink RX0 84 "ToneButterflies" "length" "I", .methodLink RX0 68 yX0_read, .instanceMethod yX0_read, .selects RX0 yX0_read yX0_read, .initialized RX0, .code yX0_read cX0_read 4 (some .int), .fieldLink RX0 9 "ToneButterflies" "numbers" "[I", .methodLink RX0 71 yX0_write, .instanceMethod yX0_write, .selects RX0 yX0_write yX0_write, .code yX0_write cX0_write 5 none] ++ wsX00)
def wsX0_copy : List Cond := .code yX0_copy cX0_copy 3 (some .int) :: ([.methodLink RX0 59 yX0_requireRow, .instanceMethod yX0_requireRow, .selects RX0 yX0_requireRow yX0_requireRow, .initialized RX0, .code yX0_requireRow cX0_requireRow 2 none, .classLink RX0 93 "java/lang/IndexOutOfBoundsException", .initialized "java/lang/IndexOutOfBoundsException", .methodLink RX0 75 yX0_copyRow, .instanceMethod yX0_copyRow, .selects RX0 yX0_copyRow yX0_copyRow, .code yX0_copyRow cX0_copyRow 6 (some .int), .fieldLink RX0 84 "ToneButterflies" "length" "I", .methodLink RX0 68 yX0_read, .instanceMethod yX0_read, .selects RX0 yX0_read yX0_read, .code yX0_read cX0_read 4 (some .int), .fieldLink RX0 9 "ToneButterflies" "numbers" "[I", .methodLink RX0 71 yX0_write, .instanceMethod yX0_write, .selects RX0 yX0_write yX0_write, .code yX0_write cX0_write 5 none] ++ wsX00 ++ (vx_atS RX0 97 "java/lang/IndexOutOfBoundsException" ["java/lang/RuntimeException", "java/lang/Exception"]).filter goodWord)
def wsX0_valueAt : List Cond := .code yX0_valueAt cX0_valueAt 5 (some .int) :: ([.fieldLink RX0 84 "ToneButterflies" "length" "I", .methodLink RX0 68 yX0_read, .instanceMethod yX0_read, .selects RX0 yX0_read yX0_read, .initialized RX0, .code yX0_read cX0_read 4 (some .int), .fieldLink RX0 9 "ToneButterflies" "numbers" "[I", .methodLink RX0 46 yX0_reduced, .instanceMethod yX0_reduced, .selects RX0 yX0_reduced yX0_reduced, .code yX0_reduced cX0_reduced 2 (some .int), .fieldLink RX0 43 "ToneButterflies" "prime" "I", .methodLink RX0 168 yJ9_floorMod_7cf53, .static yJ9_floorMod_7cf53, .initialized RJ9, .code yJ9_floorMod_7cf53 cJ9_floorMod_7cf53 3 (some .int)] ++ wsX00)
def wsX0_scratchValues : List Cond := .code yX0_scratchValues cX0_scratchValues 6 none :: ([.fieldLink RX0 84 "ToneButterflies" "length" "I", .methodLink RX0 119 yX0_valueAt, .instanceMethod yX0_valueAt, .selects RX0 yX0_valueAt yX0_valueAt, .initialized RX0, .code yX0_valueAt cX0_valueAt 5 (some .int), .methodLink RX0 68 yX0_read, .instanceMethod yX0_read, .selects RX0 yX0_read yX0_read, .code yX0_read cX0_read 4 (some .int), .fieldLink RX0 9 "ToneButterflies" "numbers" "[I", .methodLink RX0 46 yX0_reduced, .instanceMethod yX0_reduced, .selects RX0 yX0_reduced yX0_reduced, .code yX0_reduced cX0_reduced 2 (some .int), .fieldLink RX0 43 "ToneButterflies" "prime" "I", .methodLink RX0 168 yJ9_floorMod_7cf53, .static yJ9_floorMod_7cf53, .initialized RJ9, .code yJ9_floorMod_7cf53 cJ9_floorMod_7cf53 3 (some .int), .methodLink RX0 71 yX0_write, .instanceMethod yX0_write, .selects RX0 yX0_write yX0_write, .code yX0_write cX0_write 5 none] ++ wsX00)
def wsX0_scratchTurnedBack_r1 : List Cond := [Cond.fieldLink RX0 162 "ToneButterflies" "unityRootInverse" "I", Cond.fieldLink RX0 165 "ToneButterflies" "lengthInverse" "I", Cond.methodLink RX0 173 yX0_scratchValues, Cond.instanceMethod yX0_scratchValues, Cond.selects RX0 yX0_scratchValues yX0_scratchValues, Cond.initialized RX0, Cond.code yX0_scratchValues cX0_scratchValues 6 none, Cond.fieldLink RX0 84 "ToneButterflies" "length" "I", Cond.methodLink RX0 119 yX0_valueAt, Cond.instanceMethod yX0_valueAt, Cond.selects RX0 yX0_valueAt yX0_valueAt, Cond.code yX0_valueAt cX0_valueAt 5 (some .int), Cond.methodLink RX0 68 yX0_read, Cond.instanceMethod yX0_read, Cond.selects RX0 yX0_read yX0_read, Cond.code yX0_read cX0_read 4 (some .int), Cond.fieldLink RX0 9 "ToneButterflies" "numbers" "[I", Cond.methodLink RX0 46 yX0_reduced, Cond.instanceMethod yX0_reduced, Cond.selects RX0 yX0_reduced yX0_reduced, Cond.code yX0_reduced cX0_reduced 2 (some .int), Cond.fieldLink RX0 43 "ToneButterflies" "prime" "I", Cond.methodLink RX0 168 yJ9_floorMod_7cf53, Cond.static yJ9_floorMod_7cf53]
def wsX0_scratchTurnedBack_r2 : List Cond := [Cond.initialized RJ9, Cond.code yJ9_floorMod_7cf53 cJ9_floorMod_7cf53 3 (some .int), Cond.methodLink RX0 71 yX0_write, Cond.instanceMethod yX0_write, Cond.selects RX0 yX0_write yX0_write, Cond.code yX0_write cX0_write 5 none]
def wsX0_scratchTurnedBack : List Cond := .code yX0_scratchTurnedBack cX0_scratchTurnedBack 2 none :: ((wsX0_scratchTurnedBack_r1 ++ wsX0_scratchTurnedBack_r2) ++ wsX00)
def wsX0_scratchTones_r1 : List Cond := [Cond.fieldLink RX0 35 "ToneButterflies" "unityRoot" "I", Cond.methodLink RX0 173 yX0_scratchValues, Cond.instanceMethod yX0_scratchValues, Cond.selects RX0 yX0_scratchValues yX0_scratchValues, Cond.initialized RX0, Cond.code yX0_scratchValues cX0_scratchValues 6 none, Cond.fieldLink RX0 84 "ToneButterflies" "length" "I", Cond.methodLink RX0 119 yX0_valueAt, Cond.instanceMethod yX0_valueAt, Cond.selects RX0 yX0_valueAt yX0_valueAt, Cond.code yX0_valueAt cX0_valueAt 5 (some .int), Cond.methodLink RX0 68 yX0_read, Cond.instanceMethod yX0_read, Cond.selects RX0 yX0_read yX0_read, Cond.code yX0_read cX0_read 4 (some .int), Cond.fieldLink RX0 9 "ToneButterflies" "numbers" "[I", Cond.methodLink RX0 46 yX0_reduced, Cond.instanceMethod yX0_reduced, Cond.selects RX0 yX0_reduced yX0_reduced, Cond.code yX0_reduced cX0_reduced 2 (some .int), Cond.fieldLink RX0 43 "ToneButterflies" "prime" "I", Cond.methodLink RX0 168 yJ9_floorMod_7cf53, Cond.static yJ9_floorMod_7cf53, Cond.initialized RJ9]
def wsX0_scratchTones_r2 : List Cond := [Cond.code yJ9_floorMod_7cf53 cJ9_floorMod_7cf53 3 (some .int), Cond.methodLink RX0 71 yX0_write, Cond.instanceMethod yX0_write, Cond.selects RX0 yX0_write yX0_write, Cond.code yX0_write cX0_write 5 none]
def wsX0_scratchTones : List Cond := .code yX0_scratchTones cX0_scratchTones 2 none :: ((wsX0_scratchTones_r1 ++ wsX0_scratchTones_r2) ++ wsX00)
def wsX0_turn_r1 : List Cond := [Cond.methodLink RX0 59 yX0_requireRow, Cond.instanceMethod yX0_requireRow, Cond.selects RX0 yX0_requireRow yX0_requireRow, Cond.initialized RX0, Cond.code yX0_requireRow cX0_requireRow 2 none, Cond.classLink RX0 93 "java/lang/IndexOutOfBoundsException", Cond.initialized "java/lang/IndexOutOfBoundsException", Cond.methodLink RX0 78 yX0_scratchTurnedBack, Cond.instanceMethod yX0_scratchTurnedBack, Cond.selects RX0 yX0_scratchTurnedBack yX0_scratchTurnedBack, Cond.code yX0_scratchTurnedBack cX0_scratchTurnedBack 2 none, Cond.fieldLink RX0 162 "ToneButterflies" "unityRootInverse" "I", Cond.fieldLink RX0 165 "ToneButterflies" "lengthInverse" "I", Cond.methodLink RX0 173 yX0_scratchValues, Cond.instanceMethod yX0_scratchValues, Cond.selects RX0 yX0_scratchValues yX0_scratchValues, Cond.code yX0_scratchValues cX0_scratchValues 6 none, Cond.fieldLink RX0 84 "ToneButterflies" "length" "I", Cond.methodLink RX0 119 yX0_valueAt, Cond.instanceMethod yX0_valueAt, Cond.selects RX0 yX0_valueAt yX0_valueAt, Cond.code yX0_valueAt cX0_valueAt 5 (some .int), Cond.methodLink RX0 68 yX0_read, Cond.instanceMethod yX0_read]
def wsX0_turn_r2 : List Cond := [Cond.selects RX0 yX0_read yX0_read, Cond.code yX0_read cX0_read 4 (some .int), Cond.fieldLink RX0 9 "ToneButterflies" "numbers" "[I", Cond.methodLink RX0 46 yX0_reduced, Cond.instanceMethod yX0_reduced, Cond.selects RX0 yX0_reduced yX0_reduced, Cond.code yX0_reduced cX0_reduced 2 (some .int), Cond.fieldLink RX0 43 "ToneButterflies" "prime" "I", Cond.methodLink RX0 168 yJ9_floorMod_7cf53, Cond.static yJ9_floorMod_7cf53, Cond.initialized RJ9, Cond.code yJ9_floorMod_7cf53 cJ9_floorMod_7cf53 3 (some .int), Cond.methodLink RX0 71 yX0_write, Cond.instanceMethod yX0_write, Cond.selects RX0 yX0_write yX0_write, Cond.code yX0_write cX0_write 5 none, Cond.methodLink RX0 81 yX0_scratchTones, Cond.instanceMethod yX0_scratchTones, Cond.selects RX0 yX0_scratchTones yX0_scratchTones, Cond.code yX0_scratchTones cX0_scratchTones 2 none, Cond.fieldLink RX0 35 "ToneButterflies" "unityRoot" "I", Cond.methodLink RX0 75 yX0_copyRow, Cond.instanceMethod yX0_copyRow, Cond.selects RX0 yX0_copyRow yX0_copyRow]
def wsX0_turn_r3 : List Cond := [Cond.code yX0_copyRow cX0_copyRow 6 (some .int)]
def wsX0_turn : List Cond := .code yX0_turn cX0_turn 3 (some .int) :: ((wsX0_turn_r1 ++ (wsX0_turn_r2 ++ wsX0_turn_r3)) ++ wsX00 ++ (vx_atS RX0 97 "java/lang/IndexOutOfBoundsException" ["java/lang/RuntimeException", "java/lang/Exception"]).filter goodWord)
def wsX0_mirrored : List Cond := .code yX0_mirrored cX0_mirrored 4 (some .int) :: ([.fieldLink RX0 90 "ToneButterflies" "bits" "I"] ++ wsX00)
def wsX0_mirror_r1 : List Cond := [Cond.fieldLink RX0 84 "ToneButterflies" "length" "I", Cond.methodLink RX0 59 yX0_requireRow, Cond.instanceMethod yX0_requireRow, Cond.selects RX0 yX0_requireRow yX0_requireRow, Cond.initialized RX0, Cond.code yX0_requireRow cX0_requireRow 2 none, Cond.classLink RX0 93 "java/lang/IndexOutOfBoundsException", Cond.initialized "java/lang/IndexOutOfBoundsException", Cond.methodLink RX0 87 yX0_mirrored, Cond.instanceMethod yX0_mirrored, Cond.selects RX0 yX0_mirrored yX0_mirrored, Cond.code yX0_mirrored cX0_mirrored 4 (some .int), Cond.fieldLink RX0 90 "ToneButterflies" "bits" "I", Cond.methodLink RX0 68 yX0_read, Cond.instanceMethod yX0_read, Cond.selects RX0 yX0_read yX0_read, Cond.code yX0_read cX0_read 4 (some .int), Cond.fieldLink RX0 9 "ToneButterflies" "numbers" "[I", Cond.methodLink RX0 71 yX0_write, Cond.instanceMethod yX0_write, Cond.selects RX0 yX0_write yX0_write, Cond.code yX0_write cX0_write 5 none, Cond.methodLink RX0 75 yX0_copyRow, Cond.instanceMethod yX0_copyRow]
def wsX0_mirror_r2 : List Cond := [Cond.selects RX0 yX0_copyRow yX0_copyRow, Cond.code yX0_copyRow cX0_copyRow 6 (some .int)]
def wsX0_mirror : List Cond := .code yX0_mirror cX0_mirror 3 (some .int) :: ((wsX0_mirror_r1 ++ wsX0_mirror_r2) ++ wsX00 ++ (vx_atS RX0 97 "java/lang/IndexOutOfBoundsException" ["java/lang/RuntimeException", "java/lang/Exception"]).filter goodWord)
def wsX0_butterfly : List Cond := .code yX0_butterfly cX0_butterfly 7 none :: ([.methodLink RX0 68 yX0_read, .instanceMethod yX0_read, .selects RX0 yX0_read yX0_read, .initialized RX0, .code yX0_read cX0_read 4 (some .int), .fieldLink RX0 9 "ToneButterflies" "numbers" "[I", .methodLink RX0 46 yX0_reduced, .instanceMethod yX0_reduced, .selects RX0 yX0_reduced yX0_reduced, .code yX0_reduced cX0_reduced 2 (some .int), .fieldLink RX0 43 "ToneButterflies" "prime" "I", .methodLink RX0 168 yJ9_floorMod_7cf53, .static yJ9_floorMod_7cf53, .initialized RJ9, .code yJ9_floorMod_7cf53 cJ9_floorMod_7cf53 3 (some .int), .methodLink RX0 71 yX0_write, .instanceMethod yX0_write, .selects RX0 yX0_write yX0_write, .code yX0_write cX0_write 5 none] ++ wsX00)
def wsX0_stage_r1 : List Cond := [Cond.classLink RX0 93 "java/lang/IndexOutOfBoundsException", Cond.initialized "java/lang/IndexOutOfBoundsException", Cond.fieldLink RX0 90 "ToneButterflies" "bits" "I", Cond.fieldLink RX0 84 "ToneButterflies" "length" "I", Cond.fieldLink RX0 35 "ToneButterflies" "unityRoot" "I", Cond.methodLink RX0 59 yX0_requireRow, Cond.instanceMethod yX0_requireRow, Cond.selects RX0 yX0_requireRow yX0_requireRow, Cond.initialized RX0, Cond.code yX0_requireRow cX0_requireRow 2 none, Cond.methodLink RX0 55 yX0_powerOf, Cond.instanceMethod yX0_powerOf, Cond.selects RX0 yX0_powerOf yX0_powerOf, Cond.code yX0_powerOf cX0_powerOf 6 (some .int), Cond.methodLink RX0 46 yX0_reduced, Cond.instanceMethod yX0_reduced, Cond.selects RX0 yX0_reduced yX0_reduced, Cond.code yX0_reduced cX0_reduced 2 (some .int), Cond.fieldLink RX0 43 "ToneButterflies" "prime" "I", Cond.methodLink RX0 168 yJ9_floorMod_7cf53, Cond.static yJ9_floorMod_7cf53, Cond.initialized RJ9, Cond.code yJ9_floorMod_7cf53 cJ9_floorMod_7cf53 3 (some .int), Cond.methodLink RX0 98 yX0_butterfly]
def wsX0_stage_r2 : List Cond := [Cond.instanceMethod yX0_butterfly, Cond.selects RX0 yX0_butterfly yX0_butterfly, Cond.code yX0_butterfly cX0_butterfly 7 none, Cond.methodLink RX0 68 yX0_read, Cond.instanceMethod yX0_read, Cond.selects RX0 yX0_read yX0_read, Cond.code yX0_read cX0_read 4 (some .int), Cond.fieldLink RX0 9 "ToneButterflies" "numbers" "[I", Cond.methodLink RX0 71 yX0_write, Cond.instanceMethod yX0_write, Cond.selects RX0 yX0_write yX0_write, Cond.code yX0_write cX0_write 5 none]
def wsX0_stage : List Cond := .code yX0_stage cX0_stage 7 (some .int) :: ((wsX0_stage_r1 ++ wsX0_stage_r2) ++ wsX00 ++ (vx_atS RX0 97 "java/lang/IndexOutOfBoundsException" ["java/lang/RuntimeException", "java/lang/Exception"]).filter goodWord)
def wsX0_wrapped : List Cond := .code yX0_wrapped cX0_wrapped 2 (some .int) :: ([.fieldLink RX0 84 "ToneButterflies" "length" "I"] ++ wsX00)
def wsX0_foldedAt : List Cond := .code yX0_foldedAt cX0_foldedAt 6 (some .int) :: ([.fieldLink RX0 84 "ToneButterflies" "length" "I", .methodLink RX0 68 yX0_read, .instanceMethod yX0_read, .selects RX0 yX0_read yX0_read, .initialized RX0, .code yX0_read cX0_read 4 (some .int), .fieldLink RX0 9 "ToneButterflies" "numbers" "[I", .methodLink RX0 116 yX0_wrapped, .instanceMethod yX0_wrapped, .selects RX0 yX0_wrapped yX0_wrapped, .code yX0_wrapped cX0_wrapped 2 (some .int), .methodLink RX0 46 yX0_reduced, .instanceMethod yX0_reduced, .selects RX0 yX0_reduced yX0_reduced, .code yX0_reduced cX0_reduced 2 (some .int), .fieldLink RX0 43 "ToneButterflies" "prime" "I", .methodLink RX0 168 yJ9_floorMod_7cf53, .static yJ9_floorMod_7cf53, .initialized RJ9, .code yJ9_floorMod_7cf53 cJ9_floorMod_7cf53 3 (some .int)] ++ wsX00)
def wsX0_fold_r1 : List Cond := [Cond.fieldLink RX0 84 "ToneButterflies" "length" "I", Cond.methodLink RX0 59 yX0_requireRow, Cond.instanceMethod yX0_requireRow, Cond.selects RX0 yX0_requireRow yX0_requireRow, Cond.initialized RX0, Cond.code yX0_requireRow cX0_requireRow 2 none, Cond.classLink RX0 93 "java/lang/IndexOutOfBoundsException", Cond.initialized "java/lang/IndexOutOfBoundsException", Cond.methodLink RX0 102 yX0_foldedAt, Cond.instanceMethod yX0_foldedAt, Cond.selects RX0 yX0_foldedAt yX0_foldedAt, Cond.code yX0_foldedAt cX0_foldedAt 6 (some .int), Cond.methodLink RX0 68 yX0_read, Cond.instanceMethod yX0_read, Cond.selects RX0 yX0_read yX0_read, Cond.code yX0_read cX0_read 4 (some .int), Cond.fieldLink RX0 9 "ToneButterflies" "numbers" "[I", Cond.methodLink RX0 116 yX0_wrapped, Cond.instanceMethod yX0_wrapped, Cond.selects RX0 yX0_wrapped yX0_wrapped, Cond.code yX0_wrapped cX0_wrapped 2 (some .int), Cond.methodLink RX0 46 yX0_reduced, Cond.instanceMethod yX0_reduced, Cond.selects RX0 yX0_reduced yX0_reduced]
def wsX0_fold_r2 : List Cond := [Cond.code yX0_reduced cX0_reduced 2 (some .int), Cond.fieldLink RX0 43 "ToneButterflies" "prime" "I", Cond.methodLink RX0 168 yJ9_floorMod_7cf53, Cond.static yJ9_floorMod_7cf53, Cond.initialized RJ9, Cond.code yJ9_floorMod_7cf53 cJ9_floorMod_7cf53 3 (some .int), Cond.methodLink RX0 71 yX0_write, Cond.instanceMethod yX0_write, Cond.selects RX0 yX0_write yX0_write, Cond.code yX0_write cX0_write 5 none, Cond.methodLink RX0 75 yX0_copyRow, Cond.instanceMethod yX0_copyRow, Cond.selects RX0 yX0_copyRow yX0_copyRow, Cond.code yX0_copyRow cX0_copyRow 6 (some .int)]
def wsX0_fold : List Cond := .code yX0_fold cX0_fold 4 (some .int) :: ((wsX0_fold_r1 ++ wsX0_fold_r2) ++ wsX00 ++ (vx_atS RX0 97 "java/lang/IndexOutOfBoundsException" ["java/lang/RuntimeException", "java/lang/Exception"]).filter goodWord)
def wsX0_joined : List Cond := .code yX0_joined cX0_joined 4 (some .int) :: ([.methodLink RX0 46 yX0_reduced, .instanceMethod yX0_reduced, .selects RX0 yX0_reduced yX0_reduced, .initialized RX0, .code yX0_reduced cX0_reduced 2 (some .int), .fieldLink RX0 43 "ToneButterflies" "prime" "I", .methodLink RX0 168 yJ9_floorMod_7cf53, .static yJ9_floorMod_7cf53, .initialized RJ9, .code yJ9_floorMod_7cf53 cJ9_floorMod_7cf53 3 (some .int)] ++ wsX00)
def wsX0_nonZeros : List Cond := .code yX0_nonZeros cX0_nonZeros 4 (some .int) :: ([.fieldLink RX0 84 "ToneButterflies" "length" "I", .methodLink RX0 68 yX0_read, .instanceMethod yX0_read, .selects RX0 yX0_read yX0_read, .initialized RX0, .code yX0_read cX0_read 4 (some .int), .fieldLink RX0 9 "ToneButterflies" "numbers" "[I"] ++ wsX00)
def wsX0_join_r1 : List Cond := [Cond.classLink RX0 93 "java/lang/IndexOutOfBoundsException", Cond.initialized "java/lang/IndexOutOfBoundsException", Cond.fieldLink RX0 84 "ToneButterflies" "length" "I", Cond.methodLink RX0 59 yX0_requireRow, Cond.instanceMethod yX0_requireRow, Cond.selects RX0 yX0_requireRow yX0_requireRow, Cond.initialized RX0, Cond.code yX0_requireRow cX0_requireRow 2 none, Cond.methodLink RX0 68 yX0_read, Cond.instanceMethod yX0_read, Cond.selects RX0 yX0_read yX0_read, Cond.code yX0_read cX0_read 4 (some .int), Cond.fieldLink RX0 9 "ToneButterflies" "numbers" "[I", Cond.methodLink RX0 108 yX0_joined, Cond.instanceMethod yX0_joined, Cond.selects RX0 yX0_joined yX0_joined, Cond.code yX0_joined cX0_joined 4 (some .int), Cond.methodLink RX0 46 yX0_reduced, Cond.instanceMethod yX0_reduced, Cond.selects RX0 yX0_reduced yX0_reduced, Cond.code yX0_reduced cX0_reduced 2 (some .int), Cond.fieldLink RX0 43 "ToneButterflies" "prime" "I", Cond.methodLink RX0 168 yJ9_floorMod_7cf53, Cond.static yJ9_floorMod_7cf53]
def wsX0_join_r2 : List Cond := [Cond.initialized RJ9, Cond.code yJ9_floorMod_7cf53 cJ9_floorMod_7cf53 3 (some .int), Cond.methodLink RX0 71 yX0_write, Cond.instanceMethod yX0_write, Cond.selects RX0 yX0_write yX0_write, Cond.code yX0_write cX0_write 5 none, Cond.methodLink RX0 111 yX0_nonZeros, Cond.instanceMethod yX0_nonZeros, Cond.selects RX0 yX0_nonZeros yX0_nonZeros, Cond.code yX0_nonZeros cX0_nonZeros 4 (some .int)]
def wsX0_join : List Cond := .code yX0_join cX0_join 5 (some .int) :: ((wsX0_join_r1 ++ wsX0_join_r2) ++ wsX00 ++ (vx_atS RX0 97 "java/lang/IndexOutOfBoundsException" ["java/lang/RuntimeException", "java/lang/Exception"]).filter goodWord)
def wsX0_move_r1 : List Cond := [Cond.classLink RX0 28 "java/lang/IllegalArgumentException", Cond.initialized "java/lang/IllegalArgumentException", Cond.fieldLink RX0 84 "ToneButterflies" "length" "I", Cond.methodLink RX0 59 yX0_requireRow, Cond.instanceMethod yX0_requireRow, Cond.selects RX0 yX0_requireRow yX0_requireRow, Cond.initialized RX0, Cond.code yX0_requireRow cX0_requireRow 2 none, Cond.classLink RX0 93 "java/lang/IndexOutOfBoundsException", Cond.initialized "java/lang/IndexOutOfBoundsException", Cond.methodLink RX0 116 yX0_wrapped, Cond.instanceMethod yX0_wrapped, Cond.selects RX0 yX0_wrapped yX0_wrapped, Cond.code yX0_wrapped cX0_wrapped 2 (some .int), Cond.methodLink RX0 68 yX0_read, Cond.instanceMethod yX0_read, Cond.selects RX0 yX0_read yX0_read, Cond.code yX0_read cX0_read 4 (some .int), Cond.fieldLink RX0 9 "ToneButterflies" "numbers" "[I", Cond.methodLink RX0 71 yX0_write, Cond.instanceMethod yX0_write, Cond.selects RX0 yX0_write yX0_write, Cond.code yX0_write cX0_write 5 none, Cond.methodLink RX0 75 yX0_copyRow]
def wsX0_move_r2 : List Cond := [Cond.instanceMethod yX0_copyRow, Cond.selects RX0 yX0_copyRow yX0_copyRow, Cond.code yX0_copyRow cX0_copyRow 6 (some .int)]
def wsX0_move : List Cond := .code yX0_move cX0_move 4 (some .int) :: ((wsX0_move_r1 ++ wsX0_move_r2) ++ wsX00 ++ (vx_atS RX0 32 "java/lang/IllegalArgumentException" ["java/lang/RuntimeException", "java/lang/Exception"]).filter goodWord ++ (vx_atS RX0 97 "java/lang/IndexOutOfBoundsException" ["java/lang/RuntimeException", "java/lang/Exception"]).filter goodWord)
def wsX0_times_r1 : List Cond := [Cond.fieldLink RX0 84 "ToneButterflies" "length" "I", Cond.methodLink RX0 59 yX0_requireRow, Cond.instanceMethod yX0_requireRow, Cond.selects RX0 yX0_requireRow yX0_requireRow, Cond.initialized RX0, Cond.code yX0_requireRow cX0_requireRow 2 none, Cond.classLink RX0 93 "java/lang/IndexOutOfBoundsException", Cond.initialized "java/lang/IndexOutOfBoundsException", Cond.methodLink RX0 65 yX0_requireNumber, Cond.instanceMethod yX0_requireNumber, Cond.selects RX0 yX0_requireNumber yX0_requireNumber, Cond.code yX0_requireNumber cX0_requireNumber 2 none, Cond.classLink RX0 28 "java/lang/IllegalArgumentException", Cond.initialized "java/lang/IllegalArgumentException", Cond.fieldLink RX0 43 "ToneButterflies" "prime" "I", Cond.methodLink RX0 68 yX0_read, Cond.instanceMethod yX0_read, Cond.selects RX0 yX0_read yX0_read, Cond.code yX0_read cX0_read 4 (some .int), Cond.fieldLink RX0 9 "ToneButterflies" "numbers" "[I", Cond.methodLink RX0 46 yX0_reduced, Cond.instanceMethod yX0_reduced, Cond.selects RX0 yX0_reduced yX0_reduced, Cond.code yX0_reduced cX0_reduced 2 (some .int)]
def wsX0_times_r2 : List Cond := [Cond.methodLink RX0 168 yJ9_floorMod_7cf53, Cond.static yJ9_floorMod_7cf53, Cond.initialized RJ9, Cond.code yJ9_floorMod_7cf53 cJ9_floorMod_7cf53 3 (some .int), Cond.methodLink RX0 71 yX0_write, Cond.instanceMethod yX0_write, Cond.selects RX0 yX0_write yX0_write, Cond.code yX0_write cX0_write 5 none, Cond.methodLink RX0 111 yX0_nonZeros, Cond.instanceMethod yX0_nonZeros, Cond.selects RX0 yX0_nonZeros yX0_nonZeros, Cond.code yX0_nonZeros cX0_nonZeros 4 (some .int)]
def wsX0_times : List Cond := .code yX0_times cX0_times 4 (some .int) :: ((wsX0_times_r1 ++ wsX0_times_r2) ++ wsX00 ++ (vx_atS RX0 97 "java/lang/IndexOutOfBoundsException" ["java/lang/RuntimeException", "java/lang/Exception"]).filter goodWord ++ (vx_atS RX0 32 "java/lang/IllegalArgumentException" ["java/lang/RuntimeException", "java/lang/Exception"]).filter goodWord)
def wsX0_at : List Cond := .code yX0_at cX0_at 3 (some .int) :: ([.methodLink RX0 59 yX0_requireRow, .instanceMethod yX0_requireRow, .selects RX0 yX0_requireRow yX0_requireRow, .initialized RX0, .code yX0_requireRow cX0_requireRow 2 none, .classLink RX0 93 "java/lang/IndexOutOfBoundsException", .initialized "java/lang/IndexOutOfBoundsException", .methodLink RX0 62 yX0_requirePlace, .instanceMethod yX0_requirePlace, .selects RX0 yX0_requirePlace yX0_requirePlace, .code yX0_requirePlace cX0_requirePlace 2 none, .fieldLink RX0 84 "ToneButterflies" "length" "I", .methodLink RX0 68 yX0_read, .instanceMethod yX0_read, .selects RX0 yX0_read yX0_read, .code yX0_read cX0_read 4 (some .int), .fieldLink RX0 9 "ToneButterflies" "numbers" "[I"] ++ wsX00 ++ (vx_atS RX0 97 "java/lang/IndexOutOfBoundsException" ["java/lang/RuntimeException", "java/lang/Exception"]).filter goodWord)
def wsX0_point_r1 : List Cond := [Cond.methodLink RX0 59 yX0_requireRow, Cond.instanceMethod yX0_requireRow, Cond.selects RX0 yX0_requireRow yX0_requireRow, Cond.initialized RX0, Cond.code yX0_requireRow cX0_requireRow 2 none, Cond.classLink RX0 93 "java/lang/IndexOutOfBoundsException", Cond.initialized "java/lang/IndexOutOfBoundsException", Cond.methodLink RX0 65 yX0_requireNumber, Cond.instanceMethod yX0_requireNumber, Cond.selects RX0 yX0_requireNumber yX0_requireNumber, Cond.code yX0_requireNumber cX0_requireNumber 2 none, Cond.classLink RX0 28 "java/lang/IllegalArgumentException", Cond.initialized "java/lang/IllegalArgumentException", Cond.fieldLink RX0 43 "ToneButterflies" "prime" "I", Cond.methodLink RX0 119 yX0_valueAt, Cond.instanceMethod yX0_valueAt, Cond.selects RX0 yX0_valueAt yX0_valueAt, Cond.code yX0_valueAt cX0_valueAt 5 (some .int), Cond.fieldLink RX0 84 "ToneButterflies" "length" "I", Cond.methodLink RX0 68 yX0_read, Cond.instanceMethod yX0_read, Cond.selects RX0 yX0_read yX0_read, Cond.code yX0_read cX0_read 4 (some .int), Cond.fieldLink RX0 9 "ToneButterflies" "numbers" "[I"]
def wsX0_point_r2 : List Cond := [Cond.methodLink RX0 46 yX0_reduced, Cond.instanceMethod yX0_reduced, Cond.selects RX0 yX0_reduced yX0_reduced, Cond.code yX0_reduced cX0_reduced 2 (some .int), Cond.methodLink RX0 168 yJ9_floorMod_7cf53, Cond.static yJ9_floorMod_7cf53, Cond.initialized RJ9, Cond.code yJ9_floorMod_7cf53 cJ9_floorMod_7cf53 3 (some .int)]
def wsX0_point : List Cond := .code yX0_point cX0_point 3 (some .int) :: ((wsX0_point_r1 ++ wsX0_point_r2) ++ wsX00 ++ (vx_atS RX0 97 "java/lang/IndexOutOfBoundsException" ["java/lang/RuntimeException", "java/lang/Exception"]).filter goodWord ++ (vx_atS RX0 32 "java/lang/IllegalArgumentException" ["java/lang/RuntimeException", "java/lang/Exception"]).filter goodWord)
def wsX0_plainSum : List Cond := .code yX0_plainSum cX0_plainSum 4 (some .int) :: ([.fieldLink RX0 84 "ToneButterflies" "length" "I", .methodLink RX0 68 yX0_read, .instanceMethod yX0_read, .selects RX0 yX0_read yX0_read, .initialized RX0, .code yX0_read cX0_read 4 (some .int), .fieldLink RX0 9 "ToneButterflies" "numbers" "[I"] ++ wsX00)
def wsX0_lastNonZero : List Cond := .code yX0_lastNonZero cX0_lastNonZero 3 (some .int) :: ([.fieldLink RX0 84 "ToneButterflies" "length" "I", .methodLink RX0 68 yX0_read, .instanceMethod yX0_read, .selects RX0 yX0_read yX0_read, .initialized RX0, .code yX0_read cX0_read 4 (some .int), .fieldLink RX0 9 "ToneButterflies" "numbers" "[I"] ++ wsX00)
def wsX0_isWhenMoved : List Cond := .code yX0_isWhenMoved cX0_isWhenMoved 5 (some .boolean) :: ([.fieldLink RX0 84 "ToneButterflies" "length" "I", .methodLink RX0 116 yX0_wrapped, .instanceMethod yX0_wrapped, .selects RX0 yX0_wrapped yX0_wrapped, .initialized RX0, .code yX0_wrapped cX0_wrapped 2 (some .int), .methodLink RX0 68 yX0_read, .instanceMethod yX0_read, .selects RX0 yX0_read yX0_read, .code yX0_read cX0_read 4 (some .int), .fieldLink RX0 9 "ToneButterflies" "numbers" "[I"] ++ wsX00)
def wsX0_period : List Cond := .code yX0_period cX0_period 3 (some .int) :: ([.fieldLink RX0 84 "ToneButterflies" "length" "I", .methodLink RX0 132 yX0_isWhenMoved, .instanceMethod yX0_isWhenMoved, .selects RX0 yX0_isWhenMoved yX0_isWhenMoved, .initialized RX0, .code yX0_isWhenMoved cX0_isWhenMoved 5 (some .boolean), .methodLink RX0 116 yX0_wrapped, .instanceMethod yX0_wrapped, .selects RX0 yX0_wrapped yX0_wrapped, .code yX0_wrapped cX0_wrapped 2 (some .int), .methodLink RX0 68 yX0_read, .instanceMethod yX0_read, .selects RX0 yX0_read yX0_read, .code yX0_read cX0_read 4 (some .int), .fieldLink RX0 9 "ToneButterflies" "numbers" "[I"] ++ wsX00)
def wsX0_greatestNumber : List Cond := .code yX0_greatestNumber cX0_greatestNumber 4 (some .int) :: ([.fieldLink RX0 84 "ToneButterflies" "length" "I", .methodLink RX0 185 Lib.Math.max.name, .static Lib.Math.max.name, .initialized "java/lang/Math", .code Lib.Math.max.name Lib.Math.max.code 2 (some .int), .methodLink RX0 68 yX0_read, .instanceMethod yX0_read, .selects RX0 yX0_read yX0_read, .initialized RX0, .code yX0_read cX0_read 4 (some .int), .fieldLink RX0 9 "ToneButterflies" "numbers" "[I"] ++ wsX00)
def wsX0_told_r1 : List Cond := [Cond.methodLink RX0 139 yX0_plainSum, Cond.instanceMethod yX0_plainSum, Cond.selects RX0 yX0_plainSum yX0_plainSum, Cond.initialized RX0, Cond.code yX0_plainSum cX0_plainSum 4 (some .int), Cond.fieldLink RX0 84 "ToneButterflies" "length" "I", Cond.methodLink RX0 68 yX0_read, Cond.instanceMethod yX0_read, Cond.selects RX0 yX0_read yX0_read, Cond.code yX0_read cX0_read 4 (some .int), Cond.fieldLink RX0 9 "ToneButterflies" "numbers" "[I", Cond.methodLink RX0 46 yX0_reduced, Cond.instanceMethod yX0_reduced, Cond.selects RX0 yX0_reduced yX0_reduced, Cond.code yX0_reduced cX0_reduced 2 (some .int), Cond.fieldLink RX0 43 "ToneButterflies" "prime" "I", Cond.methodLink RX0 168 yJ9_floorMod_7cf53, Cond.static yJ9_floorMod_7cf53, Cond.initialized RJ9, Cond.code yJ9_floorMod_7cf53 cJ9_floorMod_7cf53 3 (some .int), Cond.methodLink RX0 111 yX0_nonZeros, Cond.instanceMethod yX0_nonZeros, Cond.selects RX0 yX0_nonZeros yX0_nonZeros, Cond.code yX0_nonZeros cX0_nonZeros 4 (some .int)]
def wsX0_told_r2 : List Cond := [Cond.methodLink RX0 176 yX0_lastNonZero, Cond.instanceMethod yX0_lastNonZero, Cond.selects RX0 yX0_lastNonZero yX0_lastNonZero, Cond.code yX0_lastNonZero cX0_lastNonZero 3 (some .int), Cond.methodLink RX0 179 yX0_period, Cond.instanceMethod yX0_period, Cond.selects RX0 yX0_period yX0_period, Cond.code yX0_period cX0_period 3 (some .int), Cond.methodLink RX0 132 yX0_isWhenMoved, Cond.instanceMethod yX0_isWhenMoved, Cond.selects RX0 yX0_isWhenMoved yX0_isWhenMoved, Cond.code yX0_isWhenMoved cX0_isWhenMoved 5 (some .boolean), Cond.methodLink RX0 116 yX0_wrapped, Cond.instanceMethod yX0_wrapped, Cond.selects RX0 yX0_wrapped yX0_wrapped, Cond.code yX0_wrapped cX0_wrapped 2 (some .int), Cond.methodLink RX0 182 yX0_greatestNumber, Cond.instanceMethod yX0_greatestNumber, Cond.selects RX0 yX0_greatestNumber yX0_greatestNumber, Cond.code yX0_greatestNumber cX0_greatestNumber 4 (some .int), Cond.methodLink RX0 185 Lib.Math.max.name, Cond.static Lib.Math.max.name, Cond.initialized "java/lang/Math", Cond.code Lib.Math.max.name Lib.Math.max.code 2 (some .int)]
def wsX0_told : List Cond := .code yX0_told cX0_told 3 (some .int) :: ((wsX0_told_r1 ++ wsX0_told_r2) ++ wsX00)
def wsX0_about_r1 : List Cond := [Cond.classLink RX0 93 "java/lang/IndexOutOfBoundsException", Cond.initialized "java/lang/IndexOutOfBoundsException", Cond.methodLink RX0 59 yX0_requireRow, Cond.instanceMethod yX0_requireRow, Cond.selects RX0 yX0_requireRow yX0_requireRow, Cond.initialized RX0, Cond.code yX0_requireRow cX0_requireRow 2 none, Cond.methodLink RX0 124 yX0_told, Cond.instanceMethod yX0_told, Cond.selects RX0 yX0_told yX0_told, Cond.code yX0_told cX0_told 3 (some .int), Cond.methodLink RX0 139 yX0_plainSum, Cond.instanceMethod yX0_plainSum, Cond.selects RX0 yX0_plainSum yX0_plainSum, Cond.code yX0_plainSum cX0_plainSum 4 (some .int), Cond.fieldLink RX0 84 "ToneButterflies" "length" "I", Cond.methodLink RX0 68 yX0_read, Cond.instanceMethod yX0_read, Cond.selects RX0 yX0_read yX0_read, Cond.code yX0_read cX0_read 4 (some .int), Cond.fieldLink RX0 9 "ToneButterflies" "numbers" "[I", Cond.methodLink RX0 46 yX0_reduced, Cond.instanceMethod yX0_reduced, Cond.selects RX0 yX0_reduced yX0_reduced]
def wsX0_about_r2 : List Cond := [Cond.code yX0_reduced cX0_reduced 2 (some .int), Cond.fieldLink RX0 43 "ToneButterflies" "prime" "I", Cond.methodLink RX0 168 yJ9_floorMod_7cf53, Cond.static yJ9_floorMod_7cf53, Cond.initialized RJ9, Cond.code yJ9_floorMod_7cf53 cJ9_floorMod_7cf53 3 (some .int), Cond.methodLink RX0 111 yX0_nonZeros, Cond.instanceMethod yX0_nonZeros, Cond.selects RX0 yX0_nonZeros yX0_nonZeros, Cond.code yX0_nonZeros cX0_nonZeros 4 (some .int), Cond.methodLink RX0 176 yX0_lastNonZero, Cond.instanceMethod yX0_lastNonZero, Cond.selects RX0 yX0_lastNonZero yX0_lastNonZero, Cond.code yX0_lastNonZero cX0_lastNonZero 3 (some .int), Cond.methodLink RX0 179 yX0_period, Cond.instanceMethod yX0_period, Cond.selects RX0 yX0_period yX0_period, Cond.code yX0_period cX0_period 3 (some .int), Cond.methodLink RX0 132 yX0_isWhenMoved, Cond.instanceMethod yX0_isWhenMoved, Cond.selects RX0 yX0_isWhenMoved yX0_isWhenMoved, Cond.code yX0_isWhenMoved cX0_isWhenMoved 5 (some .boolean), Cond.methodLink RX0 116 yX0_wrapped, Cond.instanceMethod yX0_wrapped]
def wsX0_about_r3 : List Cond := [Cond.selects RX0 yX0_wrapped yX0_wrapped, Cond.code yX0_wrapped cX0_wrapped 2 (some .int), Cond.methodLink RX0 182 yX0_greatestNumber, Cond.instanceMethod yX0_greatestNumber, Cond.selects RX0 yX0_greatestNumber yX0_greatestNumber, Cond.code yX0_greatestNumber cX0_greatestNumber 4 (some .int), Cond.methodLink RX0 185 Lib.Math.max.name, Cond.static Lib.Math.max.name, Cond.initialized "java/lang/Math", Cond.code Lib.Math.max.name Lib.Math.max.code 2 (some .int)]
def wsX0_about : List Cond := .code yX0_about cX0_about 3 (some .int) :: ((wsX0_about_r1 ++ (wsX0_about_r2 ++ wsX0_about_r3)) ++ wsX00 ++ (vx_atS RX0 97 "java/lang/IndexOutOfBoundsException" ["java/lang/RuntimeException", "java/lang/Exception"]).filter goodWord)
def wsX0_counted : List Cond := .code yX0_counted cX0_counted 2 (some .int) :: ([.fieldLink RX0 84 "ToneButterflies" "length" "I", .fieldLink RX0 43 "ToneButterflies" "prime" "I", .fieldLink RX0 35 "ToneButterflies" "unityRoot" "I", .fieldLink RX0 162 "ToneButterflies" "unityRootInverse" "I", .fieldLink RX0 165 "ToneButterflies" "lengthInverse" "I", .fieldLink RX0 90 "ToneButterflies" "bits" "I"] ++ wsX00)
def wsX0_count : List Cond := .code yX0_count cX0_count 2 (some .int) :: ([.classLink RX0 93 "java/lang/IndexOutOfBoundsException", .initialized "java/lang/IndexOutOfBoundsException", .methodLink RX0 129 yX0_counted, .instanceMethod yX0_counted, .selects RX0 yX0_counted yX0_counted, .initialized RX0, .code yX0_counted cX0_counted 2 (some .int), .fieldLink RX0 84 "ToneButterflies" "length" "I", .fieldLink RX0 43 "ToneButterflies" "prime" "I", .fieldLink RX0 35 "ToneButterflies" "unityRoot" "I", .fieldLink RX0 162 "ToneButterflies" "unityRootInverse" "I", .fieldLink RX0 165 "ToneButterflies" "lengthInverse" "I", .fieldLink RX0 90 "ToneButterflies" "bits" "I"] ++ wsX00 ++ (vx_atS RX0 97 "java/lang/IndexOutOfBoundsException" ["java/lang/RuntimeException", "java/lang/Exception"]).filter goodWord)
def wsX0_would_r1 : List Cond := [Cond.methodLink RX0 59 yX0_requireRow, Cond.instanceMethod yX0_requireRow, Cond.selects RX0 yX0_requireRow yX0_requireRow, Cond.initialized RX0, Cond.code yX0_requireRow cX0_requireRow 2 none, Cond.classLink RX0 93 "java/lang/IndexOutOfBoundsException", Cond.initialized "java/lang/IndexOutOfBoundsException", Cond.methodLink RX0 62 yX0_requirePlace, Cond.instanceMethod yX0_requirePlace, Cond.selects RX0 yX0_requirePlace yX0_requirePlace, Cond.code yX0_requirePlace cX0_requirePlace 2 none, Cond.fieldLink RX0 84 "ToneButterflies" "length" "I", Cond.methodLink RX0 102 yX0_foldedAt, Cond.instanceMethod yX0_foldedAt, Cond.selects RX0 yX0_foldedAt yX0_foldedAt, Cond.code yX0_foldedAt cX0_foldedAt 6 (some .int), Cond.methodLink RX0 68 yX0_read, Cond.instanceMethod yX0_read, Cond.selects RX0 yX0_read yX0_read, Cond.code yX0_read cX0_read 4 (some .int), Cond.fieldLink RX0 9 "ToneButterflies" "numbers" "[I", Cond.methodLink RX0 116 yX0_wrapped, Cond.instanceMethod yX0_wrapped, Cond.selects RX0 yX0_wrapped yX0_wrapped]
def wsX0_would_r2 : List Cond := [Cond.code yX0_wrapped cX0_wrapped 2 (some .int), Cond.methodLink RX0 46 yX0_reduced, Cond.instanceMethod yX0_reduced, Cond.selects RX0 yX0_reduced yX0_reduced, Cond.code yX0_reduced cX0_reduced 2 (some .int), Cond.fieldLink RX0 43 "ToneButterflies" "prime" "I", Cond.methodLink RX0 168 yJ9_floorMod_7cf53, Cond.static yJ9_floorMod_7cf53, Cond.initialized RJ9, Cond.code yJ9_floorMod_7cf53 cJ9_floorMod_7cf53 3 (some .int)]
def wsX0_would : List Cond := .code yX0_would cX0_would 4 (some .int) :: ((wsX0_would_r1 ++ wsX0_would_r2) ++ wsX00 ++ (vx_atS RX0 97 "java/lang/IndexOutOfBoundsException" ["java/lang/RuntimeException", "java/lang/Exception"]).filter goodWord)
def wsX0_comes : List Cond := .code yX0_comes cX0_comes 4 (some .int) :: ([.fieldLink RX0 84 "ToneButterflies" "length" "I", .methodLink RX0 59 yX0_requireRow, .instanceMethod yX0_requireRow, .selects RX0 yX0_requireRow yX0_requireRow, .initialized RX0, .code yX0_requireRow cX0_requireRow 2 none, .classLink RX0 93 "java/lang/IndexOutOfBoundsException", .initialized "java/lang/IndexOutOfBoundsException", .methodLink RX0 132 yX0_isWhenMoved, .instanceMethod yX0_isWhenMoved, .selects RX0 yX0_isWhenMoved yX0_isWhenMoved, .code yX0_isWhenMoved cX0_isWhenMoved 5 (some .boolean), .methodLink RX0 116 yX0_wrapped, .instanceMethod yX0_wrapped, .selects RX0 yX0_wrapped yX0_wrapped, .code yX0_wrapped cX0_wrapped 2 (some .int), .methodLink RX0 68 yX0_read, .instanceMethod yX0_read, .selects RX0 yX0_read yX0_read, .code yX0_read cX0_read 4 (some .int), .fieldLink RX0 9 "ToneButterflies" "numbers" "[I"] ++ wsX00 ++ (vx_atS RX0 97 "java/lang/IndexOutOfBoundsException" ["java/lang/RuntimeException", "java/lang/Exception"]).filter goodWord)
def wsX0_soundWhenMoved : List Cond := .code yX0_soundWhenMoved cX0_soundWhenMoved 6 (some .int) :: ([.fieldLink RX0 84 "ToneButterflies" "length" "I", .methodLink RX0 68 yX0_read, .instanceMethod yX0_read, .selects RX0 yX0_read yX0_read, .initialized RX0, .code yX0_read cX0_read 4 (some .int), .fieldLink RX0 9 "ToneButterflies" "numbers" "[I", .methodLink RX0 116 yX0_wrapped, .instanceMethod yX0_wrapped, .selects RX0 yX0_wrapped yX0_wrapped, .code yX0_wrapped cX0_wrapped 2 (some .int), .methodLink RX0 46 yX0_reduced, .instanceMethod yX0_reduced, .selects RX0 yX0_reduced yX0_reduced, .code yX0_reduced cX0_reduced 2 (some .int), .fieldLink RX0 43 "ToneButterflies" "prime" "I", .methodLink RX0 168 yJ9_floorMod_7cf53, .static yJ9_floorMod_7cf53, .initialized RJ9, .code yJ9_floorMod_7cf53 cJ9_floorMod_7cf53 3 (some .int)] ++ wsX00)
def wsX0_advise_r1 : List Cond := [Cond.fieldLink RX0 84 "ToneButterflies" "length" "I", Cond.methodLink RX0 59 yX0_requireRow, Cond.instanceMethod yX0_requireRow, Cond.selects RX0 yX0_requireRow yX0_requireRow, Cond.initialized RX0, Cond.code yX0_requireRow cX0_requireRow 2 none, Cond.classLink RX0 93 "java/lang/IndexOutOfBoundsException", Cond.initialized "java/lang/IndexOutOfBoundsException", Cond.methodLink RX0 136 yX0_soundWhenMoved, Cond.instanceMethod yX0_soundWhenMoved, Cond.selects RX0 yX0_soundWhenMoved yX0_soundWhenMoved, Cond.code yX0_soundWhenMoved cX0_soundWhenMoved 6 (some .int), Cond.methodLink RX0 68 yX0_read, Cond.instanceMethod yX0_read, Cond.selects RX0 yX0_read yX0_read, Cond.code yX0_read cX0_read 4 (some .int), Cond.fieldLink RX0 9 "ToneButterflies" "numbers" "[I", Cond.methodLink RX0 116 yX0_wrapped, Cond.instanceMethod yX0_wrapped, Cond.selects RX0 yX0_wrapped yX0_wrapped, Cond.code yX0_wrapped cX0_wrapped 2 (some .int), Cond.methodLink RX0 46 yX0_reduced, Cond.instanceMethod yX0_reduced, Cond.selects RX0 yX0_reduced yX0_reduced]
def wsX0_advise_r2 : List Cond := [Cond.code yX0_reduced cX0_reduced 2 (some .int), Cond.fieldLink RX0 43 "ToneButterflies" "prime" "I", Cond.methodLink RX0 168 yJ9_floorMod_7cf53, Cond.static yJ9_floorMod_7cf53, Cond.initialized RJ9, Cond.code yJ9_floorMod_7cf53 cJ9_floorMod_7cf53 3 (some .int)]
def wsX0_advise : List Cond := .code yX0_advise cX0_advise 7 (some .int) :: ((wsX0_advise_r1 ++ wsX0_advise_r2) ++ wsX00 ++ (vx_atS RX0 97 "java/lang/IndexOutOfBoundsException" ["java/lang/RuntimeException", "java/lang/Exception"]).filter goodWord)
def wsX0_tones_r1 : List Cond := [Cond.methodLink RX0 59 yX0_requireRow, Cond.instanceMethod yX0_requireRow, Cond.selects RX0 yX0_requireRow yX0_requireRow, Cond.initialized RX0, Cond.code yX0_requireRow cX0_requireRow 2 none, Cond.classLink RX0 93 "java/lang/IndexOutOfBoundsException", Cond.initialized "java/lang/IndexOutOfBoundsException", Cond.methodLink RX0 81 yX0_scratchTones, Cond.instanceMethod yX0_scratchTones, Cond.selects RX0 yX0_scratchTones yX0_scratchTones, Cond.code yX0_scratchTones cX0_scratchTones 2 none, Cond.fieldLink RX0 35 "ToneButterflies" "unityRoot" "I", Cond.methodLink RX0 173 yX0_scratchValues, Cond.instanceMethod yX0_scratchValues, Cond.selects RX0 yX0_scratchValues yX0_scratchValues, Cond.code yX0_scratchValues cX0_scratchValues 6 none, Cond.fieldLink RX0 84 "ToneButterflies" "length" "I", Cond.methodLink RX0 119 yX0_valueAt, Cond.instanceMethod yX0_valueAt, Cond.selects RX0 yX0_valueAt yX0_valueAt, Cond.code yX0_valueAt cX0_valueAt 5 (some .int), Cond.methodLink RX0 68 yX0_read, Cond.instanceMethod yX0_read, Cond.selects RX0 yX0_read yX0_read]
def wsX0_tones_r2 : List Cond := [Cond.code yX0_read cX0_read 4 (some .int), Cond.fieldLink RX0 9 "ToneButterflies" "numbers" "[I", Cond.methodLink RX0 46 yX0_reduced, Cond.instanceMethod yX0_reduced, Cond.selects RX0 yX0_reduced yX0_reduced, Cond.code yX0_reduced cX0_reduced 2 (some .int), Cond.fieldLink RX0 43 "ToneButterflies" "prime" "I", Cond.methodLink RX0 168 yJ9_floorMod_7cf53, Cond.static yJ9_floorMod_7cf53, Cond.initialized RJ9, Cond.code yJ9_floorMod_7cf53 cJ9_floorMod_7cf53 3 (some .int), Cond.methodLink RX0 71 yX0_write, Cond.instanceMethod yX0_write, Cond.selects RX0 yX0_write yX0_write, Cond.code yX0_write cX0_write 5 none, Cond.methodLink RX0 132 yX0_isWhenMoved, Cond.instanceMethod yX0_isWhenMoved, Cond.selects RX0 yX0_isWhenMoved yX0_isWhenMoved, Cond.code yX0_isWhenMoved cX0_isWhenMoved 5 (some .boolean), Cond.methodLink RX0 116 yX0_wrapped, Cond.instanceMethod yX0_wrapped, Cond.selects RX0 yX0_wrapped yX0_wrapped, Cond.code yX0_wrapped cX0_wrapped 2 (some .int)]
def wsX0_tones : List Cond := .code yX0_tones cX0_tones 3 (some .boolean) :: ((wsX0_tones_r1 ++ wsX0_tones_r2) ++ wsX00 ++ (vx_atS RX0 97 "java/lang/IndexOutOfBoundsException" ["java/lang/RuntimeException", "java/lang/Exception"]).filter goodWord)
def wsX0_mean : List Cond := .code yX0_mean cX0_mean 2 (some .double) :: ([.fieldLink RX0 84 "ToneButterflies" "length" "I", .methodLink RX0 59 yX0_requireRow, .instanceMethod yX0_requireRow, .selects RX0 yX0_requireRow yX0_requireRow, .initialized RX0, .code yX0_requireRow cX0_requireRow 2 none, .classLink RX0 93 "java/lang/IndexOutOfBoundsException", .initialized "java/lang/IndexOutOfBoundsException", .methodLink RX0 139 yX0_plainSum, .instanceMethod yX0_plainSum, .selects RX0 yX0_plainSum yX0_plainSum, .code yX0_plainSum cX0_plainSum 4 (some .int), .methodLink RX0 68 yX0_read, .instanceMethod yX0_read, .selects RX0 yX0_read yX0_read, .code yX0_read cX0_read 4 (some .int), .fieldLink RX0 9 "ToneButterflies" "numbers" "[I"] ++ wsX00 ++ (vx_atS RX0 97 "java/lang/IndexOutOfBoundsException" ["java/lang/RuntimeException", "java/lang/Exception"]).filter goodWord)
def wsX0_digestRow : List Cond := .code yX0_digestRow cX0_digestRow 7 (some .long) :: ([.fieldLink RX0 84 "ToneButterflies" "length" "I", .constantLong RX0 144 (31), .methodLink RX0 68 yX0_read, .instanceMethod yX0_read, .selects RX0 yX0_read yX0_read, .initialized RX0, .code yX0_read cX0_read 4 (some .int), .fieldLink RX0 9 "ToneButterflies" "numbers" "[I"] ++ wsX00)
def wsX0_digest_r1 : List Cond := [Cond.constantLong RX0 142 (1777), Cond.constantLong RX0 144 (31), Cond.methodLink RX0 129 yX0_counted, Cond.instanceMethod yX0_counted, Cond.selects RX0 yX0_counted yX0_counted, Cond.initialized RX0, Cond.code yX0_counted cX0_counted 2 (some .int), Cond.fieldLink RX0 84 "ToneButterflies" "length" "I", Cond.fieldLink RX0 43 "ToneButterflies" "prime" "I", Cond.fieldLink RX0 35 "ToneButterflies" "unityRoot" "I", Cond.fieldLink RX0 162 "ToneButterflies" "unityRootInverse" "I", Cond.fieldLink RX0 165 "ToneButterflies" "lengthInverse" "I", Cond.fieldLink RX0 90 "ToneButterflies" "bits" "I", Cond.methodLink RX0 146 yX0_digestRow, Cond.instanceMethod yX0_digestRow, Cond.selects RX0 yX0_digestRow yX0_digestRow, Cond.code yX0_digestRow cX0_digestRow 7 (some .long), Cond.methodLink RX0 68 yX0_read, Cond.instanceMethod yX0_read, Cond.selects RX0 yX0_read yX0_read, Cond.code yX0_read cX0_read 4 (some .int), Cond.fieldLink RX0 9 "ToneButterflies" "numbers" "[I", Cond.methodLink RX0 124 yX0_told, Cond.instanceMethod yX0_told]
def wsX0_digest_r2 : List Cond := [Cond.selects RX0 yX0_told yX0_told, Cond.code yX0_told cX0_told 3 (some .int), Cond.methodLink RX0 139 yX0_plainSum, Cond.instanceMethod yX0_plainSum, Cond.selects RX0 yX0_plainSum yX0_plainSum, Cond.code yX0_plainSum cX0_plainSum 4 (some .int), Cond.methodLink RX0 46 yX0_reduced, Cond.instanceMethod yX0_reduced, Cond.selects RX0 yX0_reduced yX0_reduced, Cond.code yX0_reduced cX0_reduced 2 (some .int), Cond.methodLink RX0 168 yJ9_floorMod_7cf53, Cond.static yJ9_floorMod_7cf53, Cond.initialized RJ9, Cond.code yJ9_floorMod_7cf53 cJ9_floorMod_7cf53 3 (some .int), Cond.methodLink RX0 111 yX0_nonZeros, Cond.instanceMethod yX0_nonZeros, Cond.selects RX0 yX0_nonZeros yX0_nonZeros, Cond.code yX0_nonZeros cX0_nonZeros 4 (some .int), Cond.methodLink RX0 176 yX0_lastNonZero, Cond.instanceMethod yX0_lastNonZero, Cond.selects RX0 yX0_lastNonZero yX0_lastNonZero, Cond.code yX0_lastNonZero cX0_lastNonZero 3 (some .int), Cond.methodLink RX0 179 yX0_period, Cond.instanceMethod yX0_period]
def wsX0_digest_r3 : List Cond := [Cond.selects RX0 yX0_period yX0_period, Cond.code yX0_period cX0_period 3 (some .int), Cond.methodLink RX0 132 yX0_isWhenMoved, Cond.instanceMethod yX0_isWhenMoved, Cond.selects RX0 yX0_isWhenMoved yX0_isWhenMoved, Cond.code yX0_isWhenMoved cX0_isWhenMoved 5 (some .boolean), Cond.methodLink RX0 116 yX0_wrapped, Cond.instanceMethod yX0_wrapped, Cond.selects RX0 yX0_wrapped yX0_wrapped, Cond.code yX0_wrapped cX0_wrapped 2 (some .int), Cond.methodLink RX0 182 yX0_greatestNumber, Cond.instanceMethod yX0_greatestNumber, Cond.selects RX0 yX0_greatestNumber yX0_greatestNumber, Cond.code yX0_greatestNumber cX0_greatestNumber 4 (some .int), Cond.methodLink RX0 185 Lib.Math.max.name, Cond.static Lib.Math.max.name, Cond.initialized "java/lang/Math", Cond.code Lib.Math.max.name Lib.Math.max.code 2 (some .int), Cond.methodLink RX0 81 yX0_scratchTones, Cond.instanceMethod yX0_scratchTones, Cond.selects RX0 yX0_scratchTones yX0_scratchTones, Cond.code yX0_scratchTones cX0_scratchTones 2 none, Cond.methodLink RX0 173 yX0_scratchValues, Cond.instanceMethod yX0_scratchValues]
def wsX0_digest_r4 : List Cond := [Cond.selects RX0 yX0_scratchValues yX0_scratchValues, Cond.code yX0_scratchValues cX0_scratchValues 6 none, Cond.methodLink RX0 119 yX0_valueAt, Cond.instanceMethod yX0_valueAt, Cond.selects RX0 yX0_valueAt yX0_valueAt, Cond.code yX0_valueAt cX0_valueAt 5 (some .int), Cond.methodLink RX0 71 yX0_write, Cond.instanceMethod yX0_write, Cond.selects RX0 yX0_write yX0_write, Cond.code yX0_write cX0_write 5 none]
def wsX0_digest : List Cond := .code yX0_digest cX0_digest 5 (some .long) :: ((wsX0_digest_r1 ++ (wsX0_digest_r2 ++ (wsX0_digest_r3 ++ wsX0_digest_r4))) ++ wsX00)
def wsX1_init : List Cond := .code yX1_init cX1_init 1 none :: ([.methodLink RX1 1 objectInit, .instanceMethod objectInit, .code objectInit ⟨#[0xb1]⟩ 1 none, .fieldLink RX1 7 "ToneButterfliesModel" "n" "I", .fieldLink RX1 13 "ToneButterfliesModel" "p" "I", .fieldLink RX1 16 "ToneButterfliesModel" "w" "I", .fieldLink RX1 19 "ToneButterfliesModel" "bits" "I", .arrayClass .int, .fieldLink RX1 22 "ToneButterfliesModel" "rows" "[I", .fieldLink RX1 26 "ToneButterfliesModel" "made" "[I"] ++ wsX10)
def wsX1_thrown : List Cond := .code yX1_thrown cX1_thrown 1 (some .int) :: ([.fieldLink RX1 29 "ToneButterfliesModel" "thrown" "I"] ++ wsX10)
def wsX1_no : List Cond := .code yX1_no cX1_no 2 (some .int) :: ([.fieldLink RX1 29 "ToneButterfliesModel" "thrown" "I"] ++ wsX10)
def wsX1_isIn : List Cond := .code yX1_isIn cX1_isIn 3 (some .boolean) :: ([])
def wsX1_isRow : List Cond := .code yX1_isRow cX1_isRow 1 (some .boolean) :: ([.methodLink RX1 32 yX1_isIn, .static yX1_isIn, .initialized RX1, .code yX1_isIn cX1_isIn 3 (some .boolean)])
def wsX1_isPlace : List Cond := .code yX1_isPlace cX1_isPlace 2 (some .boolean) :: ([.fieldLink RX1 7 "ToneButterfliesModel" "n" "I", .methodLink RX1 32 yX1_isIn, .static yX1_isIn, .initialized RX1, .code yX1_isIn cX1_isIn 3 (some .boolean)] ++ wsX10)
def wsX1_its : List Cond := .code yX1_its cX1_its 3 (some .int) :: ([.fieldLink RX1 22 "ToneButterfliesModel" "rows" "[I"] ++ wsX10)
def wsX1_plus : List Cond := .code yX1_plus cX1_plus 3 (some .int) :: ([.fieldLink RX1 13 "ToneButterfliesModel" "p" "I"] ++ wsX10)
def wsX1_minus : List Cond := .code yX1_minus cX1_minus 3 (some .int) :: ([.fieldLink RX1 13 "ToneButterfliesModel" "p" "I"] ++ wsX10)
def wsX1_by : List Cond := .code yX1_by cX1_by 3 (some .int) :: ([.fieldLink RX1 13 "ToneButterfliesModel" "p" "I"] ++ wsX10)
def wsX1_power : List Cond := .code yX1_power cX1_power 6 (some .int) :: ([.methodLink RX1 36 yX1_by, .instanceMethod yX1_by, .selects RX1 yX1_by yX1_by, .initialized RX1, .code yX1_by cX1_by 3 (some .int), .fieldLink RX1 13 "ToneButterfliesModel" "p" "I"] ++ wsX10)
def wsX1_inverseOf : List Cond := .code yX1_inverseOf cX1_inverseOf 9 (some .int) :: ([.fieldLink RX1 13 "ToneButterfliesModel" "p" "I"] ++ wsX10)
def wsX1_orderOf : List Cond := .code yX1_orderOf cX1_orderOf 4 (some .int) :: ([.methodLink RX1 36 yX1_by, .instanceMethod yX1_by, .selects RX1 yX1_by yX1_by, .initialized RX1, .code yX1_by cX1_by 3 (some .int), .fieldLink RX1 13 "ToneButterfliesModel" "p" "I"] ++ wsX10)
def wsX1_isPrime : List Cond := .code yX1_isPrime cX1_isPrime 2 (some .boolean) :: ([])
def wsX1_rootOf : List Cond := .code yX1_rootOf cX1_rootOf 2 (some .int) :: ([.fieldLink RX1 7 "ToneButterfliesModel" "n" "I", .methodLink RX1 40 yX1_orderOf, .instanceMethod yX1_orderOf, .selects RX1 yX1_orderOf yX1_orderOf, .initialized RX1, .code yX1_orderOf cX1_orderOf 4 (some .int), .methodLink RX1 36 yX1_by, .instanceMethod yX1_by, .selects RX1 yX1_by yX1_by, .code yX1_by cX1_by 3 (some .int), .fieldLink RX1 13 "ToneButterfliesModel" "p" "I"] ++ wsX10)
def wsX1_ring_r1 : List Cond := [Cond.fieldLink RX1 29 "ToneButterfliesModel" "thrown" "I", Cond.fieldLink RX1 7 "ToneButterfliesModel" "n" "I", Cond.fieldLink RX1 13 "ToneButterfliesModel" "p" "I", Cond.fieldLink RX1 16 "ToneButterfliesModel" "w" "I", Cond.fieldLink RX1 19 "ToneButterfliesModel" "bits" "I", Cond.fieldLink RX1 22 "ToneButterfliesModel" "rows" "[I", Cond.methodLink RX1 32 yX1_isIn, Cond.static yX1_isIn, Cond.initialized RX1, Cond.code yX1_isIn cX1_isIn 3 (some .boolean), Cond.methodLink RX1 44 yX1_isPrime, Cond.static yX1_isPrime, Cond.code yX1_isPrime cX1_isPrime 2 (some .boolean), Cond.methodLink RX1 48 yX1_no, Cond.instanceMethod yX1_no, Cond.selects RX1 yX1_no yX1_no, Cond.code yX1_no cX1_no 2 (some .int), Cond.methodLink RX1 51 yX1_rootOf, Cond.instanceMethod yX1_rootOf, Cond.selects RX1 yX1_rootOf yX1_rootOf, Cond.code yX1_rootOf cX1_rootOf 2 (some .int), Cond.methodLink RX1 40 yX1_orderOf, Cond.instanceMethod yX1_orderOf, Cond.selects RX1 yX1_orderOf yX1_orderOf]
def wsX1_ring_r2 : List Cond := [Cond.code yX1_orderOf cX1_orderOf 4 (some .int), Cond.methodLink RX1 36 yX1_by, Cond.instanceMethod yX1_by, Cond.selects RX1 yX1_by yX1_by, Cond.code yX1_by cX1_by 3 (some .int)]
def wsX1_ring : List Cond := .code yX1_ring cX1_ring 4 (some .int) :: ((wsX1_ring_r1 ++ wsX1_ring_r2) ++ wsX10)
def wsX1_isUnit : List Cond := .code yX1_isUnit cX1_isUnit 2 (some .boolean) :: ([.fieldLink RX1 13 "ToneButterfliesModel" "p" "I", .methodLink RX1 32 yX1_isIn, .static yX1_isIn, .initialized RX1, .code yX1_isIn cX1_isIn 3 (some .boolean)] ++ wsX10)
def wsX1_order : List Cond := .code yX1_order cX1_order 2 (some .int) :: ([.fieldLink RX1 29 "ToneButterfliesModel" "thrown" "I", .methodLink RX1 55 yX1_isUnit, .instanceMethod yX1_isUnit, .selects RX1 yX1_isUnit yX1_isUnit, .initialized RX1, .code yX1_isUnit cX1_isUnit 2 (some .boolean), .fieldLink RX1 13 "ToneButterfliesModel" "p" "I", .methodLink RX1 32 yX1_isIn, .static yX1_isIn, .code yX1_isIn cX1_isIn 3 (some .boolean), .methodLink RX1 40 yX1_orderOf, .instanceMethod yX1_orderOf, .selects RX1 yX1_orderOf yX1_orderOf, .code yX1_orderOf cX1_orderOf 4 (some .int), .methodLink RX1 36 yX1_by, .instanceMethod yX1_by, .selects RX1 yX1_by yX1_by, .code yX1_by cX1_by 3 (some .int), .methodLink RX1 48 yX1_no, .instanceMethod yX1_no, .selects RX1 yX1_no yX1_no, .code yX1_no cX1_no 2 (some .int)] ++ wsX10)
def wsX1_inverse : List Cond := .code yX1_inverse cX1_inverse 2 (some .int) :: ([.fieldLink RX1 29 "ToneButterfliesModel" "thrown" "I", .methodLink RX1 55 yX1_isUnit, .instanceMethod yX1_isUnit, .selects RX1 yX1_isUnit yX1_isUnit, .initialized RX1, .code yX1_isUnit cX1_isUnit 2 (some .boolean), .fieldLink RX1 13 "ToneButterfliesModel" "p" "I", .methodLink RX1 32 yX1_isIn, .static yX1_isIn, .code yX1_isIn cX1_isIn 3 (some .boolean), .methodLink RX1 58 yX1_inverseOf, .instanceMethod yX1_inverseOf, .selects RX1 yX1_inverseOf yX1_inverseOf, .code yX1_inverseOf cX1_inverseOf 9 (some .int), .methodLink RX1 48 yX1_no, .instanceMethod yX1_no, .selects RX1 yX1_no yX1_no, .code yX1_no cX1_no 2 (some .int)] ++ wsX10)
def wsX1_root : List Cond := .code yX1_root cX1_root 2 (some .int) :: ([.fieldLink RX1 29 "ToneButterfliesModel" "thrown" "I", .fieldLink RX1 16 "ToneButterfliesModel" "w" "I", .methodLink RX1 32 yX1_isIn, .static yX1_isIn, .initialized RX1, .code yX1_isIn cX1_isIn 3 (some .boolean), .methodLink RX1 61 yX1_power, .instanceMethod yX1_power, .selects RX1 yX1_power yX1_power, .code yX1_power cX1_power 6 (some .int), .methodLink RX1 36 yX1_by, .instanceMethod yX1_by, .selects RX1 yX1_by yX1_by, .code yX1_by cX1_by 3 (some .int), .fieldLink RX1 13 "ToneButterfliesModel" "p" "I", .methodLink RX1 48 yX1_no, .instanceMethod yX1_no, .selects RX1 yX1_no yX1_no, .code yX1_no cX1_no 2 (some .int)] ++ wsX10)
def wsX1_lay : List Cond := .code yX1_lay cX1_lay 2 none :: ([.fieldLink RX1 26 "ToneButterfliesModel" "made" "[I", .fieldLink RX1 22 "ToneButterfliesModel" "rows" "[I", .fieldLink RX1 7 "ToneButterfliesModel" "n" "I", .methodLink RX1 64 arraycopyName, .native arraycopyName, .static arraycopyName, .initialized "java/lang/System"] ++ wsX10)
def wsX1_changes : List Cond := .code yX1_changes cX1_changes 4 (some .int) :: ([.fieldLink RX1 7 "ToneButterfliesModel" "n" "I", .fieldLink RX1 26 "ToneButterfliesModel" "made" "[I", .methodLink RX1 70 yX1_its, .instanceMethod yX1_its, .selects RX1 yX1_its yX1_its, .initialized RX1, .code yX1_its cX1_its 3 (some .int), .fieldLink RX1 22 "ToneButterfliesModel" "rows" "[I"] ++ wsX10)
def wsX1_others : List Cond := .code yX1_others cX1_others 4 (some .int) :: ([.fieldLink RX1 7 "ToneButterfliesModel" "n" "I", .methodLink RX1 70 yX1_its, .instanceMethod yX1_its, .selects RX1 yX1_its yX1_its, .initialized RX1, .code yX1_its cX1_its 3 (some .int), .fieldLink RX1 22 "ToneButterfliesModel" "rows" "[I"] ++ wsX10)
def wsX1_pointOf : List Cond := .code yX1_pointOf cX1_pointOf 5 (some .int) :: ([.fieldLink RX1 7 "ToneButterfliesModel" "n" "I", .methodLink RX1 36 yX1_by, .instanceMethod yX1_by, .selects RX1 yX1_by yX1_by, .initialized RX1, .code yX1_by cX1_by 3 (some .int), .fieldLink RX1 13 "ToneButterfliesModel" "p" "I", .methodLink RX1 70 yX1_its, .instanceMethod yX1_its, .selects RX1 yX1_its yX1_its, .code yX1_its cX1_its 3 (some .int), .fieldLink RX1 22 "ToneButterfliesModel" "rows" "[I", .methodLink RX1 73 yX1_plus, .instanceMethod yX1_plus, .selects RX1 yX1_plus yX1_plus, .code yX1_plus cX1_plus 3 (some .int)] ++ wsX10)
def wsX1_makeTones : List Cond := .code yX1_makeTones cX1_makeTones 6 none :: ([.fieldLink RX1 7 "ToneButterfliesModel" "n" "I", .fieldLink RX1 26 "ToneButterfliesModel" "made" "[I", .methodLink RX1 76 yX1_pointOf, .instanceMethod yX1_pointOf, .selects RX1 yX1_pointOf yX1_pointOf, .initialized RX1, .code yX1_pointOf cX1_pointOf 5 (some .int), .methodLink RX1 36 yX1_by, .instanceMethod yX1_by, .selects RX1 yX1_by yX1_by, .code yX1_by cX1_by 3 (some .int), .fieldLink RX1 13 "ToneButterfliesModel" "p" "I", .methodLink RX1 70 yX1_its, .instanceMethod yX1_its, .selects RX1 yX1_its yX1_its, .code yX1_its cX1_its 3 (some .int), .fieldLink RX1 22 "ToneButterfliesModel" "rows" "[I", .methodLink RX1 73 yX1_plus, .instanceMethod yX1_plus, .selects RX1 yX1_plus yX1_plus, .code yX1_plus cX1_plus 3 (some .int)] ++ wsX10)
def wsX1_folded : List Cond := .code yX1_folded cX1_folded 6 (some .int) :: ([.fieldLink RX1 7 "ToneButterfliesModel" "n" "I", .methodLink RX1 70 yX1_its, .instanceMethod yX1_its, .selects RX1 yX1_its yX1_its, .initialized RX1, .code yX1_its cX1_its 3 (some .int), .fieldLink RX1 22 "ToneButterfliesModel" "rows" "[I", .methodLink RX1 36 yX1_by, .instanceMethod yX1_by, .selects RX1 yX1_by yX1_by, .code yX1_by cX1_by 3 (some .int), .fieldLink RX1 13 "ToneButterfliesModel" "p" "I", .methodLink RX1 73 yX1_plus, .instanceMethod yX1_plus, .selects RX1 yX1_plus yX1_plus, .code yX1_plus cX1_plus 3 (some .int)] ++ wsX10)
def wsX1_mirrored : List Cond := .code yX1_mirrored cX1_mirrored 4 (some .int) :: ([.fieldLink RX1 19 "ToneButterfliesModel" "bits" "I"] ++ wsX10)
def wsX1_set : List Cond := .code yX1_set cX1_set 5 (some .int) :: ([.fieldLink RX1 29 "ToneButterfliesModel" "thrown" "I", .fieldLink RX1 13 "ToneButterfliesModel" "p" "I", .fieldLink RX1 22 "ToneButterfliesModel" "rows" "[I", .methodLink RX1 79 yX1_isRow, .static yX1_isRow, .initialized RX1, .code yX1_isRow cX1_isRow 1 (some .boolean), .methodLink RX1 32 yX1_isIn, .static yX1_isIn, .code yX1_isIn cX1_isIn 3 (some .boolean), .methodLink RX1 82 yX1_isPlace, .instanceMethod yX1_isPlace, .selects RX1 yX1_isPlace yX1_isPlace, .code yX1_isPlace cX1_isPlace 2 (some .boolean), .fieldLink RX1 7 "ToneButterfliesModel" "n" "I", .methodLink RX1 48 yX1_no, .instanceMethod yX1_no, .selects RX1 yX1_no yX1_no, .code yX1_no cX1_no 2 (some .int), .methodLink RX1 70 yX1_its, .instanceMethod yX1_its, .selects RX1 yX1_its yX1_its, .code yX1_its cX1_its 3 (some .int)] ++ wsX10)
def wsX1_copy_r1 : List Cond := [Cond.fieldLink RX1 29 "ToneButterfliesModel" "thrown" "I", Cond.fieldLink RX1 22 "ToneButterfliesModel" "rows" "[I", Cond.fieldLink RX1 26 "ToneButterfliesModel" "made" "[I", Cond.fieldLink RX1 7 "ToneButterfliesModel" "n" "I", Cond.methodLink RX1 64 arraycopyName, Cond.native arraycopyName, Cond.static arraycopyName, Cond.initialized "java/lang/System", Cond.methodLink RX1 79 yX1_isRow, Cond.static yX1_isRow, Cond.initialized RX1, Cond.code yX1_isRow cX1_isRow 1 (some .boolean), Cond.methodLink RX1 32 yX1_isIn, Cond.static yX1_isIn, Cond.code yX1_isIn cX1_isIn 3 (some .boolean), Cond.methodLink RX1 48 yX1_no, Cond.instanceMethod yX1_no, Cond.selects RX1 yX1_no yX1_no, Cond.code yX1_no cX1_no 2 (some .int), Cond.methodLink RX1 85 yX1_changes, Cond.instanceMethod yX1_changes, Cond.selects RX1 yX1_changes yX1_changes, Cond.code yX1_changes cX1_changes 4 (some .int), Cond.methodLink RX1 70 yX1_its]
def wsX1_copy_r2 : List Cond := [Cond.instanceMethod yX1_its, Cond.selects RX1 yX1_its yX1_its, Cond.code yX1_its cX1_its 3 (some .int), Cond.methodLink RX1 88 yX1_lay, Cond.instanceMethod yX1_lay, Cond.selects RX1 yX1_lay yX1_lay, Cond.code yX1_lay cX1_lay 2 none]
def wsX1_copy : List Cond := .code yX1_copy cX1_copy 4 (some .int) :: ((wsX1_copy_r1 ++ wsX1_copy_r2) ++ wsX10)
def wsX1_turn_r1 : List Cond := [Cond.fieldLink RX1 29 "ToneButterfliesModel" "thrown" "I", Cond.fieldLink RX1 16 "ToneButterfliesModel" "w" "I", Cond.fieldLink RX1 7 "ToneButterfliesModel" "n" "I", Cond.fieldLink RX1 26 "ToneButterfliesModel" "made" "[I", Cond.methodLink RX1 79 yX1_isRow, Cond.static yX1_isRow, Cond.initialized RX1, Cond.code yX1_isRow cX1_isRow 1 (some .boolean), Cond.methodLink RX1 32 yX1_isIn, Cond.static yX1_isIn, Cond.code yX1_isIn cX1_isIn 3 (some .boolean), Cond.methodLink RX1 48 yX1_no, Cond.instanceMethod yX1_no, Cond.selects RX1 yX1_no yX1_no, Cond.code yX1_no cX1_no 2 (some .int), Cond.methodLink RX1 58 yX1_inverseOf, Cond.instanceMethod yX1_inverseOf, Cond.selects RX1 yX1_inverseOf yX1_inverseOf, Cond.code yX1_inverseOf cX1_inverseOf 9 (some .int), Cond.fieldLink RX1 13 "ToneButterfliesModel" "p" "I", Cond.methodLink RX1 92 yX1_makeTones, Cond.instanceMethod yX1_makeTones, Cond.selects RX1 yX1_makeTones yX1_makeTones, Cond.code yX1_makeTones cX1_makeTones 6 none]
def wsX1_turn_r2 : List Cond := [Cond.methodLink RX1 76 yX1_pointOf, Cond.instanceMethod yX1_pointOf, Cond.selects RX1 yX1_pointOf yX1_pointOf, Cond.code yX1_pointOf cX1_pointOf 5 (some .int), Cond.methodLink RX1 36 yX1_by, Cond.instanceMethod yX1_by, Cond.selects RX1 yX1_by yX1_by, Cond.code yX1_by cX1_by 3 (some .int), Cond.methodLink RX1 70 yX1_its, Cond.instanceMethod yX1_its, Cond.selects RX1 yX1_its yX1_its, Cond.code yX1_its cX1_its 3 (some .int), Cond.fieldLink RX1 22 "ToneButterfliesModel" "rows" "[I", Cond.methodLink RX1 73 yX1_plus, Cond.instanceMethod yX1_plus, Cond.selects RX1 yX1_plus yX1_plus, Cond.code yX1_plus cX1_plus 3 (some .int), Cond.methodLink RX1 88 yX1_lay, Cond.instanceMethod yX1_lay, Cond.selects RX1 yX1_lay yX1_lay, Cond.code yX1_lay cX1_lay 2 none, Cond.methodLink RX1 64 arraycopyName, Cond.native arraycopyName, Cond.static arraycopyName]
def wsX1_turn_r3 : List Cond := [Cond.initialized "java/lang/System"]
def wsX1_turn : List Cond := .code yX1_turn cX1_turn 3 (some .int) :: ((wsX1_turn_r1 ++ (wsX1_turn_r2 ++ wsX1_turn_r3)) ++ wsX10)
def wsX1_mirror_r1 : List Cond := [Cond.fieldLink RX1 29 "ToneButterfliesModel" "thrown" "I", Cond.fieldLink RX1 7 "ToneButterfliesModel" "n" "I", Cond.fieldLink RX1 26 "ToneButterfliesModel" "made" "[I", Cond.methodLink RX1 79 yX1_isRow, Cond.static yX1_isRow, Cond.initialized RX1, Cond.code yX1_isRow cX1_isRow 1 (some .boolean), Cond.methodLink RX1 32 yX1_isIn, Cond.static yX1_isIn, Cond.code yX1_isIn cX1_isIn 3 (some .boolean), Cond.methodLink RX1 48 yX1_no, Cond.instanceMethod yX1_no, Cond.selects RX1 yX1_no yX1_no, Cond.code yX1_no cX1_no 2 (some .int), Cond.methodLink RX1 96 yX1_mirrored, Cond.instanceMethod yX1_mirrored, Cond.selects RX1 yX1_mirrored yX1_mirrored, Cond.code yX1_mirrored cX1_mirrored 4 (some .int), Cond.fieldLink RX1 19 "ToneButterfliesModel" "bits" "I", Cond.methodLink RX1 70 yX1_its, Cond.instanceMethod yX1_its, Cond.selects RX1 yX1_its yX1_its, Cond.code yX1_its cX1_its 3 (some .int), Cond.fieldLink RX1 22 "ToneButterfliesModel" "rows" "[I"]
def wsX1_mirror_r2 : List Cond := [Cond.methodLink RX1 85 yX1_changes, Cond.instanceMethod yX1_changes, Cond.selects RX1 yX1_changes yX1_changes, Cond.code yX1_changes cX1_changes 4 (some .int), Cond.methodLink RX1 88 yX1_lay, Cond.instanceMethod yX1_lay, Cond.selects RX1 yX1_lay yX1_lay, Cond.code yX1_lay cX1_lay 2 none, Cond.methodLink RX1 64 arraycopyName, Cond.native arraycopyName, Cond.static arraycopyName, Cond.initialized "java/lang/System"]
def wsX1_mirror : List Cond := .code yX1_mirror cX1_mirror 3 (some .int) :: ((wsX1_mirror_r1 ++ wsX1_mirror_r2) ++ wsX10)
def wsX1_stage_r1 : List Cond := [Cond.fieldLink RX1 29 "ToneButterfliesModel" "thrown" "I", Cond.fieldLink RX1 19 "ToneButterfliesModel" "bits" "I", Cond.fieldLink RX1 7 "ToneButterfliesModel" "n" "I", Cond.fieldLink RX1 16 "ToneButterfliesModel" "w" "I", Cond.fieldLink RX1 26 "ToneButterfliesModel" "made" "[I", Cond.methodLink RX1 79 yX1_isRow, Cond.static yX1_isRow, Cond.initialized RX1, Cond.code yX1_isRow cX1_isRow 1 (some .boolean), Cond.methodLink RX1 32 yX1_isIn, Cond.static yX1_isIn, Cond.code yX1_isIn cX1_isIn 3 (some .boolean), Cond.methodLink RX1 48 yX1_no, Cond.instanceMethod yX1_no, Cond.selects RX1 yX1_no yX1_no, Cond.code yX1_no cX1_no 2 (some .int), Cond.methodLink RX1 70 yX1_its, Cond.instanceMethod yX1_its, Cond.selects RX1 yX1_its yX1_its, Cond.code yX1_its cX1_its 3 (some .int), Cond.fieldLink RX1 22 "ToneButterfliesModel" "rows" "[I", Cond.methodLink RX1 61 yX1_power, Cond.instanceMethod yX1_power, Cond.selects RX1 yX1_power yX1_power]
def wsX1_stage_r2 : List Cond := [Cond.code yX1_power cX1_power 6 (some .int), Cond.methodLink RX1 36 yX1_by, Cond.instanceMethod yX1_by, Cond.selects RX1 yX1_by yX1_by, Cond.code yX1_by cX1_by 3 (some .int), Cond.fieldLink RX1 13 "ToneButterfliesModel" "p" "I", Cond.methodLink RX1 73 yX1_plus, Cond.instanceMethod yX1_plus, Cond.selects RX1 yX1_plus yX1_plus, Cond.code yX1_plus cX1_plus 3 (some .int), Cond.methodLink RX1 99 yX1_minus, Cond.instanceMethod yX1_minus, Cond.selects RX1 yX1_minus yX1_minus, Cond.code yX1_minus cX1_minus 3 (some .int), Cond.methodLink RX1 88 yX1_lay, Cond.instanceMethod yX1_lay, Cond.selects RX1 yX1_lay yX1_lay, Cond.code yX1_lay cX1_lay 2 none, Cond.methodLink RX1 64 arraycopyName, Cond.native arraycopyName, Cond.static arraycopyName, Cond.initialized "java/lang/System"]
def wsX1_stage : List Cond := .code yX1_stage cX1_stage 9 (some .int) :: ((wsX1_stage_r1 ++ wsX1_stage_r2) ++ wsX10)
def wsX1_fold_r1 : List Cond := [Cond.fieldLink RX1 29 "ToneButterfliesModel" "thrown" "I", Cond.fieldLink RX1 7 "ToneButterfliesModel" "n" "I", Cond.fieldLink RX1 26 "ToneButterfliesModel" "made" "[I", Cond.methodLink RX1 79 yX1_isRow, Cond.static yX1_isRow, Cond.initialized RX1, Cond.code yX1_isRow cX1_isRow 1 (some .boolean), Cond.methodLink RX1 32 yX1_isIn, Cond.static yX1_isIn, Cond.code yX1_isIn cX1_isIn 3 (some .boolean), Cond.methodLink RX1 48 yX1_no, Cond.instanceMethod yX1_no, Cond.selects RX1 yX1_no yX1_no, Cond.code yX1_no cX1_no 2 (some .int), Cond.methodLink RX1 102 yX1_folded, Cond.instanceMethod yX1_folded, Cond.selects RX1 yX1_folded yX1_folded, Cond.code yX1_folded cX1_folded 6 (some .int), Cond.methodLink RX1 70 yX1_its, Cond.instanceMethod yX1_its, Cond.selects RX1 yX1_its yX1_its, Cond.code yX1_its cX1_its 3 (some .int), Cond.fieldLink RX1 22 "ToneButterfliesModel" "rows" "[I", Cond.methodLink RX1 36 yX1_by]
def wsX1_fold_r2 : List Cond := [Cond.instanceMethod yX1_by, Cond.selects RX1 yX1_by yX1_by, Cond.code yX1_by cX1_by 3 (some .int), Cond.fieldLink RX1 13 "ToneButterfliesModel" "p" "I", Cond.methodLink RX1 73 yX1_plus, Cond.instanceMethod yX1_plus, Cond.selects RX1 yX1_plus yX1_plus, Cond.code yX1_plus cX1_plus 3 (some .int), Cond.methodLink RX1 88 yX1_lay, Cond.instanceMethod yX1_lay, Cond.selects RX1 yX1_lay yX1_lay, Cond.code yX1_lay cX1_lay 2 none, Cond.methodLink RX1 64 arraycopyName, Cond.native arraycopyName, Cond.static arraycopyName, Cond.initialized "java/lang/System"]
def wsX1_fold : List Cond := .code yX1_fold cX1_fold 4 (some .int) :: ((wsX1_fold_r1 ++ wsX1_fold_r2) ++ wsX10)
def wsX1_join_r1 : List Cond := [Cond.fieldLink RX1 29 "ToneButterfliesModel" "thrown" "I", Cond.fieldLink RX1 7 "ToneButterfliesModel" "n" "I", Cond.fieldLink RX1 26 "ToneButterfliesModel" "made" "[I", Cond.methodLink RX1 79 yX1_isRow, Cond.static yX1_isRow, Cond.initialized RX1, Cond.code yX1_isRow cX1_isRow 1 (some .boolean), Cond.methodLink RX1 32 yX1_isIn, Cond.static yX1_isIn, Cond.code yX1_isIn cX1_isIn 3 (some .boolean), Cond.methodLink RX1 48 yX1_no, Cond.instanceMethod yX1_no, Cond.selects RX1 yX1_no yX1_no, Cond.code yX1_no cX1_no 2 (some .int), Cond.methodLink RX1 70 yX1_its, Cond.instanceMethod yX1_its, Cond.selects RX1 yX1_its yX1_its, Cond.code yX1_its cX1_its 3 (some .int), Cond.fieldLink RX1 22 "ToneButterfliesModel" "rows" "[I", Cond.methodLink RX1 73 yX1_plus, Cond.instanceMethod yX1_plus, Cond.selects RX1 yX1_plus yX1_plus, Cond.code yX1_plus cX1_plus 3 (some .int), Cond.fieldLink RX1 13 "ToneButterfliesModel" "p" "I"]
def wsX1_join_r2 : List Cond := [Cond.methodLink RX1 99 yX1_minus, Cond.instanceMethod yX1_minus, Cond.selects RX1 yX1_minus yX1_minus, Cond.code yX1_minus cX1_minus 3 (some .int), Cond.methodLink RX1 36 yX1_by, Cond.instanceMethod yX1_by, Cond.selects RX1 yX1_by yX1_by, Cond.code yX1_by cX1_by 3 (some .int), Cond.methodLink RX1 88 yX1_lay, Cond.instanceMethod yX1_lay, Cond.selects RX1 yX1_lay yX1_lay, Cond.code yX1_lay cX1_lay 2 none, Cond.methodLink RX1 64 arraycopyName, Cond.native arraycopyName, Cond.static arraycopyName, Cond.initialized "java/lang/System", Cond.methodLink RX1 106 yX1_others, Cond.instanceMethod yX1_others, Cond.selects RX1 yX1_others yX1_others, Cond.code yX1_others cX1_others 4 (some .int)]
def wsX1_join : List Cond := .code yX1_join cX1_join 5 (some .int) :: ((wsX1_join_r1 ++ wsX1_join_r2) ++ wsX10)
def wsX1_move_r1 : List Cond := [Cond.fieldLink RX1 29 "ToneButterfliesModel" "thrown" "I", Cond.fieldLink RX1 7 "ToneButterfliesModel" "n" "I", Cond.fieldLink RX1 26 "ToneButterfliesModel" "made" "[I", Cond.methodLink RX1 79 yX1_isRow, Cond.static yX1_isRow, Cond.initialized RX1, Cond.code yX1_isRow cX1_isRow 1 (some .boolean), Cond.methodLink RX1 32 yX1_isIn, Cond.static yX1_isIn, Cond.code yX1_isIn cX1_isIn 3 (some .boolean), Cond.methodLink RX1 48 yX1_no, Cond.instanceMethod yX1_no, Cond.selects RX1 yX1_no yX1_no, Cond.code yX1_no cX1_no 2 (some .int), Cond.methodLink RX1 82 yX1_isPlace, Cond.instanceMethod yX1_isPlace, Cond.selects RX1 yX1_isPlace yX1_isPlace, Cond.code yX1_isPlace cX1_isPlace 2 (some .boolean), Cond.methodLink RX1 70 yX1_its, Cond.instanceMethod yX1_its, Cond.selects RX1 yX1_its yX1_its, Cond.code yX1_its cX1_its 3 (some .int), Cond.fieldLink RX1 22 "ToneButterfliesModel" "rows" "[I", Cond.methodLink RX1 88 yX1_lay]
def wsX1_move_r2 : List Cond := [Cond.instanceMethod yX1_lay, Cond.selects RX1 yX1_lay yX1_lay, Cond.code yX1_lay cX1_lay 2 none, Cond.methodLink RX1 64 arraycopyName, Cond.native arraycopyName, Cond.static arraycopyName, Cond.initialized "java/lang/System"]
def wsX1_move : List Cond := .code yX1_move cX1_move 4 (some .int) :: ((wsX1_move_r1 ++ wsX1_move_r2) ++ wsX10)
def wsX1_times_r1 : List Cond := [Cond.fieldLink RX1 29 "ToneButterfliesModel" "thrown" "I", Cond.fieldLink RX1 13 "ToneButterfliesModel" "p" "I", Cond.fieldLink RX1 7 "ToneButterfliesModel" "n" "I", Cond.fieldLink RX1 26 "ToneButterfliesModel" "made" "[I", Cond.methodLink RX1 79 yX1_isRow, Cond.static yX1_isRow, Cond.initialized RX1, Cond.code yX1_isRow cX1_isRow 1 (some .boolean), Cond.methodLink RX1 32 yX1_isIn, Cond.static yX1_isIn, Cond.code yX1_isIn cX1_isIn 3 (some .boolean), Cond.methodLink RX1 48 yX1_no, Cond.instanceMethod yX1_no, Cond.selects RX1 yX1_no yX1_no, Cond.code yX1_no cX1_no 2 (some .int), Cond.methodLink RX1 70 yX1_its, Cond.instanceMethod yX1_its, Cond.selects RX1 yX1_its yX1_its, Cond.code yX1_its cX1_its 3 (some .int), Cond.fieldLink RX1 22 "ToneButterfliesModel" "rows" "[I", Cond.methodLink RX1 36 yX1_by, Cond.instanceMethod yX1_by, Cond.selects RX1 yX1_by yX1_by, Cond.code yX1_by cX1_by 3 (some .int)]
def wsX1_times_r2 : List Cond := [Cond.methodLink RX1 88 yX1_lay, Cond.instanceMethod yX1_lay, Cond.selects RX1 yX1_lay yX1_lay, Cond.code yX1_lay cX1_lay 2 none, Cond.methodLink RX1 64 arraycopyName, Cond.native arraycopyName, Cond.static arraycopyName, Cond.initialized "java/lang/System", Cond.methodLink RX1 106 yX1_others, Cond.instanceMethod yX1_others, Cond.selects RX1 yX1_others yX1_others, Cond.code yX1_others cX1_others 4 (some .int)]
def wsX1_times : List Cond := .code yX1_times cX1_times 4 (some .int) :: ((wsX1_times_r1 ++ wsX1_times_r2) ++ wsX10)
def wsX1_at : List Cond := .code yX1_at cX1_at 3 (some .int) :: ([.fieldLink RX1 29 "ToneButterfliesModel" "thrown" "I", .methodLink RX1 79 yX1_isRow, .static yX1_isRow, .initialized RX1, .code yX1_isRow cX1_isRow 1 (some .boolean), .methodLink RX1 32 yX1_isIn, .static yX1_isIn, .code yX1_isIn cX1_isIn 3 (some .boolean), .methodLink RX1 82 yX1_isPlace, .instanceMethod yX1_isPlace, .selects RX1 yX1_isPlace yX1_isPlace, .code yX1_isPlace cX1_isPlace 2 (some .boolean), .fieldLink RX1 7 "ToneButterfliesModel" "n" "I", .methodLink RX1 70 yX1_its, .instanceMethod yX1_its, .selects RX1 yX1_its yX1_its, .code yX1_its cX1_its 3 (some .int), .fieldLink RX1 22 "ToneButterfliesModel" "rows" "[I", .methodLink RX1 48 yX1_no, .instanceMethod yX1_no, .selects RX1 yX1_no yX1_no, .code yX1_no cX1_no 2 (some .int)] ++ wsX10)
def wsX1_point_r1 : List Cond := [Cond.fieldLink RX1 29 "ToneButterfliesModel" "thrown" "I", Cond.fieldLink RX1 13 "ToneButterfliesModel" "p" "I", Cond.methodLink RX1 79 yX1_isRow, Cond.static yX1_isRow, Cond.initialized RX1, Cond.code yX1_isRow cX1_isRow 1 (some .boolean), Cond.methodLink RX1 32 yX1_isIn, Cond.static yX1_isIn, Cond.code yX1_isIn cX1_isIn 3 (some .boolean), Cond.methodLink RX1 48 yX1_no, Cond.instanceMethod yX1_no, Cond.selects RX1 yX1_no yX1_no, Cond.code yX1_no cX1_no 2 (some .int), Cond.methodLink RX1 76 yX1_pointOf, Cond.instanceMethod yX1_pointOf, Cond.selects RX1 yX1_pointOf yX1_pointOf, Cond.code yX1_pointOf cX1_pointOf 5 (some .int), Cond.fieldLink RX1 7 "ToneButterfliesModel" "n" "I", Cond.methodLink RX1 36 yX1_by, Cond.instanceMethod yX1_by, Cond.selects RX1 yX1_by yX1_by, Cond.code yX1_by cX1_by 3 (some .int), Cond.methodLink RX1 70 yX1_its, Cond.instanceMethod yX1_its]
def wsX1_point_r2 : List Cond := [Cond.selects RX1 yX1_its yX1_its, Cond.code yX1_its cX1_its 3 (some .int), Cond.fieldLink RX1 22 "ToneButterfliesModel" "rows" "[I", Cond.methodLink RX1 73 yX1_plus, Cond.instanceMethod yX1_plus, Cond.selects RX1 yX1_plus yX1_plus, Cond.code yX1_plus cX1_plus 3 (some .int)]
def wsX1_point : List Cond := .code yX1_point cX1_point 3 (some .int) :: ((wsX1_point_r1 ++ wsX1_point_r2) ++ wsX10)
def wsX1_isMoved : List Cond := .code yX1_isMoved cX1_isMoved 5 (some .boolean) :: ([.fieldLink RX1 7 "ToneButterfliesModel" "n" "I", .methodLink RX1 70 yX1_its, .instanceMethod yX1_its, .selects RX1 yX1_its yX1_its, .initialized RX1, .code yX1_its cX1_its 3 (some .int), .fieldLink RX1 22 "ToneButterfliesModel" "rows" "[I"] ++ wsX10)
def wsX1_aboutTold_r1 : List Cond := [Cond.fieldLink RX1 7 "ToneButterfliesModel" "n" "I", Cond.methodLink RX1 112 Lib.Math.max.name, Cond.static Lib.Math.max.name, Cond.initialized "java/lang/Math", Cond.code Lib.Math.max.name Lib.Math.max.code 2 (some .int), Cond.methodLink RX1 76 yX1_pointOf, Cond.instanceMethod yX1_pointOf, Cond.selects RX1 yX1_pointOf yX1_pointOf, Cond.initialized RX1, Cond.code yX1_pointOf cX1_pointOf 5 (some .int), Cond.methodLink RX1 36 yX1_by, Cond.instanceMethod yX1_by, Cond.selects RX1 yX1_by yX1_by, Cond.code yX1_by cX1_by 3 (some .int), Cond.fieldLink RX1 13 "ToneButterfliesModel" "p" "I", Cond.methodLink RX1 70 yX1_its, Cond.instanceMethod yX1_its, Cond.selects RX1 yX1_its yX1_its, Cond.code yX1_its cX1_its 3 (some .int), Cond.fieldLink RX1 22 "ToneButterfliesModel" "rows" "[I", Cond.methodLink RX1 73 yX1_plus, Cond.instanceMethod yX1_plus, Cond.selects RX1 yX1_plus yX1_plus, Cond.code yX1_plus cX1_plus 3 (some .int)]
def wsX1_aboutTold_r2 : List Cond := [Cond.methodLink RX1 106 yX1_others, Cond.instanceMethod yX1_others, Cond.selects RX1 yX1_others yX1_others, Cond.code yX1_others cX1_others 4 (some .int), Cond.methodLink RX1 109 yX1_isMoved, Cond.instanceMethod yX1_isMoved, Cond.selects RX1 yX1_isMoved yX1_isMoved, Cond.code yX1_isMoved cX1_isMoved 5 (some .boolean)]
def wsX1_aboutTold : List Cond := .code yX1_aboutTold cX1_aboutTold 5 (some .int) :: ((wsX1_aboutTold_r1 ++ wsX1_aboutTold_r2) ++ wsX10)
def wsX1_about_r1 : List Cond := [Cond.fieldLink RX1 29 "ToneButterfliesModel" "thrown" "I", Cond.methodLink RX1 79 yX1_isRow, Cond.static yX1_isRow, Cond.initialized RX1, Cond.code yX1_isRow cX1_isRow 1 (some .boolean), Cond.methodLink RX1 32 yX1_isIn, Cond.static yX1_isIn, Cond.code yX1_isIn cX1_isIn 3 (some .boolean), Cond.methodLink RX1 117 yX1_aboutTold, Cond.instanceMethod yX1_aboutTold, Cond.selects RX1 yX1_aboutTold yX1_aboutTold, Cond.code yX1_aboutTold cX1_aboutTold 5 (some .int), Cond.fieldLink RX1 7 "ToneButterfliesModel" "n" "I", Cond.methodLink RX1 112 Lib.Math.max.name, Cond.static Lib.Math.max.name, Cond.initialized "java/lang/Math", Cond.code Lib.Math.max.name Lib.Math.max.code 2 (some .int), Cond.methodLink RX1 76 yX1_pointOf, Cond.instanceMethod yX1_pointOf, Cond.selects RX1 yX1_pointOf yX1_pointOf, Cond.code yX1_pointOf cX1_pointOf 5 (some .int), Cond.methodLink RX1 36 yX1_by, Cond.instanceMethod yX1_by, Cond.selects RX1 yX1_by yX1_by]
def wsX1_about_r2 : List Cond := [Cond.code yX1_by cX1_by 3 (some .int), Cond.fieldLink RX1 13 "ToneButterfliesModel" "p" "I", Cond.methodLink RX1 70 yX1_its, Cond.instanceMethod yX1_its, Cond.selects RX1 yX1_its yX1_its, Cond.code yX1_its cX1_its 3 (some .int), Cond.fieldLink RX1 22 "ToneButterfliesModel" "rows" "[I", Cond.methodLink RX1 73 yX1_plus, Cond.instanceMethod yX1_plus, Cond.selects RX1 yX1_plus yX1_plus, Cond.code yX1_plus cX1_plus 3 (some .int), Cond.methodLink RX1 106 yX1_others, Cond.instanceMethod yX1_others, Cond.selects RX1 yX1_others yX1_others, Cond.code yX1_others cX1_others 4 (some .int), Cond.methodLink RX1 109 yX1_isMoved, Cond.instanceMethod yX1_isMoved, Cond.selects RX1 yX1_isMoved yX1_isMoved, Cond.code yX1_isMoved cX1_isMoved 5 (some .boolean), Cond.methodLink RX1 48 yX1_no, Cond.instanceMethod yX1_no, Cond.selects RX1 yX1_no yX1_no, Cond.code yX1_no cX1_no 2 (some .int)]
def wsX1_about : List Cond := .code yX1_about cX1_about 3 (some .int) :: ((wsX1_about_r1 ++ wsX1_about_r2) ++ wsX10)
def wsX1_counted : List Cond := .code yX1_counted cX1_counted 2 (some .int) :: ([.fieldLink RX1 7 "ToneButterfliesModel" "n" "I", .fieldLink RX1 13 "ToneButterfliesModel" "p" "I", .fieldLink RX1 16 "ToneButterfliesModel" "w" "I", .fieldLink RX1 19 "ToneButterfliesModel" "bits" "I", .methodLink RX1 58 yX1_inverseOf, .instanceMethod yX1_inverseOf, .selects RX1 yX1_inverseOf yX1_inverseOf, .initialized RX1, .code yX1_inverseOf cX1_inverseOf 9 (some .int)] ++ wsX10)
def wsX1_count : List Cond := .code yX1_count cX1_count 2 (some .int) :: ([.fieldLink RX1 29 "ToneButterfliesModel" "thrown" "I", .methodLink RX1 32 yX1_isIn, .static yX1_isIn, .initialized RX1, .code yX1_isIn cX1_isIn 3 (some .boolean), .methodLink RX1 120 yX1_counted, .instanceMethod yX1_counted, .selects RX1 yX1_counted yX1_counted, .code yX1_counted cX1_counted 2 (some .int), .fieldLink RX1 7 "ToneButterfliesModel" "n" "I", .fieldLink RX1 13 "ToneButterfliesModel" "p" "I", .fieldLink RX1 16 "ToneButterfliesModel" "w" "I", .fieldLink RX1 19 "ToneButterfliesModel" "bits" "I", .methodLink RX1 58 yX1_inverseOf, .instanceMethod yX1_inverseOf, .selects RX1 yX1_inverseOf yX1_inverseOf, .code yX1_inverseOf cX1_inverseOf 9 (some .int), .methodLink RX1 48 yX1_no, .instanceMethod yX1_no, .selects RX1 yX1_no yX1_no, .code yX1_no cX1_no 2 (some .int)] ++ wsX10)
def wsX1_would_r1 : List Cond := [Cond.fieldLink RX1 29 "ToneButterfliesModel" "thrown" "I", Cond.methodLink RX1 79 yX1_isRow, Cond.static yX1_isRow, Cond.initialized RX1, Cond.code yX1_isRow cX1_isRow 1 (some .boolean), Cond.methodLink RX1 32 yX1_isIn, Cond.static yX1_isIn, Cond.code yX1_isIn cX1_isIn 3 (some .boolean), Cond.methodLink RX1 82 yX1_isPlace, Cond.instanceMethod yX1_isPlace, Cond.selects RX1 yX1_isPlace yX1_isPlace, Cond.code yX1_isPlace cX1_isPlace 2 (some .boolean), Cond.fieldLink RX1 7 "ToneButterfliesModel" "n" "I", Cond.methodLink RX1 102 yX1_folded, Cond.instanceMethod yX1_folded, Cond.selects RX1 yX1_folded yX1_folded, Cond.code yX1_folded cX1_folded 6 (some .int), Cond.methodLink RX1 70 yX1_its, Cond.instanceMethod yX1_its, Cond.selects RX1 yX1_its yX1_its, Cond.code yX1_its cX1_its 3 (some .int), Cond.fieldLink RX1 22 "ToneButterfliesModel" "rows" "[I", Cond.methodLink RX1 36 yX1_by, Cond.instanceMethod yX1_by]
def wsX1_would_r2 : List Cond := [Cond.selects RX1 yX1_by yX1_by, Cond.code yX1_by cX1_by 3 (some .int), Cond.fieldLink RX1 13 "ToneButterfliesModel" "p" "I", Cond.methodLink RX1 73 yX1_plus, Cond.instanceMethod yX1_plus, Cond.selects RX1 yX1_plus yX1_plus, Cond.code yX1_plus cX1_plus 3 (some .int), Cond.methodLink RX1 48 yX1_no, Cond.instanceMethod yX1_no, Cond.selects RX1 yX1_no yX1_no, Cond.code yX1_no cX1_no 2 (some .int)]
def wsX1_would : List Cond := .code yX1_would cX1_would 4 (some .int) :: ((wsX1_would_r1 ++ wsX1_would_r2) ++ wsX10)
def wsX1_comesBy : List Cond := .code yX1_comesBy cX1_comesBy 4 (some .int) :: ([.fieldLink RX1 7 "ToneButterfliesModel" "n" "I", .methodLink RX1 109 yX1_isMoved, .instanceMethod yX1_isMoved, .selects RX1 yX1_isMoved yX1_isMoved, .initialized RX1, .code yX1_isMoved cX1_isMoved 5 (some .boolean), .methodLink RX1 70 yX1_its, .instanceMethod yX1_its, .selects RX1 yX1_its yX1_its, .code yX1_its cX1_its 3 (some .int), .fieldLink RX1 22 "ToneButterfliesModel" "rows" "[I"] ++ wsX10)
def wsX1_comes_r1 : List Cond := [Cond.fieldLink RX1 29 "ToneButterfliesModel" "thrown" "I", Cond.methodLink RX1 79 yX1_isRow, Cond.static yX1_isRow, Cond.initialized RX1, Cond.code yX1_isRow cX1_isRow 1 (some .boolean), Cond.methodLink RX1 32 yX1_isIn, Cond.static yX1_isIn, Cond.code yX1_isIn cX1_isIn 3 (some .boolean), Cond.methodLink RX1 123 yX1_comesBy, Cond.instanceMethod yX1_comesBy, Cond.selects RX1 yX1_comesBy yX1_comesBy, Cond.code yX1_comesBy cX1_comesBy 4 (some .int), Cond.fieldLink RX1 7 "ToneButterfliesModel" "n" "I", Cond.methodLink RX1 109 yX1_isMoved, Cond.instanceMethod yX1_isMoved, Cond.selects RX1 yX1_isMoved yX1_isMoved, Cond.code yX1_isMoved cX1_isMoved 5 (some .boolean), Cond.methodLink RX1 70 yX1_its, Cond.instanceMethod yX1_its, Cond.selects RX1 yX1_its yX1_its, Cond.code yX1_its cX1_its 3 (some .int), Cond.fieldLink RX1 22 "ToneButterfliesModel" "rows" "[I", Cond.methodLink RX1 48 yX1_no, Cond.instanceMethod yX1_no]
def wsX1_comes_r2 : List Cond := [Cond.selects RX1 yX1_no yX1_no, Cond.code yX1_no cX1_no 2 (some .int)]
def wsX1_comes : List Cond := .code yX1_comes cX1_comes 3 (some .int) :: ((wsX1_comes_r1 ++ wsX1_comes_r2) ++ wsX10)
def wsX1_together : List Cond := .code yX1_together cX1_together 6 (some .int) :: ([.fieldLink RX1 7 "ToneButterfliesModel" "n" "I", .methodLink RX1 70 yX1_its, .instanceMethod yX1_its, .selects RX1 yX1_its yX1_its, .initialized RX1, .code yX1_its cX1_its 3 (some .int), .fieldLink RX1 22 "ToneButterfliesModel" "rows" "[I", .methodLink RX1 36 yX1_by, .instanceMethod yX1_by, .selects RX1 yX1_by yX1_by, .code yX1_by cX1_by 3 (some .int), .fieldLink RX1 13 "ToneButterfliesModel" "p" "I", .methodLink RX1 73 yX1_plus, .instanceMethod yX1_plus, .selects RX1 yX1_plus yX1_plus, .code yX1_plus cX1_plus 3 (some .int)] ++ wsX10)
def wsX1_advise_r1 : List Cond := [Cond.fieldLink RX1 29 "ToneButterfliesModel" "thrown" "I", Cond.fieldLink RX1 7 "ToneButterfliesModel" "n" "I", Cond.methodLink RX1 79 yX1_isRow, Cond.static yX1_isRow, Cond.initialized RX1, Cond.code yX1_isRow cX1_isRow 1 (some .boolean), Cond.methodLink RX1 32 yX1_isIn, Cond.static yX1_isIn, Cond.code yX1_isIn cX1_isIn 3 (some .boolean), Cond.methodLink RX1 48 yX1_no, Cond.instanceMethod yX1_no, Cond.selects RX1 yX1_no yX1_no, Cond.code yX1_no cX1_no 2 (some .int), Cond.methodLink RX1 126 yX1_together, Cond.instanceMethod yX1_together, Cond.selects RX1 yX1_together yX1_together, Cond.code yX1_together cX1_together 6 (some .int), Cond.methodLink RX1 70 yX1_its, Cond.instanceMethod yX1_its, Cond.selects RX1 yX1_its yX1_its, Cond.code yX1_its cX1_its 3 (some .int), Cond.fieldLink RX1 22 "ToneButterfliesModel" "rows" "[I", Cond.methodLink RX1 36 yX1_by, Cond.instanceMethod yX1_by]
def wsX1_advise_r2 : List Cond := [Cond.selects RX1 yX1_by yX1_by, Cond.code yX1_by cX1_by 3 (some .int), Cond.fieldLink RX1 13 "ToneButterfliesModel" "p" "I", Cond.methodLink RX1 73 yX1_plus, Cond.instanceMethod yX1_plus, Cond.selects RX1 yX1_plus yX1_plus, Cond.code yX1_plus cX1_plus 3 (some .int)]
def wsX1_advise : List Cond := .code yX1_advise cX1_advise 5 (some .int) :: ((wsX1_advise_r1 ++ wsX1_advise_r2) ++ wsX10)
def wsX1_areTones_r1 : List Cond := [Cond.fieldLink RX1 16 "ToneButterfliesModel" "w" "I", Cond.methodLink RX1 92 yX1_makeTones, Cond.instanceMethod yX1_makeTones, Cond.selects RX1 yX1_makeTones yX1_makeTones, Cond.initialized RX1, Cond.code yX1_makeTones cX1_makeTones 6 none, Cond.fieldLink RX1 7 "ToneButterfliesModel" "n" "I", Cond.fieldLink RX1 26 "ToneButterfliesModel" "made" "[I", Cond.methodLink RX1 76 yX1_pointOf, Cond.instanceMethod yX1_pointOf, Cond.selects RX1 yX1_pointOf yX1_pointOf, Cond.code yX1_pointOf cX1_pointOf 5 (some .int), Cond.methodLink RX1 36 yX1_by, Cond.instanceMethod yX1_by, Cond.selects RX1 yX1_by yX1_by, Cond.code yX1_by cX1_by 3 (some .int), Cond.fieldLink RX1 13 "ToneButterfliesModel" "p" "I", Cond.methodLink RX1 70 yX1_its, Cond.instanceMethod yX1_its, Cond.selects RX1 yX1_its yX1_its, Cond.code yX1_its cX1_its 3 (some .int), Cond.fieldLink RX1 22 "ToneButterfliesModel" "rows" "[I", Cond.methodLink RX1 73 yX1_plus, Cond.instanceMethod yX1_plus]
def wsX1_areTones_r2 : List Cond := [Cond.selects RX1 yX1_plus yX1_plus, Cond.code yX1_plus cX1_plus 3 (some .int), Cond.methodLink RX1 85 yX1_changes, Cond.instanceMethod yX1_changes, Cond.selects RX1 yX1_changes yX1_changes, Cond.code yX1_changes cX1_changes 4 (some .int)]
def wsX1_areTones : List Cond := .code yX1_areTones cX1_areTones 3 (some .boolean) :: ((wsX1_areTones_r1 ++ wsX1_areTones_r2) ++ wsX10)
def wsX1_tones_r1 : List Cond := [Cond.fieldLink RX1 29 "ToneButterfliesModel" "thrown" "I", Cond.methodLink RX1 79 yX1_isRow, Cond.static yX1_isRow, Cond.initialized RX1, Cond.code yX1_isRow cX1_isRow 1 (some .boolean), Cond.methodLink RX1 32 yX1_isIn, Cond.static yX1_isIn, Cond.code yX1_isIn cX1_isIn 3 (some .boolean), Cond.methodLink RX1 129 yX1_areTones, Cond.instanceMethod yX1_areTones, Cond.selects RX1 yX1_areTones yX1_areTones, Cond.code yX1_areTones cX1_areTones 3 (some .boolean), Cond.fieldLink RX1 16 "ToneButterfliesModel" "w" "I", Cond.methodLink RX1 92 yX1_makeTones, Cond.instanceMethod yX1_makeTones, Cond.selects RX1 yX1_makeTones yX1_makeTones, Cond.code yX1_makeTones cX1_makeTones 6 none, Cond.fieldLink RX1 7 "ToneButterfliesModel" "n" "I", Cond.fieldLink RX1 26 "ToneButterfliesModel" "made" "[I", Cond.methodLink RX1 76 yX1_pointOf, Cond.instanceMethod yX1_pointOf, Cond.selects RX1 yX1_pointOf yX1_pointOf, Cond.code yX1_pointOf cX1_pointOf 5 (some .int), Cond.methodLink RX1 36 yX1_by]
def wsX1_tones_r2 : List Cond := [Cond.instanceMethod yX1_by, Cond.selects RX1 yX1_by yX1_by, Cond.code yX1_by cX1_by 3 (some .int), Cond.fieldLink RX1 13 "ToneButterfliesModel" "p" "I", Cond.methodLink RX1 70 yX1_its, Cond.instanceMethod yX1_its, Cond.selects RX1 yX1_its yX1_its, Cond.code yX1_its cX1_its 3 (some .int), Cond.fieldLink RX1 22 "ToneButterfliesModel" "rows" "[I", Cond.methodLink RX1 73 yX1_plus, Cond.instanceMethod yX1_plus, Cond.selects RX1 yX1_plus yX1_plus, Cond.code yX1_plus cX1_plus 3 (some .int), Cond.methodLink RX1 85 yX1_changes, Cond.instanceMethod yX1_changes, Cond.selects RX1 yX1_changes yX1_changes, Cond.code yX1_changes cX1_changes 4 (some .int)]
def wsX1_tones : List Cond := .code yX1_tones cX1_tones 3 (some .boolean) :: ((wsX1_tones_r1 ++ wsX1_tones_r2) ++ wsX10)
def wsX1_mean : List Cond := .code yX1_mean cX1_mean 4 (some .double) :: ([.fieldLink RX1 29 "ToneButterfliesModel" "thrown" "I", .fieldLink RX1 7 "ToneButterfliesModel" "n" "I", .methodLink RX1 79 yX1_isRow, .static yX1_isRow, .initialized RX1, .code yX1_isRow cX1_isRow 1 (some .boolean), .methodLink RX1 32 yX1_isIn, .static yX1_isIn, .code yX1_isIn cX1_isIn 3 (some .boolean), .methodLink RX1 70 yX1_its, .instanceMethod yX1_its, .selects RX1 yX1_its yX1_its, .code yX1_its cX1_its 3 (some .int), .fieldLink RX1 22 "ToneButterfliesModel" "rows" "[I"] ++ wsX10)
def wsX1_digest_r1 : List Cond := [Cond.fieldLink RX1 29 "ToneButterfliesModel" "thrown" "I", Cond.constantLong RX1 133 (1777), Cond.constantLong RX1 135 (31), Cond.fieldLink RX1 7 "ToneButterfliesModel" "n" "I", Cond.fieldLink RX1 16 "ToneButterfliesModel" "w" "I", Cond.fieldLink RX1 26 "ToneButterfliesModel" "made" "[I", Cond.methodLink RX1 120 yX1_counted, Cond.instanceMethod yX1_counted, Cond.selects RX1 yX1_counted yX1_counted, Cond.initialized RX1, Cond.code yX1_counted cX1_counted 2 (some .int), Cond.fieldLink RX1 13 "ToneButterfliesModel" "p" "I", Cond.fieldLink RX1 19 "ToneButterfliesModel" "bits" "I", Cond.methodLink RX1 58 yX1_inverseOf, Cond.instanceMethod yX1_inverseOf, Cond.selects RX1 yX1_inverseOf yX1_inverseOf, Cond.code yX1_inverseOf cX1_inverseOf 9 (some .int), Cond.methodLink RX1 70 yX1_its, Cond.instanceMethod yX1_its, Cond.selects RX1 yX1_its yX1_its, Cond.code yX1_its cX1_its 3 (some .int), Cond.fieldLink RX1 22 "ToneButterfliesModel" "rows" "[I", Cond.methodLink RX1 117 yX1_aboutTold, Cond.instanceMethod yX1_aboutTold]
def wsX1_digest_r2 : List Cond := [Cond.selects RX1 yX1_aboutTold yX1_aboutTold, Cond.code yX1_aboutTold cX1_aboutTold 5 (some .int), Cond.methodLink RX1 112 Lib.Math.max.name, Cond.static Lib.Math.max.name, Cond.initialized "java/lang/Math", Cond.code Lib.Math.max.name Lib.Math.max.code 2 (some .int), Cond.methodLink RX1 76 yX1_pointOf, Cond.instanceMethod yX1_pointOf, Cond.selects RX1 yX1_pointOf yX1_pointOf, Cond.code yX1_pointOf cX1_pointOf 5 (some .int), Cond.methodLink RX1 36 yX1_by, Cond.instanceMethod yX1_by, Cond.selects RX1 yX1_by yX1_by, Cond.code yX1_by cX1_by 3 (some .int), Cond.methodLink RX1 73 yX1_plus, Cond.instanceMethod yX1_plus, Cond.selects RX1 yX1_plus yX1_plus, Cond.code yX1_plus cX1_plus 3 (some .int), Cond.methodLink RX1 106 yX1_others, Cond.instanceMethod yX1_others, Cond.selects RX1 yX1_others yX1_others, Cond.code yX1_others cX1_others 4 (some .int), Cond.methodLink RX1 109 yX1_isMoved, Cond.instanceMethod yX1_isMoved]
def wsX1_digest_r3 : List Cond := [Cond.selects RX1 yX1_isMoved yX1_isMoved, Cond.code yX1_isMoved cX1_isMoved 5 (some .boolean), Cond.methodLink RX1 92 yX1_makeTones, Cond.instanceMethod yX1_makeTones, Cond.selects RX1 yX1_makeTones yX1_makeTones, Cond.code yX1_makeTones cX1_makeTones 6 none]
def wsX1_digest : List Cond := .code yX1_digest cX1_digest 5 (some .long) :: ((wsX1_digest_r1 ++ (wsX1_digest_r2 ++ wsX1_digest_r3)) ++ wsX10)
def wsJ9_max_7cf53 : List Cond := .code yJ9_max_7cf53 cJ9_max_7cf53 2 (some .int) :: ([])
def wsL_ring_r1 : List Cond := [Cond.classLink RL 13 "java/lang/IllegalArgumentException", Cond.methodLink RL 7 yX0_ring, Cond.instanceMethod yX0_ring, Cond.selects RX0 yX0_ring yX0_ring, Cond.initialized RX0, Cond.code yX0_ring cX0_ring 3 (some .int), Cond.classLink RX0 28 "java/lang/IllegalArgumentException", Cond.initialized "java/lang/IllegalArgumentException", Cond.fieldLink RX0 35 "ToneButterflies" "unityRoot" "I", Cond.methodLink RX0 17 yX0_isLength, Cond.static yX0_isLength, Cond.code yX0_isLength cX0_isLength 1 (some .boolean), Cond.methodLink RX0 21 yX0_isPrimeOfRing, Cond.static yX0_isPrimeOfRing, Cond.code yX0_isPrimeOfRing cX0_isPrimeOfRing 2 (some .boolean), Cond.methodLink RX0 24 yX0_divides, Cond.static yX0_divides, Cond.code yX0_divides cX0_divides 2 (some .boolean), Cond.methodLink RX0 13 yX0_takeRing, Cond.instanceMethod yX0_takeRing, Cond.selects RX0 yX0_takeRing yX0_takeRing, Cond.code yX0_takeRing cX0_takeRing 4 none, Cond.fieldLink RX0 84 "ToneButterflies" "length" "I", Cond.fieldLink RX0 43 "ToneButterflies" "prime" "I"]
def wsL_ring_r2 : List Cond := [Cond.fieldLink RX0 90 "ToneButterflies" "bits" "I", Cond.fieldLink RX0 162 "ToneButterflies" "unityRootInverse" "I", Cond.fieldLink RX0 165 "ToneButterflies" "lengthInverse" "I", Cond.fieldLink RX0 9 "ToneButterflies" "numbers" "[I", Cond.methodLink RX0 158 yX0_smallestRoot, Cond.instanceMethod yX0_smallestRoot, Cond.selects RX0 yX0_smallestRoot yX0_smallestRoot, Cond.code yX0_smallestRoot cX0_smallestRoot 2 (some .int), Cond.methodLink RX0 55 yX0_powerOf, Cond.instanceMethod yX0_powerOf, Cond.selects RX0 yX0_powerOf yX0_powerOf, Cond.code yX0_powerOf cX0_powerOf 6 (some .int), Cond.methodLink RX0 46 yX0_reduced, Cond.instanceMethod yX0_reduced, Cond.selects RX0 yX0_reduced yX0_reduced, Cond.code yX0_reduced cX0_reduced 2 (some .int), Cond.methodLink RX0 168 yJ9_floorMod_7cf53, Cond.static yJ9_floorMod_7cf53, Cond.initialized RJ9, Cond.code yJ9_floorMod_7cf53 cJ9_floorMod_7cf53 3 (some .int), Cond.methodLink RX0 50 yX0_inverseOf, Cond.instanceMethod yX0_inverseOf, Cond.selects RX0 yX0_inverseOf yX0_inverseOf, Cond.code yX0_inverseOf cX0_inverseOf 2 (some .int)]
def wsL_ring : List Cond := .codeWith yL_ring cL_ring 5 (some .int) [(0, 10, 13, 13)] :: ((wsL_ring_r1 ++ wsL_ring_r2) ++ wsX00 ++ (vx_atS RX0 32 "java/lang/IllegalArgumentException" ["java/lang/RuntimeException", "java/lang/Exception"]).filter goodWord)
def wsL_order : List Cond := .codeWith yL_order cL_order 4 (some .int) [(0, 9, 12, 13)] :: ([.classLink RL 13 "java/lang/IllegalArgumentException", .methodLink RL 15 yX0_order, .instanceMethod yX0_order, .selects RX0 yX0_order yX0_order, .initialized RX0, .code yX0_order cX0_order 4 (some .int), .fieldLink RX0 43 "ToneButterflies" "prime" "I", .methodLink RX0 39 yX0_requireInvertible, .instanceMethod yX0_requireInvertible, .selects RX0 yX0_requireInvertible yX0_requireInvertible, .code yX0_requireInvertible cX0_requireInvertible 2 none, .classLink RX0 28 "java/lang/IllegalArgumentException", .initialized "java/lang/IllegalArgumentException", .methodLink RX0 46 yX0_reduced, .instanceMethod yX0_reduced, .selects RX0 yX0_reduced yX0_reduced, .code yX0_reduced cX0_reduced 2 (some .int), .methodLink RX0 168 yJ9_floorMod_7cf53, .static yJ9_floorMod_7cf53, .initialized RJ9, .code yJ9_floorMod_7cf53 cJ9_floorMod_7cf53 3 (some .int)] ++ wsX00 ++ (vx_atS RX0 32 "java/lang/IllegalArgumentException" ["java/lang/RuntimeException", "java/lang/Exception"]).filter goodWord)
def wsL_inverse_r1 : List Cond := [Cond.classLink RL 13 "java/lang/IllegalArgumentException", Cond.methodLink RL 19 yX0_inverse, Cond.instanceMethod yX0_inverse, Cond.selects RX0 yX0_inverse yX0_inverse, Cond.initialized RX0, Cond.code yX0_inverse cX0_inverse 2 (some .int), Cond.methodLink RX0 39 yX0_requireInvertible, Cond.instanceMethod yX0_requireInvertible, Cond.selects RX0 yX0_requireInvertible yX0_requireInvertible, Cond.code yX0_requireInvertible cX0_requireInvertible 2 none, Cond.classLink RX0 28 "java/lang/IllegalArgumentException", Cond.initialized "java/lang/IllegalArgumentException", Cond.fieldLink RX0 43 "ToneButterflies" "prime" "I", Cond.methodLink RX0 50 yX0_inverseOf, Cond.instanceMethod yX0_inverseOf, Cond.selects RX0 yX0_inverseOf yX0_inverseOf, Cond.code yX0_inverseOf cX0_inverseOf 2 (some .int), Cond.methodLink RX0 55 yX0_powerOf, Cond.instanceMethod yX0_powerOf, Cond.selects RX0 yX0_powerOf yX0_powerOf, Cond.code yX0_powerOf cX0_powerOf 6 (some .int), Cond.methodLink RX0 46 yX0_reduced, Cond.instanceMethod yX0_reduced, Cond.selects RX0 yX0_reduced yX0_reduced]
def wsL_inverse_r2 : List Cond := [Cond.code yX0_reduced cX0_reduced 2 (some .int), Cond.methodLink RX0 168 yJ9_floorMod_7cf53, Cond.static yJ9_floorMod_7cf53, Cond.initialized RJ9, Cond.code yJ9_floorMod_7cf53 cJ9_floorMod_7cf53 3 (some .int)]
def wsL_inverse : List Cond := .codeWith yL_inverse cL_inverse 4 (some .int) [(0, 9, 12, 13)] :: ((wsL_inverse_r1 ++ wsL_inverse_r2) ++ wsX00 ++ (vx_atS RX0 32 "java/lang/IllegalArgumentException" ["java/lang/RuntimeException", "java/lang/Exception"]).filter goodWord)
def wsL_root : List Cond := .codeWith yL_root cL_root 4 (some .int) [(0, 9, 12, 13)] :: ([.classLink RL 13 "java/lang/IllegalArgumentException", .methodLink RL 22 yX0_root, .instanceMethod yX0_root, .selects RX0 yX0_root yX0_root, .initialized RX0, .code yX0_root cX0_root 2 (some .int), .classLink RX0 28 "java/lang/IllegalArgumentException", .initialized "java/lang/IllegalArgumentException", .fieldLink RX0 35 "ToneButterflies" "unityRoot" "I", .methodLink RX0 55 yX0_powerOf, .instanceMethod yX0_powerOf, .selects RX0 yX0_powerOf yX0_powerOf, .code yX0_powerOf cX0_powerOf 6 (some .int), .methodLink RX0 46 yX0_reduced, .instanceMethod yX0_reduced, .selects RX0 yX0_reduced yX0_reduced, .code yX0_reduced cX0_reduced 2 (some .int), .fieldLink RX0 43 "ToneButterflies" "prime" "I", .methodLink RX0 168 yJ9_floorMod_7cf53, .static yJ9_floorMod_7cf53, .initialized RJ9, .code yJ9_floorMod_7cf53 cJ9_floorMod_7cf53 3 (some .int)] ++ wsX00 ++ (vx_atS RX0 32 "java/lang/IllegalArgumentException" ["java/lang/RuntimeException", "java/lang/Exception"]).filter goodWord)
def wsL_set_r1 : List Cond := [Cond.classLink RL 29 "java/lang/IndexOutOfBoundsException", Cond.classLink RL 13 "java/lang/IllegalArgumentException", Cond.methodLink RL 25 yX0_set, Cond.instanceMethod yX0_set, Cond.selects RX0 yX0_set yX0_set, Cond.initialized RX0, Cond.code yX0_set cX0_set 5 (some .int), Cond.methodLink RX0 59 yX0_requireRow, Cond.instanceMethod yX0_requireRow, Cond.selects RX0 yX0_requireRow yX0_requireRow, Cond.code yX0_requireRow cX0_requireRow 2 none, Cond.classLink RX0 93 "java/lang/IndexOutOfBoundsException", Cond.initialized "java/lang/IndexOutOfBoundsException", Cond.methodLink RX0 62 yX0_requirePlace, Cond.instanceMethod yX0_requirePlace, Cond.selects RX0 yX0_requirePlace yX0_requirePlace, Cond.code yX0_requirePlace cX0_requirePlace 2 none, Cond.fieldLink RX0 84 "ToneButterflies" "length" "I", Cond.methodLink RX0 65 yX0_requireNumber, Cond.instanceMethod yX0_requireNumber, Cond.selects RX0 yX0_requireNumber yX0_requireNumber, Cond.code yX0_requireNumber cX0_requireNumber 2 none, Cond.classLink RX0 28 "java/lang/IllegalArgumentException", Cond.initialized "java/lang/IllegalArgumentException"]
def wsL_set_r2 : List Cond := [Cond.fieldLink RX0 43 "ToneButterflies" "prime" "I", Cond.methodLink RX0 68 yX0_read, Cond.instanceMethod yX0_read, Cond.selects RX0 yX0_read yX0_read, Cond.code yX0_read cX0_read 4 (some .int), Cond.fieldLink RX0 9 "ToneButterflies" "numbers" "[I", Cond.methodLink RX0 71 yX0_write, Cond.instanceMethod yX0_write, Cond.selects RX0 yX0_write yX0_write, Cond.code yX0_write cX0_write 5 none]
def wsL_set : List Cond := .codeWith yL_set cL_set 6 (some .int) [(0, 12, 15, 29), (0, 12, 19, 13)] :: ((wsL_set_r1 ++ wsL_set_r2) ++ wsX00 ++ (vx_atS RX0 97 "java/lang/IndexOutOfBoundsException" ["java/lang/RuntimeException", "java/lang/Exception"]).filter goodWord ++ (vx_atS RX0 32 "java/lang/IllegalArgumentException" ["java/lang/RuntimeException", "java/lang/Exception"]).filter goodWord)
def wsL_copy_r1 : List Cond := [Cond.classLink RL 29 "java/lang/IndexOutOfBoundsException", Cond.methodLink RL 31 yX0_copy, Cond.instanceMethod yX0_copy, Cond.selects RX0 yX0_copy yX0_copy, Cond.initialized RX0, Cond.code yX0_copy cX0_copy 3 (some .int), Cond.methodLink RX0 59 yX0_requireRow, Cond.instanceMethod yX0_requireRow, Cond.selects RX0 yX0_requireRow yX0_requireRow, Cond.code yX0_requireRow cX0_requireRow 2 none, Cond.classLink RX0 93 "java/lang/IndexOutOfBoundsException", Cond.initialized "java/lang/IndexOutOfBoundsException", Cond.methodLink RX0 75 yX0_copyRow, Cond.instanceMethod yX0_copyRow, Cond.selects RX0 yX0_copyRow yX0_copyRow, Cond.code yX0_copyRow cX0_copyRow 6 (some .int), Cond.fieldLink RX0 84 "ToneButterflies" "length" "I", Cond.methodLink RX0 68 yX0_read, Cond.instanceMethod yX0_read, Cond.selects RX0 yX0_read yX0_read, Cond.code yX0_read cX0_read 4 (some .int), Cond.fieldLink RX0 9 "ToneButterflies" "numbers" "[I", Cond.methodLink RX0 71 yX0_write, Cond.instanceMethod yX0_write]
def wsL_copy_r2 : List Cond := [Cond.selects RX0 yX0_write yX0_write, Cond.code yX0_write cX0_write 5 none]
def wsL_copy : List Cond := .codeWith yL_copy cL_copy 5 (some .int) [(0, 10, 13, 29)] :: ((wsL_copy_r1 ++ wsL_copy_r2) ++ wsX00 ++ (vx_atS RX0 97 "java/lang/IndexOutOfBoundsException" ["java/lang/RuntimeException", "java/lang/Exception"]).filter goodWord)
def wsL_turn_r1 : List Cond := [Cond.classLink RL 29 "java/lang/IndexOutOfBoundsException", Cond.methodLink RL 34 yX0_turn, Cond.instanceMethod yX0_turn, Cond.selects RX0 yX0_turn yX0_turn, Cond.initialized RX0, Cond.code yX0_turn cX0_turn 3 (some .int), Cond.methodLink RX0 59 yX0_requireRow, Cond.instanceMethod yX0_requireRow, Cond.selects RX0 yX0_requireRow yX0_requireRow, Cond.code yX0_requireRow cX0_requireRow 2 none, Cond.classLink RX0 93 "java/lang/IndexOutOfBoundsException", Cond.initialized "java/lang/IndexOutOfBoundsException", Cond.methodLink RX0 78 yX0_scratchTurnedBack, Cond.instanceMethod yX0_scratchTurnedBack, Cond.selects RX0 yX0_scratchTurnedBack yX0_scratchTurnedBack, Cond.code yX0_scratchTurnedBack cX0_scratchTurnedBack 2 none, Cond.fieldLink RX0 162 "ToneButterflies" "unityRootInverse" "I", Cond.fieldLink RX0 165 "ToneButterflies" "lengthInverse" "I", Cond.methodLink RX0 173 yX0_scratchValues, Cond.instanceMethod yX0_scratchValues, Cond.selects RX0 yX0_scratchValues yX0_scratchValues, Cond.code yX0_scratchValues cX0_scratchValues 6 none, Cond.fieldLink RX0 84 "ToneButterflies" "length" "I", Cond.methodLink RX0 119 yX0_valueAt]
def wsL_turn_r2 : List Cond := [Cond.instanceMethod yX0_valueAt, Cond.selects RX0 yX0_valueAt yX0_valueAt, Cond.code yX0_valueAt cX0_valueAt 5 (some .int), Cond.methodLink RX0 68 yX0_read, Cond.instanceMethod yX0_read, Cond.selects RX0 yX0_read yX0_read, Cond.code yX0_read cX0_read 4 (some .int), Cond.fieldLink RX0 9 "ToneButterflies" "numbers" "[I", Cond.methodLink RX0 46 yX0_reduced, Cond.instanceMethod yX0_reduced, Cond.selects RX0 yX0_reduced yX0_reduced, Cond.code yX0_reduced cX0_reduced 2 (some .int), Cond.fieldLink RX0 43 "ToneButterflies" "prime" "I", Cond.methodLink RX0 168 yJ9_floorMod_7cf53, Cond.static yJ9_floorMod_7cf53, Cond.initialized RJ9, Cond.code yJ9_floorMod_7cf53 cJ9_floorMod_7cf53 3 (some .int), Cond.methodLink RX0 71 yX0_write, Cond.instanceMethod yX0_write, Cond.selects RX0 yX0_write yX0_write, Cond.code yX0_write cX0_write 5 none, Cond.methodLink RX0 81 yX0_scratchTones, Cond.instanceMethod yX0_scratchTones, Cond.selects RX0 yX0_scratchTones yX0_scratchTones]
def wsL_turn_r3 : List Cond := [Cond.code yX0_scratchTones cX0_scratchTones 2 none, Cond.fieldLink RX0 35 "ToneButterflies" "unityRoot" "I", Cond.methodLink RX0 75 yX0_copyRow, Cond.instanceMethod yX0_copyRow, Cond.selects RX0 yX0_copyRow yX0_copyRow, Cond.code yX0_copyRow cX0_copyRow 6 (some .int)]
def wsL_turn : List Cond := .codeWith yL_turn cL_turn 5 (some .int) [(0, 10, 13, 29)] :: ((wsL_turn_r1 ++ (wsL_turn_r2 ++ wsL_turn_r3)) ++ wsX00 ++ (vx_atS RX0 97 "java/lang/IndexOutOfBoundsException" ["java/lang/RuntimeException", "java/lang/Exception"]).filter goodWord)
def wsL_mirror_r1 : List Cond := [Cond.classLink RL 29 "java/lang/IndexOutOfBoundsException", Cond.methodLink RL 38 yX0_mirror, Cond.instanceMethod yX0_mirror, Cond.selects RX0 yX0_mirror yX0_mirror, Cond.initialized RX0, Cond.code yX0_mirror cX0_mirror 3 (some .int), Cond.fieldLink RX0 84 "ToneButterflies" "length" "I", Cond.methodLink RX0 59 yX0_requireRow, Cond.instanceMethod yX0_requireRow, Cond.selects RX0 yX0_requireRow yX0_requireRow, Cond.code yX0_requireRow cX0_requireRow 2 none, Cond.classLink RX0 93 "java/lang/IndexOutOfBoundsException", Cond.initialized "java/lang/IndexOutOfBoundsException", Cond.methodLink RX0 87 yX0_mirrored, Cond.instanceMethod yX0_mirrored, Cond.selects RX0 yX0_mirrored yX0_mirrored, Cond.code yX0_mirrored cX0_mirrored 4 (some .int), Cond.fieldLink RX0 90 "ToneButterflies" "bits" "I", Cond.methodLink RX0 68 yX0_read, Cond.instanceMethod yX0_read, Cond.selects RX0 yX0_read yX0_read, Cond.code yX0_read cX0_read 4 (some .int), Cond.fieldLink RX0 9 "ToneButterflies" "numbers" "[I", Cond.methodLink RX0 71 yX0_write]
def wsL_mirror_r2 : List Cond := [Cond.instanceMethod yX0_write, Cond.selects RX0 yX0_write yX0_write, Cond.code yX0_write cX0_write 5 none, Cond.methodLink RX0 75 yX0_copyRow, Cond.instanceMethod yX0_copyRow, Cond.selects RX0 yX0_copyRow yX0_copyRow, Cond.code yX0_copyRow cX0_copyRow 6 (some .int)]
def wsL_mirror : List Cond := .codeWith yL_mirror cL_mirror 4 (some .int) [(0, 9, 12, 29)] :: ((wsL_mirror_r1 ++ wsL_mirror_r2) ++ wsX00 ++ (vx_atS RX0 97 "java/lang/IndexOutOfBoundsException" ["java/lang/RuntimeException", "java/lang/Exception"]).filter goodWord)
def wsL_stage_r1 : List Cond := [Cond.classLink RL 29 "java/lang/IndexOutOfBoundsException", Cond.methodLink RL 41 yX0_stage, Cond.instanceMethod yX0_stage, Cond.selects RX0 yX0_stage yX0_stage, Cond.initialized RX0, Cond.code yX0_stage cX0_stage 7 (some .int), Cond.classLink RX0 93 "java/lang/IndexOutOfBoundsException", Cond.initialized "java/lang/IndexOutOfBoundsException", Cond.fieldLink RX0 90 "ToneButterflies" "bits" "I", Cond.fieldLink RX0 84 "ToneButterflies" "length" "I", Cond.fieldLink RX0 35 "ToneButterflies" "unityRoot" "I", Cond.methodLink RX0 59 yX0_requireRow, Cond.instanceMethod yX0_requireRow, Cond.selects RX0 yX0_requireRow yX0_requireRow, Cond.code yX0_requireRow cX0_requireRow 2 none, Cond.methodLink RX0 55 yX0_powerOf, Cond.instanceMethod yX0_powerOf, Cond.selects RX0 yX0_powerOf yX0_powerOf, Cond.code yX0_powerOf cX0_powerOf 6 (some .int), Cond.methodLink RX0 46 yX0_reduced, Cond.instanceMethod yX0_reduced, Cond.selects RX0 yX0_reduced yX0_reduced, Cond.code yX0_reduced cX0_reduced 2 (some .int), Cond.fieldLink RX0 43 "ToneButterflies" "prime" "I"]
def wsL_stage_r2 : List Cond := [Cond.methodLink RX0 168 yJ9_floorMod_7cf53, Cond.static yJ9_floorMod_7cf53, Cond.initialized RJ9, Cond.code yJ9_floorMod_7cf53 cJ9_floorMod_7cf53 3 (some .int), Cond.methodLink RX0 98 yX0_butterfly, Cond.instanceMethod yX0_butterfly, Cond.selects RX0 yX0_butterfly yX0_butterfly, Cond.code yX0_butterfly cX0_butterfly 7 none, Cond.methodLink RX0 68 yX0_read, Cond.instanceMethod yX0_read, Cond.selects RX0 yX0_read yX0_read, Cond.code yX0_read cX0_read 4 (some .int), Cond.fieldLink RX0 9 "ToneButterflies" "numbers" "[I", Cond.methodLink RX0 71 yX0_write, Cond.instanceMethod yX0_write, Cond.selects RX0 yX0_write yX0_write, Cond.code yX0_write cX0_write 5 none]
def wsL_stage : List Cond := .codeWith yL_stage cL_stage 5 (some .int) [(0, 10, 13, 29)] :: ((wsL_stage_r1 ++ wsL_stage_r2) ++ wsX00 ++ (vx_atS RX0 97 "java/lang/IndexOutOfBoundsException" ["java/lang/RuntimeException", "java/lang/Exception"]).filter goodWord)
def wsL_fold_r1 : List Cond := [Cond.classLink RL 29 "java/lang/IndexOutOfBoundsException", Cond.methodLink RL 44 yX0_fold, Cond.instanceMethod yX0_fold, Cond.selects RX0 yX0_fold yX0_fold, Cond.initialized RX0, Cond.code yX0_fold cX0_fold 4 (some .int), Cond.fieldLink RX0 84 "ToneButterflies" "length" "I", Cond.methodLink RX0 59 yX0_requireRow, Cond.instanceMethod yX0_requireRow, Cond.selects RX0 yX0_requireRow yX0_requireRow, Cond.code yX0_requireRow cX0_requireRow 2 none, Cond.classLink RX0 93 "java/lang/IndexOutOfBoundsException", Cond.initialized "java/lang/IndexOutOfBoundsException", Cond.methodLink RX0 102 yX0_foldedAt, Cond.instanceMethod yX0_foldedAt, Cond.selects RX0 yX0_foldedAt yX0_foldedAt, Cond.code yX0_foldedAt cX0_foldedAt 6 (some .int), Cond.methodLink RX0 68 yX0_read, Cond.instanceMethod yX0_read, Cond.selects RX0 yX0_read yX0_read, Cond.code yX0_read cX0_read 4 (some .int), Cond.fieldLink RX0 9 "ToneButterflies" "numbers" "[I", Cond.methodLink RX0 116 yX0_wrapped, Cond.instanceMethod yX0_wrapped]
def wsL_fold_r2 : List Cond := [Cond.selects RX0 yX0_wrapped yX0_wrapped, Cond.code yX0_wrapped cX0_wrapped 2 (some .int), Cond.methodLink RX0 46 yX0_reduced, Cond.instanceMethod yX0_reduced, Cond.selects RX0 yX0_reduced yX0_reduced, Cond.code yX0_reduced cX0_reduced 2 (some .int), Cond.fieldLink RX0 43 "ToneButterflies" "prime" "I", Cond.methodLink RX0 168 yJ9_floorMod_7cf53, Cond.static yJ9_floorMod_7cf53, Cond.initialized RJ9, Cond.code yJ9_floorMod_7cf53 cJ9_floorMod_7cf53 3 (some .int), Cond.methodLink RX0 71 yX0_write, Cond.instanceMethod yX0_write, Cond.selects RX0 yX0_write yX0_write, Cond.code yX0_write cX0_write 5 none, Cond.methodLink RX0 75 yX0_copyRow, Cond.instanceMethod yX0_copyRow, Cond.selects RX0 yX0_copyRow yX0_copyRow, Cond.code yX0_copyRow cX0_copyRow 6 (some .int)]
def wsL_fold : List Cond := .codeWith yL_fold cL_fold 5 (some .int) [(0, 10, 13, 29)] :: ((wsL_fold_r1 ++ wsL_fold_r2) ++ wsX00 ++ (vx_atS RX0 97 "java/lang/IndexOutOfBoundsException" ["java/lang/RuntimeException", "java/lang/Exception"]).filter goodWord)
def wsL_join_r1 : List Cond := [Cond.classLink RL 29 "java/lang/IndexOutOfBoundsException", Cond.methodLink RL 47 yX0_join, Cond.instanceMethod yX0_join, Cond.selects RX0 yX0_join yX0_join, Cond.initialized RX0, Cond.code yX0_join cX0_join 5 (some .int), Cond.classLink RX0 93 "java/lang/IndexOutOfBoundsException", Cond.initialized "java/lang/IndexOutOfBoundsException", Cond.fieldLink RX0 84 "ToneButterflies" "length" "I", Cond.methodLink RX0 59 yX0_requireRow, Cond.instanceMethod yX0_requireRow, Cond.selects RX0 yX0_requireRow yX0_requireRow, Cond.code yX0_requireRow cX0_requireRow 2 none, Cond.methodLink RX0 68 yX0_read, Cond.instanceMethod yX0_read, Cond.selects RX0 yX0_read yX0_read, Cond.code yX0_read cX0_read 4 (some .int), Cond.fieldLink RX0 9 "ToneButterflies" "numbers" "[I", Cond.methodLink RX0 108 yX0_joined, Cond.instanceMethod yX0_joined, Cond.selects RX0 yX0_joined yX0_joined, Cond.code yX0_joined cX0_joined 4 (some .int), Cond.methodLink RX0 46 yX0_reduced, Cond.instanceMethod yX0_reduced]
def wsL_join_r2 : List Cond := [Cond.selects RX0 yX0_reduced yX0_reduced, Cond.code yX0_reduced cX0_reduced 2 (some .int), Cond.fieldLink RX0 43 "ToneButterflies" "prime" "I", Cond.methodLink RX0 168 yJ9_floorMod_7cf53, Cond.static yJ9_floorMod_7cf53, Cond.initialized RJ9, Cond.code yJ9_floorMod_7cf53 cJ9_floorMod_7cf53 3 (some .int), Cond.methodLink RX0 71 yX0_write, Cond.instanceMethod yX0_write, Cond.selects RX0 yX0_write yX0_write, Cond.code yX0_write cX0_write 5 none, Cond.methodLink RX0 111 yX0_nonZeros, Cond.instanceMethod yX0_nonZeros, Cond.selects RX0 yX0_nonZeros yX0_nonZeros, Cond.code yX0_nonZeros cX0_nonZeros 4 (some .int)]
def wsL_join : List Cond := .codeWith yL_join cL_join 6 (some .int) [(0, 12, 15, 29)] :: ((wsL_join_r1 ++ wsL_join_r2) ++ wsX00 ++ (vx_atS RX0 97 "java/lang/IndexOutOfBoundsException" ["java/lang/RuntimeException", "java/lang/Exception"]).filter goodWord)
def wsL_move_r1 : List Cond := [Cond.classLink RL 29 "java/lang/IndexOutOfBoundsException", Cond.classLink RL 13 "java/lang/IllegalArgumentException", Cond.methodLink RL 50 yX0_move, Cond.instanceMethod yX0_move, Cond.selects RX0 yX0_move yX0_move, Cond.initialized RX0, Cond.code yX0_move cX0_move 4 (some .int), Cond.classLink RX0 28 "java/lang/IllegalArgumentException", Cond.initialized "java/lang/IllegalArgumentException", Cond.fieldLink RX0 84 "ToneButterflies" "length" "I", Cond.methodLink RX0 59 yX0_requireRow, Cond.instanceMethod yX0_requireRow, Cond.selects RX0 yX0_requireRow yX0_requireRow, Cond.code yX0_requireRow cX0_requireRow 2 none, Cond.classLink RX0 93 "java/lang/IndexOutOfBoundsException", Cond.initialized "java/lang/IndexOutOfBoundsException", Cond.methodLink RX0 116 yX0_wrapped, Cond.instanceMethod yX0_wrapped, Cond.selects RX0 yX0_wrapped yX0_wrapped, Cond.code yX0_wrapped cX0_wrapped 2 (some .int), Cond.methodLink RX0 68 yX0_read, Cond.instanceMethod yX0_read, Cond.selects RX0 yX0_read yX0_read, Cond.code yX0_read cX0_read 4 (some .int)]
def wsL_move_r2 : List Cond := [Cond.fieldLink RX0 9 "ToneButterflies" "numbers" "[I", Cond.methodLink RX0 71 yX0_write, Cond.instanceMethod yX0_write, Cond.selects RX0 yX0_write yX0_write, Cond.code yX0_write cX0_write 5 none, Cond.methodLink RX0 75 yX0_copyRow, Cond.instanceMethod yX0_copyRow, Cond.selects RX0 yX0_copyRow yX0_copyRow, Cond.code yX0_copyRow cX0_copyRow 6 (some .int)]
def wsL_move : List Cond := .codeWith yL_move cL_move 5 (some .int) [(0, 10, 13, 29), (0, 10, 17, 13)] :: ((wsL_move_r1 ++ wsL_move_r2) ++ wsX00 ++ (vx_atS RX0 32 "java/lang/IllegalArgumentException" ["java/lang/RuntimeException", "java/lang/Exception"]).filter goodWord ++ (vx_atS RX0 97 "java/lang/IndexOutOfBoundsException" ["java/lang/RuntimeException", "java/lang/Exception"]).filter goodWord)
def wsL_times_r1 : List Cond := [Cond.classLink RL 29 "java/lang/IndexOutOfBoundsException", Cond.classLink RL 13 "java/lang/IllegalArgumentException", Cond.methodLink RL 53 yX0_times, Cond.instanceMethod yX0_times, Cond.selects RX0 yX0_times yX0_times, Cond.initialized RX0, Cond.code yX0_times cX0_times 4 (some .int), Cond.fieldLink RX0 84 "ToneButterflies" "length" "I", Cond.methodLink RX0 59 yX0_requireRow, Cond.instanceMethod yX0_requireRow, Cond.selects RX0 yX0_requireRow yX0_requireRow, Cond.code yX0_requireRow cX0_requireRow 2 none, Cond.classLink RX0 93 "java/lang/IndexOutOfBoundsException", Cond.initialized "java/lang/IndexOutOfBoundsException", Cond.methodLink RX0 65 yX0_requireNumber, Cond.instanceMethod yX0_requireNumber, Cond.selects RX0 yX0_requireNumber yX0_requireNumber, Cond.code yX0_requireNumber cX0_requireNumber 2 none, Cond.classLink RX0 28 "java/lang/IllegalArgumentException", Cond.initialized "java/lang/IllegalArgumentException", Cond.fieldLink RX0 43 "ToneButterflies" "prime" "I", Cond.methodLink RX0 68 yX0_read, Cond.instanceMethod yX0_read, Cond.selects RX0 yX0_read yX0_read]
def wsL_times_r2 : List Cond := [Cond.code yX0_read cX0_read 4 (some .int), Cond.fieldLink RX0 9 "ToneButterflies" "numbers" "[I", Cond.methodLink RX0 46 yX0_reduced, Cond.instanceMethod yX0_reduced, Cond.selects RX0 yX0_reduced yX0_reduced, Cond.code yX0_reduced cX0_reduced 2 (some .int), Cond.methodLink RX0 168 yJ9_floorMod_7cf53, Cond.static yJ9_floorMod_7cf53, Cond.initialized RJ9, Cond.code yJ9_floorMod_7cf53 cJ9_floorMod_7cf53 3 (some .int), Cond.methodLink RX0 71 yX0_write, Cond.instanceMethod yX0_write, Cond.selects RX0 yX0_write yX0_write, Cond.code yX0_write cX0_write 5 none, Cond.methodLink RX0 111 yX0_nonZeros, Cond.instanceMethod yX0_nonZeros, Cond.selects RX0 yX0_nonZeros yX0_nonZeros, Cond.code yX0_nonZeros cX0_nonZeros 4 (some .int)]
def wsL_times : List Cond := .codeWith yL_times cL_times 5 (some .int) [(0, 10, 13, 29), (0, 10, 17, 13)] :: ((wsL_times_r1 ++ wsL_times_r2) ++ wsX00 ++ (vx_atS RX0 97 "java/lang/IndexOutOfBoundsException" ["java/lang/RuntimeException", "java/lang/Exception"]).filter goodWord ++ (vx_atS RX0 32 "java/lang/IllegalArgumentException" ["java/lang/RuntimeException", "java/lang/Exception"]).filter goodWord)
def wsL_at : List Cond := .codeWith yL_at cL_at 5 (some .int) [(0, 10, 13, 29)] :: ([.classLink RL 29 "java/lang/IndexOutOfBoundsException", .methodLink RL 56 yX0_at, .instanceMethod yX0_at, .selects RX0 yX0_at yX0_at, .initialized RX0, .code yX0_at cX0_at 3 (some .int), .methodLink RX0 59 yX0_requireRow, .instanceMethod yX0_requireRow, .selects RX0 yX0_requireRow yX0_requireRow, .code yX0_requireRow cX0_requireRow 2 none, .classLink RX0 93 "java/lang/IndexOutOfBoundsException", .initialized "java/lang/IndexOutOfBoundsException", .methodLink RX0 62 yX0_requirePlace, .instanceMethod yX0_requirePlace, .selects RX0 yX0_requirePlace yX0_requirePlace, .code yX0_requirePlace cX0_requirePlace 2 none, .fieldLink RX0 84 "ToneButterflies" "length" "I", .methodLink RX0 68 yX0_read, .instanceMethod yX0_read, .selects RX0 yX0_read yX0_read, .code yX0_read cX0_read 4 (some .int), .fieldLink RX0 9 "ToneButterflies" "numbers" "[I"] ++ wsX00 ++ (vx_atS RX0 97 "java/lang/IndexOutOfBoundsException" ["java/lang/RuntimeException", "java/lang/Exception"]).filter goodWord)
def wsL_point_r1 : List Cond := [Cond.classLink RL 29 "java/lang/IndexOutOfBoundsException", Cond.classLink RL 13 "java/lang/IllegalArgumentException", Cond.methodLink RL 59 yX0_point, Cond.instanceMethod yX0_point, Cond.selects RX0 yX0_point yX0_point, Cond.initialized RX0, Cond.code yX0_point cX0_point 3 (some .int), Cond.methodLink RX0 59 yX0_requireRow, Cond.instanceMethod yX0_requireRow, Cond.selects RX0 yX0_requireRow yX0_requireRow, Cond.code yX0_requireRow cX0_requireRow 2 none, Cond.classLink RX0 93 "java/lang/IndexOutOfBoundsException", Cond.initialized "java/lang/IndexOutOfBoundsException", Cond.methodLink RX0 65 yX0_requireNumber, Cond.instanceMethod yX0_requireNumber, Cond.selects RX0 yX0_requireNumber yX0_requireNumber, Cond.code yX0_requireNumber cX0_requireNumber 2 none, Cond.classLink RX0 28 "java/lang/IllegalArgumentException", Cond.initialized "java/lang/IllegalArgumentException", Cond.fieldLink RX0 43 "ToneButterflies" "prime" "I", Cond.methodLink RX0 119 yX0_valueAt, Cond.instanceMethod yX0_valueAt, Cond.selects RX0 yX0_valueAt yX0_valueAt, Cond.code yX0_valueAt cX0_valueAt 5 (some .int)]
def wsL_point_r2 : List Cond := [Cond.fieldLink RX0 84 "ToneButterflies" "length" "I", Cond.methodLink RX0 68 yX0_read, Cond.instanceMethod yX0_read, Cond.selects RX0 yX0_read yX0_read, Cond.code yX0_read cX0_read 4 (some .int), Cond.fieldLink RX0 9 "ToneButterflies" "numbers" "[I", Cond.methodLink RX0 46 yX0_reduced, Cond.instanceMethod yX0_reduced, Cond.selects RX0 yX0_reduced yX0_reduced, Cond.code yX0_reduced cX0_reduced 2 (some .int), Cond.methodLink RX0 168 yJ9_floorMod_7cf53, Cond.static yJ9_floorMod_7cf53, Cond.initialized RJ9, Cond.code yJ9_floorMod_7cf53 cJ9_floorMod_7cf53 3 (some .int)]
def wsL_point : List Cond := .codeWith yL_point cL_point 5 (some .int) [(0, 10, 13, 29), (0, 10, 17, 13)] :: ((wsL_point_r1 ++ wsL_point_r2) ++ wsX00 ++ (vx_atS RX0 97 "java/lang/IndexOutOfBoundsException" ["java/lang/RuntimeException", "java/lang/Exception"]).filter goodWord ++ (vx_atS RX0 32 "java/lang/IllegalArgumentException" ["java/lang/RuntimeException", "java/lang/Exception"]).filter goodWord)
def wsL_about_r1 : List Cond := [Cond.classLink RL 29 "java/lang/IndexOutOfBoundsException", Cond.methodLink RL 62 yX0_about, Cond.instanceMethod yX0_about, Cond.selects RX0 yX0_about yX0_about, Cond.initialized RX0, Cond.code yX0_about cX0_about 3 (some .int), Cond.classLink RX0 93 "java/lang/IndexOutOfBoundsException", Cond.initialized "java/lang/IndexOutOfBoundsException", Cond.methodLink RX0 59 yX0_requireRow, Cond.instanceMethod yX0_requireRow, Cond.selects RX0 yX0_requireRow yX0_requireRow, Cond.code yX0_requireRow cX0_requireRow 2 none, Cond.methodLink RX0 124 yX0_told, Cond.instanceMethod yX0_told, Cond.selects RX0 yX0_told yX0_told, Cond.code yX0_told cX0_told 3 (some .int), Cond.methodLink RX0 139 yX0_plainSum, Cond.instanceMethod yX0_plainSum, Cond.selects RX0 yX0_plainSum yX0_plainSum, Cond.code yX0_plainSum cX0_plainSum 4 (some .int), Cond.fieldLink RX0 84 "ToneButterflies" "length" "I", Cond.methodLink RX0 68 yX0_read, Cond.instanceMethod yX0_read, Cond.selects RX0 yX0_read yX0_read]
def wsL_about_r2 : List Cond := [Cond.code yX0_read cX0_read 4 (some .int), Cond.fieldLink RX0 9 "ToneButterflies" "numbers" "[I", Cond.methodLink RX0 46 yX0_reduced, Cond.instanceMethod yX0_reduced, Cond.selects RX0 yX0_reduced yX0_reduced, Cond.code yX0_reduced cX0_reduced 2 (some .int), Cond.fieldLink RX0 43 "ToneButterflies" "prime" "I", Cond.methodLink RX0 168 yJ9_floorMod_7cf53, Cond.static yJ9_floorMod_7cf53, Cond.initialized RJ9, Cond.code yJ9_floorMod_7cf53 cJ9_floorMod_7cf53 3 (some .int), Cond.methodLink RX0 111 yX0_nonZeros, Cond.instanceMethod yX0_nonZeros, Cond.selects RX0 yX0_nonZeros yX0_nonZeros, Cond.code yX0_nonZeros cX0_nonZeros 4 (some .int), Cond.methodLink RX0 176 yX0_lastNonZero, Cond.instanceMethod yX0_lastNonZero, Cond.selects RX0 yX0_lastNonZero yX0_lastNonZero, Cond.code yX0_lastNonZero cX0_lastNonZero 3 (some .int), Cond.methodLink RX0 179 yX0_period, Cond.instanceMethod yX0_period, Cond.selects RX0 yX0_period yX0_period, Cond.code yX0_period cX0_period 3 (some .int), Cond.methodLink RX0 132 yX0_isWhenMoved]
def wsL_about_r3 : List Cond := [Cond.instanceMethod yX0_isWhenMoved, Cond.selects RX0 yX0_isWhenMoved yX0_isWhenMoved, Cond.code yX0_isWhenMoved cX0_isWhenMoved 5 (some .boolean), Cond.methodLink RX0 116 yX0_wrapped, Cond.instanceMethod yX0_wrapped, Cond.selects RX0 yX0_wrapped yX0_wrapped, Cond.code yX0_wrapped cX0_wrapped 2 (some .int), Cond.methodLink RX0 182 yX0_greatestNumber, Cond.instanceMethod yX0_greatestNumber, Cond.selects RX0 yX0_greatestNumber yX0_greatestNumber, Cond.code yX0_greatestNumber cX0_greatestNumber 4 (some .int), Cond.methodLink RX0 185 Lib.Math.max.name, Cond.static Lib.Math.max.name, Cond.initialized "java/lang/Math", Cond.code Lib.Math.max.name Lib.Math.max.code 2 (some .int)]
def wsL_about : List Cond := .codeWith yL_about cL_about 5 (some .int) [(0, 10, 13, 29)] :: ((wsL_about_r1 ++ (wsL_about_r2 ++ wsL_about_r3)) ++ wsX00 ++ (vx_atS RX0 97 "java/lang/IndexOutOfBoundsException" ["java/lang/RuntimeException", "java/lang/Exception"]).filter goodWord)
def wsL_count : List Cond := .codeWith yL_count cL_count 4 (some .int) [(0, 9, 12, 29)] :: ([.classLink RL 29 "java/lang/IndexOutOfBoundsException", .methodLink RL 65 yX0_count, .instanceMethod yX0_count, .selects RX0 yX0_count yX0_count, .initialized RX0, .code yX0_count cX0_count 2 (some .int), .classLink RX0 93 "java/lang/IndexOutOfBoundsException", .initialized "java/lang/IndexOutOfBoundsException", .methodLink RX0 129 yX0_counted, .instanceMethod yX0_counted, .selects RX0 yX0_counted yX0_counted, .code yX0_counted cX0_counted 2 (some .int), .fieldLink RX0 84 "ToneButterflies" "length" "I", .fieldLink RX0 43 "ToneButterflies" "prime" "I", .fieldLink RX0 35 "ToneButterflies" "unityRoot" "I", .fieldLink RX0 162 "ToneButterflies" "unityRootInverse" "I", .fieldLink RX0 165 "ToneButterflies" "lengthInverse" "I", .fieldLink RX0 90 "ToneButterflies" "bits" "I"] ++ wsX00 ++ (vx_atS RX0 97 "java/lang/IndexOutOfBoundsException" ["java/lang/RuntimeException", "java/lang/Exception"]).filter goodWord)
def wsL_would_r1 : List Cond := [Cond.classLink RL 29 "java/lang/IndexOutOfBoundsException", Cond.methodLink RL 68 yX0_would, Cond.instanceMethod yX0_would, Cond.selects RX0 yX0_would yX0_would, Cond.initialized RX0, Cond.code yX0_would cX0_would 4 (some .int), Cond.methodLink RX0 59 yX0_requireRow, Cond.instanceMethod yX0_requireRow, Cond.selects RX0 yX0_requireRow yX0_requireRow, Cond.code yX0_requireRow cX0_requireRow 2 none, Cond.classLink RX0 93 "java/lang/IndexOutOfBoundsException", Cond.initialized "java/lang/IndexOutOfBoundsException", Cond.methodLink RX0 62 yX0_requirePlace, Cond.instanceMethod yX0_requirePlace, Cond.selects RX0 yX0_requirePlace yX0_requirePlace, Cond.code yX0_requirePlace cX0_requirePlace 2 none, Cond.fieldLink RX0 84 "ToneButterflies" "length" "I", Cond.methodLink RX0 102 yX0_foldedAt, Cond.instanceMethod yX0_foldedAt, Cond.selects RX0 yX0_foldedAt yX0_foldedAt, Cond.code yX0_foldedAt cX0_foldedAt 6 (some .int), Cond.methodLink RX0 68 yX0_read, Cond.instanceMethod yX0_read, Cond.selects RX0 yX0_read yX0_read]
def wsL_would_r2 : List Cond := [Cond.code yX0_read cX0_read 4 (some .int), Cond.fieldLink RX0 9 "ToneButterflies" "numbers" "[I", Cond.methodLink RX0 116 yX0_wrapped, Cond.instanceMethod yX0_wrapped, Cond.selects RX0 yX0_wrapped yX0_wrapped, Cond.code yX0_wrapped cX0_wrapped 2 (some .int), Cond.methodLink RX0 46 yX0_reduced, Cond.instanceMethod yX0_reduced, Cond.selects RX0 yX0_reduced yX0_reduced, Cond.code yX0_reduced cX0_reduced 2 (some .int), Cond.fieldLink RX0 43 "ToneButterflies" "prime" "I", Cond.methodLink RX0 168 yJ9_floorMod_7cf53, Cond.static yJ9_floorMod_7cf53, Cond.initialized RJ9, Cond.code yJ9_floorMod_7cf53 cJ9_floorMod_7cf53 3 (some .int)]
def wsL_would : List Cond := .codeWith yL_would cL_would 6 (some .int) [(0, 12, 15, 29)] :: ((wsL_would_r1 ++ wsL_would_r2) ++ wsX00 ++ (vx_atS RX0 97 "java/lang/IndexOutOfBoundsException" ["java/lang/RuntimeException", "java/lang/Exception"]).filter goodWord)
def wsL_comes_r1 : List Cond := [Cond.classLink RL 29 "java/lang/IndexOutOfBoundsException", Cond.methodLink RL 71 yX0_comes, Cond.instanceMethod yX0_comes, Cond.selects RX0 yX0_comes yX0_comes, Cond.initialized RX0, Cond.code yX0_comes cX0_comes 4 (some .int), Cond.fieldLink RX0 84 "ToneButterflies" "length" "I", Cond.methodLink RX0 59 yX0_requireRow, Cond.instanceMethod yX0_requireRow, Cond.selects RX0 yX0_requireRow yX0_requireRow, Cond.code yX0_requireRow cX0_requireRow 2 none, Cond.classLink RX0 93 "java/lang/IndexOutOfBoundsException", Cond.initialized "java/lang/IndexOutOfBoundsException", Cond.methodLink RX0 132 yX0_isWhenMoved, Cond.instanceMethod yX0_isWhenMoved, Cond.selects RX0 yX0_isWhenMoved yX0_isWhenMoved, Cond.code yX0_isWhenMoved cX0_isWhenMoved 5 (some .boolean), Cond.methodLink RX0 116 yX0_wrapped, Cond.instanceMethod yX0_wrapped, Cond.selects RX0 yX0_wrapped yX0_wrapped, Cond.code yX0_wrapped cX0_wrapped 2 (some .int), Cond.methodLink RX0 68 yX0_read, Cond.instanceMethod yX0_read, Cond.selects RX0 yX0_read yX0_read]
def wsL_comes_r2 : List Cond := [Cond.code yX0_read cX0_read 4 (some .int), Cond.fieldLink RX0 9 "ToneButterflies" "numbers" "[I"]
def wsL_comes : List Cond := .codeWith yL_comes cL_comes 5 (some .int) [(0, 10, 13, 29)] :: ((wsL_comes_r1 ++ wsL_comes_r2) ++ wsX00 ++ (vx_atS RX0 97 "java/lang/IndexOutOfBoundsException" ["java/lang/RuntimeException", "java/lang/Exception"]).filter goodWord)
def wsL_advise_r1 : List Cond := [Cond.classLink RL 29 "java/lang/IndexOutOfBoundsException", Cond.methodLink RL 74 yX0_advise, Cond.instanceMethod yX0_advise, Cond.selects RX0 yX0_advise yX0_advise, Cond.initialized RX0, Cond.code yX0_advise cX0_advise 7 (some .int), Cond.fieldLink RX0 84 "ToneButterflies" "length" "I", Cond.methodLink RX0 59 yX0_requireRow, Cond.instanceMethod yX0_requireRow, Cond.selects RX0 yX0_requireRow yX0_requireRow, Cond.code yX0_requireRow cX0_requireRow 2 none, Cond.classLink RX0 93 "java/lang/IndexOutOfBoundsException", Cond.initialized "java/lang/IndexOutOfBoundsException", Cond.methodLink RX0 136 yX0_soundWhenMoved, Cond.instanceMethod yX0_soundWhenMoved, Cond.selects RX0 yX0_soundWhenMoved yX0_soundWhenMoved, Cond.code yX0_soundWhenMoved cX0_soundWhenMoved 6 (some .int), Cond.methodLink RX0 68 yX0_read, Cond.instanceMethod yX0_read, Cond.selects RX0 yX0_read yX0_read, Cond.code yX0_read cX0_read 4 (some .int), Cond.fieldLink RX0 9 "ToneButterflies" "numbers" "[I", Cond.methodLink RX0 116 yX0_wrapped, Cond.instanceMethod yX0_wrapped]
def wsL_advise_r2 : List Cond := [Cond.selects RX0 yX0_wrapped yX0_wrapped, Cond.code yX0_wrapped cX0_wrapped 2 (some .int), Cond.methodLink RX0 46 yX0_reduced, Cond.instanceMethod yX0_reduced, Cond.selects RX0 yX0_reduced yX0_reduced, Cond.code yX0_reduced cX0_reduced 2 (some .int), Cond.fieldLink RX0 43 "ToneButterflies" "prime" "I", Cond.methodLink RX0 168 yJ9_floorMod_7cf53, Cond.static yJ9_floorMod_7cf53, Cond.initialized RJ9, Cond.code yJ9_floorMod_7cf53 cJ9_floorMod_7cf53 3 (some .int)]
def wsL_advise : List Cond := .codeWith yL_advise cL_advise 5 (some .int) [(0, 10, 13, 29)] :: ((wsL_advise_r1 ++ wsL_advise_r2) ++ wsX00 ++ (vx_atS RX0 97 "java/lang/IndexOutOfBoundsException" ["java/lang/RuntimeException", "java/lang/Exception"]).filter goodWord)
def wsL_tones_r1 : List Cond := [Cond.classLink RL 29 "java/lang/IndexOutOfBoundsException", Cond.methodLink RL 77 yX0_tones, Cond.instanceMethod yX0_tones, Cond.selects RX0 yX0_tones yX0_tones, Cond.initialized RX0, Cond.code yX0_tones cX0_tones 3 (some .boolean), Cond.methodLink RX0 59 yX0_requireRow, Cond.instanceMethod yX0_requireRow, Cond.selects RX0 yX0_requireRow yX0_requireRow, Cond.code yX0_requireRow cX0_requireRow 2 none, Cond.classLink RX0 93 "java/lang/IndexOutOfBoundsException", Cond.initialized "java/lang/IndexOutOfBoundsException", Cond.methodLink RX0 81 yX0_scratchTones, Cond.instanceMethod yX0_scratchTones, Cond.selects RX0 yX0_scratchTones yX0_scratchTones, Cond.code yX0_scratchTones cX0_scratchTones 2 none, Cond.fieldLink RX0 35 "ToneButterflies" "unityRoot" "I", Cond.methodLink RX0 173 yX0_scratchValues, Cond.instanceMethod yX0_scratchValues, Cond.selects RX0 yX0_scratchValues yX0_scratchValues, Cond.code yX0_scratchValues cX0_scratchValues 6 none, Cond.fieldLink RX0 84 "ToneButterflies" "length" "I", Cond.methodLink RX0 119 yX0_valueAt, Cond.instanceMethod yX0_valueAt]
def wsL_tones_r2 : List Cond := [Cond.selects RX0 yX0_valueAt yX0_valueAt, Cond.code yX0_valueAt cX0_valueAt 5 (some .int), Cond.methodLink RX0 68 yX0_read, Cond.instanceMethod yX0_read, Cond.selects RX0 yX0_read yX0_read, Cond.code yX0_read cX0_read 4 (some .int), Cond.fieldLink RX0 9 "ToneButterflies" "numbers" "[I", Cond.methodLink RX0 46 yX0_reduced, Cond.instanceMethod yX0_reduced, Cond.selects RX0 yX0_reduced yX0_reduced, Cond.code yX0_reduced cX0_reduced 2 (some .int), Cond.fieldLink RX0 43 "ToneButterflies" "prime" "I", Cond.methodLink RX0 168 yJ9_floorMod_7cf53, Cond.static yJ9_floorMod_7cf53, Cond.initialized RJ9, Cond.code yJ9_floorMod_7cf53 cJ9_floorMod_7cf53 3 (some .int), Cond.methodLink RX0 71 yX0_write, Cond.instanceMethod yX0_write, Cond.selects RX0 yX0_write yX0_write, Cond.code yX0_write cX0_write 5 none, Cond.methodLink RX0 132 yX0_isWhenMoved, Cond.instanceMethod yX0_isWhenMoved, Cond.selects RX0 yX0_isWhenMoved yX0_isWhenMoved, Cond.code yX0_isWhenMoved cX0_isWhenMoved 5 (some .boolean)]
def wsL_tones_r3 : List Cond := [Cond.methodLink RX0 116 yX0_wrapped, Cond.instanceMethod yX0_wrapped, Cond.selects RX0 yX0_wrapped yX0_wrapped, Cond.code yX0_wrapped cX0_wrapped 2 (some .int)]
def wsL_tones : List Cond := .codeWith yL_tones cL_tones 5 (some .int) [(0, 17, 20, 29)] :: ((wsL_tones_r1 ++ (wsL_tones_r2 ++ wsL_tones_r3)) ++ wsX00 ++ (vx_atS RX0 97 "java/lang/IndexOutOfBoundsException" ["java/lang/RuntimeException", "java/lang/Exception"]).filter goodWord)
def wsL_mean : List Cond := .codeWith yL_mean cL_mean 4 (some .int) [(0, 8, 11, 29)] :: ([.classLink RL 29 "java/lang/IndexOutOfBoundsException", .methodLink RL 81 yX0_mean, .instanceMethod yX0_mean, .selects RX0 yX0_mean yX0_mean, .initialized RX0, .code yX0_mean cX0_mean 2 (some .double), .fieldLink RX0 84 "ToneButterflies" "length" "I", .methodLink RX0 59 yX0_requireRow, .instanceMethod yX0_requireRow, .selects RX0 yX0_requireRow yX0_requireRow, .code yX0_requireRow cX0_requireRow 2 none, .classLink RX0 93 "java/lang/IndexOutOfBoundsException", .initialized "java/lang/IndexOutOfBoundsException", .methodLink RX0 139 yX0_plainSum, .instanceMethod yX0_plainSum, .selects RX0 yX0_plainSum yX0_plainSum, .code yX0_plainSum cX0_plainSum 4 (some .int), .methodLink RX0 68 yX0_read, .instanceMethod yX0_read, .selects RX0 yX0_read yX0_read, .code yX0_read cX0_read 4 (some .int), .fieldLink RX0 9 "ToneButterflies" "numbers" "[I"] ++ wsX00 ++ (vx_atS RX0 97 "java/lang/IndexOutOfBoundsException" ["java/lang/RuntimeException", "java/lang/Exception"]).filter goodWord)
def wsL_law0_r1 : List Cond := [Cond.classLink RL 8 RX0, Cond.instantiable RX0 7, Cond.initialized RX0, Cond.classLink RL 86 RX1, Cond.instantiable RX1 7, Cond.initialized RX1, Cond.arrayClass .long, Cond.arrayClass .double, Cond.methodLink RL 85 yX0_init, Cond.instanceMethod yX0_init, Cond.code yX0_init cX0_init 1 none, Cond.methodLink RX0 3 objectInit, Cond.instanceMethod objectInit, Cond.code objectInit ⟨#[0xb1]⟩ 1 none, Cond.arrayClass .int, Cond.fieldLink RX0 9 "ToneButterflies" "numbers" "[I", Cond.methodLink RX0 13 yX0_takeRing, Cond.instanceMethod yX0_takeRing, Cond.selects RX0 yX0_takeRing yX0_takeRing, Cond.code yX0_takeRing cX0_takeRing 4 none, Cond.fieldLink RX0 84 "ToneButterflies" "length" "I", Cond.fieldLink RX0 43 "ToneButterflies" "prime" "I", Cond.fieldLink RX0 90 "ToneButterflies" "bits" "I", Cond.fieldLink RX0 35 "ToneButterflies" "unityRoot" "I"]
def wsL_law0_r2 : List Cond := [Cond.fieldLink RX0 162 "ToneButterflies" "unityRootInverse" "I", Cond.fieldLink RX0 165 "ToneButterflies" "lengthInverse" "I", Cond.methodLink RX0 158 yX0_smallestRoot, Cond.instanceMethod yX0_smallestRoot, Cond.selects RX0 yX0_smallestRoot yX0_smallestRoot, Cond.code yX0_smallestRoot cX0_smallestRoot 2 (some .int), Cond.methodLink RX0 55 yX0_powerOf, Cond.instanceMethod yX0_powerOf, Cond.selects RX0 yX0_powerOf yX0_powerOf, Cond.code yX0_powerOf cX0_powerOf 6 (some .int), Cond.methodLink RX0 46 yX0_reduced, Cond.instanceMethod yX0_reduced, Cond.selects RX0 yX0_reduced yX0_reduced, Cond.code yX0_reduced cX0_reduced 2 (some .int), Cond.methodLink RX0 168 yJ9_floorMod_7cf53, Cond.static yJ9_floorMod_7cf53, Cond.initialized RJ9, Cond.code yJ9_floorMod_7cf53 cJ9_floorMod_7cf53 3 (some .int), Cond.methodLink RX0 50 yX0_inverseOf, Cond.instanceMethod yX0_inverseOf, Cond.selects RX0 yX0_inverseOf yX0_inverseOf, Cond.code yX0_inverseOf cX0_inverseOf 2 (some .int), Cond.methodLink RL 88 yX1_init, Cond.instanceMethod yX1_init]
def wsL_law0_r3 : List Cond := [Cond.code yX1_init cX1_init 1 none, Cond.methodLink RX1 1 objectInit, Cond.fieldLink RX1 7 "ToneButterfliesModel" "n" "I", Cond.fieldLink RX1 13 "ToneButterfliesModel" "p" "I", Cond.fieldLink RX1 16 "ToneButterfliesModel" "w" "I", Cond.fieldLink RX1 19 "ToneButterfliesModel" "bits" "I", Cond.fieldLink RX1 22 "ToneButterfliesModel" "rows" "[I", Cond.fieldLink RX1 26 "ToneButterfliesModel" "made" "[I", Cond.methodLink RL 89 yL_ring, Cond.static yL_ring, Cond.initialized RL, Cond.codeWith yL_ring cL_ring 5 (some .int) [(0, 10, 13, 13)], Cond.classLink RL 13 "java/lang/IllegalArgumentException", Cond.methodLink RL 7 yX0_ring, Cond.instanceMethod yX0_ring, Cond.selects RX0 yX0_ring yX0_ring, Cond.code yX0_ring cX0_ring 3 (some .int), Cond.classLink RX0 28 "java/lang/IllegalArgumentException", Cond.initialized "java/lang/IllegalArgumentException", Cond.methodLink RX0 17 yX0_isLength, Cond.static yX0_isLength, Cond.code yX0_isLength cX0_isLength 1 (some .boolean), Cond.methodLink RX0 21 yX0_isPrimeOfRing, Cond.static yX0_isPrimeOfRing]
def wsL_law0_r4 : List Cond := [Cond.code yX0_isPrimeOfRing cX0_isPrimeOfRing 2 (some .boolean), Cond.methodLink RX0 24 yX0_divides, Cond.static yX0_divides, Cond.code yX0_divides cX0_divides 2 (some .boolean), Cond.methodLink RL 94 yX1_ring, Cond.instanceMethod yX1_ring, Cond.selects RX1 yX1_ring yX1_ring, Cond.code yX1_ring cX1_ring 4 (some .int), Cond.fieldLink RX1 29 "ToneButterfliesModel" "thrown" "I", Cond.methodLink RX1 32 yX1_isIn, Cond.static yX1_isIn, Cond.code yX1_isIn cX1_isIn 3 (some .boolean), Cond.methodLink RX1 44 yX1_isPrime, Cond.static yX1_isPrime, Cond.code yX1_isPrime cX1_isPrime 2 (some .boolean), Cond.methodLink RX1 48 yX1_no, Cond.instanceMethod yX1_no, Cond.selects RX1 yX1_no yX1_no, Cond.code yX1_no cX1_no 2 (some .int), Cond.methodLink RX1 51 yX1_rootOf, Cond.instanceMethod yX1_rootOf, Cond.selects RX1 yX1_rootOf yX1_rootOf, Cond.code yX1_rootOf cX1_rootOf 2 (some .int), Cond.methodLink RX1 40 yX1_orderOf]
def wsL_law0_r5 : List Cond := [Cond.instanceMethod yX1_orderOf, Cond.selects RX1 yX1_orderOf yX1_orderOf, Cond.code yX1_orderOf cX1_orderOf 4 (some .int), Cond.methodLink RX1 36 yX1_by, Cond.instanceMethod yX1_by, Cond.selects RX1 yX1_by yX1_by, Cond.code yX1_by cX1_by 3 (some .int), Cond.methodLink RL 95 yX1_thrown, Cond.instanceMethod yX1_thrown, Cond.selects RX1 yX1_thrown yX1_thrown, Cond.code yX1_thrown cX1_thrown 1 (some .int), Cond.methodLink RL 99 yL_order, Cond.static yL_order, Cond.codeWith yL_order cL_order 4 (some .int) [(0, 9, 12, 13)], Cond.methodLink RL 15 yX0_order, Cond.instanceMethod yX0_order, Cond.selects RX0 yX0_order yX0_order, Cond.code yX0_order cX0_order 4 (some .int), Cond.methodLink RX0 39 yX0_requireInvertible, Cond.instanceMethod yX0_requireInvertible, Cond.selects RX0 yX0_requireInvertible yX0_requireInvertible, Cond.code yX0_requireInvertible cX0_requireInvertible 2 none, Cond.methodLink RL 102 yX1_order, Cond.instanceMethod yX1_order]
def wsL_law0_r6 : List Cond := [Cond.selects RX1 yX1_order yX1_order, Cond.code yX1_order cX1_order 2 (some .int), Cond.methodLink RX1 55 yX1_isUnit, Cond.instanceMethod yX1_isUnit, Cond.selects RX1 yX1_isUnit yX1_isUnit, Cond.code yX1_isUnit cX1_isUnit 2 (some .boolean), Cond.methodLink RL 103 yL_inverse, Cond.static yL_inverse, Cond.codeWith yL_inverse cL_inverse 4 (some .int) [(0, 9, 12, 13)], Cond.methodLink RL 19 yX0_inverse, Cond.instanceMethod yX0_inverse, Cond.selects RX0 yX0_inverse yX0_inverse, Cond.code yX0_inverse cX0_inverse 2 (some .int), Cond.methodLink RL 105 yX1_inverse, Cond.instanceMethod yX1_inverse, Cond.selects RX1 yX1_inverse yX1_inverse, Cond.code yX1_inverse cX1_inverse 2 (some .int), Cond.methodLink RX1 58 yX1_inverseOf, Cond.instanceMethod yX1_inverseOf, Cond.selects RX1 yX1_inverseOf yX1_inverseOf, Cond.code yX1_inverseOf cX1_inverseOf 9 (some .int), Cond.methodLink RL 106 yL_root, Cond.static yL_root, Cond.codeWith yL_root cL_root 4 (some .int) [(0, 9, 12, 13)]]
def wsL_law0_r7 : List Cond := [Cond.methodLink RL 22 yX0_root, Cond.instanceMethod yX0_root, Cond.selects RX0 yX0_root yX0_root, Cond.code yX0_root cX0_root 2 (some .int), Cond.methodLink RL 108 yX1_root, Cond.instanceMethod yX1_root, Cond.selects RX1 yX1_root yX1_root, Cond.code yX1_root cX1_root 2 (some .int), Cond.methodLink RX1 61 yX1_power, Cond.instanceMethod yX1_power, Cond.selects RX1 yX1_power yX1_power, Cond.code yX1_power cX1_power 6 (some .int), Cond.methodLink RL 109 yL_set, Cond.static yL_set, Cond.codeWith yL_set cL_set 6 (some .int) [(0, 12, 15, 29), (0, 12, 19, 13)], Cond.classLink RL 29 "java/lang/IndexOutOfBoundsException", Cond.methodLink RL 25 yX0_set, Cond.instanceMethod yX0_set, Cond.selects RX0 yX0_set yX0_set, Cond.code yX0_set cX0_set 5 (some .int), Cond.methodLink RX0 59 yX0_requireRow, Cond.instanceMethod yX0_requireRow, Cond.selects RX0 yX0_requireRow yX0_requireRow, Cond.code yX0_requireRow cX0_requireRow 2 none]
def wsL_law0_r8 : List Cond := [Cond.classLink RX0 93 "java/lang/IndexOutOfBoundsException", Cond.initialized "java/lang/IndexOutOfBoundsException", Cond.methodLink RX0 62 yX0_requirePlace, Cond.instanceMethod yX0_requirePlace, Cond.selects RX0 yX0_requirePlace yX0_requirePlace, Cond.code yX0_requirePlace cX0_requirePlace 2 none, Cond.methodLink RX0 65 yX0_requireNumber, Cond.instanceMethod yX0_requireNumber, Cond.selects RX0 yX0_requireNumber yX0_requireNumber, Cond.code yX0_requireNumber cX0_requireNumber 2 none, Cond.methodLink RX0 68 yX0_read, Cond.instanceMethod yX0_read, Cond.selects RX0 yX0_read yX0_read, Cond.code yX0_read cX0_read 4 (some .int), Cond.methodLink RX0 71 yX0_write, Cond.instanceMethod yX0_write, Cond.selects RX0 yX0_write yX0_write, Cond.code yX0_write cX0_write 5 none, Cond.methodLink RL 112 yX1_set, Cond.instanceMethod yX1_set, Cond.selects RX1 yX1_set yX1_set, Cond.code yX1_set cX1_set 5 (some .int), Cond.methodLink RX1 79 yX1_isRow, Cond.static yX1_isRow]
def wsL_law0_r9 : List Cond := [Cond.code yX1_isRow cX1_isRow 1 (some .boolean), Cond.methodLink RX1 82 yX1_isPlace, Cond.instanceMethod yX1_isPlace, Cond.selects RX1 yX1_isPlace yX1_isPlace, Cond.code yX1_isPlace cX1_isPlace 2 (some .boolean), Cond.methodLink RX1 70 yX1_its, Cond.instanceMethod yX1_its, Cond.selects RX1 yX1_its yX1_its, Cond.code yX1_its cX1_its 3 (some .int), Cond.methodLink RL 113 yL_copy, Cond.static yL_copy, Cond.codeWith yL_copy cL_copy 5 (some .int) [(0, 10, 13, 29)], Cond.methodLink RL 31 yX0_copy, Cond.instanceMethod yX0_copy, Cond.selects RX0 yX0_copy yX0_copy, Cond.code yX0_copy cX0_copy 3 (some .int), Cond.methodLink RX0 75 yX0_copyRow, Cond.instanceMethod yX0_copyRow, Cond.selects RX0 yX0_copyRow yX0_copyRow, Cond.code yX0_copyRow cX0_copyRow 6 (some .int), Cond.methodLink RL 115 yX1_copy, Cond.instanceMethod yX1_copy, Cond.selects RX1 yX1_copy yX1_copy, Cond.code yX1_copy cX1_copy 4 (some .int)]
def wsL_law0_r10 : List Cond := [Cond.methodLink RX1 64 arraycopyName, Cond.native arraycopyName, Cond.static arraycopyName, Cond.initialized "java/lang/System", Cond.methodLink RX1 85 yX1_changes, Cond.instanceMethod yX1_changes, Cond.selects RX1 yX1_changes yX1_changes, Cond.code yX1_changes cX1_changes 4 (some .int), Cond.methodLink RX1 88 yX1_lay, Cond.instanceMethod yX1_lay, Cond.selects RX1 yX1_lay yX1_lay, Cond.code yX1_lay cX1_lay 2 none, Cond.methodLink RL 116 yL_turn, Cond.static yL_turn, Cond.codeWith yL_turn cL_turn 5 (some .int) [(0, 10, 13, 29)], Cond.methodLink RL 34 yX0_turn, Cond.instanceMethod yX0_turn, Cond.selects RX0 yX0_turn yX0_turn, Cond.code yX0_turn cX0_turn 3 (some .int), Cond.methodLink RX0 78 yX0_scratchTurnedBack, Cond.instanceMethod yX0_scratchTurnedBack, Cond.selects RX0 yX0_scratchTurnedBack yX0_scratchTurnedBack, Cond.code yX0_scratchTurnedBack cX0_scratchTurnedBack 2 none, Cond.methodLink RX0 173 yX0_scratchValues]
def wsL_law0_r11 : List Cond := [Cond.instanceMethod yX0_scratchValues, Cond.selects RX0 yX0_scratchValues yX0_scratchValues, Cond.code yX0_scratchValues cX0_scratchValues 6 none, Cond.methodLink RX0 119 yX0_valueAt, Cond.instanceMethod yX0_valueAt, Cond.selects RX0 yX0_valueAt yX0_valueAt, Cond.code yX0_valueAt cX0_valueAt 5 (some .int), Cond.methodLink RX0 81 yX0_scratchTones, Cond.instanceMethod yX0_scratchTones, Cond.selects RX0 yX0_scratchTones yX0_scratchTones, Cond.code yX0_scratchTones cX0_scratchTones 2 none, Cond.methodLink RL 119 yX1_turn, Cond.instanceMethod yX1_turn, Cond.selects RX1 yX1_turn yX1_turn, Cond.code yX1_turn cX1_turn 3 (some .int), Cond.methodLink RX1 92 yX1_makeTones, Cond.instanceMethod yX1_makeTones, Cond.selects RX1 yX1_makeTones yX1_makeTones, Cond.code yX1_makeTones cX1_makeTones 6 none, Cond.methodLink RX1 76 yX1_pointOf, Cond.instanceMethod yX1_pointOf, Cond.selects RX1 yX1_pointOf yX1_pointOf, Cond.code yX1_pointOf cX1_pointOf 5 (some .int), Cond.methodLink RX1 73 yX1_plus]
def wsL_law0_r12 : List Cond := [Cond.instanceMethod yX1_plus, Cond.selects RX1 yX1_plus yX1_plus, Cond.code yX1_plus cX1_plus 3 (some .int), Cond.methodLink RL 120 yL_mirror, Cond.static yL_mirror, Cond.codeWith yL_mirror cL_mirror 4 (some .int) [(0, 9, 12, 29)], Cond.methodLink RL 38 yX0_mirror, Cond.instanceMethod yX0_mirror, Cond.selects RX0 yX0_mirror yX0_mirror, Cond.code yX0_mirror cX0_mirror 3 (some .int), Cond.methodLink RX0 87 yX0_mirrored, Cond.instanceMethod yX0_mirrored, Cond.selects RX0 yX0_mirrored yX0_mirrored, Cond.code yX0_mirrored cX0_mirrored 4 (some .int), Cond.methodLink RL 122 yX1_mirror, Cond.instanceMethod yX1_mirror, Cond.selects RX1 yX1_mirror yX1_mirror, Cond.code yX1_mirror cX1_mirror 3 (some .int), Cond.methodLink RX1 96 yX1_mirrored, Cond.instanceMethod yX1_mirrored, Cond.selects RX1 yX1_mirrored yX1_mirrored, Cond.code yX1_mirrored cX1_mirrored 4 (some .int), Cond.methodLink RL 123 yL_stage, Cond.static yL_stage]
def wsL_law0_r13 : List Cond := [Cond.codeWith yL_stage cL_stage 5 (some .int) [(0, 10, 13, 29)], Cond.methodLink RL 41 yX0_stage, Cond.instanceMethod yX0_stage, Cond.selects RX0 yX0_stage yX0_stage, Cond.code yX0_stage cX0_stage 7 (some .int), Cond.methodLink RX0 98 yX0_butterfly, Cond.instanceMethod yX0_butterfly, Cond.selects RX0 yX0_butterfly yX0_butterfly, Cond.code yX0_butterfly cX0_butterfly 7 none, Cond.methodLink RL 125 yX1_stage, Cond.instanceMethod yX1_stage, Cond.selects RX1 yX1_stage yX1_stage, Cond.code yX1_stage cX1_stage 9 (some .int), Cond.methodLink RX1 99 yX1_minus, Cond.instanceMethod yX1_minus, Cond.selects RX1 yX1_minus yX1_minus, Cond.code yX1_minus cX1_minus 3 (some .int), Cond.methodLink RL 126 yL_fold, Cond.static yL_fold, Cond.codeWith yL_fold cL_fold 5 (some .int) [(0, 10, 13, 29)], Cond.methodLink RL 44 yX0_fold, Cond.instanceMethod yX0_fold, Cond.selects RX0 yX0_fold yX0_fold, Cond.code yX0_fold cX0_fold 4 (some .int)]
def wsL_law0_r14 : List Cond := [Cond.methodLink RX0 102 yX0_foldedAt, Cond.instanceMethod yX0_foldedAt, Cond.selects RX0 yX0_foldedAt yX0_foldedAt, Cond.code yX0_foldedAt cX0_foldedAt 6 (some .int), Cond.methodLink RX0 116 yX0_wrapped, Cond.instanceMethod yX0_wrapped, Cond.selects RX0 yX0_wrapped yX0_wrapped, Cond.code yX0_wrapped cX0_wrapped 2 (some .int), Cond.methodLink RL 128 yX1_fold, Cond.instanceMethod yX1_fold, Cond.selects RX1 yX1_fold yX1_fold, Cond.code yX1_fold cX1_fold 4 (some .int), Cond.methodLink RX1 102 yX1_folded, Cond.instanceMethod yX1_folded, Cond.selects RX1 yX1_folded yX1_folded, Cond.code yX1_folded cX1_folded 6 (some .int), Cond.methodLink RL 129 yL_join, Cond.static yL_join, Cond.codeWith yL_join cL_join 6 (some .int) [(0, 12, 15, 29)], Cond.methodLink RL 47 yX0_join, Cond.instanceMethod yX0_join, Cond.selects RX0 yX0_join yX0_join, Cond.code yX0_join cX0_join 5 (some .int), Cond.methodLink RX0 108 yX0_joined]
def wsL_law0_r15 : List Cond := [Cond.instanceMethod yX0_joined, Cond.selects RX0 yX0_joined yX0_joined, Cond.code yX0_joined cX0_joined 4 (some .int), Cond.methodLink RX0 111 yX0_nonZeros, Cond.instanceMethod yX0_nonZeros, Cond.selects RX0 yX0_nonZeros yX0_nonZeros, Cond.code yX0_nonZeros cX0_nonZeros 4 (some .int), Cond.methodLink RL 131 yX1_join, Cond.instanceMethod yX1_join, Cond.selects RX1 yX1_join yX1_join, Cond.code yX1_join cX1_join 5 (some .int), Cond.methodLink RX1 106 yX1_others, Cond.instanceMethod yX1_others, Cond.selects RX1 yX1_others yX1_others, Cond.code yX1_others cX1_others 4 (some .int), Cond.methodLink RL 132 yL_move, Cond.static yL_move, Cond.codeWith yL_move cL_move 5 (some .int) [(0, 10, 13, 29), (0, 10, 17, 13)], Cond.methodLink RL 50 yX0_move, Cond.instanceMethod yX0_move, Cond.selects RX0 yX0_move yX0_move, Cond.code yX0_move cX0_move 4 (some .int), Cond.methodLink RL 134 yX1_move, Cond.instanceMethod yX1_move]
def wsL_law0_r16 : List Cond := [Cond.selects RX1 yX1_move yX1_move, Cond.code yX1_move cX1_move 4 (some .int), Cond.methodLink RL 135 yL_times, Cond.static yL_times, Cond.codeWith yL_times cL_times 5 (some .int) [(0, 10, 13, 29), (0, 10, 17, 13)], Cond.methodLink RL 53 yX0_times, Cond.instanceMethod yX0_times, Cond.selects RX0 yX0_times yX0_times, Cond.code yX0_times cX0_times 4 (some .int), Cond.methodLink RL 137 yX1_times, Cond.instanceMethod yX1_times, Cond.selects RX1 yX1_times yX1_times, Cond.code yX1_times cX1_times 4 (some .int), Cond.methodLink RL 138 yL_at, Cond.static yL_at, Cond.codeWith yL_at cL_at 5 (some .int) [(0, 10, 13, 29)], Cond.methodLink RL 56 yX0_at, Cond.instanceMethod yX0_at, Cond.selects RX0 yX0_at yX0_at, Cond.code yX0_at cX0_at 3 (some .int), Cond.methodLink RL 140 yX1_at, Cond.instanceMethod yX1_at, Cond.selects RX1 yX1_at yX1_at, Cond.code yX1_at cX1_at 3 (some .int)]
def wsL_law0_r17 : List Cond := [Cond.methodLink RL 141 yL_point, Cond.static yL_point, Cond.codeWith yL_point cL_point 5 (some .int) [(0, 10, 13, 29), (0, 10, 17, 13)], Cond.methodLink RL 59 yX0_point, Cond.instanceMethod yX0_point, Cond.selects RX0 yX0_point yX0_point, Cond.code yX0_point cX0_point 3 (some .int), Cond.methodLink RL 143 yX1_point, Cond.instanceMethod yX1_point, Cond.selects RX1 yX1_point yX1_point, Cond.code yX1_point cX1_point 3 (some .int), Cond.methodLink RL 144 yL_about, Cond.static yL_about, Cond.codeWith yL_about cL_about 5 (some .int) [(0, 10, 13, 29)], Cond.methodLink RL 62 yX0_about, Cond.instanceMethod yX0_about, Cond.selects RX0 yX0_about yX0_about, Cond.code yX0_about cX0_about 3 (some .int), Cond.methodLink RX0 124 yX0_told, Cond.instanceMethod yX0_told, Cond.selects RX0 yX0_told yX0_told, Cond.code yX0_told cX0_told 3 (some .int), Cond.methodLink RX0 139 yX0_plainSum, Cond.instanceMethod yX0_plainSum]
def wsL_law0_r18 : List Cond := [Cond.selects RX0 yX0_plainSum yX0_plainSum, Cond.code yX0_plainSum cX0_plainSum 4 (some .int), Cond.methodLink RX0 176 yX0_lastNonZero, Cond.instanceMethod yX0_lastNonZero, Cond.selects RX0 yX0_lastNonZero yX0_lastNonZero, Cond.code yX0_lastNonZero cX0_lastNonZero 3 (some .int), Cond.methodLink RX0 179 yX0_period, Cond.instanceMethod yX0_period, Cond.selects RX0 yX0_period yX0_period, Cond.code yX0_period cX0_period 3 (some .int), Cond.methodLink RX0 132 yX0_isWhenMoved, Cond.instanceMethod yX0_isWhenMoved, Cond.selects RX0 yX0_isWhenMoved yX0_isWhenMoved, Cond.code yX0_isWhenMoved cX0_isWhenMoved 5 (some .boolean), Cond.methodLink RX0 182 yX0_greatestNumber, Cond.instanceMethod yX0_greatestNumber, Cond.selects RX0 yX0_greatestNumber yX0_greatestNumber, Cond.code yX0_greatestNumber cX0_greatestNumber 4 (some .int), Cond.methodLink RX0 185 Lib.Math.max.name, Cond.static Lib.Math.max.name, Cond.initialized "java/lang/Math", Cond.code Lib.Math.max.name Lib.Math.max.code 2 (some .int), Cond.methodLink RL 146 yX1_about, Cond.instanceMethod yX1_about]
def wsL_law0_r19 : List Cond := [Cond.selects RX1 yX1_about yX1_about, Cond.code yX1_about cX1_about 3 (some .int), Cond.methodLink RX1 117 yX1_aboutTold, Cond.instanceMethod yX1_aboutTold, Cond.selects RX1 yX1_aboutTold yX1_aboutTold, Cond.code yX1_aboutTold cX1_aboutTold 5 (some .int), Cond.methodLink RX1 112 Lib.Math.max.name, Cond.methodLink RX1 109 yX1_isMoved, Cond.instanceMethod yX1_isMoved, Cond.selects RX1 yX1_isMoved yX1_isMoved, Cond.code yX1_isMoved cX1_isMoved 5 (some .boolean), Cond.methodLink RL 147 yL_count, Cond.static yL_count, Cond.codeWith yL_count cL_count 4 (some .int) [(0, 9, 12, 29)], Cond.methodLink RL 65 yX0_count, Cond.instanceMethod yX0_count, Cond.selects RX0 yX0_count yX0_count, Cond.code yX0_count cX0_count 2 (some .int), Cond.methodLink RX0 129 yX0_counted, Cond.instanceMethod yX0_counted, Cond.selects RX0 yX0_counted yX0_counted, Cond.code yX0_counted cX0_counted 2 (some .int), Cond.methodLink RL 149 yX1_count, Cond.instanceMethod yX1_count]
def wsL_law0_r20 : List Cond := [Cond.selects RX1 yX1_count yX1_count, Cond.code yX1_count cX1_count 2 (some .int), Cond.methodLink RX1 120 yX1_counted, Cond.instanceMethod yX1_counted, Cond.selects RX1 yX1_counted yX1_counted, Cond.code yX1_counted cX1_counted 2 (some .int), Cond.methodLink RL 150 yL_would, Cond.static yL_would, Cond.codeWith yL_would cL_would 6 (some .int) [(0, 12, 15, 29)], Cond.methodLink RL 68 yX0_would, Cond.instanceMethod yX0_would, Cond.selects RX0 yX0_would yX0_would, Cond.code yX0_would cX0_would 4 (some .int), Cond.methodLink RL 152 yX1_would, Cond.instanceMethod yX1_would, Cond.selects RX1 yX1_would yX1_would, Cond.code yX1_would cX1_would 4 (some .int), Cond.methodLink RL 153 yL_comes, Cond.static yL_comes, Cond.codeWith yL_comes cL_comes 5 (some .int) [(0, 10, 13, 29)], Cond.methodLink RL 71 yX0_comes, Cond.instanceMethod yX0_comes, Cond.selects RX0 yX0_comes yX0_comes, Cond.code yX0_comes cX0_comes 4 (some .int)]
def wsL_law0_r21 : List Cond := [Cond.methodLink RL 155 yX1_comes, Cond.instanceMethod yX1_comes, Cond.selects RX1 yX1_comes yX1_comes, Cond.code yX1_comes cX1_comes 3 (some .int), Cond.methodLink RX1 123 yX1_comesBy, Cond.instanceMethod yX1_comesBy, Cond.selects RX1 yX1_comesBy yX1_comesBy, Cond.code yX1_comesBy cX1_comesBy 4 (some .int), Cond.methodLink RL 156 yL_advise, Cond.static yL_advise, Cond.codeWith yL_advise cL_advise 5 (some .int) [(0, 10, 13, 29)], Cond.methodLink RL 74 yX0_advise, Cond.instanceMethod yX0_advise, Cond.selects RX0 yX0_advise yX0_advise, Cond.code yX0_advise cX0_advise 7 (some .int), Cond.methodLink RX0 136 yX0_soundWhenMoved, Cond.instanceMethod yX0_soundWhenMoved, Cond.selects RX0 yX0_soundWhenMoved yX0_soundWhenMoved, Cond.code yX0_soundWhenMoved cX0_soundWhenMoved 6 (some .int), Cond.methodLink RL 158 yX1_advise, Cond.instanceMethod yX1_advise, Cond.selects RX1 yX1_advise yX1_advise, Cond.code yX1_advise cX1_advise 5 (some .int), Cond.methodLink RX1 126 yX1_together]
def wsL_law0_r22 : List Cond := [Cond.instanceMethod yX1_together, Cond.selects RX1 yX1_together yX1_together, Cond.code yX1_together cX1_together 6 (some .int), Cond.methodLink RL 159 yL_tones, Cond.static yL_tones, Cond.codeWith yL_tones cL_tones 5 (some .int) [(0, 17, 20, 29)], Cond.methodLink RL 77 yX0_tones, Cond.instanceMethod yX0_tones, Cond.selects RX0 yX0_tones yX0_tones, Cond.code yX0_tones cX0_tones 3 (some .boolean), Cond.methodLink RL 161 yX1_tones, Cond.instanceMethod yX1_tones, Cond.selects RX1 yX1_tones yX1_tones, Cond.code yX1_tones cX1_tones 3 (some .boolean), Cond.methodLink RX1 129 yX1_areTones, Cond.instanceMethod yX1_areTones, Cond.selects RX1 yX1_areTones yX1_areTones, Cond.code yX1_areTones cX1_areTones 3 (some .boolean), Cond.methodLink RL 162 yL_mean, Cond.static yL_mean, Cond.codeWith yL_mean cL_mean 4 (some .int) [(0, 8, 11, 29)], Cond.methodLink RL 81 yX0_mean, Cond.instanceMethod yX0_mean, Cond.selects RX0 yX0_mean yX0_mean]
def wsL_law0_r23 : List Cond := [Cond.code yX0_mean cX0_mean 2 (some .double), Cond.methodLink RL 165 yX1_mean, Cond.instanceMethod yX1_mean, Cond.selects RX1 yX1_mean yX1_mean, Cond.code yX1_mean cX1_mean 4 (some .double), Cond.methodLink RL 166 yX0_digest, Cond.instanceMethod yX0_digest, Cond.selects RX0 yX0_digest yX0_digest, Cond.code yX0_digest cX0_digest 5 (some .long), Cond.constantLong RX0 142 (1777), Cond.constantLong RX0 144 (31), Cond.methodLink RX0 146 yX0_digestRow, Cond.instanceMethod yX0_digestRow, Cond.selects RX0 yX0_digestRow yX0_digestRow, Cond.code yX0_digestRow cX0_digestRow 7 (some .long), Cond.methodLink RL 170 yX1_digest, Cond.instanceMethod yX1_digest, Cond.selects RX1 yX1_digest yX1_digest, Cond.code yX1_digest cX1_digest 5 (some .long), Cond.constantLong RX1 133 (1777), Cond.constantLong RX1 135 (31)]
def wsL_law0 : List Cond := (wsL_law0_r1 ++ (wsL_law0_r2 ++ (wsL_law0_r3 ++ (wsL_law0_r4 ++ (wsL_law0_r5 ++ (wsL_law0_r6 ++ (wsL_law0_r7 ++ (wsL_law0_r8 ++ (wsL_law0_r9 ++ (wsL_law0_r10 ++ (wsL_law0_r11 ++ (wsL_law0_r12 ++ (wsL_law0_r13 ++ (wsL_law0_r14 ++ (wsL_law0_r15 ++ (wsL_law0_r16 ++ (wsL_law0_r17 ++ (wsL_law0_r18 ++ (wsL_law0_r19 ++ (wsL_law0_r20 ++ (wsL_law0_r21 ++ (wsL_law0_r22 ++ wsL_law0_r23)))))))))))))))))))))) ++ wsX00 ++ wsX10 ++ ([] : List Cond)
def wsL_law : List Cond := wsL_law0 ++ (vx_atS RX0 32 "java/lang/IllegalArgumentException" ["java/lang/RuntimeException", "java/lang/Exception"]).filter goodWord ++ (vx_atS RX0 97 "java/lang/IndexOutOfBoundsException" ["java/lang/RuntimeException", "java/lang/Exception"]).filter goodWord
set_option maxRecDepth 20000 in
theorem wsL_law_in0 : ∀ w ∈ wsL_law0, w ∈ lw_tbl := fun w h => (goodIn_p wsL_law0 [70, 73, 77, 81, 85, 89, 92, 96, 494, 196, 199, 202, 205, 525, 528, 531, 535, 539, 543, 547, 521, 279, 283, 551, 555, 291, 559, 563, 298, 567, 571, 307, 311, 331, 336, 137, 188, 575, 578, 582, 586, 344, 348, 590, 597, 601, 355, 359, 180, 184, 176, 605, 609, 613, 617, 366, 370, 621, 625, 377, 382, 629, 633, 389, 393, 165, 637, 641, 400, 405, 149, 645, 649, 412, 653, 420, 657, 427, 661, 434, 665, 441, 141, 145, 153, 157, 161, 169, 172, 669, 673, 677, 449, 129, 682, 686, 457, 690, 464, 694, 698, 471, 475, 702, 706, 482, 710, 714, 489, 718, 123, 133, 722] (by decide +kernel) (by decide +kernel) w h).1
theorem wsL_law_x0 : ∀ w ∈ (vx_atS RX0 32 "java/lang/IllegalArgumentException" ["java/lang/RuntimeException", "java/lang/Exception"]).filter goodWord, w ∈ lw_tbl := by decide +kernel
theorem wsL_law_x1 : ∀ w ∈ (vx_atS RX0 97 "java/lang/IndexOutOfBoundsException" ["java/lang/RuntimeException", "java/lang/Exception"]).filter goodWord, w ∈ lw_tbl := by decide +kernel
theorem wsL_law_in : ∀ w ∈ wsL_law, w ∈ lw_tbl := fun w h => (List.mem_append.mp h).elim (fun h => (List.mem_append.mp h).elim (fun h => wsL_law_in0 w h) (fun h => wsL_law_x0 w h)) (fun h => wsL_law_x1 w h)
theorem inlX0 : ∀ w ∈ wsX00, w ∈ wsL_law := fun _ h => List.mem_append_left _ (List.mem_append_left _ (List.mem_append_left _ (List.mem_append_left _ (List.mem_append_right _ h))))
theorem inX0 : ∀ w ∈ wsX00, w ∈ lw_tbl := fun w h => wsL_law_in w (inlX0 w h)
theorem inlX1 : ∀ w ∈ wsX10, w ∈ wsL_law := fun _ h => List.mem_append_left _ (List.mem_append_left _ (List.mem_append_left _ (List.mem_append_right _ h)))
theorem inX1 : ∀ w ∈ wsX10, w ∈ lw_tbl := fun w h => wsL_law_in w (inlX1 w h)
theorem inJ9 : ∀ w ∈ wsJ90, w ∈ lw_tbl := by decide +kernel
theorem inJ0 : ∀ w ∈ wsJ00, w ∈ lw_tbl := by decide +kernel
theorem inJ10 : ∀ w ∈ wsJ100, w ∈ lw_tbl := by decide +kernel
set_option maxRecDepth 20000 in
theorem ggX0_init_X0_takeRing : GoodIn wsX0_init wsX0_takeRing := goodIn_r _ [10, 11, 12, 13, 14, 15, 16, 5, 17, 18, 19, 9, 20, 21, 22, 23, 24, 25, 26, 27, 28, 29, 30, 31, 32, 33, 34, 35, 36, 37, 38, 39, 40, 41, 42, 43] (by decide +kernel) (by decide +kernel)
set_option maxRecDepth 20000 in
theorem gX0_init_X0_takeRing : GoodIn wsX0_init (wsV RX0 13 RX0 yX0_takeRing wsX0_takeRing) := goodIn_app (goodIn_of _ (by decide +kernel)) ggX0_init_X0_takeRing
theorem dX0_init_0 : decode cX0_init 0 = .ok (.aload_n 0, 1) := by decide +kernel
theorem dX0_init_1 : decode cX0_init 1 = .ok (.invokespecial 3, 3) := by decide +kernel
theorem dX0_init_4 : decode cX0_init 4 = .ok (.aload_n 0, 1) := by decide +kernel
theorem dX0_init_5 : decode cX0_init 5 = .ok (.bipush 80, 2) := by decide +kernel
theorem dX0_init_7 : decode cX0_init 7 = .ok (.newarray .int, 2) := by decide +kernel
theorem dX0_init_9 : decode cX0_init 9 = .ok (.putfield 9, 3) := by decide +kernel
theorem dX0_init_12 : decode cX0_init 12 = .ok (.aload_n 0, 1) := by decide +kernel
theorem dX0_init_13 : decode cX0_init 13 = .ok (.bipush 8, 2) := by decide +kernel
theorem dX0_init_15 : decode cX0_init 15 = .ok (.bipush 17, 2) := by decide +kernel
theorem dX0_init_17 : decode cX0_init 17 = .ok (.invokevirtual 13, 3) := by decide +kernel
theorem dX0_init_20 : decode cX0_init 20 = .ok (.return_, 1) := by decide +kernel
set_option maxRecDepth 20000 in
theorem ggX0_ring_X0_isLength : GoodIn wsX0_ring wsX0_isLength := goodIn_r _ [7] (by decide +kernel) (by decide +kernel)
set_option maxRecDepth 20000 in
theorem gX0_ring_X0_isLength : GoodIn wsX0_ring (va_wsS RX0 17 yX0_isLength wsX0_isLength) := goodIn_app (goodIn_of _ (by decide +kernel)) ggX0_ring_X0_isLength
set_option maxRecDepth 20000 in
theorem ggX0_ring_X0_isPrimeOfRing : GoodIn wsX0_ring wsX0_isPrimeOfRing := goodIn_r _ [10, 11, 12, 6, 13] (by decide +kernel) (by decide +kernel)
set_option maxRecDepth 20000 in
theorem gX0_ring_X0_isPrimeOfRing : GoodIn wsX0_ring (va_wsS RX0 21 yX0_isPrimeOfRing wsX0_isPrimeOfRing) := goodIn_app (goodIn_of _ (by decide +kernel)) ggX0_ring_X0_isPrimeOfRing
set_option maxRecDepth 20000 in
theorem ggX0_ring_X0_divides : GoodIn wsX0_ring wsX0_divides := goodIn_r _ [13] (by decide +kernel) (by decide +kernel)
set_option maxRecDepth 20000 in
theorem gX0_ring_X0_divides : GoodIn wsX0_ring (va_wsS RX0 24 yX0_divides wsX0_divides) := goodIn_app (goodIn_of _ (by decide +kernel)) ggX0_ring_X0_divides
set_option maxRecDepth 20000 in
theorem ggX0_ring_X0_takeRing : GoodIn wsX0_ring wsX0_takeRing := goodIn_r _ [17, 18, 19, 20, 3, 21, 22, 23, 24, 25, 26, 6, 27, 28, 29, 30, 31, 32, 33, 34, 35, 36, 37, 38, 39, 40, 41, 42, 43, 44, 45, 46, 47, 48, 49, 50] (by decide +kernel) (by decide +kernel)
set_option maxRecDepth 20000 in
theorem gX0_ring_X0_takeRing : GoodIn wsX0_ring (wsV RX0 13 RX0 yX0_takeRing wsX0_takeRing) := goodIn_app (goodIn_of _ (by decide +kernel)) ggX0_ring_X0_takeRing
theorem dX0_ring_0 : decode cX0_ring 0 = .ok (.iload_n 1, 1) := by decide +kernel
theorem dX0_ring_1 : decode cX0_ring 1 = .ok (.invokestatic 17, 3) := by decide +kernel
theorem dX0_ring_4 : decode cX0_ring 4 = .ok (.ifCond .eq 20, 3) := by decide +kernel
theorem dX0_ring_7 : decode cX0_ring 7 = .ok (.iload_n 2, 1) := by decide +kernel
theorem dX0_ring_8 : decode cX0_ring 8 = .ok (.invokestatic 21, 3) := by decide +kernel
theorem dX0_ring_11 : decode cX0_ring 11 = .ok (.ifCond .eq 13, 3) := by decide +kernel
theorem dX0_ring_14 : decode cX0_ring 14 = .ok (.iload_n 1, 1) := by decide +kernel
theorem dX0_ring_15 : decode cX0_ring 15 = .ok (.iload_n 2, 1) := by decide +kernel
theorem dX0_ring_16 : decode cX0_ring 16 = .ok (.iconst 1, 1) := by decide +kernel
theorem dX0_ring_17 : decode cX0_ring 17 = .ok (.isub, 1) := by decide +kernel
theorem dX0_ring_18 : decode cX0_ring 18 = .ok (.invokestatic 24, 3) := by decide +kernel
theorem dX0_ring_21 : decode cX0_ring 21 = .ok (.ifCond .ne 13, 3) := by decide +kernel
theorem dX0_ring_24 : decode cX0_ring 24 = .ok (.new 28, 3) := by decide +kernel
theorem dX0_ring_27 : decode cX0_ring 27 = .ok (.dup, 1) := by decide +kernel
theorem dX0_ring_28 : decode cX0_ring 28 = .ok (.ldc 30, 2) := by decide +kernel
theorem dX0_ring_30 : decode cX0_ring 30 = .ok (.invokespecial 32, 3) := by decide +kernel
theorem dX0_ring_33 : decode cX0_ring 33 = .ok (.athrow, 1) := by decide +kernel
theorem dX0_ring_34 : decode cX0_ring 34 = .ok (.aload_n 0, 1) := by decide +kernel
theorem dX0_ring_35 : decode cX0_ring 35 = .ok (.iload_n 1, 1) := by decide +kernel
theorem dX0_ring_36 : decode cX0_ring 36 = .ok (.iload_n 2, 1) := by decide +kernel
theorem dX0_ring_37 : decode cX0_ring 37 = .ok (.invokevirtual 13, 3) := by decide +kernel
theorem dX0_ring_40 : decode cX0_ring 40 = .ok (.aload_n 0, 1) := by decide +kernel
theorem dX0_ring_41 : decode cX0_ring 41 = .ok (.getfield 35, 3) := by decide +kernel
theorem dX0_ring_44 : decode cX0_ring 44 = .ok (.ireturn, 1) := by decide +kernel
set_option maxRecDepth 20000 in
theorem ggX0_order_X0_requireInvertible : GoodIn wsX0_order wsX0_requireInvertible := goodIn_ca (goodIn_r _ [6, 7, 8, 1, 17, 18, 19, 20, 21, 22, 23] (by decide +kernel) (by decide +kernel)) (goodIn_sub (fun _ h => List.mem_cons_of_mem _ (List.mem_append_right _ h)) (by decide +kernel))
set_option maxRecDepth 20000 in
theorem gX0_order_X0_requireInvertible : GoodIn wsX0_order (wsV RX0 39 RX0 yX0_requireInvertible wsX0_requireInvertible) := goodIn_app (goodIn_of _ (by decide +kernel)) ggX0_order_X0_requireInvertible
set_option maxRecDepth 20000 in
theorem ggX0_order_X0_reduced : GoodIn wsX0_order wsX0_reduced := goodIn_r _ [12, 1, 13, 14, 15, 16, 17, 18, 19, 20, 21, 22, 23] (by decide +kernel) (by decide +kernel)
set_option maxRecDepth 20000 in
theorem gX0_order_X0_reduced : GoodIn wsX0_order (wsV RX0 46 RX0 yX0_reduced wsX0_reduced) := goodIn_app (goodIn_of _ (by decide +kernel)) ggX0_order_X0_reduced
theorem dX0_order_0 : decode cX0_order 0 = .ok (.aload_n 0, 1) := by decide +kernel
theorem dX0_order_1 : decode cX0_order 1 = .ok (.iload_n 1, 1) := by decide +kernel
theorem dX0_order_2 : decode cX0_order 2 = .ok (.invokevirtual 39, 3) := by decide +kernel
theorem dX0_order_5 : decode cX0_order 5 = .ok (.iconst 1, 1) := by decide +kernel
theorem dX0_order_6 : decode cX0_order 6 = .ok (.istore_n 2, 1) := by decide +kernel
theorem dX0_order_7 : decode cX0_order 7 = .ok (.iload_n 1, 1) := by decide +kernel
theorem dX0_order_8 : decode cX0_order 8 = .ok (.istore_n 3, 1) := by decide +kernel
theorem dX0_order_9 : decode cX0_order 9 = .ok (.iload_n 3, 1) := by decide +kernel
theorem dX0_order_10 : decode cX0_order 10 = .ok (.iconst 1, 1) := by decide +kernel
theorem dX0_order_11 : decode cX0_order 11 = .ok (.if_icmp .eq 25, 3) := by decide +kernel
theorem dX0_order_14 : decode cX0_order 14 = .ok (.iload_n 2, 1) := by decide +kernel
theorem dX0_order_15 : decode cX0_order 15 = .ok (.aload_n 0, 1) := by decide +kernel
theorem dX0_order_16 : decode cX0_order 16 = .ok (.getfield 43, 3) := by decide +kernel
theorem dX0_order_19 : decode cX0_order 19 = .ok (.if_icmp .ge 17, 3) := by decide +kernel
theorem dX0_order_22 : decode cX0_order 22 = .ok (.aload_n 0, 1) := by decide +kernel
theorem dX0_order_23 : decode cX0_order 23 = .ok (.iload_n 3, 1) := by decide +kernel
theorem dX0_order_24 : decode cX0_order 24 = .ok (.iload_n 1, 1) := by decide +kernel
theorem dX0_order_25 : decode cX0_order 25 = .ok (.imul, 1) := by decide +kernel
theorem dX0_order_26 : decode cX0_order 26 = .ok (.invokevirtual 46, 3) := by decide +kernel
theorem dX0_order_29 : decode cX0_order 29 = .ok (.istore_n 3, 1) := by decide +kernel
theorem dX0_order_30 : decode cX0_order 30 = .ok (.iinc 2 1, 3) := by decide +kernel
theorem dX0_order_33 : decode cX0_order 33 = .ok (.goto (-24), 3) := by decide +kernel
theorem dX0_order_36 : decode cX0_order 36 = .ok (.iload_n 2, 1) := by decide +kernel
theorem dX0_order_37 : decode cX0_order 37 = .ok (.ireturn, 1) := by decide +kernel
set_option maxRecDepth 20000 in
theorem ggX0_inverse_X0_requireInvertible : GoodIn wsX0_inverse wsX0_requireInvertible := goodIn_ca (goodIn_r _ [5, 6, 7, 8, 25, 26, 27, 28, 29, 30, 31] (by decide +kernel) (by decide +kernel)) (goodIn_sub (fun _ h => List.mem_cons_of_mem _ (List.mem_append_right _ h)) (by decide +kernel))
set_option maxRecDepth 20000 in
theorem gX0_inverse_X0_requireInvertible : GoodIn wsX0_inverse (wsV RX0 39 RX0 yX0_requireInvertible wsX0_requireInvertible) := goodIn_app (goodIn_of _ (by decide +kernel)) ggX0_inverse_X0_requireInvertible
set_option maxRecDepth 20000 in
theorem ggX0_inverse_X0_inverseOf : GoodIn wsX0_inverse wsX0_inverseOf := goodIn_r _ [12, 8, 13, 14, 15, 4, 16, 17, 18, 19, 20, 21, 22, 23, 24, 25, 26, 27, 28, 29, 30, 31] (by decide +kernel) (by decide +kernel)
set_option maxRecDepth 20000 in
theorem gX0_inverse_X0_inverseOf : GoodIn wsX0_inverse (wsV RX0 50 RX0 yX0_inverseOf wsX0_inverseOf) := goodIn_app (goodIn_of _ (by decide +kernel)) ggX0_inverse_X0_inverseOf
theorem dX0_inverse_0 : decode cX0_inverse 0 = .ok (.aload_n 0, 1) := by decide +kernel
theorem dX0_inverse_1 : decode cX0_inverse 1 = .ok (.iload_n 1, 1) := by decide +kernel
theorem dX0_inverse_2 : decode cX0_inverse 2 = .ok (.invokevirtual 39, 3) := by decide +kernel
theorem dX0_inverse_5 : decode cX0_inverse 5 = .ok (.aload_n 0, 1) := by decide +kernel
theorem dX0_inverse_6 : decode cX0_inverse 6 = .ok (.iload_n 1, 1) := by decide +kernel
theorem dX0_inverse_7 : decode cX0_inverse 7 = .ok (.invokevirtual 50, 3) := by decide +kernel
theorem dX0_inverse_10 : decode cX0_inverse 10 = .ok (.ireturn, 1) := by decide +kernel
set_option maxRecDepth 20000 in
theorem ggX0_root_X0_powerOf : GoodIn wsX0_root wsX0_powerOf := goodIn_r _ [8, 9, 10, 11, 7, 12, 13, 14, 15, 16, 17, 18, 19, 20, 21, 22, 23, 24] (by decide +kernel) (by decide +kernel)
set_option maxRecDepth 20000 in
theorem gX0_root_X0_powerOf : GoodIn wsX0_root (wsV RX0 55 RX0 yX0_powerOf wsX0_powerOf) := goodIn_app (goodIn_of _ (by decide +kernel)) ggX0_root_X0_powerOf
theorem dX0_root_0 : decode cX0_root 0 = .ok (.iload_n 1, 1) := by decide +kernel
theorem dX0_root_1 : decode cX0_root 1 = .ok (.ifCond .lt 10, 3) := by decide +kernel
theorem dX0_root_4 : decode cX0_root 4 = .ok (.iload_n 1, 1) := by decide +kernel
theorem dX0_root_5 : decode cX0_root 5 = .ok (.sipush 9999, 3) := by decide +kernel
theorem dX0_root_8 : decode cX0_root 8 = .ok (.if_icmp .le 13, 3) := by decide +kernel
theorem dX0_root_11 : decode cX0_root 11 = .ok (.new 28, 3) := by decide +kernel
theorem dX0_root_14 : decode cX0_root 14 = .ok (.dup, 1) := by decide +kernel
theorem dX0_root_15 : decode cX0_root 15 = .ok (.ldc 53, 2) := by decide +kernel
theorem dX0_root_17 : decode cX0_root 17 = .ok (.invokespecial 32, 3) := by decide +kernel
theorem dX0_root_20 : decode cX0_root 20 = .ok (.athrow, 1) := by decide +kernel
theorem dX0_root_21 : decode cX0_root 21 = .ok (.aload_n 0, 1) := by decide +kernel
theorem dX0_root_22 : decode cX0_root 22 = .ok (.aload_n 0, 1) := by decide +kernel
theorem dX0_root_23 : decode cX0_root 23 = .ok (.getfield 35, 3) := by decide +kernel
theorem dX0_root_26 : decode cX0_root 26 = .ok (.iload_n 1, 1) := by decide +kernel
theorem dX0_root_27 : decode cX0_root 27 = .ok (.invokevirtual 55, 3) := by decide +kernel
theorem dX0_root_30 : decode cX0_root 30 = .ok (.ireturn, 1) := by decide +kernel
set_option maxRecDepth 20000 in
theorem ggX0_set_X0_requireRow : GoodIn wsX0_set wsX0_requireRow := goodIn_ca (goodIn_r _ [5, 6, 7] (by decide +kernel) (by decide +kernel)) (goodIn_sub (fun _ h => List.mem_cons_of_mem _ (List.mem_append_left _ (List.mem_append_right _ h))) (by decide +kernel))
set_option maxRecDepth 20000 in
theorem gX0_set_X0_requireRow : GoodIn wsX0_set (wsV RX0 59 RX0 yX0_requireRow wsX0_requireRow) := goodIn_app (goodIn_of _ (by decide +kernel)) ggX0_set_X0_requireRow
set_option maxRecDepth 20000 in
theorem ggX0_set_X0_requirePlace : GoodIn wsX0_set wsX0_requirePlace := goodIn_ca (goodIn_r _ [11, 6, 7, 12, 29, 30, 31, 32, 33, 34, 35] (by decide +kernel) (by decide +kernel)) (goodIn_sub (fun _ h => List.mem_cons_of_mem _ (List.mem_append_left _ (List.mem_append_right _ h))) (by decide +kernel))
set_option maxRecDepth 20000 in
theorem gX0_set_X0_requirePlace : GoodIn wsX0_set (wsV RX0 62 RX0 yX0_requirePlace wsX0_requirePlace) := goodIn_app (goodIn_of _ (by decide +kernel)) ggX0_set_X0_requirePlace
set_option maxRecDepth 20000 in
theorem ggX0_set_X0_requireNumber : GoodIn wsX0_set wsX0_requireNumber := goodIn_ca (goodIn_r _ [16, 17, 18, 19, 29, 30, 31, 32, 33, 34, 35] (by decide +kernel) (by decide +kernel)) (goodIn_sub (fun _ h => List.mem_cons_of_mem _ (List.mem_append_right _ h)) (by decide +kernel))
set_option maxRecDepth 20000 in
theorem gX0_set_X0_requireNumber : GoodIn wsX0_set (wsV RX0 65 RX0 yX0_requireNumber wsX0_requireNumber) := goodIn_app (goodIn_of _ (by decide +kernel)) ggX0_set_X0_requireNumber
set_option maxRecDepth 20000 in
theorem ggX0_set_X0_read : GoodIn wsX0_set wsX0_read := goodIn_r _ [23, 24, 29, 30, 31, 32, 33, 34, 35] (by decide +kernel) (by decide +kernel)
set_option maxRecDepth 20000 in
theorem gX0_set_X0_read : GoodIn wsX0_set (wsV RX0 68 RX0 yX0_read wsX0_read) := goodIn_app (goodIn_of _ (by decide +kernel)) ggX0_set_X0_read
set_option maxRecDepth 20000 in
theorem ggX0_set_X0_write : GoodIn wsX0_set wsX0_write := goodIn_r _ [28, 24, 29, 30, 31, 32, 33, 34, 35] (by decide +kernel) (by decide +kernel)
set_option maxRecDepth 20000 in
theorem gX0_set_X0_write : GoodIn wsX0_set (wsV RX0 71 RX0 yX0_write wsX0_write) := goodIn_app (goodIn_of _ (by decide +kernel)) ggX0_set_X0_write
theorem dX0_set_0 : decode cX0_set 0 = .ok (.aload_n 0, 1) := by decide +kernel
theorem dX0_set_1 : decode cX0_set 1 = .ok (.iload_n 1, 1) := by decide +kernel
theorem dX0_set_2 : decode cX0_set 2 = .ok (.invokevirtual 59, 3) := by decide +kernel
theorem dX0_set_5 : decode cX0_set 5 = .ok (.aload_n 0, 1) := by decide +kernel
theorem dX0_set_6 : decode cX0_set 6 = .ok (.iload_n 2, 1) := by decide +kernel
theorem dX0_set_7 : decode cX0_set 7 = .ok (.invokevirtual 62, 3) := by decide +kernel
theorem dX0_set_10 : decode cX0_set 10 = .ok (.aload_n 0, 1) := by decide +kernel
theorem dX0_set_11 : decode cX0_set 11 = .ok (.iload_n 3, 1) := by decide +kernel
theorem dX0_set_12 : decode cX0_set 12 = .ok (.invokevirtual 65, 3) := by decide +kernel
theorem dX0_set_15 : decode cX0_set 15 = .ok (.aload_n 0, 1) := by decide +kernel
theorem dX0_set_16 : decode cX0_set 16 = .ok (.iload_n 1, 1) := by decide +kernel
theorem dX0_set_17 : decode cX0_set 17 = .ok (.iload_n 2, 1) := by decide +kernel
theorem dX0_set_18 : decode cX0_set 18 = .ok (.invokevirtual 68, 3) := by decide +kernel
theorem dX0_set_21 : decode cX0_set 21 = .ok (.istore 4, 2) := by decide +kernel
theorem dX0_set_23 : decode cX0_set 23 = .ok (.aload_n 0, 1) := by decide +kernel
theorem dX0_set_24 : decode cX0_set 24 = .ok (.iload_n 1, 1) := by decide +kernel
theorem dX0_set_25 : decode cX0_set 25 = .ok (.iload_n 2, 1) := by decide +kernel
theorem dX0_set_26 : decode cX0_set 26 = .ok (.iload_n 3, 1) := by decide +kernel
theorem dX0_set_27 : decode cX0_set 27 = .ok (.invokevirtual 71, 3) := by decide +kernel
theorem dX0_set_30 : decode cX0_set 30 = .ok (.iload 4, 2) := by decide +kernel
theorem dX0_set_32 : decode cX0_set 32 = .ok (.ireturn, 1) := by decide +kernel
set_option maxRecDepth 20000 in
theorem ggX0_copy_X0_requireRow : GoodIn wsX0_copy wsX0_requireRow := goodIn_ca (goodIn_r _ [5, 6, 7] (by decide +kernel) (by decide +kernel)) (goodIn_sub (fun _ h => List.mem_cons_of_mem _ (List.mem_append_right _ h)) (by decide +kernel))
set_option maxRecDepth 20000 in
theorem gX0_copy_X0_requireRow : GoodIn wsX0_copy (wsV RX0 59 RX0 yX0_requireRow wsX0_requireRow) := goodIn_app (goodIn_of _ (by decide +kernel)) ggX0_copy_X0_requireRow
set_option maxRecDepth 20000 in
theorem ggX0_copy_X0_copyRow : GoodIn wsX0_copy wsX0_copyRow := goodIn_r _ [11, 12, 13, 14, 15, 4, 16, 17, 18, 19, 20, 21, 22, 23, 24, 25, 26, 27, 28] (by decide +kernel) (by decide +kernel)
set_option maxRecDepth 20000 in
theorem gX0_copy_X0_copyRow : GoodIn wsX0_copy (wsV RX0 75 RX0 yX0_copyRow wsX0_copyRow) := goodIn_app (goodIn_of _ (by decide +kernel)) ggX0_copy_X0_copyRow
theorem dX0_copy_0 : decode cX0_copy 0 = .ok (.aload_n 0, 1) := by decide +kernel
theorem dX0_copy_1 : decode cX0_copy 1 = .ok (.iload_n 1, 1) := by decide +kernel
theorem dX0_copy_2 : decode cX0_copy 2 = .ok (.invokevirtual 59, 3) := by decide +kernel
theorem dX0_copy_5 : decode cX0_copy 5 = .ok (.aload_n 0, 1) := by decide +kernel
theorem dX0_copy_6 : decode cX0_copy 6 = .ok (.iload_n 2, 1) := by decide +kernel
theorem dX0_copy_7 : decode cX0_copy 7 = .ok (.invokevirtual 59, 3) := by decide +kernel
theorem dX0_copy_10 : decode cX0_copy 10 = .ok (.aload_n 0, 1) := by decide +kernel
theorem dX0_copy_11 : decode cX0_copy 11 = .ok (.iload_n 1, 1) := by decide +kernel
theorem dX0_copy_12 : decode cX0_copy 12 = .ok (.iload_n 2, 1) := by decide +kernel
theorem dX0_copy_13 : decode cX0_copy 13 = .ok (.invokevirtual 75, 3) := by decide +kernel
theorem dX0_copy_16 : decode cX0_copy 16 = .ok (.ireturn, 1) := by decide +kernel
set_option maxRecDepth 20000 in
theorem ggX0_turn_X0_requireRow : GoodIn wsX0_turn wsX0_requireRow := goodIn_ca (goodIn_r _ [5, 6, 7] (by decide +kernel) (by decide +kernel)) (goodIn_sub (fun _ h => List.mem_cons_of_mem _ (List.mem_append_right _ h)) (by decide +kernel))
set_option maxRecDepth 20000 in
theorem gX0_turn_X0_requireRow : GoodIn wsX0_turn (wsV RX0 59 RX0 yX0_requireRow wsX0_requireRow) := goodIn_app (goodIn_of _ (by decide +kernel)) ggX0_turn_X0_requireRow
set_option maxRecDepth 20000 in
theorem ggX0_turn_X0_scratchTurnedBack : GoodIn wsX0_turn wsX0_scratchTurnedBack := goodIn_r _ [11, 12, 13, 14, 15, 16, 4, 17, 18, 19, 20, 21, 22, 23, 24, 25, 26, 27, 28, 29, 30, 31, 32, 33, 34, 35, 36, 37, 38, 39, 40, 50, 51, 52, 53, 54, 55, 56] (by decide +kernel) (by decide +kernel)
set_option maxRecDepth 20000 in
theorem gX0_turn_X0_scratchTurnedBack : GoodIn wsX0_turn (wsV RX0 78 RX0 yX0_scratchTurnedBack wsX0_scratchTurnedBack) := goodIn_app (goodIn_of _ (by decide +kernel)) ggX0_turn_X0_scratchTurnedBack
set_option maxRecDepth 20000 in
theorem ggX0_turn_X0_scratchTones : GoodIn wsX0_turn wsX0_scratchTones := goodIn_r _ [44, 45, 14, 15, 16, 4, 17, 18, 19, 20, 21, 22, 23, 24, 25, 26, 27, 28, 29, 30, 31, 32, 33, 34, 35, 36, 37, 38, 39, 40, 50, 51, 52, 53, 54, 55, 56] (by decide +kernel) (by decide +kernel)
set_option maxRecDepth 20000 in
theorem gX0_turn_X0_scratchTones : GoodIn wsX0_turn (wsV RX0 81 RX0 yX0_scratchTones wsX0_scratchTones) := goodIn_app (goodIn_of _ (by decide +kernel)) ggX0_turn_X0_scratchTones
set_option maxRecDepth 20000 in
theorem ggX0_turn_X0_copyRow : GoodIn wsX0_turn wsX0_copyRow := goodIn_r _ [49, 18, 23, 24, 25, 4, 26, 27, 37, 38, 39, 40, 50, 51, 52, 53, 54, 55, 56] (by decide +kernel) (by decide +kernel)
set_option maxRecDepth 20000 in
theorem gX0_turn_X0_copyRow : GoodIn wsX0_turn (wsV RX0 75 RX0 yX0_copyRow wsX0_copyRow) := goodIn_app (goodIn_of _ (by decide +kernel)) ggX0_turn_X0_copyRow
set_option maxRecDepth 20000 in
theorem ggX0_turn_X0_read : GoodIn wsX0_turn wsX0_read := goodIn_r _ [26, 27, 50, 51, 52, 53, 54, 55, 56] (by decide +kernel) (by decide +kernel)
set_option maxRecDepth 20000 in
theorem gX0_turn_X0_read : GoodIn wsX0_turn (wsV RX0 68 RX0 yX0_read wsX0_read) := goodIn_app (goodIn_of _ (by decide +kernel)) ggX0_turn_X0_read
theorem dX0_turn_0 : decode cX0_turn 0 = .ok (.aload_n 0, 1) := by decide +kernel
theorem dX0_turn_1 : decode cX0_turn 1 = .ok (.iload_n 1, 1) := by decide +kernel
theorem dX0_turn_2 : decode cX0_turn 2 = .ok (.invokevirtual 59, 3) := by decide +kernel
theorem dX0_turn_5 : decode cX0_turn 5 = .ok (.iload_n 2, 1) := by decide +kernel
theorem dX0_turn_6 : decode cX0_turn 6 = .ok (.ifCond .eq 11, 3) := by decide +kernel
theorem dX0_turn_9 : decode cX0_turn 9 = .ok (.aload_n 0, 1) := by decide +kernel
theorem dX0_turn_10 : decode cX0_turn 10 = .ok (.iload_n 1, 1) := by decide +kernel
theorem dX0_turn_11 : decode cX0_turn 11 = .ok (.invokevirtual 78, 3) := by decide +kernel
theorem dX0_turn_14 : decode cX0_turn 14 = .ok (.goto 8, 3) := by decide +kernel
theorem dX0_turn_17 : decode cX0_turn 17 = .ok (.aload_n 0, 1) := by decide +kernel
theorem dX0_turn_18 : decode cX0_turn 18 = .ok (.iload_n 1, 1) := by decide +kernel
theorem dX0_turn_19 : decode cX0_turn 19 = .ok (.invokevirtual 81, 3) := by decide +kernel
theorem dX0_turn_22 : decode cX0_turn 22 = .ok (.aload_n 0, 1) := by decide +kernel
theorem dX0_turn_23 : decode cX0_turn 23 = .ok (.iconst 4, 1) := by decide +kernel
theorem dX0_turn_24 : decode cX0_turn 24 = .ok (.iload_n 1, 1) := by decide +kernel
theorem dX0_turn_25 : decode cX0_turn 25 = .ok (.invokevirtual 75, 3) := by decide +kernel
theorem dX0_turn_28 : decode cX0_turn 28 = .ok (.pop, 1) := by decide +kernel
theorem dX0_turn_29 : decode cX0_turn 29 = .ok (.aload_n 0, 1) := by decide +kernel
theorem dX0_turn_30 : decode cX0_turn 30 = .ok (.iload_n 1, 1) := by decide +kernel
theorem dX0_turn_31 : decode cX0_turn 31 = .ok (.iconst 0, 1) := by decide +kernel
theorem dX0_turn_32 : decode cX0_turn 32 = .ok (.invokevirtual 68, 3) := by decide +kernel
theorem dX0_turn_35 : decode cX0_turn 35 = .ok (.ireturn, 1) := by decide +kernel
set_option maxRecDepth 20000 in
theorem ggX0_mirror_X0_requireRow : GoodIn wsX0_mirror wsX0_requireRow := goodIn_ca (goodIn_r _ [6, 7, 8] (by decide +kernel) (by decide +kernel)) (goodIn_sub (fun _ h => List.mem_cons_of_mem _ (List.mem_append_right _ h)) (by decide +kernel))
set_option maxRecDepth 20000 in
theorem gX0_mirror_X0_requireRow : GoodIn wsX0_mirror (wsV RX0 59 RX0 yX0_requireRow wsX0_requireRow) := goodIn_app (goodIn_of _ (by decide +kernel)) ggX0_mirror_X0_requireRow
set_option maxRecDepth 20000 in
theorem ggX0_mirror_X0_mirrored : GoodIn wsX0_mirror wsX0_mirrored := goodIn_r _ [12, 13, 27, 28, 29, 30, 31, 32, 33] (by decide +kernel) (by decide +kernel)
set_option maxRecDepth 20000 in
theorem gX0_mirror_X0_mirrored : GoodIn wsX0_mirror (wsV RX0 87 RX0 yX0_mirrored wsX0_mirrored) := goodIn_app (goodIn_of _ (by decide +kernel)) ggX0_mirror_X0_mirrored
set_option maxRecDepth 20000 in
theorem ggX0_mirror_X0_read : GoodIn wsX0_mirror wsX0_read := goodIn_r _ [17, 18, 27, 28, 29, 30, 31, 32, 33] (by decide +kernel) (by decide +kernel)
set_option maxRecDepth 20000 in
theorem gX0_mirror_X0_read : GoodIn wsX0_mirror (wsV RX0 68 RX0 yX0_read wsX0_read) := goodIn_app (goodIn_of _ (by decide +kernel)) ggX0_mirror_X0_read
set_option maxRecDepth 20000 in
theorem ggX0_mirror_X0_write : GoodIn wsX0_mirror wsX0_write := goodIn_r _ [22, 18, 27, 28, 29, 30, 31, 32, 33] (by decide +kernel) (by decide +kernel)
set_option maxRecDepth 20000 in
theorem gX0_mirror_X0_write : GoodIn wsX0_mirror (wsV RX0 71 RX0 yX0_write wsX0_write) := goodIn_app (goodIn_of _ (by decide +kernel)) ggX0_mirror_X0_write
set_option maxRecDepth 20000 in
theorem ggX0_mirror_X0_copyRow : GoodIn wsX0_mirror wsX0_copyRow := goodIn_r _ [26, 1, 14, 15, 16, 5, 17, 18, 19, 20, 21, 22, 27, 28, 29, 30, 31, 32, 33] (by decide +kernel) (by decide +kernel)
set_option maxRecDepth 20000 in
theorem gX0_mirror_X0_copyRow : GoodIn wsX0_mirror (wsV RX0 75 RX0 yX0_copyRow wsX0_copyRow) := goodIn_app (goodIn_of _ (by decide +kernel)) ggX0_mirror_X0_copyRow
theorem dX0_mirror_0 : decode cX0_mirror 0 = .ok (.aload_n 0, 1) := by decide +kernel
theorem dX0_mirror_1 : decode cX0_mirror 1 = .ok (.iload_n 1, 1) := by decide +kernel
theorem dX0_mirror_2 : decode cX0_mirror 2 = .ok (.invokevirtual 59, 3) := by decide +kernel
theorem dX0_mirror_5 : decode cX0_mirror 5 = .ok (.iconst 0, 1) := by decide +kernel
theorem dX0_mirror_6 : decode cX0_mirror 6 = .ok (.istore_n 2, 1) := by decide +kernel
theorem dX0_mirror_7 : decode cX0_mirror 7 = .ok (.iload_n 2, 1) := by decide +kernel
theorem dX0_mirror_8 : decode cX0_mirror 8 = .ok (.aload_n 0, 1) := by decide +kernel
theorem dX0_mirror_9 : decode cX0_mirror 9 = .ok (.getfield 84, 3) := by decide +kernel
theorem dX0_mirror_12 : decode cX0_mirror 12 = .ok (.if_icmp .ge 25, 3) := by decide +kernel
theorem dX0_mirror_15 : decode cX0_mirror 15 = .ok (.aload_n 0, 1) := by decide +kernel
theorem dX0_mirror_16 : decode cX0_mirror 16 = .ok (.iconst 4, 1) := by decide +kernel
theorem dX0_mirror_17 : decode cX0_mirror 17 = .ok (.aload_n 0, 1) := by decide +kernel
theorem dX0_mirror_18 : decode cX0_mirror 18 = .ok (.iload_n 2, 1) := by decide +kernel
theorem dX0_mirror_19 : decode cX0_mirror 19 = .ok (.invokevirtual 87, 3) := by decide +kernel
theorem dX0_mirror_22 : decode cX0_mirror 22 = .ok (.aload_n 0, 1) := by decide +kernel
theorem dX0_mirror_23 : decode cX0_mirror 23 = .ok (.iload_n 1, 1) := by decide +kernel
theorem dX0_mirror_24 : decode cX0_mirror 24 = .ok (.iload_n 2, 1) := by decide +kernel
theorem dX0_mirror_25 : decode cX0_mirror 25 = .ok (.invokevirtual 68, 3) := by decide +kernel
theorem dX0_mirror_28 : decode cX0_mirror 28 = .ok (.invokevirtual 71, 3) := by decide +kernel
theorem dX0_mirror_31 : decode cX0_mirror 31 = .ok (.iinc 2 1, 3) := by decide +kernel
theorem dX0_mirror_34 : decode cX0_mirror 34 = .ok (.goto (-27), 3) := by decide +kernel
theorem dX0_mirror_37 : decode cX0_mirror 37 = .ok (.aload_n 0, 1) := by decide +kernel
theorem dX0_mirror_38 : decode cX0_mirror 38 = .ok (.iconst 4, 1) := by decide +kernel
theorem dX0_mirror_39 : decode cX0_mirror 39 = .ok (.iload_n 1, 1) := by decide +kernel
theorem dX0_mirror_40 : decode cX0_mirror 40 = .ok (.invokevirtual 75, 3) := by decide +kernel
theorem dX0_mirror_43 : decode cX0_mirror 43 = .ok (.ireturn, 1) := by decide +kernel
set_option maxRecDepth 20000 in
theorem ggX0_stage_X0_requireRow : GoodIn wsX0_stage wsX0_requireRow := goodIn_ca (goodIn_r _ [10, 1, 2] (by decide +kernel) (by decide +kernel)) (goodIn_sub (fun _ h => List.mem_cons_of_mem _ (List.mem_append_right _ h)) (by decide +kernel))
set_option maxRecDepth 20000 in
theorem gX0_stage_X0_requireRow : GoodIn wsX0_stage (wsV RX0 59 RX0 yX0_requireRow wsX0_requireRow) := goodIn_app (goodIn_of _ (by decide +kernel)) ggX0_stage_X0_requireRow
set_option maxRecDepth 20000 in
theorem ggX0_stage_X0_powerOf : GoodIn wsX0_stage wsX0_powerOf := goodIn_r _ [14, 15, 16, 17, 9, 18, 19, 20, 21, 22, 23, 37, 38, 39, 40, 41, 42, 43] (by decide +kernel) (by decide +kernel)
set_option maxRecDepth 20000 in
theorem gX0_stage_X0_powerOf : GoodIn wsX0_stage (wsV RX0 55 RX0 yX0_powerOf wsX0_powerOf) := goodIn_app (goodIn_of _ (by decide +kernel)) ggX0_stage_X0_powerOf
set_option maxRecDepth 20000 in
theorem ggX0_stage_X0_butterfly : GoodIn wsX0_stage wsX0_butterfly := goodIn_r _ [27, 28, 29, 30, 9, 31, 32, 15, 16, 17, 18, 19, 20, 21, 22, 23, 33, 34, 35, 36, 37, 38, 39, 40, 41, 42, 43] (by decide +kernel) (by decide +kernel)
set_option maxRecDepth 20000 in
theorem gX0_stage_X0_butterfly : GoodIn wsX0_stage (wsV RX0 98 RX0 yX0_butterfly wsX0_butterfly) := goodIn_app (goodIn_of _ (by decide +kernel)) ggX0_stage_X0_butterfly
set_option maxRecDepth 20000 in
theorem ggX0_stage_X0_read : GoodIn wsX0_stage wsX0_read := goodIn_r _ [31, 32, 37, 38, 39, 40, 41, 42, 43] (by decide +kernel) (by decide +kernel)
set_option maxRecDepth 20000 in
theorem gX0_stage_X0_read : GoodIn wsX0_stage (wsV RX0 68 RX0 yX0_read wsX0_read) := goodIn_app (goodIn_of _ (by decide +kernel)) ggX0_stage_X0_read
theorem dX0_stage_0 : decode cX0_stage 0 = .ok (.aload_n 0, 1) := by decide +kernel
theorem dX0_stage_1 : decode cX0_stage 1 = .ok (.iload_n 1, 1) := by decide +kernel
theorem dX0_stage_2 : decode cX0_stage 2 = .ok (.invokevirtual 59, 3) := by decide +kernel
theorem dX0_stage_5 : decode cX0_stage 5 = .ok (.iload_n 2, 1) := by decide +kernel
theorem dX0_stage_6 : decode cX0_stage 6 = .ok (.ifCond .lt 11, 3) := by decide +kernel
theorem dX0_stage_9 : decode cX0_stage 9 = .ok (.iload_n 2, 1) := by decide +kernel
theorem dX0_stage_10 : decode cX0_stage 10 = .ok (.aload_n 0, 1) := by decide +kernel
theorem dX0_stage_11 : decode cX0_stage 11 = .ok (.getfield 90, 3) := by decide +kernel
theorem dX0_stage_14 : decode cX0_stage 14 = .ok (.if_icmp .lt 13, 3) := by decide +kernel
theorem dX0_stage_17 : decode cX0_stage 17 = .ok (.new 93, 3) := by decide +kernel
theorem dX0_stage_20 : decode cX0_stage 20 = .ok (.dup, 1) := by decide +kernel
theorem dX0_stage_21 : decode cX0_stage 21 = .ok (.ldc 95, 2) := by decide +kernel
theorem dX0_stage_23 : decode cX0_stage 23 = .ok (.invokespecial 97, 3) := by decide +kernel
theorem dX0_stage_26 : decode cX0_stage 26 = .ok (.athrow, 1) := by decide +kernel
theorem dX0_stage_27 : decode cX0_stage 27 = .ok (.iconst 1, 1) := by decide +kernel
theorem dX0_stage_28 : decode cX0_stage 28 = .ok (.iload_n 2, 1) := by decide +kernel
theorem dX0_stage_29 : decode cX0_stage 29 = .ok (.ishl, 1) := by decide +kernel
theorem dX0_stage_30 : decode cX0_stage 30 = .ok (.istore_n 3, 1) := by decide +kernel
theorem dX0_stage_31 : decode cX0_stage 31 = .ok (.iconst 0, 1) := by decide +kernel
theorem dX0_stage_32 : decode cX0_stage 32 = .ok (.istore 4, 2) := by decide +kernel
theorem dX0_stage_34 : decode cX0_stage 34 = .ok (.iload 4, 2) := by decide +kernel
theorem dX0_stage_36 : decode cX0_stage 36 = .ok (.aload_n 0, 1) := by decide +kernel
theorem dX0_stage_37 : decode cX0_stage 37 = .ok (.getfield 84, 3) := by decide +kernel
theorem dX0_stage_40 : decode cX0_stage 40 = .ok (.if_icmp .ge 69, 3) := by decide +kernel
theorem dX0_stage_43 : decode cX0_stage 43 = .ok (.iconst 0, 1) := by decide +kernel
theorem dX0_stage_44 : decode cX0_stage 44 = .ok (.istore 5, 2) := by decide +kernel
theorem dX0_stage_46 : decode cX0_stage 46 = .ok (.iload 5, 2) := by decide +kernel
theorem dX0_stage_48 : decode cX0_stage 48 = .ok (.iload_n 3, 1) := by decide +kernel
theorem dX0_stage_49 : decode cX0_stage 49 = .ok (.if_icmp .ge 49, 3) := by decide +kernel
theorem dX0_stage_52 : decode cX0_stage 52 = .ok (.aload_n 0, 1) := by decide +kernel
theorem dX0_stage_53 : decode cX0_stage 53 = .ok (.aload_n 0, 1) := by decide +kernel
theorem dX0_stage_54 : decode cX0_stage 54 = .ok (.getfield 35, 3) := by decide +kernel
theorem dX0_stage_57 : decode cX0_stage 57 = .ok (.iload 5, 2) := by decide +kernel
theorem dX0_stage_59 : decode cX0_stage 59 = .ok (.aload_n 0, 1) := by decide +kernel
theorem dX0_stage_60 : decode cX0_stage 60 = .ok (.getfield 84, 3) := by decide +kernel
theorem dX0_stage_63 : decode cX0_stage 63 = .ok (.iload_n 2, 1) := by decide +kernel
theorem dX0_stage_64 : decode cX0_stage 64 = .ok (.iconst 1, 1) := by decide +kernel
theorem dX0_stage_65 : decode cX0_stage 65 = .ok (.iadd, 1) := by decide +kernel
theorem dX0_stage_66 : decode cX0_stage 66 = .ok (.ishr, 1) := by decide +kernel
theorem dX0_stage_67 : decode cX0_stage 67 = .ok (.imul, 1) := by decide +kernel
theorem dX0_stage_68 : decode cX0_stage 68 = .ok (.invokevirtual 55, 3) := by decide +kernel
theorem dX0_stage_71 : decode cX0_stage 71 = .ok (.istore 6, 2) := by decide +kernel
theorem dX0_stage_73 : decode cX0_stage 73 = .ok (.aload_n 0, 1) := by decide +kernel
theorem dX0_stage_74 : decode cX0_stage 74 = .ok (.iload_n 1, 1) := by decide +kernel
theorem dX0_stage_75 : decode cX0_stage 75 = .ok (.iload 4, 2) := by decide +kernel
theorem dX0_stage_77 : decode cX0_stage 77 = .ok (.iload 5, 2) := by decide +kernel
theorem dX0_stage_79 : decode cX0_stage 79 = .ok (.iadd, 1) := by decide +kernel
theorem dX0_stage_80 : decode cX0_stage 80 = .ok (.iload 4, 2) := by decide +kernel
theorem dX0_stage_82 : decode cX0_stage 82 = .ok (.iload 5, 2) := by decide +kernel
theorem dX0_stage_84 : decode cX0_stage 84 = .ok (.iadd, 1) := by decide +kernel
theorem dX0_stage_85 : decode cX0_stage 85 = .ok (.iload_n 3, 1) := by decide +kernel
theorem dX0_stage_86 : decode cX0_stage 86 = .ok (.iadd, 1) := by decide +kernel
theorem dX0_stage_87 : decode cX0_stage 87 = .ok (.iload 6, 2) := by decide +kernel
theorem dX0_stage_89 : decode cX0_stage 89 = .ok (.invokevirtual 98, 3) := by decide +kernel
theorem dX0_stage_92 : decode cX0_stage 92 = .ok (.iinc 5 1, 3) := by decide +kernel
theorem dX0_stage_95 : decode cX0_stage 95 = .ok (.goto (-49), 3) := by decide +kernel
theorem dX0_stage_98 : decode cX0_stage 98 = .ok (.iload 4, 2) := by decide +kernel
theorem dX0_stage_100 : decode cX0_stage 100 = .ok (.iconst 2, 1) := by decide +kernel
theorem dX0_stage_101 : decode cX0_stage 101 = .ok (.iload_n 3, 1) := by decide +kernel
theorem dX0_stage_102 : decode cX0_stage 102 = .ok (.imul, 1) := by decide +kernel
theorem dX0_stage_103 : decode cX0_stage 103 = .ok (.iadd, 1) := by decide +kernel
theorem dX0_stage_104 : decode cX0_stage 104 = .ok (.istore 4, 2) := by decide +kernel
theorem dX0_stage_106 : decode cX0_stage 106 = .ok (.goto (-72), 3) := by decide +kernel
theorem dX0_stage_109 : decode cX0_stage 109 = .ok (.aload_n 0, 1) := by decide +kernel
theorem dX0_stage_110 : decode cX0_stage 110 = .ok (.iload_n 1, 1) := by decide +kernel
theorem dX0_stage_111 : decode cX0_stage 111 = .ok (.iconst 0, 1) := by decide +kernel
theorem dX0_stage_112 : decode cX0_stage 112 = .ok (.invokevirtual 68, 3) := by decide +kernel
theorem dX0_stage_115 : decode cX0_stage 115 = .ok (.ireturn, 1) := by decide +kernel
set_option maxRecDepth 20000 in
theorem ggX0_fold_X0_requireRow : GoodIn wsX0_fold wsX0_requireRow := goodIn_ca (goodIn_r _ [6, 7, 8] (by decide +kernel) (by decide +kernel)) (goodIn_sub (fun _ h => List.mem_cons_of_mem _ (List.mem_append_right _ h)) (by decide +kernel))
set_option maxRecDepth 20000 in
theorem gX0_fold_X0_requireRow : GoodIn wsX0_fold (wsV RX0 59 RX0 yX0_requireRow wsX0_requireRow) := goodIn_app (goodIn_of _ (by decide +kernel)) ggX0_fold_X0_requireRow
set_option maxRecDepth 20000 in
theorem ggX0_fold_X0_foldedAt : GoodIn wsX0_fold wsX0_foldedAt := goodIn_r _ [12, 1, 13, 14, 15, 5, 16, 17, 18, 19, 20, 21, 22, 23, 24, 25, 26, 27, 28, 29, 30, 39, 40, 41, 42, 43, 44, 45] (by decide +kernel) (by decide +kernel)
set_option maxRecDepth 20000 in
theorem gX0_fold_X0_foldedAt : GoodIn wsX0_fold (wsV RX0 102 RX0 yX0_foldedAt wsX0_foldedAt) := goodIn_app (goodIn_of _ (by decide +kernel)) ggX0_fold_X0_foldedAt
set_option maxRecDepth 20000 in
theorem ggX0_fold_X0_write : GoodIn wsX0_fold wsX0_write := goodIn_r _ [34, 17, 39, 40, 41, 42, 43, 44, 45] (by decide +kernel) (by decide +kernel)
set_option maxRecDepth 20000 in
theorem gX0_fold_X0_write : GoodIn wsX0_fold (wsV RX0 71 RX0 yX0_write wsX0_write) := goodIn_app (goodIn_of _ (by decide +kernel)) ggX0_fold_X0_write
set_option maxRecDepth 20000 in
theorem ggX0_fold_X0_copyRow : GoodIn wsX0_fold wsX0_copyRow := goodIn_r _ [38, 1, 13, 14, 15, 5, 16, 17, 31, 32, 33, 34, 39, 40, 41, 42, 43, 44, 45] (by decide +kernel) (by decide +kernel)
set_option maxRecDepth 20000 in
theorem gX0_fold_X0_copyRow : GoodIn wsX0_fold (wsV RX0 75 RX0 yX0_copyRow wsX0_copyRow) := goodIn_app (goodIn_of _ (by decide +kernel)) ggX0_fold_X0_copyRow
set_option maxRecDepth 20000 in
theorem ggX0_fold_X0_read : GoodIn wsX0_fold wsX0_read := goodIn_r _ [16, 17, 39, 40, 41, 42, 43, 44, 45] (by decide +kernel) (by decide +kernel)
set_option maxRecDepth 20000 in
theorem gX0_fold_X0_read : GoodIn wsX0_fold (wsV RX0 68 RX0 yX0_read wsX0_read) := goodIn_app (goodIn_of _ (by decide +kernel)) ggX0_fold_X0_read
theorem dX0_fold_0 : decode cX0_fold 0 = .ok (.aload_n 0, 1) := by decide +kernel
theorem dX0_fold_1 : decode cX0_fold 1 = .ok (.iload_n 1, 1) := by decide +kernel
theorem dX0_fold_2 : decode cX0_fold 2 = .ok (.invokevirtual 59, 3) := by decide +kernel
theorem dX0_fold_5 : decode cX0_fold 5 = .ok (.aload_n 0, 1) := by decide +kernel
theorem dX0_fold_6 : decode cX0_fold 6 = .ok (.iload_n 2, 1) := by decide +kernel
theorem dX0_fold_7 : decode cX0_fold 7 = .ok (.invokevirtual 59, 3) := by decide +kernel
theorem dX0_fold_10 : decode cX0_fold 10 = .ok (.iconst 0, 1) := by decide +kernel
theorem dX0_fold_11 : decode cX0_fold 11 = .ok (.istore_n 3, 1) := by decide +kernel
theorem dX0_fold_12 : decode cX0_fold 12 = .ok (.iload_n 3, 1) := by decide +kernel
theorem dX0_fold_13 : decode cX0_fold 13 = .ok (.aload_n 0, 1) := by decide +kernel
theorem dX0_fold_14 : decode cX0_fold 14 = .ok (.getfield 84, 3) := by decide +kernel
theorem dX0_fold_17 : decode cX0_fold 17 = .ok (.if_icmp .ge 22, 3) := by decide +kernel
theorem dX0_fold_20 : decode cX0_fold 20 = .ok (.aload_n 0, 1) := by decide +kernel
theorem dX0_fold_21 : decode cX0_fold 21 = .ok (.iconst 4, 1) := by decide +kernel
theorem dX0_fold_22 : decode cX0_fold 22 = .ok (.iload_n 3, 1) := by decide +kernel
theorem dX0_fold_23 : decode cX0_fold 23 = .ok (.aload_n 0, 1) := by decide +kernel
theorem dX0_fold_24 : decode cX0_fold 24 = .ok (.iload_n 1, 1) := by decide +kernel
theorem dX0_fold_25 : decode cX0_fold 25 = .ok (.iload_n 2, 1) := by decide +kernel
theorem dX0_fold_26 : decode cX0_fold 26 = .ok (.iload_n 3, 1) := by decide +kernel
theorem dX0_fold_27 : decode cX0_fold 27 = .ok (.invokevirtual 102, 3) := by decide +kernel
theorem dX0_fold_30 : decode cX0_fold 30 = .ok (.invokevirtual 71, 3) := by decide +kernel
theorem dX0_fold_33 : decode cX0_fold 33 = .ok (.iinc 3 1, 3) := by decide +kernel
theorem dX0_fold_36 : decode cX0_fold 36 = .ok (.goto (-24), 3) := by decide +kernel
theorem dX0_fold_39 : decode cX0_fold 39 = .ok (.aload_n 0, 1) := by decide +kernel
theorem dX0_fold_40 : decode cX0_fold 40 = .ok (.iconst 4, 1) := by decide +kernel
theorem dX0_fold_41 : decode cX0_fold 41 = .ok (.iload_n 1, 1) := by decide +kernel
theorem dX0_fold_42 : decode cX0_fold 42 = .ok (.invokevirtual 75, 3) := by decide +kernel
theorem dX0_fold_45 : decode cX0_fold 45 = .ok (.pop, 1) := by decide +kernel
theorem dX0_fold_46 : decode cX0_fold 46 = .ok (.aload_n 0, 1) := by decide +kernel
theorem dX0_fold_47 : decode cX0_fold 47 = .ok (.iload_n 1, 1) := by decide +kernel
theorem dX0_fold_48 : decode cX0_fold 48 = .ok (.iconst 0, 1) := by decide +kernel
theorem dX0_fold_49 : decode cX0_fold 49 = .ok (.invokevirtual 68, 3) := by decide +kernel
theorem dX0_fold_52 : decode cX0_fold 52 = .ok (.ireturn, 1) := by decide +kernel
set_option maxRecDepth 20000 in
theorem ggX0_join_X0_requireRow : GoodIn wsX0_join wsX0_requireRow := goodIn_ca (goodIn_r _ [8, 1, 2] (by decide +kernel) (by decide +kernel)) (goodIn_sub (fun _ h => List.mem_cons_of_mem _ (List.mem_append_right _ h)) (by decide +kernel))
set_option maxRecDepth 20000 in
theorem gX0_join_X0_requireRow : GoodIn wsX0_join (wsV RX0 59 RX0 yX0_requireRow wsX0_requireRow) := goodIn_app (goodIn_of _ (by decide +kernel)) ggX0_join_X0_requireRow
set_option maxRecDepth 20000 in
theorem ggX0_join_X0_read : GoodIn wsX0_join wsX0_read := goodIn_r _ [12, 13, 35, 36, 37, 38, 39, 40, 41] (by decide +kernel) (by decide +kernel)
set_option maxRecDepth 20000 in
theorem gX0_join_X0_read : GoodIn wsX0_join (wsV RX0 68 RX0 yX0_read wsX0_read) := goodIn_app (goodIn_of _ (by decide +kernel)) ggX0_join_X0_read
set_option maxRecDepth 20000 in
theorem ggX0_join_X0_joined : GoodIn wsX0_join wsX0_joined := goodIn_r _ [17, 18, 19, 20, 7, 21, 22, 23, 24, 25, 26, 35, 36, 37, 38, 39, 40, 41] (by decide +kernel) (by decide +kernel)
set_option maxRecDepth 20000 in
theorem gX0_join_X0_joined : GoodIn wsX0_join (wsV RX0 108 RX0 yX0_joined wsX0_joined) := goodIn_app (goodIn_of _ (by decide +kernel)) ggX0_join_X0_joined
set_option maxRecDepth 20000 in
theorem ggX0_join_X0_write : GoodIn wsX0_join wsX0_write := goodIn_r _ [30, 13, 35, 36, 37, 38, 39, 40, 41] (by decide +kernel) (by decide +kernel)
set_option maxRecDepth 20000 in
theorem gX0_join_X0_write : GoodIn wsX0_join (wsV RX0 71 RX0 yX0_write wsX0_write) := goodIn_app (goodIn_of _ (by decide +kernel)) ggX0_join_X0_write
set_option maxRecDepth 20000 in
theorem ggX0_join_X0_nonZeros : GoodIn wsX0_join wsX0_nonZeros := goodIn_r _ [34, 3, 9, 10, 11, 7, 12, 13, 35, 36, 37, 38, 39, 40, 41] (by decide +kernel) (by decide +kernel)
set_option maxRecDepth 20000 in
theorem gX0_join_X0_nonZeros : GoodIn wsX0_join (wsV RX0 111 RX0 yX0_nonZeros wsX0_nonZeros) := goodIn_app (goodIn_of _ (by decide +kernel)) ggX0_join_X0_nonZeros
theorem dX0_join_0 : decode cX0_join 0 = .ok (.aload_n 0, 1) := by decide +kernel
theorem dX0_join_1 : decode cX0_join 1 = .ok (.iload_n 1, 1) := by decide +kernel
theorem dX0_join_2 : decode cX0_join 2 = .ok (.invokevirtual 59, 3) := by decide +kernel
theorem dX0_join_5 : decode cX0_join 5 = .ok (.aload_n 0, 1) := by decide +kernel
theorem dX0_join_6 : decode cX0_join 6 = .ok (.iload_n 2, 1) := by decide +kernel
theorem dX0_join_7 : decode cX0_join 7 = .ok (.invokevirtual 59, 3) := by decide +kernel
theorem dX0_join_10 : decode cX0_join 10 = .ok (.iload_n 3, 1) := by decide +kernel
theorem dX0_join_11 : decode cX0_join 11 = .ok (.ifCond .lt 8, 3) := by decide +kernel
theorem dX0_join_14 : decode cX0_join 14 = .ok (.iload_n 3, 1) := by decide +kernel
theorem dX0_join_15 : decode cX0_join 15 = .ok (.iconst 3, 1) := by decide +kernel
theorem dX0_join_16 : decode cX0_join 16 = .ok (.if_icmp .lt 13, 3) := by decide +kernel
theorem dX0_join_19 : decode cX0_join 19 = .ok (.new 93, 3) := by decide +kernel
theorem dX0_join_22 : decode cX0_join 22 = .ok (.dup, 1) := by decide +kernel
theorem dX0_join_23 : decode cX0_join 23 = .ok (.ldc 106, 2) := by decide +kernel
theorem dX0_join_25 : decode cX0_join 25 = .ok (.invokespecial 97, 3) := by decide +kernel
theorem dX0_join_28 : decode cX0_join 28 = .ok (.athrow, 1) := by decide +kernel
theorem dX0_join_29 : decode cX0_join 29 = .ok (.iconst 0, 1) := by decide +kernel
theorem dX0_join_30 : decode cX0_join 30 = .ok (.istore 4, 2) := by decide +kernel
theorem dX0_join_32 : decode cX0_join 32 = .ok (.iload 4, 2) := by decide +kernel
theorem dX0_join_34 : decode cX0_join 34 = .ok (.aload_n 0, 1) := by decide +kernel
theorem dX0_join_35 : decode cX0_join 35 = .ok (.getfield 84, 3) := by decide +kernel
theorem dX0_join_38 : decode cX0_join 38 = .ok (.if_icmp .ge 35, 3) := by decide +kernel
theorem dX0_join_41 : decode cX0_join 41 = .ok (.aload_n 0, 1) := by decide +kernel
theorem dX0_join_42 : decode cX0_join 42 = .ok (.iload_n 1, 1) := by decide +kernel
theorem dX0_join_43 : decode cX0_join 43 = .ok (.iload 4, 2) := by decide +kernel
theorem dX0_join_45 : decode cX0_join 45 = .ok (.aload_n 0, 1) := by decide +kernel
theorem dX0_join_46 : decode cX0_join 46 = .ok (.aload_n 0, 1) := by decide +kernel
theorem dX0_join_47 : decode cX0_join 47 = .ok (.iload_n 1, 1) := by decide +kernel
theorem dX0_join_48 : decode cX0_join 48 = .ok (.iload 4, 2) := by decide +kernel
theorem dX0_join_50 : decode cX0_join 50 = .ok (.invokevirtual 68, 3) := by decide +kernel
theorem dX0_join_53 : decode cX0_join 53 = .ok (.aload_n 0, 1) := by decide +kernel
theorem dX0_join_54 : decode cX0_join 54 = .ok (.iload_n 2, 1) := by decide +kernel
theorem dX0_join_55 : decode cX0_join 55 = .ok (.iload 4, 2) := by decide +kernel
theorem dX0_join_57 : decode cX0_join 57 = .ok (.invokevirtual 68, 3) := by decide +kernel
theorem dX0_join_60 : decode cX0_join 60 = .ok (.iload_n 3, 1) := by decide +kernel
theorem dX0_join_61 : decode cX0_join 61 = .ok (.invokevirtual 108, 3) := by decide +kernel
theorem dX0_join_64 : decode cX0_join 64 = .ok (.invokevirtual 71, 3) := by decide +kernel
theorem dX0_join_67 : decode cX0_join 67 = .ok (.iinc 4 1, 3) := by decide +kernel
theorem dX0_join_70 : decode cX0_join 70 = .ok (.goto (-38), 3) := by decide +kernel
theorem dX0_join_73 : decode cX0_join 73 = .ok (.aload_n 0, 1) := by decide +kernel
theorem dX0_join_74 : decode cX0_join 74 = .ok (.iload_n 1, 1) := by decide +kernel
theorem dX0_join_75 : decode cX0_join 75 = .ok (.invokevirtual 111, 3) := by decide +kernel
theorem dX0_join_78 : decode cX0_join 78 = .ok (.ireturn, 1) := by decide +kernel
set_option maxRecDepth 20000 in
theorem ggX0_move_X0_requireRow : GoodIn wsX0_move wsX0_requireRow := goodIn_ca (goodIn_r _ [8, 9, 10] (by decide +kernel) (by decide +kernel)) (goodIn_sub (fun _ h => List.mem_cons_of_mem _ (List.mem_append_right _ h)) (by decide +kernel))
set_option maxRecDepth 20000 in
theorem gX0_move_X0_requireRow : GoodIn wsX0_move (wsV RX0 59 RX0 yX0_requireRow wsX0_requireRow) := goodIn_app (goodIn_of _ (by decide +kernel)) ggX0_move_X0_requireRow
set_option maxRecDepth 20000 in
theorem ggX0_move_X0_wrapped : GoodIn wsX0_move wsX0_wrapped := goodIn_r _ [14, 3, 28, 29, 30, 31, 32, 33, 34] (by decide +kernel) (by decide +kernel)
set_option maxRecDepth 20000 in
theorem gX0_move_X0_wrapped : GoodIn wsX0_move (wsV RX0 116 RX0 yX0_wrapped wsX0_wrapped) := goodIn_app (goodIn_of _ (by decide +kernel)) ggX0_move_X0_wrapped
set_option maxRecDepth 20000 in
theorem ggX0_move_X0_read : GoodIn wsX0_move wsX0_read := goodIn_r _ [18, 19, 28, 29, 30, 31, 32, 33, 34] (by decide +kernel) (by decide +kernel)
set_option maxRecDepth 20000 in
theorem gX0_move_X0_read : GoodIn wsX0_move (wsV RX0 68 RX0 yX0_read wsX0_read) := goodIn_app (goodIn_of _ (by decide +kernel)) ggX0_move_X0_read
set_option maxRecDepth 20000 in
theorem ggX0_move_X0_write : GoodIn wsX0_move wsX0_write := goodIn_r _ [23, 19, 28, 29, 30, 31, 32, 33, 34] (by decide +kernel) (by decide +kernel)
set_option maxRecDepth 20000 in
theorem gX0_move_X0_write : GoodIn wsX0_move (wsV RX0 71 RX0 yX0_write wsX0_write) := goodIn_app (goodIn_of _ (by decide +kernel)) ggX0_move_X0_write
set_option maxRecDepth 20000 in
theorem ggX0_move_X0_copyRow : GoodIn wsX0_move wsX0_copyRow := goodIn_r _ [27, 3, 15, 16, 17, 7, 18, 19, 20, 21, 22, 23, 28, 29, 30, 31, 32, 33, 34] (by decide +kernel) (by decide +kernel)
set_option maxRecDepth 20000 in
theorem gX0_move_X0_copyRow : GoodIn wsX0_move (wsV RX0 75 RX0 yX0_copyRow wsX0_copyRow) := goodIn_app (goodIn_of _ (by decide +kernel)) ggX0_move_X0_copyRow
theorem dX0_move_0 : decode cX0_move 0 = .ok (.aload_n 0, 1) := by decide +kernel
theorem dX0_move_1 : decode cX0_move 1 = .ok (.iload_n 1, 1) := by decide +kernel
theorem dX0_move_2 : decode cX0_move 2 = .ok (.invokevirtual 59, 3) := by decide +kernel
theorem dX0_move_5 : decode cX0_move 5 = .ok (.iload_n 2, 1) := by decide +kernel
theorem dX0_move_6 : decode cX0_move 6 = .ok (.ifCond .lt 11, 3) := by decide +kernel
theorem dX0_move_9 : decode cX0_move 9 = .ok (.iload_n 2, 1) := by decide +kernel
theorem dX0_move_10 : decode cX0_move 10 = .ok (.aload_n 0, 1) := by decide +kernel
theorem dX0_move_11 : decode cX0_move 11 = .ok (.getfield 84, 3) := by decide +kernel
theorem dX0_move_14 : decode cX0_move 14 = .ok (.if_icmp .lt 13, 3) := by decide +kernel
theorem dX0_move_17 : decode cX0_move 17 = .ok (.new 28, 3) := by decide +kernel
theorem dX0_move_20 : decode cX0_move 20 = .ok (.dup, 1) := by decide +kernel
theorem dX0_move_21 : decode cX0_move 21 = .ok (.ldc 114, 2) := by decide +kernel
theorem dX0_move_23 : decode cX0_move 23 = .ok (.invokespecial 32, 3) := by decide +kernel
theorem dX0_move_26 : decode cX0_move 26 = .ok (.athrow, 1) := by decide +kernel
theorem dX0_move_27 : decode cX0_move 27 = .ok (.iconst 0, 1) := by decide +kernel
theorem dX0_move_28 : decode cX0_move 28 = .ok (.istore_n 3, 1) := by decide +kernel
theorem dX0_move_29 : decode cX0_move 29 = .ok (.iload_n 3, 1) := by decide +kernel
theorem dX0_move_30 : decode cX0_move 30 = .ok (.aload_n 0, 1) := by decide +kernel
theorem dX0_move_31 : decode cX0_move 31 = .ok (.getfield 84, 3) := by decide +kernel
theorem dX0_move_34 : decode cX0_move 34 = .ok (.if_icmp .ge 27, 3) := by decide +kernel
theorem dX0_move_37 : decode cX0_move 37 = .ok (.aload_n 0, 1) := by decide +kernel
theorem dX0_move_38 : decode cX0_move 38 = .ok (.iconst 4, 1) := by decide +kernel
theorem dX0_move_39 : decode cX0_move 39 = .ok (.aload_n 0, 1) := by decide +kernel
theorem dX0_move_40 : decode cX0_move 40 = .ok (.iload_n 3, 1) := by decide +kernel
theorem dX0_move_41 : decode cX0_move 41 = .ok (.iload_n 2, 1) := by decide +kernel
theorem dX0_move_42 : decode cX0_move 42 = .ok (.iadd, 1) := by decide +kernel
theorem dX0_move_43 : decode cX0_move 43 = .ok (.invokevirtual 116, 3) := by decide +kernel
theorem dX0_move_46 : decode cX0_move 46 = .ok (.aload_n 0, 1) := by decide +kernel
theorem dX0_move_47 : decode cX0_move 47 = .ok (.iload_n 1, 1) := by decide +kernel
theorem dX0_move_48 : decode cX0_move 48 = .ok (.iload_n 3, 1) := by decide +kernel
theorem dX0_move_49 : decode cX0_move 49 = .ok (.invokevirtual 68, 3) := by decide +kernel
theorem dX0_move_52 : decode cX0_move 52 = .ok (.invokevirtual 71, 3) := by decide +kernel
theorem dX0_move_55 : decode cX0_move 55 = .ok (.iinc 3 1, 3) := by decide +kernel
theorem dX0_move_58 : decode cX0_move 58 = .ok (.goto (-29), 3) := by decide +kernel
theorem dX0_move_61 : decode cX0_move 61 = .ok (.aload_n 0, 1) := by decide +kernel
theorem dX0_move_62 : decode cX0_move 62 = .ok (.iconst 4, 1) := by decide +kernel
theorem dX0_move_63 : decode cX0_move 63 = .ok (.iload_n 1, 1) := by decide +kernel
theorem dX0_move_64 : decode cX0_move 64 = .ok (.invokevirtual 75, 3) := by decide +kernel
theorem dX0_move_67 : decode cX0_move 67 = .ok (.pop, 1) := by decide +kernel
theorem dX0_move_68 : decode cX0_move 68 = .ok (.aload_n 0, 1) := by decide +kernel
theorem dX0_move_69 : decode cX0_move 69 = .ok (.iload_n 1, 1) := by decide +kernel
theorem dX0_move_70 : decode cX0_move 70 = .ok (.iconst 0, 1) := by decide +kernel
theorem dX0_move_71 : decode cX0_move 71 = .ok (.invokevirtual 68, 3) := by decide +kernel
theorem dX0_move_74 : decode cX0_move 74 = .ok (.ireturn, 1) := by decide +kernel
set_option maxRecDepth 20000 in
theorem ggX0_times_X0_requireRow : GoodIn wsX0_times wsX0_requireRow := goodIn_ca (goodIn_r _ [6, 7, 8] (by decide +kernel) (by decide +kernel)) (goodIn_sub (fun _ h => List.mem_cons_of_mem _ (List.mem_append_left _ (List.mem_append_right _ h))) (by decide +kernel))
set_option maxRecDepth 20000 in
theorem gX0_times_X0_requireRow : GoodIn wsX0_times (wsV RX0 59 RX0 yX0_requireRow wsX0_requireRow) := goodIn_app (goodIn_of _ (by decide +kernel)) ggX0_times_X0_requireRow
set_option maxRecDepth 20000 in
theorem ggX0_times_X0_requireNumber : GoodIn wsX0_times wsX0_requireNumber := goodIn_ca (goodIn_r _ [12, 13, 14, 15, 37, 38, 39, 40, 41, 42, 43] (by decide +kernel) (by decide +kernel)) (goodIn_sub (fun _ h => List.mem_cons_of_mem _ (List.mem_append_right _ h)) (by decide +kernel))
set_option maxRecDepth 20000 in
theorem gX0_times_X0_requireNumber : GoodIn wsX0_times (wsV RX0 65 RX0 yX0_requireNumber wsX0_requireNumber) := goodIn_app (goodIn_of _ (by decide +kernel)) ggX0_times_X0_requireNumber
set_option maxRecDepth 20000 in
theorem ggX0_times_X0_read : GoodIn wsX0_times wsX0_read := goodIn_r _ [19, 20, 37, 38, 39, 40, 41, 42, 43] (by decide +kernel) (by decide +kernel)
set_option maxRecDepth 20000 in
theorem gX0_times_X0_read : GoodIn wsX0_times (wsV RX0 68 RX0 yX0_read wsX0_read) := goodIn_app (goodIn_of _ (by decide +kernel)) ggX0_times_X0_read
set_option maxRecDepth 20000 in
theorem ggX0_times_X0_reduced : GoodIn wsX0_times wsX0_reduced := goodIn_r _ [24, 15, 25, 26, 27, 28, 37, 38, 39, 40, 41, 42, 43] (by decide +kernel) (by decide +kernel)
set_option maxRecDepth 20000 in
theorem gX0_times_X0_reduced : GoodIn wsX0_times (wsV RX0 46 RX0 yX0_reduced wsX0_reduced) := goodIn_app (goodIn_of _ (by decide +kernel)) ggX0_times_X0_reduced
set_option maxRecDepth 20000 in
theorem ggX0_times_X0_write : GoodIn wsX0_times wsX0_write := goodIn_r _ [32, 20, 37, 38, 39, 40, 41, 42, 43] (by decide +kernel) (by decide +kernel)
set_option maxRecDepth 20000 in
theorem gX0_times_X0_write : GoodIn wsX0_times (wsV RX0 71 RX0 yX0_write wsX0_write) := goodIn_app (goodIn_of _ (by decide +kernel)) ggX0_times_X0_write
set_option maxRecDepth 20000 in
theorem ggX0_times_X0_nonZeros : GoodIn wsX0_times wsX0_nonZeros := goodIn_r _ [36, 1, 16, 17, 18, 5, 19, 20, 37, 38, 39, 40, 41, 42, 43] (by decide +kernel) (by decide +kernel)
set_option maxRecDepth 20000 in
theorem gX0_times_X0_nonZeros : GoodIn wsX0_times (wsV RX0 111 RX0 yX0_nonZeros wsX0_nonZeros) := goodIn_app (goodIn_of _ (by decide +kernel)) ggX0_times_X0_nonZeros
theorem dX0_times_0 : decode cX0_times 0 = .ok (.aload_n 0, 1) := by decide +kernel
theorem dX0_times_1 : decode cX0_times 1 = .ok (.iload_n 1, 1) := by decide +kernel
theorem dX0_times_2 : decode cX0_times 2 = .ok (.invokevirtual 59, 3) := by decide +kernel
theorem dX0_times_5 : decode cX0_times 5 = .ok (.aload_n 0, 1) := by decide +kernel
theorem dX0_times_6 : decode cX0_times 6 = .ok (.iload_n 2, 1) := by decide +kernel
theorem dX0_times_7 : decode cX0_times 7 = .ok (.invokevirtual 65, 3) := by decide +kernel
theorem dX0_times_10 : decode cX0_times 10 = .ok (.iconst 0, 1) := by decide +kernel
theorem dX0_times_11 : decode cX0_times 11 = .ok (.istore_n 3, 1) := by decide +kernel
theorem dX0_times_12 : decode cX0_times 12 = .ok (.iload_n 3, 1) := by decide +kernel
theorem dX0_times_13 : decode cX0_times 13 = .ok (.aload_n 0, 1) := by decide +kernel
theorem dX0_times_14 : decode cX0_times 14 = .ok (.getfield 84, 3) := by decide +kernel
theorem dX0_times_17 : decode cX0_times 17 = .ok (.if_icmp .ge 27, 3) := by decide +kernel
theorem dX0_times_20 : decode cX0_times 20 = .ok (.aload_n 0, 1) := by decide +kernel
theorem dX0_times_21 : decode cX0_times 21 = .ok (.iload_n 1, 1) := by decide +kernel
theorem dX0_times_22 : decode cX0_times 22 = .ok (.iload_n 3, 1) := by decide +kernel
theorem dX0_times_23 : decode cX0_times 23 = .ok (.aload_n 0, 1) := by decide +kernel
theorem dX0_times_24 : decode cX0_times 24 = .ok (.aload_n 0, 1) := by decide +kernel
theorem dX0_times_25 : decode cX0_times 25 = .ok (.iload_n 1, 1) := by decide +kernel
theorem dX0_times_26 : decode cX0_times 26 = .ok (.iload_n 3, 1) := by decide +kernel
theorem dX0_times_27 : decode cX0_times 27 = .ok (.invokevirtual 68, 3) := by decide +kernel
theorem dX0_times_30 : decode cX0_times 30 = .ok (.iload_n 2, 1) := by decide +kernel
theorem dX0_times_31 : decode cX0_times 31 = .ok (.imul, 1) := by decide +kernel
theorem dX0_times_32 : decode cX0_times 32 = .ok (.invokevirtual 46, 3) := by decide +kernel
theorem dX0_times_35 : decode cX0_times 35 = .ok (.invokevirtual 71, 3) := by decide +kernel
theorem dX0_times_38 : decode cX0_times 38 = .ok (.iinc 3 1, 3) := by decide +kernel
theorem dX0_times_41 : decode cX0_times 41 = .ok (.goto (-29), 3) := by decide +kernel
theorem dX0_times_44 : decode cX0_times 44 = .ok (.aload_n 0, 1) := by decide +kernel
theorem dX0_times_45 : decode cX0_times 45 = .ok (.iload_n 1, 1) := by decide +kernel
theorem dX0_times_46 : decode cX0_times 46 = .ok (.invokevirtual 111, 3) := by decide +kernel
theorem dX0_times_49 : decode cX0_times 49 = .ok (.ireturn, 1) := by decide +kernel
set_option maxRecDepth 20000 in
theorem ggX0_at_X0_requireRow : GoodIn wsX0_at wsX0_requireRow := goodIn_ca (goodIn_r _ [5, 6, 7] (by decide +kernel) (by decide +kernel)) (goodIn_sub (fun _ h => List.mem_cons_of_mem _ (List.mem_append_right _ h)) (by decide +kernel))
set_option maxRecDepth 20000 in
theorem gX0_at_X0_requireRow : GoodIn wsX0_at (wsV RX0 59 RX0 yX0_requireRow wsX0_requireRow) := goodIn_app (goodIn_of _ (by decide +kernel)) ggX0_at_X0_requireRow
set_option maxRecDepth 20000 in
theorem ggX0_at_X0_requirePlace : GoodIn wsX0_at wsX0_requirePlace := goodIn_ca (goodIn_r _ [11, 6, 7, 12, 18, 19, 20, 21, 22, 23, 24] (by decide +kernel) (by decide +kernel)) (goodIn_sub (fun _ h => List.mem_cons_of_mem _ (List.mem_append_right _ h)) (by decide +kernel))
set_option maxRecDepth 20000 in
theorem gX0_at_X0_requirePlace : GoodIn wsX0_at (wsV RX0 62 RX0 yX0_requirePlace wsX0_requirePlace) := goodIn_app (goodIn_of _ (by decide +kernel)) ggX0_at_X0_requirePlace
set_option maxRecDepth 20000 in
theorem ggX0_at_X0_read : GoodIn wsX0_at wsX0_read := goodIn_r _ [16, 17, 18, 19, 20, 21, 22, 23, 24] (by decide +kernel) (by decide +kernel)
set_option maxRecDepth 20000 in
theorem gX0_at_X0_read : GoodIn wsX0_at (wsV RX0 68 RX0 yX0_read wsX0_read) := goodIn_app (goodIn_of _ (by decide +kernel)) ggX0_at_X0_read
theorem dX0_at_0 : decode cX0_at 0 = .ok (.aload_n 0, 1) := by decide +kernel
theorem dX0_at_1 : decode cX0_at 1 = .ok (.iload_n 1, 1) := by decide +kernel
theorem dX0_at_2 : decode cX0_at 2 = .ok (.invokevirtual 59, 3) := by decide +kernel
theorem dX0_at_5 : decode cX0_at 5 = .ok (.aload_n 0, 1) := by decide +kernel
theorem dX0_at_6 : decode cX0_at 6 = .ok (.iload_n 2, 1) := by decide +kernel
theorem dX0_at_7 : decode cX0_at 7 = .ok (.invokevirtual 62, 3) := by decide +kernel
theorem dX0_at_10 : decode cX0_at 10 = .ok (.aload_n 0, 1) := by decide +kernel
theorem dX0_at_11 : decode cX0_at 11 = .ok (.iload_n 1, 1) := by decide +kernel
theorem dX0_at_12 : decode cX0_at 12 = .ok (.iload_n 2, 1) := by decide +kernel
theorem dX0_at_13 : decode cX0_at 13 = .ok (.invokevirtual 68, 3) := by decide +kernel
theorem dX0_at_16 : decode cX0_at 16 = .ok (.ireturn, 1) := by decide +kernel
set_option maxRecDepth 20000 in
theorem ggX0_point_X0_requireRow : GoodIn wsX0_point wsX0_requireRow := goodIn_ca (goodIn_r _ [5, 6, 7] (by decide +kernel) (by decide +kernel)) (goodIn_sub (fun _ h => List.mem_cons_of_mem _ (List.mem_append_left _ (List.mem_append_right _ h))) (by decide +kernel))
set_option maxRecDepth 20000 in
theorem gX0_point_X0_requireRow : GoodIn wsX0_point (wsV RX0 59 RX0 yX0_requireRow wsX0_requireRow) := goodIn_app (goodIn_of _ (by decide +kernel)) ggX0_point_X0_requireRow
set_option maxRecDepth 20000 in
theorem ggX0_point_X0_requireNumber : GoodIn wsX0_point wsX0_requireNumber := goodIn_ca (goodIn_r _ [11, 12, 13, 14, 33, 34, 35, 36, 37, 38, 39] (by decide +kernel) (by decide +kernel)) (goodIn_sub (fun _ h => List.mem_cons_of_mem _ (List.mem_append_right _ h)) (by decide +kernel))
set_option maxRecDepth 20000 in
theorem gX0_point_X0_requireNumber : GoodIn wsX0_point (wsV RX0 65 RX0 yX0_requireNumber wsX0_requireNumber) := goodIn_app (goodIn_of _ (by decide +kernel)) ggX0_point_X0_requireNumber
set_option maxRecDepth 20000 in
theorem ggX0_point_X0_valueAt : GoodIn wsX0_point wsX0_valueAt := goodIn_r _ [18, 19, 20, 21, 22, 4, 23, 24, 25, 26, 27, 28, 14, 29, 30, 31, 32, 33, 34, 35, 36, 37, 38, 39] (by decide +kernel) (by decide +kernel)
set_option maxRecDepth 20000 in
theorem gX0_point_X0_valueAt : GoodIn wsX0_point (wsV RX0 119 RX0 yX0_valueAt wsX0_valueAt) := goodIn_app (goodIn_of _ (by decide +kernel)) ggX0_point_X0_valueAt
theorem dX0_point_0 : decode cX0_point 0 = .ok (.aload_n 0, 1) := by decide +kernel
theorem dX0_point_1 : decode cX0_point 1 = .ok (.iload_n 1, 1) := by decide +kernel
theorem dX0_point_2 : decode cX0_point 2 = .ok (.invokevirtual 59, 3) := by decide +kernel
theorem dX0_point_5 : decode cX0_point 5 = .ok (.aload_n 0, 1) := by decide +kernel
theorem dX0_point_6 : decode cX0_point 6 = .ok (.iload_n 2, 1) := by decide +kernel
theorem dX0_point_7 : decode cX0_point 7 = .ok (.invokevirtual 65, 3) := by decide +kernel
theorem dX0_point_10 : decode cX0_point 10 = .ok (.aload_n 0, 1) := by decide +kernel
theorem dX0_point_11 : decode cX0_point 11 = .ok (.iload_n 1, 1) := by decide +kernel
theorem dX0_point_12 : decode cX0_point 12 = .ok (.iload_n 2, 1) := by decide +kernel
theorem dX0_point_13 : decode cX0_point 13 = .ok (.invokevirtual 119, 3) := by decide +kernel
theorem dX0_point_16 : decode cX0_point 16 = .ok (.ireturn, 1) := by decide +kernel
set_option maxRecDepth 20000 in
theorem ggX0_about_X0_requireRow : GoodIn wsX0_about wsX0_requireRow := goodIn_ca (goodIn_r _ [7, 1, 2] (by decide +kernel) (by decide +kernel)) (goodIn_sub (fun _ h => List.mem_cons_of_mem _ (List.mem_append_right _ h)) (by decide +kernel))
set_option maxRecDepth 20000 in
theorem gX0_about_X0_requireRow : GoodIn wsX0_about (wsV RX0 59 RX0 yX0_requireRow wsX0_requireRow) := goodIn_app (goodIn_of _ (by decide +kernel)) ggX0_about_X0_requireRow
set_option maxRecDepth 20000 in
theorem ggX0_about_X0_told : GoodIn wsX0_about wsX0_told := goodIn_r _ [11, 12, 13, 14, 6, 15, 16, 17, 18, 19, 20, 21, 22, 23, 24, 25, 26, 27, 28, 29, 30, 31, 32, 33, 34, 35, 36, 37, 38, 39, 40, 41, 42, 43, 44, 45, 46, 47, 48, 49, 50, 51, 52, 53, 54, 55, 56, 57, 58, 59, 60, 61, 62, 63, 64, 65] (by decide +kernel) (by decide +kernel)
set_option maxRecDepth 20000 in
theorem gX0_about_X0_told : GoodIn wsX0_about (wsV RX0 124 RX0 yX0_told wsX0_told) := goodIn_app (goodIn_of _ (by decide +kernel)) ggX0_about_X0_told
theorem dX0_about_0 : decode cX0_about 0 = .ok (.aload_n 0, 1) := by decide +kernel
theorem dX0_about_1 : decode cX0_about 1 = .ok (.iload_n 1, 1) := by decide +kernel
theorem dX0_about_2 : decode cX0_about 2 = .ok (.invokevirtual 59, 3) := by decide +kernel
theorem dX0_about_5 : decode cX0_about 5 = .ok (.iload_n 2, 1) := by decide +kernel
theorem dX0_about_6 : decode cX0_about 6 = .ok (.ifCond .lt 8, 3) := by decide +kernel
theorem dX0_about_9 : decode cX0_about 9 = .ok (.iload_n 2, 1) := by decide +kernel
theorem dX0_about_10 : decode cX0_about 10 = .ok (.iconst 5, 1) := by decide +kernel
theorem dX0_about_11 : decode cX0_about 11 = .ok (.if_icmp .lt 13, 3) := by decide +kernel
theorem dX0_about_14 : decode cX0_about 14 = .ok (.new 93, 3) := by decide +kernel
theorem dX0_about_17 : decode cX0_about 17 = .ok (.dup, 1) := by decide +kernel
theorem dX0_about_18 : decode cX0_about 18 = .ok (.ldc 122, 2) := by decide +kernel
theorem dX0_about_20 : decode cX0_about 20 = .ok (.invokespecial 97, 3) := by decide +kernel
theorem dX0_about_23 : decode cX0_about 23 = .ok (.athrow, 1) := by decide +kernel
theorem dX0_about_24 : decode cX0_about 24 = .ok (.aload_n 0, 1) := by decide +kernel
theorem dX0_about_25 : decode cX0_about 25 = .ok (.iload_n 1, 1) := by decide +kernel
theorem dX0_about_26 : decode cX0_about 26 = .ok (.iload_n 2, 1) := by decide +kernel
theorem dX0_about_27 : decode cX0_about 27 = .ok (.invokevirtual 124, 3) := by decide +kernel
theorem dX0_about_30 : decode cX0_about 30 = .ok (.ireturn, 1) := by decide +kernel
set_option maxRecDepth 20000 in
theorem ggX0_count_X0_counted : GoodIn wsX0_count wsX0_counted := goodIn_r _ [7, 8, 9, 10, 11, 12, 13, 14, 15, 16, 17, 18, 19, 20] (by decide +kernel) (by decide +kernel)
set_option maxRecDepth 20000 in
theorem gX0_count_X0_counted : GoodIn wsX0_count (wsV RX0 129 RX0 yX0_counted wsX0_counted) := goodIn_app (goodIn_of _ (by decide +kernel)) ggX0_count_X0_counted
theorem dX0_count_0 : decode cX0_count 0 = .ok (.iload_n 1, 1) := by decide +kernel
theorem dX0_count_1 : decode cX0_count 1 = .ok (.ifCond .lt 9, 3) := by decide +kernel
theorem dX0_count_4 : decode cX0_count 4 = .ok (.iload_n 1, 1) := by decide +kernel
theorem dX0_count_5 : decode cX0_count 5 = .ok (.bipush 6, 2) := by decide +kernel
theorem dX0_count_7 : decode cX0_count 7 = .ok (.if_icmp .lt 13, 3) := by decide +kernel
theorem dX0_count_10 : decode cX0_count 10 = .ok (.new 93, 3) := by decide +kernel
theorem dX0_count_13 : decode cX0_count 13 = .ok (.dup, 1) := by decide +kernel
theorem dX0_count_14 : decode cX0_count 14 = .ok (.ldc 127, 2) := by decide +kernel
theorem dX0_count_16 : decode cX0_count 16 = .ok (.invokespecial 97, 3) := by decide +kernel
theorem dX0_count_19 : decode cX0_count 19 = .ok (.athrow, 1) := by decide +kernel
theorem dX0_count_20 : decode cX0_count 20 = .ok (.aload_n 0, 1) := by decide +kernel
theorem dX0_count_21 : decode cX0_count 21 = .ok (.iload_n 1, 1) := by decide +kernel
theorem dX0_count_22 : decode cX0_count 22 = .ok (.invokevirtual 129, 3) := by decide +kernel
theorem dX0_count_25 : decode cX0_count 25 = .ok (.ireturn, 1) := by decide +kernel
set_option maxRecDepth 20000 in
theorem ggX0_would_X0_requireRow : GoodIn wsX0_would wsX0_requireRow := goodIn_ca (goodIn_r _ [5, 6, 7] (by decide +kernel) (by decide +kernel)) (goodIn_sub (fun _ h => List.mem_cons_of_mem _ (List.mem_append_right _ h)) (by decide +kernel))
set_option maxRecDepth 20000 in
theorem gX0_would_X0_requireRow : GoodIn wsX0_would (wsV RX0 59 RX0 yX0_requireRow wsX0_requireRow) := goodIn_app (goodIn_of _ (by decide +kernel)) ggX0_would_X0_requireRow
set_option maxRecDepth 20000 in
theorem ggX0_would_X0_requirePlace : GoodIn wsX0_would wsX0_requirePlace := goodIn_ca (goodIn_r _ [11, 6, 7, 12, 35, 36, 37, 38, 39, 40, 41] (by decide +kernel) (by decide +kernel)) (goodIn_sub (fun _ h => List.mem_cons_of_mem _ (List.mem_append_right _ h)) (by decide +kernel))
set_option maxRecDepth 20000 in
theorem gX0_would_X0_requirePlace : GoodIn wsX0_would (wsV RX0 62 RX0 yX0_requirePlace wsX0_requirePlace) := goodIn_app (goodIn_of _ (by decide +kernel)) ggX0_would_X0_requirePlace
set_option maxRecDepth 20000 in
theorem ggX0_would_X0_foldedAt : GoodIn wsX0_would wsX0_foldedAt := goodIn_r _ [16, 12, 17, 18, 19, 4, 20, 21, 22, 23, 24, 25, 26, 27, 28, 29, 30, 31, 32, 33, 34, 35, 36, 37, 38, 39, 40, 41] (by decide +kernel) (by decide +kernel)
set_option maxRecDepth 20000 in
theorem gX0_would_X0_foldedAt : GoodIn wsX0_would (wsV RX0 102 RX0 yX0_foldedAt wsX0_foldedAt) := goodIn_app (goodIn_of _ (by decide +kernel)) ggX0_would_X0_foldedAt
theorem dX0_would_0 : decode cX0_would 0 = .ok (.aload_n 0, 1) := by decide +kernel
theorem dX0_would_1 : decode cX0_would 1 = .ok (.iload_n 1, 1) := by decide +kernel
theorem dX0_would_2 : decode cX0_would 2 = .ok (.invokevirtual 59, 3) := by decide +kernel
theorem dX0_would_5 : decode cX0_would 5 = .ok (.aload_n 0, 1) := by decide +kernel
theorem dX0_would_6 : decode cX0_would 6 = .ok (.iload_n 2, 1) := by decide +kernel
theorem dX0_would_7 : decode cX0_would 7 = .ok (.invokevirtual 59, 3) := by decide +kernel
theorem dX0_would_10 : decode cX0_would 10 = .ok (.aload_n 0, 1) := by decide +kernel
theorem dX0_would_11 : decode cX0_would 11 = .ok (.iload_n 3, 1) := by decide +kernel
theorem dX0_would_12 : decode cX0_would 12 = .ok (.invokevirtual 62, 3) := by decide +kernel
theorem dX0_would_15 : decode cX0_would 15 = .ok (.aload_n 0, 1) := by decide +kernel
theorem dX0_would_16 : decode cX0_would 16 = .ok (.iload_n 1, 1) := by decide +kernel
theorem dX0_would_17 : decode cX0_would 17 = .ok (.iload_n 2, 1) := by decide +kernel
theorem dX0_would_18 : decode cX0_would 18 = .ok (.iload_n 3, 1) := by decide +kernel
theorem dX0_would_19 : decode cX0_would 19 = .ok (.invokevirtual 102, 3) := by decide +kernel
theorem dX0_would_22 : decode cX0_would 22 = .ok (.ireturn, 1) := by decide +kernel
set_option maxRecDepth 20000 in
theorem ggX0_comes_X0_requireRow : GoodIn wsX0_comes wsX0_requireRow := goodIn_ca (goodIn_r _ [6, 7, 8] (by decide +kernel) (by decide +kernel)) (goodIn_sub (fun _ h => List.mem_cons_of_mem _ (List.mem_append_right _ h)) (by decide +kernel))
set_option maxRecDepth 20000 in
theorem gX0_comes_X0_requireRow : GoodIn wsX0_comes (wsV RX0 59 RX0 yX0_requireRow wsX0_requireRow) := goodIn_app (goodIn_of _ (by decide +kernel)) ggX0_comes_X0_requireRow
set_option maxRecDepth 20000 in
theorem ggX0_comes_X0_isWhenMoved : GoodIn wsX0_comes wsX0_isWhenMoved := goodIn_r _ [12, 1, 13, 14, 15, 5, 16, 17, 18, 19, 20, 21, 22, 23, 24, 25, 26, 27, 28] (by decide +kernel) (by decide +kernel)
set_option maxRecDepth 20000 in
theorem gX0_comes_X0_isWhenMoved : GoodIn wsX0_comes (wsV RX0 132 RX0 yX0_isWhenMoved wsX0_isWhenMoved) := goodIn_app (goodIn_of _ (by decide +kernel)) ggX0_comes_X0_isWhenMoved
theorem dX0_comes_0 : decode cX0_comes 0 = .ok (.aload_n 0, 1) := by decide +kernel
theorem dX0_comes_1 : decode cX0_comes 1 = .ok (.iload_n 1, 1) := by decide +kernel
theorem dX0_comes_2 : decode cX0_comes 2 = .ok (.invokevirtual 59, 3) := by decide +kernel
theorem dX0_comes_5 : decode cX0_comes 5 = .ok (.aload_n 0, 1) := by decide +kernel
theorem dX0_comes_6 : decode cX0_comes 6 = .ok (.iload_n 2, 1) := by decide +kernel
theorem dX0_comes_7 : decode cX0_comes 7 = .ok (.invokevirtual 59, 3) := by decide +kernel
theorem dX0_comes_10 : decode cX0_comes 10 = .ok (.iconst 0, 1) := by decide +kernel
theorem dX0_comes_11 : decode cX0_comes 11 = .ok (.istore_n 3, 1) := by decide +kernel
theorem dX0_comes_12 : decode cX0_comes 12 = .ok (.iload_n 3, 1) := by decide +kernel
theorem dX0_comes_13 : decode cX0_comes 13 = .ok (.aload_n 0, 1) := by decide +kernel
theorem dX0_comes_14 : decode cX0_comes 14 = .ok (.getfield 84, 3) := by decide +kernel
theorem dX0_comes_17 : decode cX0_comes 17 = .ok (.if_icmp .ge 21, 3) := by decide +kernel
theorem dX0_comes_20 : decode cX0_comes 20 = .ok (.aload_n 0, 1) := by decide +kernel
theorem dX0_comes_21 : decode cX0_comes 21 = .ok (.iload_n 1, 1) := by decide +kernel
theorem dX0_comes_22 : decode cX0_comes 22 = .ok (.iload_n 3, 1) := by decide +kernel
theorem dX0_comes_23 : decode cX0_comes 23 = .ok (.iload_n 2, 1) := by decide +kernel
theorem dX0_comes_24 : decode cX0_comes 24 = .ok (.invokevirtual 132, 3) := by decide +kernel
theorem dX0_comes_27 : decode cX0_comes 27 = .ok (.ifCond .eq 5, 3) := by decide +kernel
theorem dX0_comes_30 : decode cX0_comes 30 = .ok (.iload_n 3, 1) := by decide +kernel
theorem dX0_comes_31 : decode cX0_comes 31 = .ok (.ireturn, 1) := by decide +kernel
theorem dX0_comes_32 : decode cX0_comes 32 = .ok (.iinc 3 1, 3) := by decide +kernel
theorem dX0_comes_35 : decode cX0_comes 35 = .ok (.goto (-23), 3) := by decide +kernel
theorem dX0_comes_38 : decode cX0_comes 38 = .ok (.iconst (-1), 1) := by decide +kernel
theorem dX0_comes_39 : decode cX0_comes 39 = .ok (.ireturn, 1) := by decide +kernel
set_option maxRecDepth 20000 in
theorem ggX0_advise_X0_requireRow : GoodIn wsX0_advise wsX0_requireRow := goodIn_ca (goodIn_r _ [6, 7, 8] (by decide +kernel) (by decide +kernel)) (goodIn_sub (fun _ h => List.mem_cons_of_mem _ (List.mem_append_right _ h)) (by decide +kernel))
set_option maxRecDepth 20000 in
theorem gX0_advise_X0_requireRow : GoodIn wsX0_advise (wsV RX0 59 RX0 yX0_requireRow wsX0_requireRow) := goodIn_app (goodIn_of _ (by decide +kernel)) ggX0_advise_X0_requireRow
set_option maxRecDepth 20000 in
theorem ggX0_advise_X0_soundWhenMoved : GoodIn wsX0_advise wsX0_soundWhenMoved := goodIn_r _ [12, 1, 13, 14, 15, 5, 16, 17, 18, 19, 20, 21, 22, 23, 24, 25, 26, 27, 28, 29, 30, 31, 32, 33, 34, 35, 36, 37] (by decide +kernel) (by decide +kernel)
set_option maxRecDepth 20000 in
theorem gX0_advise_X0_soundWhenMoved : GoodIn wsX0_advise (wsV RX0 136 RX0 yX0_soundWhenMoved wsX0_soundWhenMoved) := goodIn_app (goodIn_of _ (by decide +kernel)) ggX0_advise_X0_soundWhenMoved
theorem dX0_advise_0 : decode cX0_advise 0 = .ok (.aload_n 0, 1) := by decide +kernel
theorem dX0_advise_1 : decode cX0_advise 1 = .ok (.iload_n 1, 1) := by decide +kernel
theorem dX0_advise_2 : decode cX0_advise 2 = .ok (.invokevirtual 59, 3) := by decide +kernel
theorem dX0_advise_5 : decode cX0_advise 5 = .ok (.aload_n 0, 1) := by decide +kernel
theorem dX0_advise_6 : decode cX0_advise 6 = .ok (.iload_n 2, 1) := by decide +kernel
theorem dX0_advise_7 : decode cX0_advise 7 = .ok (.invokevirtual 59, 3) := by decide +kernel
theorem dX0_advise_10 : decode cX0_advise 10 = .ok (.iconst 0, 1) := by decide +kernel
theorem dX0_advise_11 : decode cX0_advise 11 = .ok (.istore_n 3, 1) := by decide +kernel
theorem dX0_advise_12 : decode cX0_advise 12 = .ok (.iconst (-1), 1) := by decide +kernel
theorem dX0_advise_13 : decode cX0_advise 13 = .ok (.istore 4, 2) := by decide +kernel
theorem dX0_advise_15 : decode cX0_advise 15 = .ok (.iconst 0, 1) := by decide +kernel
theorem dX0_advise_16 : decode cX0_advise 16 = .ok (.istore 5, 2) := by decide +kernel
theorem dX0_advise_18 : decode cX0_advise 18 = .ok (.iload 5, 2) := by decide +kernel
theorem dX0_advise_20 : decode cX0_advise 20 = .ok (.aload_n 0, 1) := by decide +kernel
theorem dX0_advise_21 : decode cX0_advise 21 = .ok (.getfield 84, 3) := by decide +kernel
theorem dX0_advise_24 : decode cX0_advise 24 = .ok (.if_icmp .ge 33, 3) := by decide +kernel
theorem dX0_advise_27 : decode cX0_advise 27 = .ok (.aload_n 0, 1) := by decide +kernel
theorem dX0_advise_28 : decode cX0_advise 28 = .ok (.iload_n 1, 1) := by decide +kernel
theorem dX0_advise_29 : decode cX0_advise 29 = .ok (.iload 5, 2) := by decide +kernel
theorem dX0_advise_31 : decode cX0_advise 31 = .ok (.iload_n 2, 1) := by decide +kernel
theorem dX0_advise_32 : decode cX0_advise 32 = .ok (.invokevirtual 136, 3) := by decide +kernel
theorem dX0_advise_35 : decode cX0_advise 35 = .ok (.istore 6, 2) := by decide +kernel
theorem dX0_advise_37 : decode cX0_advise 37 = .ok (.iload 6, 2) := by decide +kernel
theorem dX0_advise_39 : decode cX0_advise 39 = .ok (.iload 4, 2) := by decide +kernel
theorem dX0_advise_41 : decode cX0_advise 41 = .ok (.if_icmp .le 10, 3) := by decide +kernel
theorem dX0_advise_44 : decode cX0_advise 44 = .ok (.iload 6, 2) := by decide +kernel
theorem dX0_advise_46 : decode cX0_advise 46 = .ok (.istore 4, 2) := by decide +kernel
theorem dX0_advise_48 : decode cX0_advise 48 = .ok (.iload 5, 2) := by decide +kernel
theorem dX0_advise_50 : decode cX0_advise 50 = .ok (.istore_n 3, 1) := by decide +kernel
theorem dX0_advise_51 : decode cX0_advise 51 = .ok (.iinc 5 1, 3) := by decide +kernel
theorem dX0_advise_54 : decode cX0_advise 54 = .ok (.goto (-36), 3) := by decide +kernel
theorem dX0_advise_57 : decode cX0_advise 57 = .ok (.iload_n 3, 1) := by decide +kernel
theorem dX0_advise_58 : decode cX0_advise 58 = .ok (.ireturn, 1) := by decide +kernel
set_option maxRecDepth 20000 in
theorem ggX0_tones_X0_requireRow : GoodIn wsX0_tones wsX0_requireRow := goodIn_ca (goodIn_r _ [5, 6, 7] (by decide +kernel) (by decide +kernel)) (goodIn_sub (fun _ h => List.mem_cons_of_mem _ (List.mem_append_right _ h)) (by decide +kernel))
set_option maxRecDepth 20000 in
theorem gX0_tones_X0_requireRow : GoodIn wsX0_tones (wsV RX0 59 RX0 yX0_requireRow wsX0_requireRow) := goodIn_app (goodIn_of _ (by decide +kernel)) ggX0_tones_X0_requireRow
set_option maxRecDepth 20000 in
theorem ggX0_tones_X0_scratchTones : GoodIn wsX0_tones wsX0_scratchTones := goodIn_r _ [11, 12, 13, 14, 15, 4, 16, 17, 18, 19, 20, 21, 22, 23, 24, 25, 26, 27, 28, 29, 30, 31, 32, 33, 34, 35, 36, 37, 38, 39, 48, 49, 50, 51, 52, 53, 54] (by decide +kernel) (by decide +kernel)
set_option maxRecDepth 20000 in
theorem gX0_tones_X0_scratchTones : GoodIn wsX0_tones (wsV RX0 81 RX0 yX0_scratchTones wsX0_scratchTones) := goodIn_app (goodIn_of _ (by decide +kernel)) ggX0_tones_X0_scratchTones
set_option maxRecDepth 20000 in
theorem ggX0_tones_X0_isWhenMoved : GoodIn wsX0_tones wsX0_isWhenMoved := goodIn_r _ [43, 17, 44, 45, 46, 4, 47, 22, 23, 24, 25, 26, 48, 49, 50, 51, 52, 53, 54] (by decide +kernel) (by decide +kernel)
set_option maxRecDepth 20000 in
theorem gX0_tones_X0_isWhenMoved : GoodIn wsX0_tones (wsV RX0 132 RX0 yX0_isWhenMoved wsX0_isWhenMoved) := goodIn_app (goodIn_of _ (by decide +kernel)) ggX0_tones_X0_isWhenMoved
theorem dX0_tones_0 : decode cX0_tones 0 = .ok (.aload_n 0, 1) := by decide +kernel
theorem dX0_tones_1 : decode cX0_tones 1 = .ok (.iload_n 1, 1) := by decide +kernel
theorem dX0_tones_2 : decode cX0_tones 2 = .ok (.invokevirtual 59, 3) := by decide +kernel
theorem dX0_tones_5 : decode cX0_tones 5 = .ok (.aload_n 0, 1) := by decide +kernel
theorem dX0_tones_6 : decode cX0_tones 6 = .ok (.iload_n 2, 1) := by decide +kernel
theorem dX0_tones_7 : decode cX0_tones 7 = .ok (.invokevirtual 59, 3) := by decide +kernel
theorem dX0_tones_10 : decode cX0_tones 10 = .ok (.aload_n 0, 1) := by decide +kernel
theorem dX0_tones_11 : decode cX0_tones 11 = .ok (.iload_n 1, 1) := by decide +kernel
theorem dX0_tones_12 : decode cX0_tones 12 = .ok (.invokevirtual 81, 3) := by decide +kernel
theorem dX0_tones_15 : decode cX0_tones 15 = .ok (.aload_n 0, 1) := by decide +kernel
theorem dX0_tones_16 : decode cX0_tones 16 = .ok (.iconst 4, 1) := by decide +kernel
theorem dX0_tones_17 : decode cX0_tones 17 = .ok (.iconst 0, 1) := by decide +kernel
theorem dX0_tones_18 : decode cX0_tones 18 = .ok (.iload_n 2, 1) := by decide +kernel
theorem dX0_tones_19 : decode cX0_tones 19 = .ok (.invokevirtual 132, 3) := by decide +kernel
theorem dX0_tones_22 : decode cX0_tones 22 = .ok (.ireturn, 1) := by decide +kernel
set_option maxRecDepth 20000 in
theorem ggX0_mean_X0_requireRow : GoodIn wsX0_mean wsX0_requireRow := goodIn_ca (goodIn_r _ [6, 7, 8] (by decide +kernel) (by decide +kernel)) (goodIn_sub (fun _ h => List.mem_cons_of_mem _ (List.mem_append_right _ h)) (by decide +kernel))
set_option maxRecDepth 20000 in
theorem gX0_mean_X0_requireRow : GoodIn wsX0_mean (wsV RX0 59 RX0 yX0_requireRow wsX0_requireRow) := goodIn_app (goodIn_of _ (by decide +kernel)) ggX0_mean_X0_requireRow
set_option maxRecDepth 20000 in
theorem ggX0_mean_X0_plainSum : GoodIn wsX0_mean wsX0_plainSum := goodIn_r _ [12, 1, 13, 14, 15, 5, 16, 17, 18, 19, 20, 21, 22, 23, 24] (by decide +kernel) (by decide +kernel)
set_option maxRecDepth 20000 in
theorem gX0_mean_X0_plainSum : GoodIn wsX0_mean (wsV RX0 139 RX0 yX0_plainSum wsX0_plainSum) := goodIn_app (goodIn_of _ (by decide +kernel)) ggX0_mean_X0_plainSum
theorem dX0_mean_0 : decode cX0_mean 0 = .ok (.aload_n 0, 1) := by decide +kernel
theorem dX0_mean_1 : decode cX0_mean 1 = .ok (.iload_n 1, 1) := by decide +kernel
theorem dX0_mean_2 : decode cX0_mean 2 = .ok (.invokevirtual 59, 3) := by decide +kernel
theorem dX0_mean_5 : decode cX0_mean 5 = .ok (.aload_n 0, 1) := by decide +kernel
theorem dX0_mean_6 : decode cX0_mean 6 = .ok (.getfield 84, 3) := by decide +kernel
theorem dX0_mean_9 : decode cX0_mean 9 = .ok (.ifCond .le 18, 3) := by decide +kernel
theorem dX0_mean_12 : decode cX0_mean 12 = .ok (.aload_n 0, 1) := by decide +kernel
theorem dX0_mean_13 : decode cX0_mean 13 = .ok (.iload_n 1, 1) := by decide +kernel
theorem dX0_mean_14 : decode cX0_mean 14 = .ok (.invokevirtual 139, 3) := by decide +kernel
theorem dX0_mean_17 : decode cX0_mean 17 = .ok (.i2d, 1) := by decide +kernel
theorem dX0_mean_18 : decode cX0_mean 18 = .ok (.aload_n 0, 1) := by decide +kernel
theorem dX0_mean_19 : decode cX0_mean 19 = .ok (.getfield 84, 3) := by decide +kernel
theorem dX0_mean_22 : decode cX0_mean 22 = .ok (.i2d, 1) := by decide +kernel
theorem dX0_mean_23 : decode cX0_mean 23 = .ok (.ddiv, 1) := by decide +kernel
theorem dX0_mean_24 : decode cX0_mean 24 = .ok (.goto 4, 3) := by decide +kernel
theorem dX0_mean_27 : decode cX0_mean 27 = .ok (.dconst 0, 1) := by decide +kernel
theorem dX0_mean_28 : decode cX0_mean 28 = .ok (.dreturn, 1) := by decide +kernel
set_option maxRecDepth 20000 in
theorem ggX0_digest_X0_counted : GoodIn wsX0_digest wsX0_counted := goodIn_r _ [7, 8, 9, 10, 11, 12, 13, 83, 84, 85, 86, 87, 88, 89] (by decide +kernel) (by decide +kernel)
set_option maxRecDepth 20000 in
theorem gX0_digest_X0_counted : GoodIn wsX0_digest (wsV RX0 129 RX0 yX0_counted wsX0_counted) := goodIn_app (goodIn_of _ (by decide +kernel)) ggX0_digest_X0_counted
set_option maxRecDepth 20000 in
theorem ggX0_digest_X0_digestRow : GoodIn wsX0_digest wsX0_digestRow := goodIn_r _ [17, 8, 2, 18, 19, 20, 6, 21, 22, 83, 84, 85, 86, 87, 88, 89] (by decide +kernel) (by decide +kernel)
set_option maxRecDepth 20000 in
theorem gX0_digest_X0_digestRow : GoodIn wsX0_digest (wsV RX0 146 RX0 yX0_digestRow wsX0_digestRow) := goodIn_app (goodIn_of _ (by decide +kernel)) ggX0_digest_X0_digestRow
set_option maxRecDepth 20000 in
theorem ggX0_digest_X0_told : GoodIn wsX0_digest wsX0_told := goodIn_r _ [26, 27, 28, 29, 6, 30, 8, 18, 19, 20, 21, 22, 31, 32, 33, 34, 9, 35, 36, 37, 38, 39, 40, 41, 42, 43, 44, 45, 46, 47, 48, 49, 50, 51, 52, 53, 54, 55, 56, 57, 58, 59, 60, 61, 62, 63, 64, 65, 66, 83, 84, 85, 86, 87, 88, 89] (by decide +kernel) (by decide +kernel)
set_option maxRecDepth 20000 in
theorem gX0_digest_X0_told : GoodIn wsX0_digest (wsV RX0 124 RX0 yX0_told wsX0_told) := goodIn_app (goodIn_of _ (by decide +kernel)) ggX0_digest_X0_told
set_option maxRecDepth 20000 in
theorem ggX0_digest_X0_scratchTones : GoodIn wsX0_digest wsX0_scratchTones := goodIn_r _ [70, 10, 71, 72, 73, 6, 74, 8, 75, 76, 77, 78, 18, 19, 20, 21, 22, 31, 32, 33, 34, 9, 35, 36, 37, 38, 79, 80, 81, 82, 83, 84, 85, 86, 87, 88, 89] (by decide +kernel) (by decide +kernel)
set_option maxRecDepth 20000 in
theorem gX0_digest_X0_scratchTones : GoodIn wsX0_digest (wsV RX0 81 RX0 yX0_scratchTones wsX0_scratchTones) := goodIn_app (goodIn_of _ (by decide +kernel)) ggX0_digest_X0_scratchTones
theorem dX0_digest_0 : decode cX0_digest 0 = .ok (.ldc2_w 142, 3) := by decide +kernel
theorem dX0_digest_3 : decode cX0_digest 3 = .ok (.lstore_n 1, 1) := by decide +kernel
theorem dX0_digest_4 : decode cX0_digest 4 = .ok (.iconst 0, 1) := by decide +kernel
theorem dX0_digest_5 : decode cX0_digest 5 = .ok (.istore_n 3, 1) := by decide +kernel
theorem dX0_digest_6 : decode cX0_digest 6 = .ok (.iload_n 3, 1) := by decide +kernel
theorem dX0_digest_7 : decode cX0_digest 7 = .ok (.bipush 6, 2) := by decide +kernel
theorem dX0_digest_9 : decode cX0_digest 9 = .ok (.if_icmp .ge 22, 3) := by decide +kernel
theorem dX0_digest_12 : decode cX0_digest 12 = .ok (.lload_n 1, 1) := by decide +kernel
theorem dX0_digest_13 : decode cX0_digest 13 = .ok (.ldc2_w 144, 3) := by decide +kernel
theorem dX0_digest_16 : decode cX0_digest 16 = .ok (.lmul, 1) := by decide +kernel
theorem dX0_digest_17 : decode cX0_digest 17 = .ok (.aload_n 0, 1) := by decide +kernel
theorem dX0_digest_18 : decode cX0_digest 18 = .ok (.iload_n 3, 1) := by decide +kernel
theorem dX0_digest_19 : decode cX0_digest 19 = .ok (.invokevirtual 129, 3) := by decide +kernel
theorem dX0_digest_22 : decode cX0_digest 22 = .ok (.i2l, 1) := by decide +kernel
theorem dX0_digest_23 : decode cX0_digest 23 = .ok (.ladd, 1) := by decide +kernel
theorem dX0_digest_24 : decode cX0_digest 24 = .ok (.lstore_n 1, 1) := by decide +kernel
theorem dX0_digest_25 : decode cX0_digest 25 = .ok (.iinc 3 1, 3) := by decide +kernel
theorem dX0_digest_28 : decode cX0_digest 28 = .ok (.goto (-22), 3) := by decide +kernel
theorem dX0_digest_31 : decode cX0_digest 31 = .ok (.iconst 0, 1) := by decide +kernel
theorem dX0_digest_32 : decode cX0_digest 32 = .ok (.istore_n 3, 1) := by decide +kernel
theorem dX0_digest_33 : decode cX0_digest 33 = .ok (.iload_n 3, 1) := by decide +kernel
theorem dX0_digest_34 : decode cX0_digest 34 = .ok (.iconst 4, 1) := by decide +kernel
theorem dX0_digest_35 : decode cX0_digest 35 = .ok (.if_icmp .ge 58, 3) := by decide +kernel
theorem dX0_digest_38 : decode cX0_digest 38 = .ok (.aload_n 0, 1) := by decide +kernel
theorem dX0_digest_39 : decode cX0_digest 39 = .ok (.lload_n 1, 1) := by decide +kernel
theorem dX0_digest_40 : decode cX0_digest 40 = .ok (.iload_n 3, 1) := by decide +kernel
theorem dX0_digest_41 : decode cX0_digest 41 = .ok (.invokevirtual 146, 3) := by decide +kernel
theorem dX0_digest_44 : decode cX0_digest 44 = .ok (.lstore_n 1, 1) := by decide +kernel
theorem dX0_digest_45 : decode cX0_digest 45 = .ok (.iconst 0, 1) := by decide +kernel
theorem dX0_digest_46 : decode cX0_digest 46 = .ok (.istore 4, 2) := by decide +kernel
theorem dX0_digest_48 : decode cX0_digest 48 = .ok (.iload 4, 2) := by decide +kernel
theorem dX0_digest_50 : decode cX0_digest 50 = .ok (.iconst 5, 1) := by decide +kernel
theorem dX0_digest_51 : decode cX0_digest 51 = .ok (.if_icmp .ge 24, 3) := by decide +kernel
theorem dX0_digest_54 : decode cX0_digest 54 = .ok (.lload_n 1, 1) := by decide +kernel
theorem dX0_digest_55 : decode cX0_digest 55 = .ok (.ldc2_w 144, 3) := by decide +kernel
theorem dX0_digest_58 : decode cX0_digest 58 = .ok (.lmul, 1) := by decide +kernel
theorem dX0_digest_59 : decode cX0_digest 59 = .ok (.aload_n 0, 1) := by decide +kernel
theorem dX0_digest_60 : decode cX0_digest 60 = .ok (.iload_n 3, 1) := by decide +kernel
theorem dX0_digest_61 : decode cX0_digest 61 = .ok (.iload 4, 2) := by decide +kernel
theorem dX0_digest_63 : decode cX0_digest 63 = .ok (.invokevirtual 124, 3) := by decide +kernel
theorem dX0_digest_66 : decode cX0_digest 66 = .ok (.i2l, 1) := by decide +kernel
theorem dX0_digest_67 : decode cX0_digest 67 = .ok (.ladd, 1) := by decide +kernel
theorem dX0_digest_68 : decode cX0_digest 68 = .ok (.lstore_n 1, 1) := by decide +kernel
theorem dX0_digest_69 : decode cX0_digest 69 = .ok (.iinc 4 1, 3) := by decide +kernel
theorem dX0_digest_72 : decode cX0_digest 72 = .ok (.goto (-24), 3) := by decide +kernel
theorem dX0_digest_75 : decode cX0_digest 75 = .ok (.aload_n 0, 1) := by decide +kernel
theorem dX0_digest_76 : decode cX0_digest 76 = .ok (.iload_n 3, 1) := by decide +kernel
theorem dX0_digest_77 : decode cX0_digest 77 = .ok (.invokevirtual 81, 3) := by decide +kernel
theorem dX0_digest_80 : decode cX0_digest 80 = .ok (.aload_n 0, 1) := by decide +kernel
theorem dX0_digest_81 : decode cX0_digest 81 = .ok (.lload_n 1, 1) := by decide +kernel
theorem dX0_digest_82 : decode cX0_digest 82 = .ok (.iconst 4, 1) := by decide +kernel
theorem dX0_digest_83 : decode cX0_digest 83 = .ok (.invokevirtual 146, 3) := by decide +kernel
theorem dX0_digest_86 : decode cX0_digest 86 = .ok (.lstore_n 1, 1) := by decide +kernel
theorem dX0_digest_87 : decode cX0_digest 87 = .ok (.iinc 3 1, 3) := by decide +kernel
theorem dX0_digest_90 : decode cX0_digest 90 = .ok (.goto (-57), 3) := by decide +kernel
theorem dX0_digest_93 : decode cX0_digest 93 = .ok (.lload_n 1, 1) := by decide +kernel
theorem dX0_digest_94 : decode cX0_digest 94 = .ok (.lreturn, 1) := by decide +kernel
theorem dX0_requireRow_0 : decode cX0_requireRow 0 = .ok (.iload_n 1, 1) := by decide +kernel
theorem dX0_requireRow_1 : decode cX0_requireRow 1 = .ok (.ifCond .lt 8, 3) := by decide +kernel
theorem dX0_requireRow_4 : decode cX0_requireRow 4 = .ok (.iload_n 1, 1) := by decide +kernel
theorem dX0_requireRow_5 : decode cX0_requireRow 5 = .ok (.iconst 4, 1) := by decide +kernel
theorem dX0_requireRow_6 : decode cX0_requireRow 6 = .ok (.if_icmp .lt 13, 3) := by decide +kernel
theorem dX0_requireRow_9 : decode cX0_requireRow 9 = .ok (.new 93, 3) := by decide +kernel
theorem dX0_requireRow_12 : decode cX0_requireRow 12 = .ok (.dup, 1) := by decide +kernel
theorem dX0_requireRow_13 : decode cX0_requireRow 13 = .ok (.ldc 150, 2) := by decide +kernel
theorem dX0_requireRow_15 : decode cX0_requireRow 15 = .ok (.invokespecial 97, 3) := by decide +kernel
theorem dX0_requireRow_18 : decode cX0_requireRow 18 = .ok (.athrow, 1) := by decide +kernel
theorem dX0_requireRow_19 : decode cX0_requireRow 19 = .ok (.return_, 1) := by decide +kernel
theorem dX0_requirePlace_0 : decode cX0_requirePlace 0 = .ok (.iload_n 1, 1) := by decide +kernel
theorem dX0_requirePlace_1 : decode cX0_requirePlace 1 = .ok (.ifCond .lt 11, 3) := by decide +kernel
theorem dX0_requirePlace_4 : decode cX0_requirePlace 4 = .ok (.iload_n 1, 1) := by decide +kernel
theorem dX0_requirePlace_5 : decode cX0_requirePlace 5 = .ok (.aload_n 0, 1) := by decide +kernel
theorem dX0_requirePlace_6 : decode cX0_requirePlace 6 = .ok (.getfield 84, 3) := by decide +kernel
theorem dX0_requirePlace_9 : decode cX0_requirePlace 9 = .ok (.if_icmp .lt 13, 3) := by decide +kernel
theorem dX0_requirePlace_12 : decode cX0_requirePlace 12 = .ok (.new 93, 3) := by decide +kernel
theorem dX0_requirePlace_15 : decode cX0_requirePlace 15 = .ok (.dup, 1) := by decide +kernel
theorem dX0_requirePlace_16 : decode cX0_requirePlace 16 = .ok (.ldc 152, 2) := by decide +kernel
theorem dX0_requirePlace_18 : decode cX0_requirePlace 18 = .ok (.invokespecial 97, 3) := by decide +kernel
theorem dX0_requirePlace_21 : decode cX0_requirePlace 21 = .ok (.athrow, 1) := by decide +kernel
theorem dX0_requirePlace_22 : decode cX0_requirePlace 22 = .ok (.return_, 1) := by decide +kernel
theorem dX0_requireNumber_0 : decode cX0_requireNumber 0 = .ok (.iload_n 1, 1) := by decide +kernel
theorem dX0_requireNumber_1 : decode cX0_requireNumber 1 = .ok (.ifCond .lt 11, 3) := by decide +kernel
theorem dX0_requireNumber_4 : decode cX0_requireNumber 4 = .ok (.iload_n 1, 1) := by decide +kernel
theorem dX0_requireNumber_5 : decode cX0_requireNumber 5 = .ok (.aload_n 0, 1) := by decide +kernel
theorem dX0_requireNumber_6 : decode cX0_requireNumber 6 = .ok (.getfield 43, 3) := by decide +kernel
theorem dX0_requireNumber_9 : decode cX0_requireNumber 9 = .ok (.if_icmp .lt 13, 3) := by decide +kernel
theorem dX0_requireNumber_12 : decode cX0_requireNumber 12 = .ok (.new 28, 3) := by decide +kernel
theorem dX0_requireNumber_15 : decode cX0_requireNumber 15 = .ok (.dup, 1) := by decide +kernel
theorem dX0_requireNumber_16 : decode cX0_requireNumber 16 = .ok (.ldc 154, 2) := by decide +kernel
theorem dX0_requireNumber_18 : decode cX0_requireNumber 18 = .ok (.invokespecial 32, 3) := by decide +kernel
theorem dX0_requireNumber_21 : decode cX0_requireNumber 21 = .ok (.athrow, 1) := by decide +kernel
theorem dX0_requireNumber_22 : decode cX0_requireNumber 22 = .ok (.return_, 1) := by decide +kernel
theorem dX0_requireInvertible_0 : decode cX0_requireInvertible 0 = .ok (.iload_n 1, 1) := by decide +kernel
theorem dX0_requireInvertible_1 : decode cX0_requireInvertible 1 = .ok (.iconst 1, 1) := by decide +kernel
theorem dX0_requireInvertible_2 : decode cX0_requireInvertible 2 = .ok (.if_icmp .lt 11, 3) := by decide +kernel
theorem dX0_requireInvertible_5 : decode cX0_requireInvertible 5 = .ok (.iload_n 1, 1) := by decide +kernel
theorem dX0_requireInvertible_6 : decode cX0_requireInvertible 6 = .ok (.aload_n 0, 1) := by decide +kernel
theorem dX0_requireInvertible_7 : decode cX0_requireInvertible 7 = .ok (.getfield 43, 3) := by decide +kernel
theorem dX0_requireInvertible_10 : decode cX0_requireInvertible 10 = .ok (.if_icmp .lt 13, 3) := by decide +kernel
theorem dX0_requireInvertible_13 : decode cX0_requireInvertible 13 = .ok (.new 28, 3) := by decide +kernel
theorem dX0_requireInvertible_16 : decode cX0_requireInvertible 16 = .ok (.dup, 1) := by decide +kernel
theorem dX0_requireInvertible_17 : decode cX0_requireInvertible 17 = .ok (.ldc 156, 2) := by decide +kernel
theorem dX0_requireInvertible_19 : decode cX0_requireInvertible 19 = .ok (.invokespecial 32, 3) := by decide +kernel
theorem dX0_requireInvertible_22 : decode cX0_requireInvertible 22 = .ok (.athrow, 1) := by decide +kernel
theorem dX0_requireInvertible_23 : decode cX0_requireInvertible 23 = .ok (.return_, 1) := by decide +kernel
theorem dX0_isLength_0 : decode cX0_isLength 0 = .ok (.iload_n 0, 1) := by decide +kernel
theorem dX0_isLength_1 : decode cX0_isLength 1 = .ok (.iconst 4, 1) := by decide +kernel
theorem dX0_isLength_2 : decode cX0_isLength 2 = .ok (.if_icmp .eq 15, 3) := by decide +kernel
theorem dX0_isLength_5 : decode cX0_isLength 5 = .ok (.iload_n 0, 1) := by decide +kernel
theorem dX0_isLength_6 : decode cX0_isLength 6 = .ok (.bipush 8, 2) := by decide +kernel
theorem dX0_isLength_8 : decode cX0_isLength 8 = .ok (.if_icmp .eq 9, 3) := by decide +kernel
theorem dX0_isLength_11 : decode cX0_isLength 11 = .ok (.iload_n 0, 1) := by decide +kernel
theorem dX0_isLength_12 : decode cX0_isLength 12 = .ok (.bipush 16, 2) := by decide +kernel
theorem dX0_isLength_14 : decode cX0_isLength 14 = .ok (.if_icmp .ne 7, 3) := by decide +kernel
theorem dX0_isLength_17 : decode cX0_isLength 17 = .ok (.iconst 1, 1) := by decide +kernel
theorem dX0_isLength_18 : decode cX0_isLength 18 = .ok (.goto 4, 3) := by decide +kernel
theorem dX0_isLength_21 : decode cX0_isLength 21 = .ok (.iconst 0, 1) := by decide +kernel
theorem dX0_isLength_22 : decode cX0_isLength 22 = .ok (.ireturn, 1) := by decide +kernel
set_option maxRecDepth 20000 in
theorem ggX0_isPrimeOfRing_X0_divides : GoodIn wsX0_isPrimeOfRing wsX0_divides := goodIn_r _ [4] (by decide +kernel) (by decide +kernel)
set_option maxRecDepth 20000 in
theorem gX0_isPrimeOfRing_X0_divides : GoodIn wsX0_isPrimeOfRing (va_wsS RX0 24 yX0_divides wsX0_divides) := goodIn_app (goodIn_of _ (by decide +kernel)) ggX0_isPrimeOfRing_X0_divides
theorem dX0_isPrimeOfRing_0 : decode cX0_isPrimeOfRing 0 = .ok (.iload_n 0, 1) := by decide +kernel
theorem dX0_isPrimeOfRing_1 : decode cX0_isPrimeOfRing 1 = .ok (.iconst 5, 1) := by decide +kernel
theorem dX0_isPrimeOfRing_2 : decode cX0_isPrimeOfRing 2 = .ok (.if_icmp .lt 10, 3) := by decide +kernel
theorem dX0_isPrimeOfRing_5 : decode cX0_isPrimeOfRing 5 = .ok (.iload_n 0, 1) := by decide +kernel
theorem dX0_isPrimeOfRing_6 : decode cX0_isPrimeOfRing 6 = .ok (.sipush 499, 3) := by decide +kernel
theorem dX0_isPrimeOfRing_9 : decode cX0_isPrimeOfRing 9 = .ok (.if_icmp .le 5, 3) := by decide +kernel
theorem dX0_isPrimeOfRing_12 : decode cX0_isPrimeOfRing 12 = .ok (.iconst 0, 1) := by decide +kernel
theorem dX0_isPrimeOfRing_13 : decode cX0_isPrimeOfRing 13 = .ok (.ireturn, 1) := by decide +kernel
theorem dX0_isPrimeOfRing_14 : decode cX0_isPrimeOfRing 14 = .ok (.iconst 2, 1) := by decide +kernel
theorem dX0_isPrimeOfRing_15 : decode cX0_isPrimeOfRing 15 = .ok (.istore_n 1, 1) := by decide +kernel
theorem dX0_isPrimeOfRing_16 : decode cX0_isPrimeOfRing 16 = .ok (.iload_n 1, 1) := by decide +kernel
theorem dX0_isPrimeOfRing_17 : decode cX0_isPrimeOfRing 17 = .ok (.iload_n 1, 1) := by decide +kernel
theorem dX0_isPrimeOfRing_18 : decode cX0_isPrimeOfRing 18 = .ok (.imul, 1) := by decide +kernel
theorem dX0_isPrimeOfRing_19 : decode cX0_isPrimeOfRing 19 = .ok (.iload_n 0, 1) := by decide +kernel
theorem dX0_isPrimeOfRing_20 : decode cX0_isPrimeOfRing 20 = .ok (.if_icmp .gt 19, 3) := by decide +kernel
theorem dX0_isPrimeOfRing_23 : decode cX0_isPrimeOfRing 23 = .ok (.iload_n 1, 1) := by decide +kernel
theorem dX0_isPrimeOfRing_24 : decode cX0_isPrimeOfRing 24 = .ok (.iload_n 0, 1) := by decide +kernel
theorem dX0_isPrimeOfRing_25 : decode cX0_isPrimeOfRing 25 = .ok (.invokestatic 24, 3) := by decide +kernel
theorem dX0_isPrimeOfRing_28 : decode cX0_isPrimeOfRing 28 = .ok (.ifCond .eq 5, 3) := by decide +kernel
theorem dX0_isPrimeOfRing_31 : decode cX0_isPrimeOfRing 31 = .ok (.iconst 0, 1) := by decide +kernel
theorem dX0_isPrimeOfRing_32 : decode cX0_isPrimeOfRing 32 = .ok (.ireturn, 1) := by decide +kernel
theorem dX0_isPrimeOfRing_33 : decode cX0_isPrimeOfRing 33 = .ok (.iinc 1 1, 3) := by decide +kernel
theorem dX0_isPrimeOfRing_36 : decode cX0_isPrimeOfRing 36 = .ok (.goto (-20), 3) := by decide +kernel
theorem dX0_isPrimeOfRing_39 : decode cX0_isPrimeOfRing 39 = .ok (.iconst 1, 1) := by decide +kernel
theorem dX0_isPrimeOfRing_40 : decode cX0_isPrimeOfRing 40 = .ok (.ireturn, 1) := by decide +kernel
theorem dX0_divides_0 : decode cX0_divides 0 = .ok (.iload_n 0, 1) := by decide +kernel
theorem dX0_divides_1 : decode cX0_divides 1 = .ok (.ifCond .le 13, 3) := by decide +kernel
theorem dX0_divides_4 : decode cX0_divides 4 = .ok (.iload_n 1, 1) := by decide +kernel
theorem dX0_divides_5 : decode cX0_divides 5 = .ok (.iload_n 0, 1) := by decide +kernel
theorem dX0_divides_6 : decode cX0_divides 6 = .ok (.irem, 1) := by decide +kernel
theorem dX0_divides_7 : decode cX0_divides 7 = .ok (.ifCond .ne 7, 3) := by decide +kernel
theorem dX0_divides_10 : decode cX0_divides 10 = .ok (.iconst 1, 1) := by decide +kernel
theorem dX0_divides_11 : decode cX0_divides 11 = .ok (.goto 4, 3) := by decide +kernel
theorem dX0_divides_14 : decode cX0_divides 14 = .ok (.iconst 0, 1) := by decide +kernel
theorem dX0_divides_15 : decode cX0_divides 15 = .ok (.ireturn, 1) := by decide +kernel
set_option maxRecDepth 20000 in
theorem ggX0_takeRing_X0_smallestRoot : GoodIn wsX0_takeRing wsX0_smallestRoot := goodIn_r _ [12, 2, 1, 13, 14, 15, 11, 16, 17, 18, 19, 20, 21, 22, 23, 24, 29, 30, 31, 32, 33, 34, 35] (by decide +kernel) (by decide +kernel)
set_option maxRecDepth 20000 in
theorem gX0_takeRing_X0_smallestRoot : GoodIn wsX0_takeRing (wsV RX0 158 RX0 yX0_smallestRoot wsX0_smallestRoot) := goodIn_app (goodIn_of _ (by decide +kernel)) ggX0_takeRing_X0_smallestRoot
set_option maxRecDepth 20000 in
theorem ggX0_takeRing_X0_inverseOf : GoodIn wsX0_takeRing wsX0_inverseOf := goodIn_r _ [28, 2, 13, 14, 15, 11, 16, 17, 18, 19, 20, 21, 22, 23, 24, 29, 30, 31, 32, 33, 34, 35] (by decide +kernel) (by decide +kernel)
set_option maxRecDepth 20000 in
theorem gX0_takeRing_X0_inverseOf : GoodIn wsX0_takeRing (wsV RX0 50 RX0 yX0_inverseOf wsX0_inverseOf) := goodIn_app (goodIn_of _ (by decide +kernel)) ggX0_takeRing_X0_inverseOf
theorem dX0_takeRing_0 : decode cX0_takeRing 0 = .ok (.aload_n 0, 1) := by decide +kernel
theorem dX0_takeRing_1 : decode cX0_takeRing 1 = .ok (.iload_n 1, 1) := by decide +kernel
theorem dX0_takeRing_2 : decode cX0_takeRing 2 = .ok (.putfield 84, 3) := by decide +kernel
theorem dX0_takeRing_5 : decode cX0_takeRing 5 = .ok (.aload_n 0, 1) := by decide +kernel
theorem dX0_takeRing_6 : decode cX0_takeRing 6 = .ok (.iload_n 2, 1) := by decide +kernel
theorem dX0_takeRing_7 : decode cX0_takeRing 7 = .ok (.putfield 43, 3) := by decide +kernel
theorem dX0_takeRing_10 : decode cX0_takeRing 10 = .ok (.aload_n 0, 1) := by decide +kernel
theorem dX0_takeRing_11 : decode cX0_takeRing 11 = .ok (.iload_n 1, 1) := by decide +kernel
theorem dX0_takeRing_12 : decode cX0_takeRing 12 = .ok (.iconst 4, 1) := by decide +kernel
theorem dX0_takeRing_13 : decode cX0_takeRing 13 = .ok (.if_icmp .ne 7, 3) := by decide +kernel
theorem dX0_takeRing_16 : decode cX0_takeRing 16 = .ok (.iconst 2, 1) := by decide +kernel
theorem dX0_takeRing_17 : decode cX0_takeRing 17 = .ok (.goto 14, 3) := by decide +kernel
theorem dX0_takeRing_20 : decode cX0_takeRing 20 = .ok (.iload_n 1, 1) := by decide +kernel
theorem dX0_takeRing_21 : decode cX0_takeRing 21 = .ok (.bipush 8, 2) := by decide +kernel
theorem dX0_takeRing_23 : decode cX0_takeRing 23 = .ok (.if_icmp .ne 7, 3) := by decide +kernel
theorem dX0_takeRing_26 : decode cX0_takeRing 26 = .ok (.iconst 3, 1) := by decide +kernel
theorem dX0_takeRing_27 : decode cX0_takeRing 27 = .ok (.goto 4, 3) := by decide +kernel
theorem dX0_takeRing_30 : decode cX0_takeRing 30 = .ok (.iconst 4, 1) := by decide +kernel
theorem dX0_takeRing_31 : decode cX0_takeRing 31 = .ok (.putfield 90, 3) := by decide +kernel
theorem dX0_takeRing_34 : decode cX0_takeRing 34 = .ok (.aload_n 0, 1) := by decide +kernel
theorem dX0_takeRing_35 : decode cX0_takeRing 35 = .ok (.aload_n 0, 1) := by decide +kernel
theorem dX0_takeRing_36 : decode cX0_takeRing 36 = .ok (.invokevirtual 158, 3) := by decide +kernel
theorem dX0_takeRing_39 : decode cX0_takeRing 39 = .ok (.putfield 35, 3) := by decide +kernel
theorem dX0_takeRing_42 : decode cX0_takeRing 42 = .ok (.aload_n 0, 1) := by decide +kernel
theorem dX0_takeRing_43 : decode cX0_takeRing 43 = .ok (.aload_n 0, 1) := by decide +kernel
theorem dX0_takeRing_44 : decode cX0_takeRing 44 = .ok (.aload_n 0, 1) := by decide +kernel
theorem dX0_takeRing_45 : decode cX0_takeRing 45 = .ok (.getfield 35, 3) := by decide +kernel
theorem dX0_takeRing_48 : decode cX0_takeRing 48 = .ok (.invokevirtual 50, 3) := by decide +kernel
theorem dX0_takeRing_51 : decode cX0_takeRing 51 = .ok (.putfield 162, 3) := by decide +kernel
theorem dX0_takeRing_54 : decode cX0_takeRing 54 = .ok (.aload_n 0, 1) := by decide +kernel
theorem dX0_takeRing_55 : decode cX0_takeRing 55 = .ok (.aload_n 0, 1) := by decide +kernel
theorem dX0_takeRing_56 : decode cX0_takeRing 56 = .ok (.iload_n 1, 1) := by decide +kernel
theorem dX0_takeRing_57 : decode cX0_takeRing 57 = .ok (.invokevirtual 50, 3) := by decide +kernel
theorem dX0_takeRing_60 : decode cX0_takeRing 60 = .ok (.putfield 165, 3) := by decide +kernel
theorem dX0_takeRing_63 : decode cX0_takeRing 63 = .ok (.iconst 0, 1) := by decide +kernel
theorem dX0_takeRing_64 : decode cX0_takeRing 64 = .ok (.istore_n 3, 1) := by decide +kernel
theorem dX0_takeRing_65 : decode cX0_takeRing 65 = .ok (.iload_n 3, 1) := by decide +kernel
theorem dX0_takeRing_66 : decode cX0_takeRing 66 = .ok (.aload_n 0, 1) := by decide +kernel
theorem dX0_takeRing_67 : decode cX0_takeRing 67 = .ok (.getfield 9, 3) := by decide +kernel
theorem dX0_takeRing_70 : decode cX0_takeRing 70 = .ok (.arraylength, 1) := by decide +kernel
theorem dX0_takeRing_71 : decode cX0_takeRing 71 = .ok (.if_icmp .ge 16, 3) := by decide +kernel
theorem dX0_takeRing_74 : decode cX0_takeRing 74 = .ok (.aload_n 0, 1) := by decide +kernel
theorem dX0_takeRing_75 : decode cX0_takeRing 75 = .ok (.getfield 9, 3) := by decide +kernel
theorem dX0_takeRing_78 : decode cX0_takeRing 78 = .ok (.iload_n 3, 1) := by decide +kernel
theorem dX0_takeRing_79 : decode cX0_takeRing 79 = .ok (.iconst 0, 1) := by decide +kernel
theorem dX0_takeRing_80 : decode cX0_takeRing 80 = .ok (.iastore, 1) := by decide +kernel
theorem dX0_takeRing_81 : decode cX0_takeRing 81 = .ok (.iinc 3 1, 3) := by decide +kernel
theorem dX0_takeRing_84 : decode cX0_takeRing 84 = .ok (.goto (-19), 3) := by decide +kernel
theorem dX0_takeRing_87 : decode cX0_takeRing 87 = .ok (.return_, 1) := by decide +kernel
set_option maxRecDepth 20000 in
theorem ggX0_smallestRoot_X0_powerOf : GoodIn wsX0_smallestRoot wsX0_powerOf := goodIn_r _ [7, 8, 9, 10, 6, 11, 1, 12, 13, 14, 15, 16, 17, 18, 19, 20, 21, 22] (by decide +kernel) (by decide +kernel)
set_option maxRecDepth 20000 in
theorem gX0_smallestRoot_X0_powerOf : GoodIn wsX0_smallestRoot (wsV RX0 55 RX0 yX0_powerOf wsX0_powerOf) := goodIn_app (goodIn_of _ (by decide +kernel)) ggX0_smallestRoot_X0_powerOf
theorem dX0_smallestRoot_0 : decode cX0_smallestRoot 0 = .ok (.iconst 2, 1) := by decide +kernel
theorem dX0_smallestRoot_1 : decode cX0_smallestRoot 1 = .ok (.istore_n 1, 1) := by decide +kernel
theorem dX0_smallestRoot_2 : decode cX0_smallestRoot 2 = .ok (.iload_n 1, 1) := by decide +kernel
theorem dX0_smallestRoot_3 : decode cX0_smallestRoot 3 = .ok (.aload_n 0, 1) := by decide +kernel
theorem dX0_smallestRoot_4 : decode cX0_smallestRoot 4 = .ok (.getfield 43, 3) := by decide +kernel
theorem dX0_smallestRoot_7 : decode cX0_smallestRoot 7 = .ok (.iconst 1, 1) := by decide +kernel
theorem dX0_smallestRoot_8 : decode cX0_smallestRoot 8 = .ok (.isub, 1) := by decide +kernel
theorem dX0_smallestRoot_9 : decode cX0_smallestRoot 9 = .ok (.if_icmp .ge 29, 3) := by decide +kernel
theorem dX0_smallestRoot_12 : decode cX0_smallestRoot 12 = .ok (.aload_n 0, 1) := by decide +kernel
theorem dX0_smallestRoot_13 : decode cX0_smallestRoot 13 = .ok (.iload_n 1, 1) := by decide +kernel
theorem dX0_smallestRoot_14 : decode cX0_smallestRoot 14 = .ok (.aload_n 0, 1) := by decide +kernel
theorem dX0_smallestRoot_15 : decode cX0_smallestRoot 15 = .ok (.getfield 84, 3) := by decide +kernel
theorem dX0_smallestRoot_18 : decode cX0_smallestRoot 18 = .ok (.iconst 1, 1) := by decide +kernel
theorem dX0_smallestRoot_19 : decode cX0_smallestRoot 19 = .ok (.ishr, 1) := by decide +kernel
theorem dX0_smallestRoot_20 : decode cX0_smallestRoot 20 = .ok (.invokevirtual 55, 3) := by decide +kernel
theorem dX0_smallestRoot_23 : decode cX0_smallestRoot 23 = .ok (.aload_n 0, 1) := by decide +kernel
theorem dX0_smallestRoot_24 : decode cX0_smallestRoot 24 = .ok (.getfield 43, 3) := by decide +kernel
theorem dX0_smallestRoot_27 : decode cX0_smallestRoot 27 = .ok (.iconst 1, 1) := by decide +kernel
theorem dX0_smallestRoot_28 : decode cX0_smallestRoot 28 = .ok (.isub, 1) := by decide +kernel
theorem dX0_smallestRoot_29 : decode cX0_smallestRoot 29 = .ok (.if_icmp .eq 9, 3) := by decide +kernel
theorem dX0_smallestRoot_32 : decode cX0_smallestRoot 32 = .ok (.iinc 1 1, 3) := by decide +kernel
theorem dX0_smallestRoot_35 : decode cX0_smallestRoot 35 = .ok (.goto (-33), 3) := by decide +kernel
theorem dX0_smallestRoot_38 : decode cX0_smallestRoot 38 = .ok (.iload_n 1, 1) := by decide +kernel
theorem dX0_smallestRoot_39 : decode cX0_smallestRoot 39 = .ok (.ireturn, 1) := by decide +kernel
set_option maxRecDepth 20000 in
theorem ggX0_reduced_J9_floorMod_7cf53 : GoodIn wsX0_reduced wsJ9_floorMod_7cf53 := goodIn_r _ [5] (by decide +kernel) (by decide +kernel)
set_option maxRecDepth 20000 in
theorem gX0_reduced_J9_floorMod_7cf53 : GoodIn wsX0_reduced (va_wsS RX0 168 yJ9_floorMod_7cf53 wsJ9_floorMod_7cf53) := goodIn_app (goodIn_of _ (by decide +kernel)) ggX0_reduced_J9_floorMod_7cf53
theorem dX0_reduced_0 : decode cX0_reduced 0 = .ok (.aload_n 0, 1) := by decide +kernel
theorem dX0_reduced_1 : decode cX0_reduced 1 = .ok (.getfield 43, 3) := by decide +kernel
theorem dX0_reduced_4 : decode cX0_reduced 4 = .ok (.ifCond .le 14, 3) := by decide +kernel
theorem dX0_reduced_7 : decode cX0_reduced 7 = .ok (.iload_n 1, 1) := by decide +kernel
theorem dX0_reduced_8 : decode cX0_reduced 8 = .ok (.aload_n 0, 1) := by decide +kernel
theorem dX0_reduced_9 : decode cX0_reduced 9 = .ok (.getfield 43, 3) := by decide +kernel
theorem dX0_reduced_12 : decode cX0_reduced 12 = .ok (.invokestatic 168, 3) := by decide +kernel
theorem dX0_reduced_15 : decode cX0_reduced 15 = .ok (.goto 4, 3) := by decide +kernel
theorem dX0_reduced_18 : decode cX0_reduced 18 = .ok (.iconst 0, 1) := by decide +kernel
theorem dX0_reduced_19 : decode cX0_reduced 19 = .ok (.ireturn, 1) := by decide +kernel
set_option maxRecDepth 20000 in
theorem ggX0_powerOf_X0_reduced : GoodIn wsX0_powerOf wsX0_reduced := goodIn_r _ [5, 6, 7, 8, 9, 10, 11, 12, 13, 14, 15, 16, 17] (by decide +kernel) (by decide +kernel)
set_option maxRecDepth 20000 in
theorem gX0_powerOf_X0_reduced : GoodIn wsX0_powerOf (wsV RX0 46 RX0 yX0_reduced wsX0_reduced) := goodIn_app (goodIn_of _ (by decide +kernel)) ggX0_powerOf_X0_reduced
theorem dX0_powerOf_0 : decode cX0_powerOf 0 = .ok (.iconst 1, 1) := by decide +kernel
theorem dX0_powerOf_1 : decode cX0_powerOf 1 = .ok (.istore_n 3, 1) := by decide +kernel
theorem dX0_powerOf_2 : decode cX0_powerOf 2 = .ok (.iload_n 1, 1) := by decide +kernel
theorem dX0_powerOf_3 : decode cX0_powerOf 3 = .ok (.istore 4, 2) := by decide +kernel
theorem dX0_powerOf_5 : decode cX0_powerOf 5 = .ok (.iload_n 2, 1) := by decide +kernel
theorem dX0_powerOf_6 : decode cX0_powerOf 6 = .ok (.istore 5, 2) := by decide +kernel
theorem dX0_powerOf_8 : decode cX0_powerOf 8 = .ok (.iload 5, 2) := by decide +kernel
theorem dX0_powerOf_10 : decode cX0_powerOf 10 = .ok (.ifCond .le 40, 3) := by decide +kernel
theorem dX0_powerOf_13 : decode cX0_powerOf 13 = .ok (.iload 5, 2) := by decide +kernel
theorem dX0_powerOf_15 : decode cX0_powerOf 15 = .ok (.iconst 1, 1) := by decide +kernel
theorem dX0_powerOf_16 : decode cX0_powerOf 16 = .ok (.iand, 1) := by decide +kernel
theorem dX0_powerOf_17 : decode cX0_powerOf 17 = .ok (.iconst 1, 1) := by decide +kernel
theorem dX0_powerOf_18 : decode cX0_powerOf 18 = .ok (.if_icmp .ne 12, 3) := by decide +kernel
theorem dX0_powerOf_21 : decode cX0_powerOf 21 = .ok (.aload_n 0, 1) := by decide +kernel
theorem dX0_powerOf_22 : decode cX0_powerOf 22 = .ok (.iload_n 3, 1) := by decide +kernel
theorem dX0_powerOf_23 : decode cX0_powerOf 23 = .ok (.iload 4, 2) := by decide +kernel
theorem dX0_powerOf_25 : decode cX0_powerOf 25 = .ok (.imul, 1) := by decide +kernel
theorem dX0_powerOf_26 : decode cX0_powerOf 26 = .ok (.invokevirtual 46, 3) := by decide +kernel
theorem dX0_powerOf_29 : decode cX0_powerOf 29 = .ok (.istore_n 3, 1) := by decide +kernel
theorem dX0_powerOf_30 : decode cX0_powerOf 30 = .ok (.aload_n 0, 1) := by decide +kernel
theorem dX0_powerOf_31 : decode cX0_powerOf 31 = .ok (.iload 4, 2) := by decide +kernel
theorem dX0_powerOf_33 : decode cX0_powerOf 33 = .ok (.iload 4, 2) := by decide +kernel
theorem dX0_powerOf_35 : decode cX0_powerOf 35 = .ok (.imul, 1) := by decide +kernel
theorem dX0_powerOf_36 : decode cX0_powerOf 36 = .ok (.invokevirtual 46, 3) := by decide +kernel
theorem dX0_powerOf_39 : decode cX0_powerOf 39 = .ok (.istore 4, 2) := by decide +kernel
theorem dX0_powerOf_41 : decode cX0_powerOf 41 = .ok (.iload 5, 2) := by decide +kernel
theorem dX0_powerOf_43 : decode cX0_powerOf 43 = .ok (.iconst 1, 1) := by decide +kernel
theorem dX0_powerOf_44 : decode cX0_powerOf 44 = .ok (.ishr, 1) := by decide +kernel
theorem dX0_powerOf_45 : decode cX0_powerOf 45 = .ok (.istore 5, 2) := by decide +kernel
theorem dX0_powerOf_47 : decode cX0_powerOf 47 = .ok (.goto (-39), 3) := by decide +kernel
theorem dX0_powerOf_50 : decode cX0_powerOf 50 = .ok (.iload_n 3, 1) := by decide +kernel
theorem dX0_powerOf_51 : decode cX0_powerOf 51 = .ok (.ireturn, 1) := by decide +kernel
set_option maxRecDepth 20000 in
theorem ggX0_inverseOf_X0_powerOf : GoodIn wsX0_inverseOf wsX0_powerOf := goodIn_r _ [6, 7, 8, 9, 5, 10, 1, 11, 12, 13, 14, 15, 16, 17, 18, 19, 20, 21] (by decide +kernel) (by decide +kernel)
set_option maxRecDepth 20000 in
theorem gX0_inverseOf_X0_powerOf : GoodIn wsX0_inverseOf (wsV RX0 55 RX0 yX0_powerOf wsX0_powerOf) := goodIn_app (goodIn_of _ (by decide +kernel)) ggX0_inverseOf_X0_powerOf
theorem dX0_inverseOf_0 : decode cX0_inverseOf 0 = .ok (.aload_n 0, 1) := by decide +kernel
theorem dX0_inverseOf_1 : decode cX0_inverseOf 1 = .ok (.iload_n 1, 1) := by decide +kernel
theorem dX0_inverseOf_2 : decode cX0_inverseOf 2 = .ok (.aload_n 0, 1) := by decide +kernel
theorem dX0_inverseOf_3 : decode cX0_inverseOf 3 = .ok (.getfield 43, 3) := by decide +kernel
theorem dX0_inverseOf_6 : decode cX0_inverseOf 6 = .ok (.iconst 2, 1) := by decide +kernel
theorem dX0_inverseOf_7 : decode cX0_inverseOf 7 = .ok (.isub, 1) := by decide +kernel
theorem dX0_inverseOf_8 : decode cX0_inverseOf 8 = .ok (.invokevirtual 55, 3) := by decide +kernel
theorem dX0_inverseOf_11 : decode cX0_inverseOf 11 = .ok (.ireturn, 1) := by decide +kernel
set_option maxRecDepth 20000 in
theorem ggX0_joined_X0_reduced : GoodIn wsX0_joined wsX0_reduced := goodIn_r _ [5, 6, 7, 8, 9, 10, 11, 12, 13, 14, 15, 16, 17] (by decide +kernel) (by decide +kernel)
set_option maxRecDepth 20000 in
theorem gX0_joined_X0_reduced : GoodIn wsX0_joined (wsV RX0 46 RX0 yX0_reduced wsX0_reduced) := goodIn_app (goodIn_of _ (by decide +kernel)) ggX0_joined_X0_reduced
theorem dX0_joined_0 : decode cX0_joined 0 = .ok (.iload_n 3, 1) := by decide +kernel
theorem dX0_joined_1 : decode cX0_joined 1 = .ok (.ifCond .ne 11, 3) := by decide +kernel
theorem dX0_joined_4 : decode cX0_joined 4 = .ok (.aload_n 0, 1) := by decide +kernel
theorem dX0_joined_5 : decode cX0_joined 5 = .ok (.iload_n 1, 1) := by decide +kernel
theorem dX0_joined_6 : decode cX0_joined 6 = .ok (.iload_n 2, 1) := by decide +kernel
theorem dX0_joined_7 : decode cX0_joined 7 = .ok (.iadd, 1) := by decide +kernel
theorem dX0_joined_8 : decode cX0_joined 8 = .ok (.invokevirtual 46, 3) := by decide +kernel
theorem dX0_joined_11 : decode cX0_joined 11 = .ok (.ireturn, 1) := by decide +kernel
theorem dX0_joined_12 : decode cX0_joined 12 = .ok (.iload_n 3, 1) := by decide +kernel
theorem dX0_joined_13 : decode cX0_joined 13 = .ok (.iconst 1, 1) := by decide +kernel
theorem dX0_joined_14 : decode cX0_joined 14 = .ok (.if_icmp .ne 11, 3) := by decide +kernel
theorem dX0_joined_17 : decode cX0_joined 17 = .ok (.aload_n 0, 1) := by decide +kernel
theorem dX0_joined_18 : decode cX0_joined 18 = .ok (.iload_n 1, 1) := by decide +kernel
theorem dX0_joined_19 : decode cX0_joined 19 = .ok (.iload_n 2, 1) := by decide +kernel
theorem dX0_joined_20 : decode cX0_joined 20 = .ok (.isub, 1) := by decide +kernel
theorem dX0_joined_21 : decode cX0_joined 21 = .ok (.invokevirtual 46, 3) := by decide +kernel
theorem dX0_joined_24 : decode cX0_joined 24 = .ok (.ireturn, 1) := by decide +kernel
theorem dX0_joined_25 : decode cX0_joined 25 = .ok (.aload_n 0, 1) := by decide +kernel
theorem dX0_joined_26 : decode cX0_joined 26 = .ok (.iload_n 1, 1) := by decide +kernel
theorem dX0_joined_27 : decode cX0_joined 27 = .ok (.iload_n 2, 1) := by decide +kernel
theorem dX0_joined_28 : decode cX0_joined 28 = .ok (.imul, 1) := by decide +kernel
theorem dX0_joined_29 : decode cX0_joined 29 = .ok (.invokevirtual 46, 3) := by decide +kernel
theorem dX0_joined_32 : decode cX0_joined 32 = .ok (.ireturn, 1) := by decide +kernel
theorem dX0_wrapped_0 : decode cX0_wrapped 0 = .ok (.iload_n 1, 1) := by decide +kernel
theorem dX0_wrapped_1 : decode cX0_wrapped 1 = .ok (.aload_n 0, 1) := by decide +kernel
theorem dX0_wrapped_2 : decode cX0_wrapped 2 = .ok (.getfield 84, 3) := by decide +kernel
theorem dX0_wrapped_5 : decode cX0_wrapped 5 = .ok (.iconst 1, 1) := by decide +kernel
theorem dX0_wrapped_6 : decode cX0_wrapped 6 = .ok (.isub, 1) := by decide +kernel
theorem dX0_wrapped_7 : decode cX0_wrapped 7 = .ok (.iand, 1) := by decide +kernel
theorem dX0_wrapped_8 : decode cX0_wrapped 8 = .ok (.ireturn, 1) := by decide +kernel
theorem dX0_mirrored_0 : decode cX0_mirrored 0 = .ok (.iconst 0, 1) := by decide +kernel
theorem dX0_mirrored_1 : decode cX0_mirrored 1 = .ok (.istore_n 2, 1) := by decide +kernel
theorem dX0_mirrored_2 : decode cX0_mirrored 2 = .ok (.iconst 0, 1) := by decide +kernel
theorem dX0_mirrored_3 : decode cX0_mirrored 3 = .ok (.istore_n 3, 1) := by decide +kernel
theorem dX0_mirrored_4 : decode cX0_mirrored 4 = .ok (.iload_n 3, 1) := by decide +kernel
theorem dX0_mirrored_5 : decode cX0_mirrored 5 = .ok (.aload_n 0, 1) := by decide +kernel
theorem dX0_mirrored_6 : decode cX0_mirrored 6 = .ok (.getfield 90, 3) := by decide +kernel
theorem dX0_mirrored_9 : decode cX0_mirrored 9 = .ok (.if_icmp .ge 19, 3) := by decide +kernel
theorem dX0_mirrored_12 : decode cX0_mirrored 12 = .ok (.iload_n 2, 1) := by decide +kernel
theorem dX0_mirrored_13 : decode cX0_mirrored 13 = .ok (.iconst 1, 1) := by decide +kernel
theorem dX0_mirrored_14 : decode cX0_mirrored 14 = .ok (.ishl, 1) := by decide +kernel
theorem dX0_mirrored_15 : decode cX0_mirrored 15 = .ok (.iload_n 1, 1) := by decide +kernel
theorem dX0_mirrored_16 : decode cX0_mirrored 16 = .ok (.iload_n 3, 1) := by decide +kernel
theorem dX0_mirrored_17 : decode cX0_mirrored 17 = .ok (.ishr, 1) := by decide +kernel
theorem dX0_mirrored_18 : decode cX0_mirrored 18 = .ok (.iconst 1, 1) := by decide +kernel
theorem dX0_mirrored_19 : decode cX0_mirrored 19 = .ok (.iand, 1) := by decide +kernel
theorem dX0_mirrored_20 : decode cX0_mirrored 20 = .ok (.ior, 1) := by decide +kernel
theorem dX0_mirrored_21 : decode cX0_mirrored 21 = .ok (.istore_n 2, 1) := by decide +kernel
theorem dX0_mirrored_22 : decode cX0_mirrored 22 = .ok (.iinc 3 1, 3) := by decide +kernel
theorem dX0_mirrored_25 : decode cX0_mirrored 25 = .ok (.goto (-21), 3) := by decide +kernel
theorem dX0_mirrored_28 : decode cX0_mirrored 28 = .ok (.iload_n 2, 1) := by decide +kernel
theorem dX0_mirrored_29 : decode cX0_mirrored 29 = .ok (.ireturn, 1) := by decide +kernel
theorem dX0_read_0 : decode cX0_read 0 = .ok (.iload_n 1, 1) := by decide +kernel
theorem dX0_read_1 : decode cX0_read 1 = .ok (.bipush 16, 2) := by decide +kernel
theorem dX0_read_3 : decode cX0_read 3 = .ok (.imul, 1) := by decide +kernel
theorem dX0_read_4 : decode cX0_read 4 = .ok (.iload_n 2, 1) := by decide +kernel
theorem dX0_read_5 : decode cX0_read 5 = .ok (.iadd, 1) := by decide +kernel
theorem dX0_read_6 : decode cX0_read 6 = .ok (.istore_n 3, 1) := by decide +kernel
theorem dX0_read_7 : decode cX0_read 7 = .ok (.iload_n 3, 1) := by decide +kernel
theorem dX0_read_8 : decode cX0_read 8 = .ok (.ifCond .lt 21, 3) := by decide +kernel
theorem dX0_read_11 : decode cX0_read 11 = .ok (.iload_n 3, 1) := by decide +kernel
theorem dX0_read_12 : decode cX0_read 12 = .ok (.aload_n 0, 1) := by decide +kernel
theorem dX0_read_13 : decode cX0_read 13 = .ok (.getfield 9, 3) := by decide +kernel
theorem dX0_read_16 : decode cX0_read 16 = .ok (.arraylength, 1) := by decide +kernel
theorem dX0_read_17 : decode cX0_read 17 = .ok (.if_icmp .ge 12, 3) := by decide +kernel
theorem dX0_read_20 : decode cX0_read 20 = .ok (.aload_n 0, 1) := by decide +kernel
theorem dX0_read_21 : decode cX0_read 21 = .ok (.getfield 9, 3) := by decide +kernel
theorem dX0_read_24 : decode cX0_read 24 = .ok (.iload_n 3, 1) := by decide +kernel
theorem dX0_read_25 : decode cX0_read 25 = .ok (.iaload, 1) := by decide +kernel
theorem dX0_read_26 : decode cX0_read 26 = .ok (.goto 4, 3) := by decide +kernel
theorem dX0_read_29 : decode cX0_read 29 = .ok (.iconst 0, 1) := by decide +kernel
theorem dX0_read_30 : decode cX0_read 30 = .ok (.ireturn, 1) := by decide +kernel
theorem dX0_write_0 : decode cX0_write 0 = .ok (.iload_n 1, 1) := by decide +kernel
theorem dX0_write_1 : decode cX0_write 1 = .ok (.bipush 16, 2) := by decide +kernel
theorem dX0_write_3 : decode cX0_write 3 = .ok (.imul, 1) := by decide +kernel
theorem dX0_write_4 : decode cX0_write 4 = .ok (.iload_n 2, 1) := by decide +kernel
theorem dX0_write_5 : decode cX0_write 5 = .ok (.iadd, 1) := by decide +kernel
theorem dX0_write_6 : decode cX0_write 6 = .ok (.istore 4, 2) := by decide +kernel
theorem dX0_write_8 : decode cX0_write 8 = .ok (.iload 4, 2) := by decide +kernel
theorem dX0_write_10 : decode cX0_write 10 = .ok (.ifCond .lt 21, 3) := by decide +kernel
theorem dX0_write_13 : decode cX0_write 13 = .ok (.iload 4, 2) := by decide +kernel
theorem dX0_write_15 : decode cX0_write 15 = .ok (.aload_n 0, 1) := by decide +kernel
theorem dX0_write_16 : decode cX0_write 16 = .ok (.getfield 9, 3) := by decide +kernel
theorem dX0_write_19 : decode cX0_write 19 = .ok (.arraylength, 1) := by decide +kernel
theorem dX0_write_20 : decode cX0_write 20 = .ok (.if_icmp .ge 11, 3) := by decide +kernel
theorem dX0_write_23 : decode cX0_write 23 = .ok (.aload_n 0, 1) := by decide +kernel
theorem dX0_write_24 : decode cX0_write 24 = .ok (.getfield 9, 3) := by decide +kernel
theorem dX0_write_27 : decode cX0_write 27 = .ok (.iload 4, 2) := by decide +kernel
theorem dX0_write_29 : decode cX0_write 29 = .ok (.iload_n 3, 1) := by decide +kernel
theorem dX0_write_30 : decode cX0_write 30 = .ok (.iastore, 1) := by decide +kernel
theorem dX0_write_31 : decode cX0_write 31 = .ok (.return_, 1) := by decide +kernel
set_option maxRecDepth 20000 in
theorem ggX0_copyRow_X0_read : GoodIn wsX0_copyRow wsX0_read := goodIn_r _ [6, 7, 12, 13, 14, 15, 16, 17, 18] (by decide +kernel) (by decide +kernel)
set_option maxRecDepth 20000 in
theorem gX0_copyRow_X0_read : GoodIn wsX0_copyRow (wsV RX0 68 RX0 yX0_read wsX0_read) := goodIn_app (goodIn_of _ (by decide +kernel)) ggX0_copyRow_X0_read
set_option maxRecDepth 20000 in
theorem ggX0_copyRow_X0_write : GoodIn wsX0_copyRow wsX0_write := goodIn_r _ [11, 7, 12, 13, 14, 15, 16, 17, 18] (by decide +kernel) (by decide +kernel)
set_option maxRecDepth 20000 in
theorem gX0_copyRow_X0_write : GoodIn wsX0_copyRow (wsV RX0 71 RX0 yX0_write wsX0_write) := goodIn_app (goodIn_of _ (by decide +kernel)) ggX0_copyRow_X0_write
theorem dX0_copyRow_0 : decode cX0_copyRow 0 = .ok (.iconst 0, 1) := by decide +kernel
theorem dX0_copyRow_1 : decode cX0_copyRow 1 = .ok (.istore_n 3, 1) := by decide +kernel
theorem dX0_copyRow_2 : decode cX0_copyRow 2 = .ok (.iconst 0, 1) := by decide +kernel
theorem dX0_copyRow_3 : decode cX0_copyRow 3 = .ok (.istore 4, 2) := by decide +kernel
theorem dX0_copyRow_5 : decode cX0_copyRow 5 = .ok (.iload 4, 2) := by decide +kernel
theorem dX0_copyRow_7 : decode cX0_copyRow 7 = .ok (.aload_n 0, 1) := by decide +kernel
theorem dX0_copyRow_8 : decode cX0_copyRow 8 = .ok (.getfield 84, 3) := by decide +kernel
theorem dX0_copyRow_11 : decode cX0_copyRow 11 = .ok (.if_icmp .ge 42, 3) := by decide +kernel
theorem dX0_copyRow_14 : decode cX0_copyRow 14 = .ok (.aload_n 0, 1) := by decide +kernel
theorem dX0_copyRow_15 : decode cX0_copyRow 15 = .ok (.iload_n 1, 1) := by decide +kernel
theorem dX0_copyRow_16 : decode cX0_copyRow 16 = .ok (.iload 4, 2) := by decide +kernel
theorem dX0_copyRow_18 : decode cX0_copyRow 18 = .ok (.invokevirtual 68, 3) := by decide +kernel
theorem dX0_copyRow_21 : decode cX0_copyRow 21 = .ok (.istore 5, 2) := by decide +kernel
theorem dX0_copyRow_23 : decode cX0_copyRow 23 = .ok (.aload_n 0, 1) := by decide +kernel
theorem dX0_copyRow_24 : decode cX0_copyRow 24 = .ok (.iload_n 2, 1) := by decide +kernel
theorem dX0_copyRow_25 : decode cX0_copyRow 25 = .ok (.iload 4, 2) := by decide +kernel
theorem dX0_copyRow_27 : decode cX0_copyRow 27 = .ok (.invokevirtual 68, 3) := by decide +kernel
theorem dX0_copyRow_30 : decode cX0_copyRow 30 = .ok (.iload 5, 2) := by decide +kernel
theorem dX0_copyRow_32 : decode cX0_copyRow 32 = .ok (.if_icmp .eq 6, 3) := by decide +kernel
theorem dX0_copyRow_35 : decode cX0_copyRow 35 = .ok (.iinc 3 1, 3) := by decide +kernel
theorem dX0_copyRow_38 : decode cX0_copyRow 38 = .ok (.aload_n 0, 1) := by decide +kernel
theorem dX0_copyRow_39 : decode cX0_copyRow 39 = .ok (.iload_n 2, 1) := by decide +kernel
theorem dX0_copyRow_40 : decode cX0_copyRow 40 = .ok (.iload 4, 2) := by decide +kernel
theorem dX0_copyRow_42 : decode cX0_copyRow 42 = .ok (.iload 5, 2) := by decide +kernel
theorem dX0_copyRow_44 : decode cX0_copyRow 44 = .ok (.invokevirtual 71, 3) := by decide +kernel
theorem dX0_copyRow_47 : decode cX0_copyRow 47 = .ok (.iinc 4 1, 3) := by decide +kernel
theorem dX0_copyRow_50 : decode cX0_copyRow 50 = .ok (.goto (-45), 3) := by decide +kernel
theorem dX0_copyRow_53 : decode cX0_copyRow 53 = .ok (.iload_n 3, 1) := by decide +kernel
theorem dX0_copyRow_54 : decode cX0_copyRow 54 = .ok (.ireturn, 1) := by decide +kernel
set_option maxRecDepth 20000 in
theorem ggX0_butterfly_X0_read : GoodIn wsX0_butterfly wsX0_read := goodIn_r _ [5, 6, 20, 21, 22, 23, 24, 25, 26] (by decide +kernel) (by decide +kernel)
set_option maxRecDepth 20000 in
theorem gX0_butterfly_X0_read : GoodIn wsX0_butterfly (wsV RX0 68 RX0 yX0_read wsX0_read) := goodIn_app (goodIn_of _ (by decide +kernel)) ggX0_butterfly_X0_read
set_option maxRecDepth 20000 in
theorem ggX0_butterfly_X0_reduced : GoodIn wsX0_butterfly wsX0_reduced := goodIn_r _ [10, 11, 12, 13, 14, 15, 20, 21, 22, 23, 24, 25, 26] (by decide +kernel) (by decide +kernel)
set_option maxRecDepth 20000 in
theorem gX0_butterfly_X0_reduced : GoodIn wsX0_butterfly (wsV RX0 46 RX0 yX0_reduced wsX0_reduced) := goodIn_app (goodIn_of _ (by decide +kernel)) ggX0_butterfly_X0_reduced
set_option maxRecDepth 20000 in
theorem ggX0_butterfly_X0_write : GoodIn wsX0_butterfly wsX0_write := goodIn_r _ [19, 6, 20, 21, 22, 23, 24, 25, 26] (by decide +kernel) (by decide +kernel)
set_option maxRecDepth 20000 in
theorem gX0_butterfly_X0_write : GoodIn wsX0_butterfly (wsV RX0 71 RX0 yX0_write wsX0_write) := goodIn_app (goodIn_of _ (by decide +kernel)) ggX0_butterfly_X0_write
theorem dX0_butterfly_0 : decode cX0_butterfly 0 = .ok (.aload_n 0, 1) := by decide +kernel
theorem dX0_butterfly_1 : decode cX0_butterfly 1 = .ok (.iload_n 1, 1) := by decide +kernel
theorem dX0_butterfly_2 : decode cX0_butterfly 2 = .ok (.iload_n 2, 1) := by decide +kernel
theorem dX0_butterfly_3 : decode cX0_butterfly 3 = .ok (.invokevirtual 68, 3) := by decide +kernel
theorem dX0_butterfly_6 : decode cX0_butterfly 6 = .ok (.istore 5, 2) := by decide +kernel
theorem dX0_butterfly_8 : decode cX0_butterfly 8 = .ok (.aload_n 0, 1) := by decide +kernel
theorem dX0_butterfly_9 : decode cX0_butterfly 9 = .ok (.aload_n 0, 1) := by decide +kernel
theorem dX0_butterfly_10 : decode cX0_butterfly 10 = .ok (.iload_n 1, 1) := by decide +kernel
theorem dX0_butterfly_11 : decode cX0_butterfly 11 = .ok (.iload_n 3, 1) := by decide +kernel
theorem dX0_butterfly_12 : decode cX0_butterfly 12 = .ok (.invokevirtual 68, 3) := by decide +kernel
theorem dX0_butterfly_15 : decode cX0_butterfly 15 = .ok (.iload 4, 2) := by decide +kernel
theorem dX0_butterfly_17 : decode cX0_butterfly 17 = .ok (.imul, 1) := by decide +kernel
theorem dX0_butterfly_18 : decode cX0_butterfly 18 = .ok (.invokevirtual 46, 3) := by decide +kernel
theorem dX0_butterfly_21 : decode cX0_butterfly 21 = .ok (.istore 6, 2) := by decide +kernel
theorem dX0_butterfly_23 : decode cX0_butterfly 23 = .ok (.aload_n 0, 1) := by decide +kernel
theorem dX0_butterfly_24 : decode cX0_butterfly 24 = .ok (.iload_n 1, 1) := by decide +kernel
theorem dX0_butterfly_25 : decode cX0_butterfly 25 = .ok (.iload_n 2, 1) := by decide +kernel
theorem dX0_butterfly_26 : decode cX0_butterfly 26 = .ok (.aload_n 0, 1) := by decide +kernel
theorem dX0_butterfly_27 : decode cX0_butterfly 27 = .ok (.iload 5, 2) := by decide +kernel
theorem dX0_butterfly_29 : decode cX0_butterfly 29 = .ok (.iload 6, 2) := by decide +kernel
theorem dX0_butterfly_31 : decode cX0_butterfly 31 = .ok (.iadd, 1) := by decide +kernel
theorem dX0_butterfly_32 : decode cX0_butterfly 32 = .ok (.invokevirtual 46, 3) := by decide +kernel
theorem dX0_butterfly_35 : decode cX0_butterfly 35 = .ok (.invokevirtual 71, 3) := by decide +kernel
theorem dX0_butterfly_38 : decode cX0_butterfly 38 = .ok (.aload_n 0, 1) := by decide +kernel
theorem dX0_butterfly_39 : decode cX0_butterfly 39 = .ok (.iload_n 1, 1) := by decide +kernel
theorem dX0_butterfly_40 : decode cX0_butterfly 40 = .ok (.iload_n 3, 1) := by decide +kernel
theorem dX0_butterfly_41 : decode cX0_butterfly 41 = .ok (.aload_n 0, 1) := by decide +kernel
theorem dX0_butterfly_42 : decode cX0_butterfly 42 = .ok (.iload 5, 2) := by decide +kernel
theorem dX0_butterfly_44 : decode cX0_butterfly 44 = .ok (.iload 6, 2) := by decide +kernel
theorem dX0_butterfly_46 : decode cX0_butterfly 46 = .ok (.isub, 1) := by decide +kernel
theorem dX0_butterfly_47 : decode cX0_butterfly 47 = .ok (.invokevirtual 46, 3) := by decide +kernel
theorem dX0_butterfly_50 : decode cX0_butterfly 50 = .ok (.invokevirtual 71, 3) := by decide +kernel
theorem dX0_butterfly_53 : decode cX0_butterfly 53 = .ok (.return_, 1) := by decide +kernel
set_option maxRecDepth 20000 in
theorem ggX0_valueAt_X0_read : GoodIn wsX0_valueAt wsX0_read := goodIn_r _ [6, 7, 17, 18, 19, 20, 21, 22, 23] (by decide +kernel) (by decide +kernel)
set_option maxRecDepth 20000 in
theorem gX0_valueAt_X0_read : GoodIn wsX0_valueAt (wsV RX0 68 RX0 yX0_read wsX0_read) := goodIn_app (goodIn_of _ (by decide +kernel)) ggX0_valueAt_X0_read
set_option maxRecDepth 20000 in
theorem ggX0_valueAt_X0_reduced : GoodIn wsX0_valueAt wsX0_reduced := goodIn_r _ [11, 12, 13, 14, 15, 16, 17, 18, 19, 20, 21, 22, 23] (by decide +kernel) (by decide +kernel)
set_option maxRecDepth 20000 in
theorem gX0_valueAt_X0_reduced : GoodIn wsX0_valueAt (wsV RX0 46 RX0 yX0_reduced wsX0_reduced) := goodIn_app (goodIn_of _ (by decide +kernel)) ggX0_valueAt_X0_reduced
theorem dX0_valueAt_0 : decode cX0_valueAt 0 = .ok (.iconst 0, 1) := by decide +kernel
theorem dX0_valueAt_1 : decode cX0_valueAt 1 = .ok (.istore_n 3, 1) := by decide +kernel
theorem dX0_valueAt_2 : decode cX0_valueAt 2 = .ok (.aload_n 0, 1) := by decide +kernel
theorem dX0_valueAt_3 : decode cX0_valueAt 3 = .ok (.getfield 84, 3) := by decide +kernel
theorem dX0_valueAt_6 : decode cX0_valueAt 6 = .ok (.iconst 1, 1) := by decide +kernel
theorem dX0_valueAt_7 : decode cX0_valueAt 7 = .ok (.isub, 1) := by decide +kernel
theorem dX0_valueAt_8 : decode cX0_valueAt 8 = .ok (.istore 4, 2) := by decide +kernel
theorem dX0_valueAt_10 : decode cX0_valueAt 10 = .ok (.iload 4, 2) := by decide +kernel
theorem dX0_valueAt_12 : decode cX0_valueAt 12 = .ok (.ifCond .lt 25, 3) := by decide +kernel
theorem dX0_valueAt_15 : decode cX0_valueAt 15 = .ok (.aload_n 0, 1) := by decide +kernel
theorem dX0_valueAt_16 : decode cX0_valueAt 16 = .ok (.iload_n 3, 1) := by decide +kernel
theorem dX0_valueAt_17 : decode cX0_valueAt 17 = .ok (.iload_n 2, 1) := by decide +kernel
theorem dX0_valueAt_18 : decode cX0_valueAt 18 = .ok (.imul, 1) := by decide +kernel
theorem dX0_valueAt_19 : decode cX0_valueAt 19 = .ok (.aload_n 0, 1) := by decide +kernel
theorem dX0_valueAt_20 : decode cX0_valueAt 20 = .ok (.iload_n 1, 1) := by decide +kernel
theorem dX0_valueAt_21 : decode cX0_valueAt 21 = .ok (.iload 4, 2) := by decide +kernel
theorem dX0_valueAt_23 : decode cX0_valueAt 23 = .ok (.invokevirtual 68, 3) := by decide +kernel
theorem dX0_valueAt_26 : decode cX0_valueAt 26 = .ok (.iadd, 1) := by decide +kernel
theorem dX0_valueAt_27 : decode cX0_valueAt 27 = .ok (.invokevirtual 46, 3) := by decide +kernel
theorem dX0_valueAt_30 : decode cX0_valueAt 30 = .ok (.istore_n 3, 1) := by decide +kernel
theorem dX0_valueAt_31 : decode cX0_valueAt 31 = .ok (.iinc 4 (-1), 3) := by decide +kernel
theorem dX0_valueAt_34 : decode cX0_valueAt 34 = .ok (.goto (-24), 3) := by decide +kernel
theorem dX0_valueAt_37 : decode cX0_valueAt 37 = .ok (.iload_n 3, 1) := by decide +kernel
theorem dX0_valueAt_38 : decode cX0_valueAt 38 = .ok (.ireturn, 1) := by decide +kernel
set_option maxRecDepth 20000 in
theorem ggX0_scratchTones_X0_scratchValues : GoodIn wsX0_scratchTones wsX0_scratchValues := goodIn_r _ [6, 7, 8, 9, 10, 5, 11, 12, 13, 14, 15, 16, 17, 18, 19, 20, 21, 22, 23, 24, 25, 26, 27, 28, 29, 30, 31, 32, 33, 34, 35, 36] (by decide +kernel) (by decide +kernel)
set_option maxRecDepth 20000 in
theorem gX0_scratchTones_X0_scratchValues : GoodIn wsX0_scratchTones (wsV RX0 173 RX0 yX0_scratchValues wsX0_scratchValues) := goodIn_app (goodIn_of _ (by decide +kernel)) ggX0_scratchTones_X0_scratchValues
theorem dX0_scratchTones_0 : decode cX0_scratchTones 0 = .ok (.aload_n 0, 1) := by decide +kernel
theorem dX0_scratchTones_1 : decode cX0_scratchTones 1 = .ok (.iload_n 1, 1) := by decide +kernel
theorem dX0_scratchTones_2 : decode cX0_scratchTones 2 = .ok (.aload_n 0, 1) := by decide +kernel
theorem dX0_scratchTones_3 : decode cX0_scratchTones 3 = .ok (.getfield 35, 3) := by decide +kernel
theorem dX0_scratchTones_6 : decode cX0_scratchTones 6 = .ok (.iconst 1, 1) := by decide +kernel
theorem dX0_scratchTones_7 : decode cX0_scratchTones 7 = .ok (.invokevirtual 173, 3) := by decide +kernel
theorem dX0_scratchTones_10 : decode cX0_scratchTones 10 = .ok (.return_, 1) := by decide +kernel
set_option maxRecDepth 20000 in
theorem ggX0_scratchTurnedBack_X0_scratchValues : GoodIn wsX0_scratchTurnedBack wsX0_scratchValues := goodIn_r _ [7, 8, 9, 10, 11, 6, 12, 13, 14, 15, 16, 17, 18, 19, 20, 21, 22, 23, 24, 25, 26, 27, 28, 29, 30, 31, 32, 33, 34, 35, 36, 37] (by decide +kernel) (by decide +kernel)
set_option maxRecDepth 20000 in
theorem gX0_scratchTurnedBack_X0_scratchValues : GoodIn wsX0_scratchTurnedBack (wsV RX0 173 RX0 yX0_scratchValues wsX0_scratchValues) := goodIn_app (goodIn_of _ (by decide +kernel)) ggX0_scratchTurnedBack_X0_scratchValues
theorem dX0_scratchTurnedBack_0 : decode cX0_scratchTurnedBack 0 = .ok (.aload_n 0, 1) := by decide +kernel
theorem dX0_scratchTurnedBack_1 : decode cX0_scratchTurnedBack 1 = .ok (.iload_n 1, 1) := by decide +kernel
theorem dX0_scratchTurnedBack_2 : decode cX0_scratchTurnedBack 2 = .ok (.aload_n 0, 1) := by decide +kernel
theorem dX0_scratchTurnedBack_3 : decode cX0_scratchTurnedBack 3 = .ok (.getfield 162, 3) := by decide +kernel
theorem dX0_scratchTurnedBack_6 : decode cX0_scratchTurnedBack 6 = .ok (.aload_n 0, 1) := by decide +kernel
theorem dX0_scratchTurnedBack_7 : decode cX0_scratchTurnedBack 7 = .ok (.getfield 165, 3) := by decide +kernel
theorem dX0_scratchTurnedBack_10 : decode cX0_scratchTurnedBack 10 = .ok (.invokevirtual 173, 3) := by decide +kernel
theorem dX0_scratchTurnedBack_13 : decode cX0_scratchTurnedBack 13 = .ok (.return_, 1) := by decide +kernel
set_option maxRecDepth 20000 in
theorem ggX0_scratchValues_X0_valueAt : GoodIn wsX0_scratchValues wsX0_valueAt := goodIn_r _ [6, 1, 7, 8, 9, 5, 10, 11, 12, 13, 14, 15, 16, 17, 18, 19, 20, 25, 26, 27, 28, 29, 30, 31] (by decide +kernel) (by decide +kernel)
set_option maxRecDepth 20000 in
theorem gX0_scratchValues_X0_valueAt : GoodIn wsX0_scratchValues (wsV RX0 119 RX0 yX0_valueAt wsX0_valueAt) := goodIn_app (goodIn_of _ (by decide +kernel)) ggX0_scratchValues_X0_valueAt
set_option maxRecDepth 20000 in
theorem ggX0_scratchValues_X0_reduced : GoodIn wsX0_scratchValues wsX0_reduced := goodIn_r _ [15, 16, 17, 18, 19, 20, 25, 26, 27, 28, 29, 30, 31] (by decide +kernel) (by decide +kernel)
set_option maxRecDepth 20000 in
theorem gX0_scratchValues_X0_reduced : GoodIn wsX0_scratchValues (wsV RX0 46 RX0 yX0_reduced wsX0_reduced) := goodIn_app (goodIn_of _ (by decide +kernel)) ggX0_scratchValues_X0_reduced
set_option maxRecDepth 20000 in
theorem ggX0_scratchValues_X0_write : GoodIn wsX0_scratchValues wsX0_write := goodIn_r _ [24, 11, 25, 26, 27, 28, 29, 30, 31] (by decide +kernel) (by decide +kernel)
set_option maxRecDepth 20000 in
theorem gX0_scratchValues_X0_write : GoodIn wsX0_scratchValues (wsV RX0 71 RX0 yX0_write wsX0_write) := goodIn_app (goodIn_of _ (by decide +kernel)) ggX0_scratchValues_X0_write
theorem dX0_scratchValues_0 : decode cX0_scratchValues 0 = .ok (.iconst 1, 1) := by decide +kernel
theorem dX0_scratchValues_1 : decode cX0_scratchValues 1 = .ok (.istore 4, 2) := by decide +kernel
theorem dX0_scratchValues_3 : decode cX0_scratchValues 3 = .ok (.iconst 0, 1) := by decide +kernel
theorem dX0_scratchValues_4 : decode cX0_scratchValues 4 = .ok (.istore 5, 2) := by decide +kernel
theorem dX0_scratchValues_6 : decode cX0_scratchValues 6 = .ok (.iload 5, 2) := by decide +kernel
theorem dX0_scratchValues_8 : decode cX0_scratchValues 8 = .ok (.aload_n 0, 1) := by decide +kernel
theorem dX0_scratchValues_9 : decode cX0_scratchValues 9 = .ok (.getfield 84, 3) := by decide +kernel
theorem dX0_scratchValues_12 : decode cX0_scratchValues 12 = .ok (.if_icmp .ge 39, 3) := by decide +kernel
theorem dX0_scratchValues_15 : decode cX0_scratchValues 15 = .ok (.aload_n 0, 1) := by decide +kernel
theorem dX0_scratchValues_16 : decode cX0_scratchValues 16 = .ok (.iconst 4, 1) := by decide +kernel
theorem dX0_scratchValues_17 : decode cX0_scratchValues 17 = .ok (.iload 5, 2) := by decide +kernel
theorem dX0_scratchValues_19 : decode cX0_scratchValues 19 = .ok (.aload_n 0, 1) := by decide +kernel
theorem dX0_scratchValues_20 : decode cX0_scratchValues 20 = .ok (.aload_n 0, 1) := by decide +kernel
theorem dX0_scratchValues_21 : decode cX0_scratchValues 21 = .ok (.iload_n 1, 1) := by decide +kernel
theorem dX0_scratchValues_22 : decode cX0_scratchValues 22 = .ok (.iload 4, 2) := by decide +kernel
theorem dX0_scratchValues_24 : decode cX0_scratchValues 24 = .ok (.invokevirtual 119, 3) := by decide +kernel
theorem dX0_scratchValues_27 : decode cX0_scratchValues 27 = .ok (.iload_n 3, 1) := by decide +kernel
theorem dX0_scratchValues_28 : decode cX0_scratchValues 28 = .ok (.imul, 1) := by decide +kernel
theorem dX0_scratchValues_29 : decode cX0_scratchValues 29 = .ok (.invokevirtual 46, 3) := by decide +kernel
theorem dX0_scratchValues_32 : decode cX0_scratchValues 32 = .ok (.invokevirtual 71, 3) := by decide +kernel
theorem dX0_scratchValues_35 : decode cX0_scratchValues 35 = .ok (.aload_n 0, 1) := by decide +kernel
theorem dX0_scratchValues_36 : decode cX0_scratchValues 36 = .ok (.iload 4, 2) := by decide +kernel
theorem dX0_scratchValues_38 : decode cX0_scratchValues 38 = .ok (.iload_n 2, 1) := by decide +kernel
theorem dX0_scratchValues_39 : decode cX0_scratchValues 39 = .ok (.imul, 1) := by decide +kernel
theorem dX0_scratchValues_40 : decode cX0_scratchValues 40 = .ok (.invokevirtual 46, 3) := by decide +kernel
theorem dX0_scratchValues_43 : decode cX0_scratchValues 43 = .ok (.istore 4, 2) := by decide +kernel
theorem dX0_scratchValues_45 : decode cX0_scratchValues 45 = .ok (.iinc 5 1, 3) := by decide +kernel
theorem dX0_scratchValues_48 : decode cX0_scratchValues 48 = .ok (.goto (-42), 3) := by decide +kernel
theorem dX0_scratchValues_51 : decode cX0_scratchValues 51 = .ok (.return_, 1) := by decide +kernel
set_option maxRecDepth 20000 in
theorem ggX0_foldedAt_X0_read : GoodIn wsX0_foldedAt wsX0_read := goodIn_r _ [6, 7, 21, 22, 23, 24, 25, 26, 27] (by decide +kernel) (by decide +kernel)
set_option maxRecDepth 20000 in
theorem gX0_foldedAt_X0_read : GoodIn wsX0_foldedAt (wsV RX0 68 RX0 yX0_read wsX0_read) := goodIn_app (goodIn_of _ (by decide +kernel)) ggX0_foldedAt_X0_read
set_option maxRecDepth 20000 in
theorem ggX0_foldedAt_X0_wrapped : GoodIn wsX0_foldedAt wsX0_wrapped := goodIn_r _ [11, 1, 21, 22, 23, 24, 25, 26, 27] (by decide +kernel) (by decide +kernel)
set_option maxRecDepth 20000 in
theorem gX0_foldedAt_X0_wrapped : GoodIn wsX0_foldedAt (wsV RX0 116 RX0 yX0_wrapped wsX0_wrapped) := goodIn_app (goodIn_of _ (by decide +kernel)) ggX0_foldedAt_X0_wrapped
set_option maxRecDepth 20000 in
theorem ggX0_foldedAt_X0_reduced : GoodIn wsX0_foldedAt wsX0_reduced := goodIn_r _ [15, 16, 17, 18, 19, 20, 21, 22, 23, 24, 25, 26, 27] (by decide +kernel) (by decide +kernel)
set_option maxRecDepth 20000 in
theorem gX0_foldedAt_X0_reduced : GoodIn wsX0_foldedAt (wsV RX0 46 RX0 yX0_reduced wsX0_reduced) := goodIn_app (goodIn_of _ (by decide +kernel)) ggX0_foldedAt_X0_reduced
theorem dX0_foldedAt_0 : decode cX0_foldedAt 0 = .ok (.iconst 0, 1) := by decide +kernel
theorem dX0_foldedAt_1 : decode cX0_foldedAt 1 = .ok (.istore 4, 2) := by decide +kernel
theorem dX0_foldedAt_3 : decode cX0_foldedAt 3 = .ok (.iconst 0, 1) := by decide +kernel
theorem dX0_foldedAt_4 : decode cX0_foldedAt 4 = .ok (.istore 5, 2) := by decide +kernel
theorem dX0_foldedAt_6 : decode cX0_foldedAt 6 = .ok (.iload 5, 2) := by decide +kernel
theorem dX0_foldedAt_8 : decode cX0_foldedAt 8 = .ok (.aload_n 0, 1) := by decide +kernel
theorem dX0_foldedAt_9 : decode cX0_foldedAt 9 = .ok (.getfield 84, 3) := by decide +kernel
theorem dX0_foldedAt_12 : decode cX0_foldedAt 12 = .ok (.if_icmp .ge 39, 3) := by decide +kernel
theorem dX0_foldedAt_15 : decode cX0_foldedAt 15 = .ok (.aload_n 0, 1) := by decide +kernel
theorem dX0_foldedAt_16 : decode cX0_foldedAt 16 = .ok (.iload 4, 2) := by decide +kernel
theorem dX0_foldedAt_18 : decode cX0_foldedAt 18 = .ok (.aload_n 0, 1) := by decide +kernel
theorem dX0_foldedAt_19 : decode cX0_foldedAt 19 = .ok (.iload_n 1, 1) := by decide +kernel
theorem dX0_foldedAt_20 : decode cX0_foldedAt 20 = .ok (.iload 5, 2) := by decide +kernel
theorem dX0_foldedAt_22 : decode cX0_foldedAt 22 = .ok (.invokevirtual 68, 3) := by decide +kernel
theorem dX0_foldedAt_25 : decode cX0_foldedAt 25 = .ok (.aload_n 0, 1) := by decide +kernel
theorem dX0_foldedAt_26 : decode cX0_foldedAt 26 = .ok (.iload_n 2, 1) := by decide +kernel
theorem dX0_foldedAt_27 : decode cX0_foldedAt 27 = .ok (.aload_n 0, 1) := by decide +kernel
theorem dX0_foldedAt_28 : decode cX0_foldedAt 28 = .ok (.iload_n 3, 1) := by decide +kernel
theorem dX0_foldedAt_29 : decode cX0_foldedAt 29 = .ok (.iload 5, 2) := by decide +kernel
theorem dX0_foldedAt_31 : decode cX0_foldedAt 31 = .ok (.isub, 1) := by decide +kernel
theorem dX0_foldedAt_32 : decode cX0_foldedAt 32 = .ok (.invokevirtual 116, 3) := by decide +kernel
theorem dX0_foldedAt_35 : decode cX0_foldedAt 35 = .ok (.invokevirtual 68, 3) := by decide +kernel
theorem dX0_foldedAt_38 : decode cX0_foldedAt 38 = .ok (.imul, 1) := by decide +kernel
theorem dX0_foldedAt_39 : decode cX0_foldedAt 39 = .ok (.iadd, 1) := by decide +kernel
theorem dX0_foldedAt_40 : decode cX0_foldedAt 40 = .ok (.invokevirtual 46, 3) := by decide +kernel
theorem dX0_foldedAt_43 : decode cX0_foldedAt 43 = .ok (.istore 4, 2) := by decide +kernel
theorem dX0_foldedAt_45 : decode cX0_foldedAt 45 = .ok (.iinc 5 1, 3) := by decide +kernel
theorem dX0_foldedAt_48 : decode cX0_foldedAt 48 = .ok (.goto (-42), 3) := by decide +kernel
theorem dX0_foldedAt_51 : decode cX0_foldedAt 51 = .ok (.iload 4, 2) := by decide +kernel
theorem dX0_foldedAt_53 : decode cX0_foldedAt 53 = .ok (.ireturn, 1) := by decide +kernel
set_option maxRecDepth 20000 in
theorem ggX0_isWhenMoved_X0_wrapped : GoodIn wsX0_isWhenMoved wsX0_wrapped := goodIn_r _ [6, 1, 12, 13, 14, 15, 16, 17, 18] (by decide +kernel) (by decide +kernel)
set_option maxRecDepth 20000 in
theorem gX0_isWhenMoved_X0_wrapped : GoodIn wsX0_isWhenMoved (wsV RX0 116 RX0 yX0_wrapped wsX0_wrapped) := goodIn_app (goodIn_of _ (by decide +kernel)) ggX0_isWhenMoved_X0_wrapped
set_option maxRecDepth 20000 in
theorem ggX0_isWhenMoved_X0_read : GoodIn wsX0_isWhenMoved wsX0_read := goodIn_r _ [10, 11, 12, 13, 14, 15, 16, 17, 18] (by decide +kernel) (by decide +kernel)
set_option maxRecDepth 20000 in
theorem gX0_isWhenMoved_X0_read : GoodIn wsX0_isWhenMoved (wsV RX0 68 RX0 yX0_read wsX0_read) := goodIn_app (goodIn_of _ (by decide +kernel)) ggX0_isWhenMoved_X0_read
theorem dX0_isWhenMoved_0 : decode cX0_isWhenMoved 0 = .ok (.iconst 0, 1) := by decide +kernel
theorem dX0_isWhenMoved_1 : decode cX0_isWhenMoved 1 = .ok (.istore 4, 2) := by decide +kernel
theorem dX0_isWhenMoved_3 : decode cX0_isWhenMoved 3 = .ok (.iload 4, 2) := by decide +kernel
theorem dX0_isWhenMoved_5 : decode cX0_isWhenMoved 5 = .ok (.aload_n 0, 1) := by decide +kernel
theorem dX0_isWhenMoved_6 : decode cX0_isWhenMoved 6 = .ok (.getfield 84, 3) := by decide +kernel
theorem dX0_isWhenMoved_9 : decode cX0_isWhenMoved 9 = .ok (.if_icmp .ge 34, 3) := by decide +kernel
theorem dX0_isWhenMoved_12 : decode cX0_isWhenMoved 12 = .ok (.aload_n 0, 1) := by decide +kernel
theorem dX0_isWhenMoved_13 : decode cX0_isWhenMoved 13 = .ok (.iload_n 3, 1) := by decide +kernel
theorem dX0_isWhenMoved_14 : decode cX0_isWhenMoved 14 = .ok (.aload_n 0, 1) := by decide +kernel
theorem dX0_isWhenMoved_15 : decode cX0_isWhenMoved 15 = .ok (.iload 4, 2) := by decide +kernel
theorem dX0_isWhenMoved_17 : decode cX0_isWhenMoved 17 = .ok (.iload_n 2, 1) := by decide +kernel
theorem dX0_isWhenMoved_18 : decode cX0_isWhenMoved 18 = .ok (.iadd, 1) := by decide +kernel
theorem dX0_isWhenMoved_19 : decode cX0_isWhenMoved 19 = .ok (.invokevirtual 116, 3) := by decide +kernel
theorem dX0_isWhenMoved_22 : decode cX0_isWhenMoved 22 = .ok (.invokevirtual 68, 3) := by decide +kernel
theorem dX0_isWhenMoved_25 : decode cX0_isWhenMoved 25 = .ok (.aload_n 0, 1) := by decide +kernel
theorem dX0_isWhenMoved_26 : decode cX0_isWhenMoved 26 = .ok (.iload_n 1, 1) := by decide +kernel
theorem dX0_isWhenMoved_27 : decode cX0_isWhenMoved 27 = .ok (.iload 4, 2) := by decide +kernel
theorem dX0_isWhenMoved_29 : decode cX0_isWhenMoved 29 = .ok (.invokevirtual 68, 3) := by decide +kernel
theorem dX0_isWhenMoved_32 : decode cX0_isWhenMoved 32 = .ok (.if_icmp .eq 5, 3) := by decide +kernel
theorem dX0_isWhenMoved_35 : decode cX0_isWhenMoved 35 = .ok (.iconst 0, 1) := by decide +kernel
theorem dX0_isWhenMoved_36 : decode cX0_isWhenMoved 36 = .ok (.ireturn, 1) := by decide +kernel
theorem dX0_isWhenMoved_37 : decode cX0_isWhenMoved 37 = .ok (.iinc 4 1, 3) := by decide +kernel
theorem dX0_isWhenMoved_40 : decode cX0_isWhenMoved 40 = .ok (.goto (-37), 3) := by decide +kernel
theorem dX0_isWhenMoved_43 : decode cX0_isWhenMoved 43 = .ok (.iconst 1, 1) := by decide +kernel
theorem dX0_isWhenMoved_44 : decode cX0_isWhenMoved 44 = .ok (.ireturn, 1) := by decide +kernel
set_option maxRecDepth 20000 in
theorem ggX0_soundWhenMoved_X0_read : GoodIn wsX0_soundWhenMoved wsX0_read := goodIn_r _ [6, 7, 21, 22, 23, 24, 25, 26, 27] (by decide +kernel) (by decide +kernel)
set_option maxRecDepth 20000 in
theorem gX0_soundWhenMoved_X0_read : GoodIn wsX0_soundWhenMoved (wsV RX0 68 RX0 yX0_read wsX0_read) := goodIn_app (goodIn_of _ (by decide +kernel)) ggX0_soundWhenMoved_X0_read
set_option maxRecDepth 20000 in
theorem ggX0_soundWhenMoved_X0_wrapped : GoodIn wsX0_soundWhenMoved wsX0_wrapped := goodIn_r _ [11, 1, 21, 22, 23, 24, 25, 26, 27] (by decide +kernel) (by decide +kernel)
set_option maxRecDepth 20000 in
theorem gX0_soundWhenMoved_X0_wrapped : GoodIn wsX0_soundWhenMoved (wsV RX0 116 RX0 yX0_wrapped wsX0_wrapped) := goodIn_app (goodIn_of _ (by decide +kernel)) ggX0_soundWhenMoved_X0_wrapped
set_option maxRecDepth 20000 in
theorem ggX0_soundWhenMoved_X0_reduced : GoodIn wsX0_soundWhenMoved wsX0_reduced := goodIn_r _ [15, 16, 17, 18, 19, 20, 21, 22, 23, 24, 25, 26, 27] (by decide +kernel) (by decide +kernel)
set_option maxRecDepth 20000 in
theorem gX0_soundWhenMoved_X0_reduced : GoodIn wsX0_soundWhenMoved (wsV RX0 46 RX0 yX0_reduced wsX0_reduced) := goodIn_app (goodIn_of _ (by decide +kernel)) ggX0_soundWhenMoved_X0_reduced
theorem dX0_soundWhenMoved_0 : decode cX0_soundWhenMoved 0 = .ok (.iconst 0, 1) := by decide +kernel
theorem dX0_soundWhenMoved_1 : decode cX0_soundWhenMoved 1 = .ok (.istore 4, 2) := by decide +kernel
theorem dX0_soundWhenMoved_3 : decode cX0_soundWhenMoved 3 = .ok (.iconst 0, 1) := by decide +kernel
theorem dX0_soundWhenMoved_4 : decode cX0_soundWhenMoved 4 = .ok (.istore 5, 2) := by decide +kernel
theorem dX0_soundWhenMoved_6 : decode cX0_soundWhenMoved 6 = .ok (.iload 5, 2) := by decide +kernel
theorem dX0_soundWhenMoved_8 : decode cX0_soundWhenMoved 8 = .ok (.aload_n 0, 1) := by decide +kernel
theorem dX0_soundWhenMoved_9 : decode cX0_soundWhenMoved 9 = .ok (.getfield 84, 3) := by decide +kernel
theorem dX0_soundWhenMoved_12 : decode cX0_soundWhenMoved 12 = .ok (.if_icmp .ge 39, 3) := by decide +kernel
theorem dX0_soundWhenMoved_15 : decode cX0_soundWhenMoved 15 = .ok (.aload_n 0, 1) := by decide +kernel
theorem dX0_soundWhenMoved_16 : decode cX0_soundWhenMoved 16 = .ok (.iload 4, 2) := by decide +kernel
theorem dX0_soundWhenMoved_18 : decode cX0_soundWhenMoved 18 = .ok (.aload_n 0, 1) := by decide +kernel
theorem dX0_soundWhenMoved_19 : decode cX0_soundWhenMoved 19 = .ok (.iload_n 1, 1) := by decide +kernel
theorem dX0_soundWhenMoved_20 : decode cX0_soundWhenMoved 20 = .ok (.iload 5, 2) := by decide +kernel
theorem dX0_soundWhenMoved_22 : decode cX0_soundWhenMoved 22 = .ok (.invokevirtual 68, 3) := by decide +kernel
theorem dX0_soundWhenMoved_25 : decode cX0_soundWhenMoved 25 = .ok (.aload_n 0, 1) := by decide +kernel
theorem dX0_soundWhenMoved_26 : decode cX0_soundWhenMoved 26 = .ok (.iload_n 3, 1) := by decide +kernel
theorem dX0_soundWhenMoved_27 : decode cX0_soundWhenMoved 27 = .ok (.aload_n 0, 1) := by decide +kernel
theorem dX0_soundWhenMoved_28 : decode cX0_soundWhenMoved 28 = .ok (.iload 5, 2) := by decide +kernel
theorem dX0_soundWhenMoved_30 : decode cX0_soundWhenMoved 30 = .ok (.iload_n 2, 1) := by decide +kernel
theorem dX0_soundWhenMoved_31 : decode cX0_soundWhenMoved 31 = .ok (.iadd, 1) := by decide +kernel
theorem dX0_soundWhenMoved_32 : decode cX0_soundWhenMoved 32 = .ok (.invokevirtual 116, 3) := by decide +kernel
theorem dX0_soundWhenMoved_35 : decode cX0_soundWhenMoved 35 = .ok (.invokevirtual 68, 3) := by decide +kernel
theorem dX0_soundWhenMoved_38 : decode cX0_soundWhenMoved 38 = .ok (.imul, 1) := by decide +kernel
theorem dX0_soundWhenMoved_39 : decode cX0_soundWhenMoved 39 = .ok (.iadd, 1) := by decide +kernel
theorem dX0_soundWhenMoved_40 : decode cX0_soundWhenMoved 40 = .ok (.invokevirtual 46, 3) := by decide +kernel
theorem dX0_soundWhenMoved_43 : decode cX0_soundWhenMoved 43 = .ok (.istore 4, 2) := by decide +kernel
theorem dX0_soundWhenMoved_45 : decode cX0_soundWhenMoved 45 = .ok (.iinc 5 1, 3) := by decide +kernel
theorem dX0_soundWhenMoved_48 : decode cX0_soundWhenMoved 48 = .ok (.goto (-42), 3) := by decide +kernel
theorem dX0_soundWhenMoved_51 : decode cX0_soundWhenMoved 51 = .ok (.iload 4, 2) := by decide +kernel
theorem dX0_soundWhenMoved_53 : decode cX0_soundWhenMoved 53 = .ok (.ireturn, 1) := by decide +kernel
theorem dX0_counted_0 : decode cX0_counted 0 = .ok (.iload_n 1, 1) := by decide +kernel
theorem dX0_counted_1 : decode cX0_counted 1 = .ok (.tableswitch 60 0 4 #[35, 40, 45, 50, 55], 35) := by decide +kernel
theorem dX0_counted_36 : decode cX0_counted 36 = .ok (.aload_n 0, 1) := by decide +kernel
theorem dX0_counted_37 : decode cX0_counted 37 = .ok (.getfield 84, 3) := by decide +kernel
theorem dX0_counted_40 : decode cX0_counted 40 = .ok (.ireturn, 1) := by decide +kernel
theorem dX0_counted_41 : decode cX0_counted 41 = .ok (.aload_n 0, 1) := by decide +kernel
theorem dX0_counted_42 : decode cX0_counted 42 = .ok (.getfield 43, 3) := by decide +kernel
theorem dX0_counted_45 : decode cX0_counted 45 = .ok (.ireturn, 1) := by decide +kernel
theorem dX0_counted_46 : decode cX0_counted 46 = .ok (.aload_n 0, 1) := by decide +kernel
theorem dX0_counted_47 : decode cX0_counted 47 = .ok (.getfield 35, 3) := by decide +kernel
theorem dX0_counted_50 : decode cX0_counted 50 = .ok (.ireturn, 1) := by decide +kernel
theorem dX0_counted_51 : decode cX0_counted 51 = .ok (.aload_n 0, 1) := by decide +kernel
theorem dX0_counted_52 : decode cX0_counted 52 = .ok (.getfield 162, 3) := by decide +kernel
theorem dX0_counted_55 : decode cX0_counted 55 = .ok (.ireturn, 1) := by decide +kernel
theorem dX0_counted_56 : decode cX0_counted 56 = .ok (.aload_n 0, 1) := by decide +kernel
theorem dX0_counted_57 : decode cX0_counted 57 = .ok (.getfield 165, 3) := by decide +kernel
theorem dX0_counted_60 : decode cX0_counted 60 = .ok (.ireturn, 1) := by decide +kernel
theorem dX0_counted_61 : decode cX0_counted 61 = .ok (.aload_n 0, 1) := by decide +kernel
theorem dX0_counted_62 : decode cX0_counted 62 = .ok (.getfield 90, 3) := by decide +kernel
theorem dX0_counted_65 : decode cX0_counted 65 = .ok (.ireturn, 1) := by decide +kernel
set_option maxRecDepth 20000 in
theorem ggX0_told_X0_plainSum : GoodIn wsX0_told wsX0_plainSum := goodIn_r _ [5, 6, 7, 8, 9, 4, 10, 11, 49, 50, 51, 52, 53, 54, 55] (by decide +kernel) (by decide +kernel)
set_option maxRecDepth 20000 in
theorem gX0_told_X0_plainSum : GoodIn wsX0_told (wsV RX0 139 RX0 yX0_plainSum wsX0_plainSum) := goodIn_app (goodIn_of _ (by decide +kernel)) ggX0_told_X0_plainSum
set_option maxRecDepth 20000 in
theorem ggX0_told_X0_reduced : GoodIn wsX0_told wsX0_reduced := goodIn_r _ [15, 16, 17, 18, 19, 20, 49, 50, 51, 52, 53, 54, 55] (by decide +kernel) (by decide +kernel)
set_option maxRecDepth 20000 in
theorem gX0_told_X0_reduced : GoodIn wsX0_told (wsV RX0 46 RX0 yX0_reduced wsX0_reduced) := goodIn_app (goodIn_of _ (by decide +kernel)) ggX0_told_X0_reduced
set_option maxRecDepth 20000 in
theorem ggX0_told_X0_nonZeros : GoodIn wsX0_told wsX0_nonZeros := goodIn_r _ [24, 6, 7, 8, 9, 4, 10, 11, 49, 50, 51, 52, 53, 54, 55] (by decide +kernel) (by decide +kernel)
set_option maxRecDepth 20000 in
theorem gX0_told_X0_nonZeros : GoodIn wsX0_told (wsV RX0 111 RX0 yX0_nonZeros wsX0_nonZeros) := goodIn_app (goodIn_of _ (by decide +kernel)) ggX0_told_X0_nonZeros
set_option maxRecDepth 20000 in
theorem ggX0_told_X0_lastNonZero : GoodIn wsX0_told wsX0_lastNonZero := goodIn_r _ [28, 6, 7, 8, 9, 4, 10, 11, 49, 50, 51, 52, 53, 54, 55] (by decide +kernel) (by decide +kernel)
set_option maxRecDepth 20000 in
theorem gX0_told_X0_lastNonZero : GoodIn wsX0_told (wsV RX0 176 RX0 yX0_lastNonZero wsX0_lastNonZero) := goodIn_app (goodIn_of _ (by decide +kernel)) ggX0_told_X0_lastNonZero
set_option maxRecDepth 20000 in
theorem ggX0_told_X0_period : GoodIn wsX0_told wsX0_period := goodIn_r _ [32, 6, 33, 34, 35, 4, 36, 37, 38, 39, 40, 7, 8, 9, 10, 11, 49, 50, 51, 52, 53, 54, 55] (by decide +kernel) (by decide +kernel)
set_option maxRecDepth 20000 in
theorem gX0_told_X0_period : GoodIn wsX0_told (wsV RX0 179 RX0 yX0_period wsX0_period) := goodIn_app (goodIn_of _ (by decide +kernel)) ggX0_told_X0_period
set_option maxRecDepth 20000 in
theorem ggX0_told_X0_greatestNumber : GoodIn wsX0_told wsX0_greatestNumber := goodIn_r _ [44, 6, 45, 46, 47, 48, 7, 8, 9, 4, 10, 11, 49, 50, 51, 52, 53, 54, 55] (by decide +kernel) (by decide +kernel)
set_option maxRecDepth 20000 in
theorem gX0_told_X0_greatestNumber : GoodIn wsX0_told (wsV RX0 182 RX0 yX0_greatestNumber wsX0_greatestNumber) := goodIn_app (goodIn_of _ (by decide +kernel)) ggX0_told_X0_greatestNumber
theorem dX0_told_0 : decode cX0_told 0 = .ok (.iload_n 2, 1) := by decide +kernel
theorem dX0_told_1 : decode cX0_told 1 = .ok (.tableswitch 59 0 3 #[31, 41, 47, 53], 31) := by decide +kernel
theorem dX0_told_32 : decode cX0_told 32 = .ok (.aload_n 0, 1) := by decide +kernel
theorem dX0_told_33 : decode cX0_told 33 = .ok (.aload_n 0, 1) := by decide +kernel
theorem dX0_told_34 : decode cX0_told 34 = .ok (.iload_n 1, 1) := by decide +kernel
theorem dX0_told_35 : decode cX0_told 35 = .ok (.invokevirtual 139, 3) := by decide +kernel
theorem dX0_told_38 : decode cX0_told 38 = .ok (.invokevirtual 46, 3) := by decide +kernel
theorem dX0_told_41 : decode cX0_told 41 = .ok (.ireturn, 1) := by decide +kernel
theorem dX0_told_42 : decode cX0_told 42 = .ok (.aload_n 0, 1) := by decide +kernel
theorem dX0_told_43 : decode cX0_told 43 = .ok (.iload_n 1, 1) := by decide +kernel
theorem dX0_told_44 : decode cX0_told 44 = .ok (.invokevirtual 111, 3) := by decide +kernel
theorem dX0_told_47 : decode cX0_told 47 = .ok (.ireturn, 1) := by decide +kernel
theorem dX0_told_48 : decode cX0_told 48 = .ok (.aload_n 0, 1) := by decide +kernel
theorem dX0_told_49 : decode cX0_told 49 = .ok (.iload_n 1, 1) := by decide +kernel
theorem dX0_told_50 : decode cX0_told 50 = .ok (.invokevirtual 176, 3) := by decide +kernel
theorem dX0_told_53 : decode cX0_told 53 = .ok (.ireturn, 1) := by decide +kernel
theorem dX0_told_54 : decode cX0_told 54 = .ok (.aload_n 0, 1) := by decide +kernel
theorem dX0_told_55 : decode cX0_told 55 = .ok (.iload_n 1, 1) := by decide +kernel
theorem dX0_told_56 : decode cX0_told 56 = .ok (.invokevirtual 179, 3) := by decide +kernel
theorem dX0_told_59 : decode cX0_told 59 = .ok (.ireturn, 1) := by decide +kernel
theorem dX0_told_60 : decode cX0_told 60 = .ok (.aload_n 0, 1) := by decide +kernel
theorem dX0_told_61 : decode cX0_told 61 = .ok (.iload_n 1, 1) := by decide +kernel
theorem dX0_told_62 : decode cX0_told 62 = .ok (.invokevirtual 182, 3) := by decide +kernel
theorem dX0_told_65 : decode cX0_told 65 = .ok (.ireturn, 1) := by decide +kernel
set_option maxRecDepth 20000 in
theorem ggX0_plainSum_X0_read : GoodIn wsX0_plainSum wsX0_read := goodIn_r _ [6, 7, 8, 9, 10, 11, 12, 13, 14] (by decide +kernel) (by decide +kernel)
set_option maxRecDepth 20000 in
theorem gX0_plainSum_X0_read : GoodIn wsX0_plainSum (wsV RX0 68 RX0 yX0_read wsX0_read) := goodIn_app (goodIn_of _ (by decide +kernel)) ggX0_plainSum_X0_read
theorem dX0_plainSum_0 : decode cX0_plainSum 0 = .ok (.iconst 0, 1) := by decide +kernel
theorem dX0_plainSum_1 : decode cX0_plainSum 1 = .ok (.istore_n 2, 1) := by decide +kernel
theorem dX0_plainSum_2 : decode cX0_plainSum 2 = .ok (.iconst 0, 1) := by decide +kernel
theorem dX0_plainSum_3 : decode cX0_plainSum 3 = .ok (.istore_n 3, 1) := by decide +kernel
theorem dX0_plainSum_4 : decode cX0_plainSum 4 = .ok (.iload_n 3, 1) := by decide +kernel
theorem dX0_plainSum_5 : decode cX0_plainSum 5 = .ok (.aload_n 0, 1) := by decide +kernel
theorem dX0_plainSum_6 : decode cX0_plainSum 6 = .ok (.getfield 84, 3) := by decide +kernel
theorem dX0_plainSum_9 : decode cX0_plainSum 9 = .ok (.if_icmp .ge 18, 3) := by decide +kernel
theorem dX0_plainSum_12 : decode cX0_plainSum 12 = .ok (.iload_n 2, 1) := by decide +kernel
theorem dX0_plainSum_13 : decode cX0_plainSum 13 = .ok (.aload_n 0, 1) := by decide +kernel
theorem dX0_plainSum_14 : decode cX0_plainSum 14 = .ok (.iload_n 1, 1) := by decide +kernel
theorem dX0_plainSum_15 : decode cX0_plainSum 15 = .ok (.iload_n 3, 1) := by decide +kernel
theorem dX0_plainSum_16 : decode cX0_plainSum 16 = .ok (.invokevirtual 68, 3) := by decide +kernel
theorem dX0_plainSum_19 : decode cX0_plainSum 19 = .ok (.iadd, 1) := by decide +kernel
theorem dX0_plainSum_20 : decode cX0_plainSum 20 = .ok (.istore_n 2, 1) := by decide +kernel
theorem dX0_plainSum_21 : decode cX0_plainSum 21 = .ok (.iinc 3 1, 3) := by decide +kernel
theorem dX0_plainSum_24 : decode cX0_plainSum 24 = .ok (.goto (-20), 3) := by decide +kernel
theorem dX0_plainSum_27 : decode cX0_plainSum 27 = .ok (.iload_n 2, 1) := by decide +kernel
theorem dX0_plainSum_28 : decode cX0_plainSum 28 = .ok (.ireturn, 1) := by decide +kernel
set_option maxRecDepth 20000 in
theorem ggX0_nonZeros_X0_read : GoodIn wsX0_nonZeros wsX0_read := goodIn_r _ [6, 7, 8, 9, 10, 11, 12, 13, 14] (by decide +kernel) (by decide +kernel)
set_option maxRecDepth 20000 in
theorem gX0_nonZeros_X0_read : GoodIn wsX0_nonZeros (wsV RX0 68 RX0 yX0_read wsX0_read) := goodIn_app (goodIn_of _ (by decide +kernel)) ggX0_nonZeros_X0_read
theorem dX0_nonZeros_0 : decode cX0_nonZeros 0 = .ok (.iconst 0, 1) := by decide +kernel
theorem dX0_nonZeros_1 : decode cX0_nonZeros 1 = .ok (.istore_n 2, 1) := by decide +kernel
theorem dX0_nonZeros_2 : decode cX0_nonZeros 2 = .ok (.iconst 0, 1) := by decide +kernel
theorem dX0_nonZeros_3 : decode cX0_nonZeros 3 = .ok (.istore_n 3, 1) := by decide +kernel
theorem dX0_nonZeros_4 : decode cX0_nonZeros 4 = .ok (.iload_n 3, 1) := by decide +kernel
theorem dX0_nonZeros_5 : decode cX0_nonZeros 5 = .ok (.aload_n 0, 1) := by decide +kernel
theorem dX0_nonZeros_6 : decode cX0_nonZeros 6 = .ok (.getfield 84, 3) := by decide +kernel
theorem dX0_nonZeros_9 : decode cX0_nonZeros 9 = .ok (.if_icmp .ge 21, 3) := by decide +kernel
theorem dX0_nonZeros_12 : decode cX0_nonZeros 12 = .ok (.aload_n 0, 1) := by decide +kernel
theorem dX0_nonZeros_13 : decode cX0_nonZeros 13 = .ok (.iload_n 1, 1) := by decide +kernel
theorem dX0_nonZeros_14 : decode cX0_nonZeros 14 = .ok (.iload_n 3, 1) := by decide +kernel
theorem dX0_nonZeros_15 : decode cX0_nonZeros 15 = .ok (.invokevirtual 68, 3) := by decide +kernel
theorem dX0_nonZeros_18 : decode cX0_nonZeros 18 = .ok (.ifCond .eq 6, 3) := by decide +kernel
theorem dX0_nonZeros_21 : decode cX0_nonZeros 21 = .ok (.iinc 2 1, 3) := by decide +kernel
theorem dX0_nonZeros_24 : decode cX0_nonZeros 24 = .ok (.iinc 3 1, 3) := by decide +kernel
theorem dX0_nonZeros_27 : decode cX0_nonZeros 27 = .ok (.goto (-23), 3) := by decide +kernel
theorem dX0_nonZeros_30 : decode cX0_nonZeros 30 = .ok (.iload_n 2, 1) := by decide +kernel
theorem dX0_nonZeros_31 : decode cX0_nonZeros 31 = .ok (.ireturn, 1) := by decide +kernel
set_option maxRecDepth 20000 in
theorem ggX0_lastNonZero_X0_read : GoodIn wsX0_lastNonZero wsX0_read := goodIn_r _ [6, 7, 8, 9, 10, 11, 12, 13, 14] (by decide +kernel) (by decide +kernel)
set_option maxRecDepth 20000 in
theorem gX0_lastNonZero_X0_read : GoodIn wsX0_lastNonZero (wsV RX0 68 RX0 yX0_read wsX0_read) := goodIn_app (goodIn_of _ (by decide +kernel)) ggX0_lastNonZero_X0_read
theorem dX0_lastNonZero_0 : decode cX0_lastNonZero 0 = .ok (.aload_n 0, 1) := by decide +kernel
theorem dX0_lastNonZero_1 : decode cX0_lastNonZero 1 = .ok (.getfield 84, 3) := by decide +kernel
theorem dX0_lastNonZero_4 : decode cX0_lastNonZero 4 = .ok (.iconst 1, 1) := by decide +kernel
theorem dX0_lastNonZero_5 : decode cX0_lastNonZero 5 = .ok (.isub, 1) := by decide +kernel
theorem dX0_lastNonZero_6 : decode cX0_lastNonZero 6 = .ok (.istore_n 2, 1) := by decide +kernel
theorem dX0_lastNonZero_7 : decode cX0_lastNonZero 7 = .ok (.iload_n 2, 1) := by decide +kernel
theorem dX0_lastNonZero_8 : decode cX0_lastNonZero 8 = .ok (.ifCond .lt 20, 3) := by decide +kernel
theorem dX0_lastNonZero_11 : decode cX0_lastNonZero 11 = .ok (.aload_n 0, 1) := by decide +kernel
theorem dX0_lastNonZero_12 : decode cX0_lastNonZero 12 = .ok (.iload_n 1, 1) := by decide +kernel
theorem dX0_lastNonZero_13 : decode cX0_lastNonZero 13 = .ok (.iload_n 2, 1) := by decide +kernel
theorem dX0_lastNonZero_14 : decode cX0_lastNonZero 14 = .ok (.invokevirtual 68, 3) := by decide +kernel
theorem dX0_lastNonZero_17 : decode cX0_lastNonZero 17 = .ok (.ifCond .eq 5, 3) := by decide +kernel
theorem dX0_lastNonZero_20 : decode cX0_lastNonZero 20 = .ok (.iload_n 2, 1) := by decide +kernel
theorem dX0_lastNonZero_21 : decode cX0_lastNonZero 21 = .ok (.ireturn, 1) := by decide +kernel
theorem dX0_lastNonZero_22 : decode cX0_lastNonZero 22 = .ok (.iinc 2 (-1), 3) := by decide +kernel
theorem dX0_lastNonZero_25 : decode cX0_lastNonZero 25 = .ok (.goto (-18), 3) := by decide +kernel
theorem dX0_lastNonZero_28 : decode cX0_lastNonZero 28 = .ok (.iconst (-1), 1) := by decide +kernel
theorem dX0_lastNonZero_29 : decode cX0_lastNonZero 29 = .ok (.ireturn, 1) := by decide +kernel
set_option maxRecDepth 20000 in
theorem ggX0_period_X0_isWhenMoved : GoodIn wsX0_period wsX0_isWhenMoved := goodIn_r _ [6, 1, 7, 8, 9, 5, 10, 11, 12, 13, 14, 15, 16, 17, 18, 19, 20, 21, 22] (by decide +kernel) (by decide +kernel)
set_option maxRecDepth 20000 in
theorem gX0_period_X0_isWhenMoved : GoodIn wsX0_period (wsV RX0 132 RX0 yX0_isWhenMoved wsX0_isWhenMoved) := goodIn_app (goodIn_of _ (by decide +kernel)) ggX0_period_X0_isWhenMoved
theorem dX0_period_0 : decode cX0_period 0 = .ok (.iconst 1, 1) := by decide +kernel
theorem dX0_period_1 : decode cX0_period 1 = .ok (.istore_n 2, 1) := by decide +kernel
theorem dX0_period_2 : decode cX0_period 2 = .ok (.iload_n 2, 1) := by decide +kernel
theorem dX0_period_3 : decode cX0_period 3 = .ok (.aload_n 0, 1) := by decide +kernel
theorem dX0_period_4 : decode cX0_period 4 = .ok (.getfield 84, 3) := by decide +kernel
theorem dX0_period_7 : decode cX0_period 7 = .ok (.if_icmp .ge 21, 3) := by decide +kernel
theorem dX0_period_10 : decode cX0_period 10 = .ok (.aload_n 0, 1) := by decide +kernel
theorem dX0_period_11 : decode cX0_period 11 = .ok (.iload_n 1, 1) := by decide +kernel
theorem dX0_period_12 : decode cX0_period 12 = .ok (.iload_n 2, 1) := by decide +kernel
theorem dX0_period_13 : decode cX0_period 13 = .ok (.iload_n 1, 1) := by decide +kernel
theorem dX0_period_14 : decode cX0_period 14 = .ok (.invokevirtual 132, 3) := by decide +kernel
theorem dX0_period_17 : decode cX0_period 17 = .ok (.ifCond .eq 5, 3) := by decide +kernel
theorem dX0_period_20 : decode cX0_period 20 = .ok (.iload_n 2, 1) := by decide +kernel
theorem dX0_period_21 : decode cX0_period 21 = .ok (.ireturn, 1) := by decide +kernel
theorem dX0_period_22 : decode cX0_period 22 = .ok (.iinc 2 1, 3) := by decide +kernel
theorem dX0_period_25 : decode cX0_period 25 = .ok (.goto (-23), 3) := by decide +kernel
theorem dX0_period_28 : decode cX0_period 28 = .ok (.aload_n 0, 1) := by decide +kernel
theorem dX0_period_29 : decode cX0_period 29 = .ok (.getfield 84, 3) := by decide +kernel
theorem dX0_period_32 : decode cX0_period 32 = .ok (.ireturn, 1) := by decide +kernel
set_option maxRecDepth 20000 in
theorem ggX0_greatestNumber_X0_read : GoodIn wsX0_greatestNumber wsX0_read := goodIn_r _ [10, 11, 12, 13, 14, 15, 16, 17, 18] (by decide +kernel) (by decide +kernel)
set_option maxRecDepth 20000 in
theorem gX0_greatestNumber_X0_read : GoodIn wsX0_greatestNumber (wsV RX0 68 RX0 yX0_read wsX0_read) := goodIn_app (goodIn_of _ (by decide +kernel)) ggX0_greatestNumber_X0_read
theorem dX0_greatestNumber_0 : decode cX0_greatestNumber 0 = .ok (.iconst 0, 1) := by decide +kernel
theorem dX0_greatestNumber_1 : decode cX0_greatestNumber 1 = .ok (.istore_n 2, 1) := by decide +kernel
theorem dX0_greatestNumber_2 : decode cX0_greatestNumber 2 = .ok (.iconst 0, 1) := by decide +kernel
theorem dX0_greatestNumber_3 : decode cX0_greatestNumber 3 = .ok (.istore_n 3, 1) := by decide +kernel
theorem dX0_greatestNumber_4 : decode cX0_greatestNumber 4 = .ok (.iload_n 3, 1) := by decide +kernel
theorem dX0_greatestNumber_5 : decode cX0_greatestNumber 5 = .ok (.aload_n 0, 1) := by decide +kernel
theorem dX0_greatestNumber_6 : decode cX0_greatestNumber 6 = .ok (.getfield 84, 3) := by decide +kernel
theorem dX0_greatestNumber_9 : decode cX0_greatestNumber 9 = .ok (.if_icmp .ge 20, 3) := by decide +kernel
theorem dX0_greatestNumber_12 : decode cX0_greatestNumber 12 = .ok (.iload_n 2, 1) := by decide +kernel
theorem dX0_greatestNumber_13 : decode cX0_greatestNumber 13 = .ok (.aload_n 0, 1) := by decide +kernel
theorem dX0_greatestNumber_14 : decode cX0_greatestNumber 14 = .ok (.iload_n 1, 1) := by decide +kernel
theorem dX0_greatestNumber_15 : decode cX0_greatestNumber 15 = .ok (.iload_n 3, 1) := by decide +kernel
theorem dX0_greatestNumber_16 : decode cX0_greatestNumber 16 = .ok (.invokevirtual 68, 3) := by decide +kernel
theorem dX0_greatestNumber_19 : decode cX0_greatestNumber 19 = .ok (.invokestatic 185, 3) := by decide +kernel
theorem dX0_greatestNumber_22 : decode cX0_greatestNumber 22 = .ok (.istore_n 2, 1) := by decide +kernel
theorem dX0_greatestNumber_23 : decode cX0_greatestNumber 23 = .ok (.iinc 3 1, 3) := by decide +kernel
theorem dX0_greatestNumber_26 : decode cX0_greatestNumber 26 = .ok (.goto (-22), 3) := by decide +kernel
theorem dX0_greatestNumber_29 : decode cX0_greatestNumber 29 = .ok (.iload_n 2, 1) := by decide +kernel
theorem dX0_greatestNumber_30 : decode cX0_greatestNumber 30 = .ok (.ireturn, 1) := by decide +kernel
set_option maxRecDepth 20000 in
theorem ggX0_digestRow_X0_read : GoodIn wsX0_digestRow wsX0_read := goodIn_r _ [7, 8, 9, 10, 11, 12, 13, 14, 15] (by decide +kernel) (by decide +kernel)
set_option maxRecDepth 20000 in
theorem gX0_digestRow_X0_read : GoodIn wsX0_digestRow (wsV RX0 68 RX0 yX0_read wsX0_read) := goodIn_app (goodIn_of _ (by decide +kernel)) ggX0_digestRow_X0_read
theorem dX0_digestRow_0 : decode cX0_digestRow 0 = .ok (.lload_n 1, 1) := by decide +kernel
theorem dX0_digestRow_1 : decode cX0_digestRow 1 = .ok (.lstore 4, 2) := by decide +kernel
theorem dX0_digestRow_3 : decode cX0_digestRow 3 = .ok (.iconst 0, 1) := by decide +kernel
theorem dX0_digestRow_4 : decode cX0_digestRow 4 = .ok (.istore 6, 2) := by decide +kernel
theorem dX0_digestRow_6 : decode cX0_digestRow 6 = .ok (.iload 6, 2) := by decide +kernel
theorem dX0_digestRow_8 : decode cX0_digestRow 8 = .ok (.aload_n 0, 1) := by decide +kernel
theorem dX0_digestRow_9 : decode cX0_digestRow 9 = .ok (.getfield 84, 3) := by decide +kernel
theorem dX0_digestRow_12 : decode cX0_digestRow 12 = .ok (.if_icmp .ge 26, 3) := by decide +kernel
theorem dX0_digestRow_15 : decode cX0_digestRow 15 = .ok (.lload 4, 2) := by decide +kernel
theorem dX0_digestRow_17 : decode cX0_digestRow 17 = .ok (.ldc2_w 144, 3) := by decide +kernel
theorem dX0_digestRow_20 : decode cX0_digestRow 20 = .ok (.lmul, 1) := by decide +kernel
theorem dX0_digestRow_21 : decode cX0_digestRow 21 = .ok (.aload_n 0, 1) := by decide +kernel
theorem dX0_digestRow_22 : decode cX0_digestRow 22 = .ok (.iload_n 3, 1) := by decide +kernel
theorem dX0_digestRow_23 : decode cX0_digestRow 23 = .ok (.iload 6, 2) := by decide +kernel
theorem dX0_digestRow_25 : decode cX0_digestRow 25 = .ok (.invokevirtual 68, 3) := by decide +kernel
theorem dX0_digestRow_28 : decode cX0_digestRow 28 = .ok (.i2l, 1) := by decide +kernel
theorem dX0_digestRow_29 : decode cX0_digestRow 29 = .ok (.ladd, 1) := by decide +kernel
theorem dX0_digestRow_30 : decode cX0_digestRow 30 = .ok (.lstore 4, 2) := by decide +kernel
theorem dX0_digestRow_32 : decode cX0_digestRow 32 = .ok (.iinc 6 1, 3) := by decide +kernel
theorem dX0_digestRow_35 : decode cX0_digestRow 35 = .ok (.goto (-29), 3) := by decide +kernel
theorem dX0_digestRow_38 : decode cX0_digestRow 38 = .ok (.lload 4, 2) := by decide +kernel
theorem dX0_digestRow_40 : decode cX0_digestRow 40 = .ok (.lreturn, 1) := by decide +kernel
theorem dX1_init_0 : decode cX1_init 0 = .ok (.aload_n 0, 1) := by decide +kernel
theorem dX1_init_1 : decode cX1_init 1 = .ok (.invokespecial 1, 3) := by decide +kernel
theorem dX1_init_4 : decode cX1_init 4 = .ok (.aload_n 0, 1) := by decide +kernel
theorem dX1_init_5 : decode cX1_init 5 = .ok (.bipush 8, 2) := by decide +kernel
theorem dX1_init_7 : decode cX1_init 7 = .ok (.putfield 7, 3) := by decide +kernel
theorem dX1_init_10 : decode cX1_init 10 = .ok (.aload_n 0, 1) := by decide +kernel
theorem dX1_init_11 : decode cX1_init 11 = .ok (.bipush 17, 2) := by decide +kernel
theorem dX1_init_13 : decode cX1_init 13 = .ok (.putfield 13, 3) := by decide +kernel
theorem dX1_init_16 : decode cX1_init 16 = .ok (.aload_n 0, 1) := by decide +kernel
theorem dX1_init_17 : decode cX1_init 17 = .ok (.iconst 2, 1) := by decide +kernel
theorem dX1_init_18 : decode cX1_init 18 = .ok (.putfield 16, 3) := by decide +kernel
theorem dX1_init_21 : decode cX1_init 21 = .ok (.aload_n 0, 1) := by decide +kernel
theorem dX1_init_22 : decode cX1_init 22 = .ok (.iconst 3, 1) := by decide +kernel
theorem dX1_init_23 : decode cX1_init 23 = .ok (.putfield 19, 3) := by decide +kernel
theorem dX1_init_26 : decode cX1_init 26 = .ok (.aload_n 0, 1) := by decide +kernel
theorem dX1_init_27 : decode cX1_init 27 = .ok (.bipush 64, 2) := by decide +kernel
theorem dX1_init_29 : decode cX1_init 29 = .ok (.newarray .int, 2) := by decide +kernel
theorem dX1_init_31 : decode cX1_init 31 = .ok (.putfield 22, 3) := by decide +kernel
theorem dX1_init_34 : decode cX1_init 34 = .ok (.aload_n 0, 1) := by decide +kernel
theorem dX1_init_35 : decode cX1_init 35 = .ok (.bipush 16, 2) := by decide +kernel
theorem dX1_init_37 : decode cX1_init 37 = .ok (.newarray .int, 2) := by decide +kernel
theorem dX1_init_39 : decode cX1_init 39 = .ok (.putfield 26, 3) := by decide +kernel
theorem dX1_init_42 : decode cX1_init 42 = .ok (.return_, 1) := by decide +kernel
theorem dX1_thrown_0 : decode cX1_thrown 0 = .ok (.aload_n 0, 1) := by decide +kernel
theorem dX1_thrown_1 : decode cX1_thrown 1 = .ok (.getfield 29, 3) := by decide +kernel
theorem dX1_thrown_4 : decode cX1_thrown 4 = .ok (.ireturn, 1) := by decide +kernel
theorem dX1_no_0 : decode cX1_no 0 = .ok (.aload_n 0, 1) := by decide +kernel
theorem dX1_no_1 : decode cX1_no 1 = .ok (.iload_n 1, 1) := by decide +kernel
theorem dX1_no_2 : decode cX1_no 2 = .ok (.putfield 29, 3) := by decide +kernel
theorem dX1_no_5 : decode cX1_no 5 = .ok (.iconst 0, 1) := by decide +kernel
theorem dX1_no_6 : decode cX1_no 6 = .ok (.ireturn, 1) := by decide +kernel
theorem dX1_isIn_0 : decode cX1_isIn 0 = .ok (.iload_n 0, 1) := by decide +kernel
theorem dX1_isIn_1 : decode cX1_isIn 1 = .ok (.iload_n 1, 1) := by decide +kernel
theorem dX1_isIn_2 : decode cX1_isIn 2 = .ok (.if_icmp .lt 12, 3) := by decide +kernel
theorem dX1_isIn_5 : decode cX1_isIn 5 = .ok (.iload_n 0, 1) := by decide +kernel
theorem dX1_isIn_6 : decode cX1_isIn 6 = .ok (.iload_n 2, 1) := by decide +kernel
theorem dX1_isIn_7 : decode cX1_isIn 7 = .ok (.if_icmp .gt 7, 3) := by decide +kernel
theorem dX1_isIn_10 : decode cX1_isIn 10 = .ok (.iconst 1, 1) := by decide +kernel
theorem dX1_isIn_11 : decode cX1_isIn 11 = .ok (.goto 4, 3) := by decide +kernel
theorem dX1_isIn_14 : decode cX1_isIn 14 = .ok (.iconst 0, 1) := by decide +kernel
theorem dX1_isIn_15 : decode cX1_isIn 15 = .ok (.ireturn, 1) := by decide +kernel
set_option maxRecDepth 20000 in
theorem ggX1_isRow_X1_isIn : GoodIn wsX1_isRow wsX1_isIn := goodIn_r _ [4] (by decide +kernel) (by decide +kernel)
set_option maxRecDepth 20000 in
theorem gX1_isRow_X1_isIn : GoodIn wsX1_isRow (va_wsS RX1 32 yX1_isIn wsX1_isIn) := goodIn_app (goodIn_of _ (by decide +kernel)) ggX1_isRow_X1_isIn
theorem dX1_isRow_0 : decode cX1_isRow 0 = .ok (.iload_n 0, 1) := by decide +kernel
theorem dX1_isRow_1 : decode cX1_isRow 1 = .ok (.iconst 0, 1) := by decide +kernel
theorem dX1_isRow_2 : decode cX1_isRow 2 = .ok (.iconst 3, 1) := by decide +kernel
theorem dX1_isRow_3 : decode cX1_isRow 3 = .ok (.invokestatic 32, 3) := by decide +kernel
theorem dX1_isRow_6 : decode cX1_isRow 6 = .ok (.ireturn, 1) := by decide +kernel
set_option maxRecDepth 20000 in
theorem ggX1_isPlace_X1_isIn : GoodIn wsX1_isPlace wsX1_isIn := goodIn_r _ [5] (by decide +kernel) (by decide +kernel)
set_option maxRecDepth 20000 in
theorem gX1_isPlace_X1_isIn : GoodIn wsX1_isPlace (va_wsS RX1 32 yX1_isIn wsX1_isIn) := goodIn_app (goodIn_of _ (by decide +kernel)) ggX1_isPlace_X1_isIn
theorem dX1_isPlace_0 : decode cX1_isPlace 0 = .ok (.iload_n 1, 1) := by decide +kernel
theorem dX1_isPlace_1 : decode cX1_isPlace 1 = .ok (.iconst 0, 1) := by decide +kernel
theorem dX1_isPlace_2 : decode cX1_isPlace 2 = .ok (.aload_n 0, 1) := by decide +kernel
theorem dX1_isPlace_3 : decode cX1_isPlace 3 = .ok (.getfield 7, 3) := by decide +kernel
theorem dX1_isPlace_6 : decode cX1_isPlace 6 = .ok (.iconst 1, 1) := by decide +kernel
theorem dX1_isPlace_7 : decode cX1_isPlace 7 = .ok (.isub, 1) := by decide +kernel
theorem dX1_isPlace_8 : decode cX1_isPlace 8 = .ok (.invokestatic 32, 3) := by decide +kernel
theorem dX1_isPlace_11 : decode cX1_isPlace 11 = .ok (.ireturn, 1) := by decide +kernel
theorem dX1_its_0 : decode cX1_its 0 = .ok (.aload_n 0, 1) := by decide +kernel
theorem dX1_its_1 : decode cX1_its 1 = .ok (.getfield 22, 3) := by decide +kernel
theorem dX1_its_4 : decode cX1_its 4 = .ok (.bipush 16, 2) := by decide +kernel
theorem dX1_its_6 : decode cX1_its 6 = .ok (.iload_n 1, 1) := by decide +kernel
theorem dX1_its_7 : decode cX1_its 7 = .ok (.imul, 1) := by decide +kernel
theorem dX1_its_8 : decode cX1_its 8 = .ok (.iload_n 2, 1) := by decide +kernel
theorem dX1_its_9 : decode cX1_its 9 = .ok (.iadd, 1) := by decide +kernel
theorem dX1_its_10 : decode cX1_its 10 = .ok (.iaload, 1) := by decide +kernel
theorem dX1_its_11 : decode cX1_its 11 = .ok (.ireturn, 1) := by decide +kernel
theorem dX1_plus_0 : decode cX1_plus 0 = .ok (.iload_n 1, 1) := by decide +kernel
theorem dX1_plus_1 : decode cX1_plus 1 = .ok (.iload_n 2, 1) := by decide +kernel
theorem dX1_plus_2 : decode cX1_plus 2 = .ok (.iadd, 1) := by decide +kernel
theorem dX1_plus_3 : decode cX1_plus 3 = .ok (.aload_n 0, 1) := by decide +kernel
theorem dX1_plus_4 : decode cX1_plus 4 = .ok (.getfield 13, 3) := by decide +kernel
theorem dX1_plus_7 : decode cX1_plus 7 = .ok (.irem, 1) := by decide +kernel
theorem dX1_plus_8 : decode cX1_plus 8 = .ok (.ireturn, 1) := by decide +kernel
theorem dX1_minus_0 : decode cX1_minus 0 = .ok (.iload_n 1, 1) := by decide +kernel
theorem dX1_minus_1 : decode cX1_minus 1 = .ok (.iload_n 2, 1) := by decide +kernel
theorem dX1_minus_2 : decode cX1_minus 2 = .ok (.isub, 1) := by decide +kernel
theorem dX1_minus_3 : decode cX1_minus 3 = .ok (.aload_n 0, 1) := by decide +kernel
theorem dX1_minus_4 : decode cX1_minus 4 = .ok (.getfield 13, 3) := by decide +kernel
theorem dX1_minus_7 : decode cX1_minus 7 = .ok (.iadd, 1) := by decide +kernel
theorem dX1_minus_8 : decode cX1_minus 8 = .ok (.aload_n 0, 1) := by decide +kernel
theorem dX1_minus_9 : decode cX1_minus 9 = .ok (.getfield 13, 3) := by decide +kernel
theorem dX1_minus_12 : decode cX1_minus 12 = .ok (.irem, 1) := by decide +kernel
theorem dX1_minus_13 : decode cX1_minus 13 = .ok (.ireturn, 1) := by decide +kernel
theorem dX1_by_0 : decode cX1_by 0 = .ok (.iload_n 1, 1) := by decide +kernel
theorem dX1_by_1 : decode cX1_by 1 = .ok (.iload_n 2, 1) := by decide +kernel
theorem dX1_by_2 : decode cX1_by 2 = .ok (.imul, 1) := by decide +kernel
theorem dX1_by_3 : decode cX1_by 3 = .ok (.aload_n 0, 1) := by decide +kernel
theorem dX1_by_4 : decode cX1_by 4 = .ok (.getfield 13, 3) := by decide +kernel
theorem dX1_by_7 : decode cX1_by 7 = .ok (.irem, 1) := by decide +kernel
theorem dX1_by_8 : decode cX1_by 8 = .ok (.ireturn, 1) := by decide +kernel
set_option maxRecDepth 20000 in
theorem ggX1_power_X1_by : GoodIn wsX1_power wsX1_by := goodIn_r _ [5, 6, 7, 8, 9, 10, 11, 12, 13] (by decide +kernel) (by decide +kernel)
set_option maxRecDepth 20000 in
theorem gX1_power_X1_by : GoodIn wsX1_power (wsV RX1 36 RX1 yX1_by wsX1_by) := goodIn_app (goodIn_of _ (by decide +kernel)) ggX1_power_X1_by
theorem dX1_power_0 : decode cX1_power 0 = .ok (.iconst 1, 1) := by decide +kernel
theorem dX1_power_1 : decode cX1_power 1 = .ok (.istore_n 3, 1) := by decide +kernel
theorem dX1_power_2 : decode cX1_power 2 = .ok (.iload_n 1, 1) := by decide +kernel
theorem dX1_power_3 : decode cX1_power 3 = .ok (.istore 4, 2) := by decide +kernel
theorem dX1_power_5 : decode cX1_power 5 = .ok (.iload_n 2, 1) := by decide +kernel
theorem dX1_power_6 : decode cX1_power 6 = .ok (.istore 5, 2) := by decide +kernel
theorem dX1_power_8 : decode cX1_power 8 = .ok (.iload 5, 2) := by decide +kernel
theorem dX1_power_10 : decode cX1_power 10 = .ok (.ifCond .le 38, 3) := by decide +kernel
theorem dX1_power_13 : decode cX1_power 13 = .ok (.iload 5, 2) := by decide +kernel
theorem dX1_power_15 : decode cX1_power 15 = .ok (.iconst 2, 1) := by decide +kernel
theorem dX1_power_16 : decode cX1_power 16 = .ok (.irem, 1) := by decide +kernel
theorem dX1_power_17 : decode cX1_power 17 = .ok (.iconst 1, 1) := by decide +kernel
theorem dX1_power_18 : decode cX1_power 18 = .ok (.if_icmp .ne 11, 3) := by decide +kernel
theorem dX1_power_21 : decode cX1_power 21 = .ok (.aload_n 0, 1) := by decide +kernel
theorem dX1_power_22 : decode cX1_power 22 = .ok (.iload_n 3, 1) := by decide +kernel
theorem dX1_power_23 : decode cX1_power 23 = .ok (.iload 4, 2) := by decide +kernel
theorem dX1_power_25 : decode cX1_power 25 = .ok (.invokevirtual 36, 3) := by decide +kernel
theorem dX1_power_28 : decode cX1_power 28 = .ok (.istore_n 3, 1) := by decide +kernel
theorem dX1_power_29 : decode cX1_power 29 = .ok (.aload_n 0, 1) := by decide +kernel
theorem dX1_power_30 : decode cX1_power 30 = .ok (.iload 4, 2) := by decide +kernel
theorem dX1_power_32 : decode cX1_power 32 = .ok (.iload 4, 2) := by decide +kernel
theorem dX1_power_34 : decode cX1_power 34 = .ok (.invokevirtual 36, 3) := by decide +kernel
theorem dX1_power_37 : decode cX1_power 37 = .ok (.istore 4, 2) := by decide +kernel
theorem dX1_power_39 : decode cX1_power 39 = .ok (.iload 5, 2) := by decide +kernel
theorem dX1_power_41 : decode cX1_power 41 = .ok (.iconst 2, 1) := by decide +kernel
theorem dX1_power_42 : decode cX1_power 42 = .ok (.idiv, 1) := by decide +kernel
theorem dX1_power_43 : decode cX1_power 43 = .ok (.istore 5, 2) := by decide +kernel
theorem dX1_power_45 : decode cX1_power 45 = .ok (.goto (-37), 3) := by decide +kernel
theorem dX1_power_48 : decode cX1_power 48 = .ok (.iload_n 3, 1) := by decide +kernel
theorem dX1_power_49 : decode cX1_power 49 = .ok (.ireturn, 1) := by decide +kernel
theorem dX1_inverseOf_0 : decode cX1_inverseOf 0 = .ok (.aload_n 0, 1) := by decide +kernel
theorem dX1_inverseOf_1 : decode cX1_inverseOf 1 = .ok (.getfield 13, 3) := by decide +kernel
theorem dX1_inverseOf_4 : decode cX1_inverseOf 4 = .ok (.istore_n 2, 1) := by decide +kernel
theorem dX1_inverseOf_5 : decode cX1_inverseOf 5 = .ok (.iload_n 1, 1) := by decide +kernel
theorem dX1_inverseOf_6 : decode cX1_inverseOf 6 = .ok (.istore_n 3, 1) := by decide +kernel
theorem dX1_inverseOf_7 : decode cX1_inverseOf 7 = .ok (.iconst 0, 1) := by decide +kernel
theorem dX1_inverseOf_8 : decode cX1_inverseOf 8 = .ok (.istore 4, 2) := by decide +kernel
theorem dX1_inverseOf_10 : decode cX1_inverseOf 10 = .ok (.iconst 1, 1) := by decide +kernel
theorem dX1_inverseOf_11 : decode cX1_inverseOf 11 = .ok (.istore 5, 2) := by decide +kernel
theorem dX1_inverseOf_13 : decode cX1_inverseOf 13 = .ok (.iload_n 3, 1) := by decide +kernel
theorem dX1_inverseOf_14 : decode cX1_inverseOf 14 = .ok (.ifCond .le 42, 3) := by decide +kernel
theorem dX1_inverseOf_17 : decode cX1_inverseOf 17 = .ok (.iload_n 2, 1) := by decide +kernel
theorem dX1_inverseOf_18 : decode cX1_inverseOf 18 = .ok (.iload_n 3, 1) := by decide +kernel
theorem dX1_inverseOf_19 : decode cX1_inverseOf 19 = .ok (.idiv, 1) := by decide +kernel
theorem dX1_inverseOf_20 : decode cX1_inverseOf 20 = .ok (.istore 6, 2) := by decide +kernel
theorem dX1_inverseOf_22 : decode cX1_inverseOf 22 = .ok (.iload_n 2, 1) := by decide +kernel
theorem dX1_inverseOf_23 : decode cX1_inverseOf 23 = .ok (.iload 6, 2) := by decide +kernel
theorem dX1_inverseOf_25 : decode cX1_inverseOf 25 = .ok (.iload_n 3, 1) := by decide +kernel
theorem dX1_inverseOf_26 : decode cX1_inverseOf 26 = .ok (.imul, 1) := by decide +kernel
theorem dX1_inverseOf_27 : decode cX1_inverseOf 27 = .ok (.isub, 1) := by decide +kernel
theorem dX1_inverseOf_28 : decode cX1_inverseOf 28 = .ok (.istore 7, 2) := by decide +kernel
theorem dX1_inverseOf_30 : decode cX1_inverseOf 30 = .ok (.iload 4, 2) := by decide +kernel
theorem dX1_inverseOf_32 : decode cX1_inverseOf 32 = .ok (.iload 6, 2) := by decide +kernel
theorem dX1_inverseOf_34 : decode cX1_inverseOf 34 = .ok (.iload 5, 2) := by decide +kernel
theorem dX1_inverseOf_36 : decode cX1_inverseOf 36 = .ok (.imul, 1) := by decide +kernel
theorem dX1_inverseOf_37 : decode cX1_inverseOf 37 = .ok (.isub, 1) := by decide +kernel
theorem dX1_inverseOf_38 : decode cX1_inverseOf 38 = .ok (.istore 8, 2) := by decide +kernel
theorem dX1_inverseOf_40 : decode cX1_inverseOf 40 = .ok (.iload_n 3, 1) := by decide +kernel
theorem dX1_inverseOf_41 : decode cX1_inverseOf 41 = .ok (.istore_n 2, 1) := by decide +kernel
theorem dX1_inverseOf_42 : decode cX1_inverseOf 42 = .ok (.iload 7, 2) := by decide +kernel
theorem dX1_inverseOf_44 : decode cX1_inverseOf 44 = .ok (.istore_n 3, 1) := by decide +kernel
theorem dX1_inverseOf_45 : decode cX1_inverseOf 45 = .ok (.iload 5, 2) := by decide +kernel
theorem dX1_inverseOf_47 : decode cX1_inverseOf 47 = .ok (.istore 4, 2) := by decide +kernel
theorem dX1_inverseOf_49 : decode cX1_inverseOf 49 = .ok (.iload 8, 2) := by decide +kernel
theorem dX1_inverseOf_51 : decode cX1_inverseOf 51 = .ok (.istore 5, 2) := by decide +kernel
theorem dX1_inverseOf_53 : decode cX1_inverseOf 53 = .ok (.goto (-40), 3) := by decide +kernel
theorem dX1_inverseOf_56 : decode cX1_inverseOf 56 = .ok (.iload 4, 2) := by decide +kernel
theorem dX1_inverseOf_58 : decode cX1_inverseOf 58 = .ok (.aload_n 0, 1) := by decide +kernel
theorem dX1_inverseOf_59 : decode cX1_inverseOf 59 = .ok (.getfield 13, 3) := by decide +kernel
theorem dX1_inverseOf_62 : decode cX1_inverseOf 62 = .ok (.irem, 1) := by decide +kernel
theorem dX1_inverseOf_63 : decode cX1_inverseOf 63 = .ok (.aload_n 0, 1) := by decide +kernel
theorem dX1_inverseOf_64 : decode cX1_inverseOf 64 = .ok (.getfield 13, 3) := by decide +kernel
theorem dX1_inverseOf_67 : decode cX1_inverseOf 67 = .ok (.iadd, 1) := by decide +kernel
theorem dX1_inverseOf_68 : decode cX1_inverseOf 68 = .ok (.aload_n 0, 1) := by decide +kernel
theorem dX1_inverseOf_69 : decode cX1_inverseOf 69 = .ok (.getfield 13, 3) := by decide +kernel
theorem dX1_inverseOf_72 : decode cX1_inverseOf 72 = .ok (.irem, 1) := by decide +kernel
theorem dX1_inverseOf_73 : decode cX1_inverseOf 73 = .ok (.ireturn, 1) := by decide +kernel
set_option maxRecDepth 20000 in
theorem ggX1_orderOf_X1_by : GoodIn wsX1_orderOf wsX1_by := goodIn_r _ [5, 6, 7, 8, 9, 10, 11, 12, 13] (by decide +kernel) (by decide +kernel)
set_option maxRecDepth 20000 in
theorem gX1_orderOf_X1_by : GoodIn wsX1_orderOf (wsV RX1 36 RX1 yX1_by wsX1_by) := goodIn_app (goodIn_of _ (by decide +kernel)) ggX1_orderOf_X1_by
theorem dX1_orderOf_0 : decode cX1_orderOf 0 = .ok (.iconst 1, 1) := by decide +kernel
theorem dX1_orderOf_1 : decode cX1_orderOf 1 = .ok (.istore_n 2, 1) := by decide +kernel
theorem dX1_orderOf_2 : decode cX1_orderOf 2 = .ok (.iload_n 1, 1) := by decide +kernel
theorem dX1_orderOf_3 : decode cX1_orderOf 3 = .ok (.istore_n 3, 1) := by decide +kernel
theorem dX1_orderOf_4 : decode cX1_orderOf 4 = .ok (.iload_n 3, 1) := by decide +kernel
theorem dX1_orderOf_5 : decode cX1_orderOf 5 = .ok (.iconst 1, 1) := by decide +kernel
theorem dX1_orderOf_6 : decode cX1_orderOf 6 = .ok (.if_icmp .eq 16, 3) := by decide +kernel
theorem dX1_orderOf_9 : decode cX1_orderOf 9 = .ok (.iinc 2 1, 3) := by decide +kernel
theorem dX1_orderOf_12 : decode cX1_orderOf 12 = .ok (.aload_n 0, 1) := by decide +kernel
theorem dX1_orderOf_13 : decode cX1_orderOf 13 = .ok (.iload_n 3, 1) := by decide +kernel
theorem dX1_orderOf_14 : decode cX1_orderOf 14 = .ok (.iload_n 1, 1) := by decide +kernel
theorem dX1_orderOf_15 : decode cX1_orderOf 15 = .ok (.invokevirtual 36, 3) := by decide +kernel
theorem dX1_orderOf_18 : decode cX1_orderOf 18 = .ok (.istore_n 3, 1) := by decide +kernel
theorem dX1_orderOf_19 : decode cX1_orderOf 19 = .ok (.goto (-15), 3) := by decide +kernel
theorem dX1_orderOf_22 : decode cX1_orderOf 22 = .ok (.iload_n 2, 1) := by decide +kernel
theorem dX1_orderOf_23 : decode cX1_orderOf 23 = .ok (.ireturn, 1) := by decide +kernel
theorem dX1_isPrime_0 : decode cX1_isPrime 0 = .ok (.iconst 2, 1) := by decide +kernel
theorem dX1_isPrime_1 : decode cX1_isPrime 1 = .ok (.istore_n 1, 1) := by decide +kernel
theorem dX1_isPrime_2 : decode cX1_isPrime 2 = .ok (.iload_n 1, 1) := by decide +kernel
theorem dX1_isPrime_3 : decode cX1_isPrime 3 = .ok (.iload_n 1, 1) := by decide +kernel
theorem dX1_isPrime_4 : decode cX1_isPrime 4 = .ok (.imul, 1) := by decide +kernel
theorem dX1_isPrime_5 : decode cX1_isPrime 5 = .ok (.iload_n 0, 1) := by decide +kernel
theorem dX1_isPrime_6 : decode cX1_isPrime 6 = .ok (.if_icmp .gt 17, 3) := by decide +kernel
theorem dX1_isPrime_9 : decode cX1_isPrime 9 = .ok (.iload_n 0, 1) := by decide +kernel
theorem dX1_isPrime_10 : decode cX1_isPrime 10 = .ok (.iload_n 1, 1) := by decide +kernel
theorem dX1_isPrime_11 : decode cX1_isPrime 11 = .ok (.irem, 1) := by decide +kernel
theorem dX1_isPrime_12 : decode cX1_isPrime 12 = .ok (.ifCond .ne 5, 3) := by decide +kernel
theorem dX1_isPrime_15 : decode cX1_isPrime 15 = .ok (.iconst 0, 1) := by decide +kernel
theorem dX1_isPrime_16 : decode cX1_isPrime 16 = .ok (.ireturn, 1) := by decide +kernel
theorem dX1_isPrime_17 : decode cX1_isPrime 17 = .ok (.iinc 1 1, 3) := by decide +kernel
theorem dX1_isPrime_20 : decode cX1_isPrime 20 = .ok (.goto (-18), 3) := by decide +kernel
theorem dX1_isPrime_23 : decode cX1_isPrime 23 = .ok (.iconst 1, 1) := by decide +kernel
theorem dX1_isPrime_24 : decode cX1_isPrime 24 = .ok (.ireturn, 1) := by decide +kernel
set_option maxRecDepth 20000 in
theorem ggX1_rootOf_X1_orderOf : GoodIn wsX1_rootOf wsX1_orderOf := goodIn_r _ [6, 7, 8, 9, 5, 10, 11, 12, 13, 14, 15, 16, 17, 18] (by decide +kernel) (by decide +kernel)
set_option maxRecDepth 20000 in
theorem gX1_rootOf_X1_orderOf : GoodIn wsX1_rootOf (wsV RX1 40 RX1 yX1_orderOf wsX1_orderOf) := goodIn_app (goodIn_of _ (by decide +kernel)) ggX1_rootOf_X1_orderOf
theorem dX1_rootOf_0 : decode cX1_rootOf 0 = .ok (.iconst 1, 1) := by decide +kernel
theorem dX1_rootOf_1 : decode cX1_rootOf 1 = .ok (.istore_n 1, 1) := by decide +kernel
theorem dX1_rootOf_2 : decode cX1_rootOf 2 = .ok (.aload_n 0, 1) := by decide +kernel
theorem dX1_rootOf_3 : decode cX1_rootOf 3 = .ok (.iload_n 1, 1) := by decide +kernel
theorem dX1_rootOf_4 : decode cX1_rootOf 4 = .ok (.invokevirtual 40, 3) := by decide +kernel
theorem dX1_rootOf_7 : decode cX1_rootOf 7 = .ok (.aload_n 0, 1) := by decide +kernel
theorem dX1_rootOf_8 : decode cX1_rootOf 8 = .ok (.getfield 7, 3) := by decide +kernel
theorem dX1_rootOf_11 : decode cX1_rootOf 11 = .ok (.if_icmp .eq 9, 3) := by decide +kernel
theorem dX1_rootOf_14 : decode cX1_rootOf 14 = .ok (.iinc 1 1, 3) := by decide +kernel
theorem dX1_rootOf_17 : decode cX1_rootOf 17 = .ok (.goto (-15), 3) := by decide +kernel
theorem dX1_rootOf_20 : decode cX1_rootOf 20 = .ok (.iload_n 1, 1) := by decide +kernel
theorem dX1_rootOf_21 : decode cX1_rootOf 21 = .ok (.ireturn, 1) := by decide +kernel
set_option maxRecDepth 20000 in
theorem ggX1_ring_X1_isIn : GoodIn wsX1_ring wsX1_isIn := goodIn_r _ [10] (by decide +kernel) (by decide +kernel)
set_option maxRecDepth 20000 in
theorem gX1_ring_X1_isIn : GoodIn wsX1_ring (va_wsS RX1 32 yX1_isIn wsX1_isIn) := goodIn_app (goodIn_of _ (by decide +kernel)) ggX1_ring_X1_isIn
set_option maxRecDepth 20000 in
theorem ggX1_ring_X1_isPrime : GoodIn wsX1_ring wsX1_isPrime := goodIn_r _ [13] (by decide +kernel) (by decide +kernel)
set_option maxRecDepth 20000 in
theorem gX1_ring_X1_isPrime : GoodIn wsX1_ring (va_wsS RX1 44 yX1_isPrime wsX1_isPrime) := goodIn_app (goodIn_of _ (by decide +kernel)) ggX1_ring_X1_isPrime
set_option maxRecDepth 20000 in
theorem ggX1_ring_X1_no : GoodIn wsX1_ring wsX1_no := goodIn_r _ [17, 1, 30, 31, 32, 33, 34, 35, 36] (by decide +kernel) (by decide +kernel)
set_option maxRecDepth 20000 in
theorem gX1_ring_X1_no : GoodIn wsX1_ring (wsV RX1 48 RX1 yX1_no wsX1_no) := goodIn_app (goodIn_of _ (by decide +kernel)) ggX1_ring_X1_no
set_option maxRecDepth 20000 in
theorem ggX1_ring_X1_rootOf : GoodIn wsX1_ring wsX1_rootOf := goodIn_r _ [21, 2, 22, 23, 24, 9, 25, 26, 27, 28, 29, 3, 30, 31, 32, 33, 34, 35, 36] (by decide +kernel) (by decide +kernel)
set_option maxRecDepth 20000 in
theorem gX1_ring_X1_rootOf : GoodIn wsX1_ring (wsV RX1 51 RX1 yX1_rootOf wsX1_rootOf) := goodIn_app (goodIn_of _ (by decide +kernel)) ggX1_ring_X1_rootOf
theorem dX1_ring_0 : decode cX1_ring 0 = .ok (.aload_n 0, 1) := by decide +kernel
theorem dX1_ring_1 : decode cX1_ring 1 = .ok (.iconst 0, 1) := by decide +kernel
theorem dX1_ring_2 : decode cX1_ring 2 = .ok (.putfield 29, 3) := by decide +kernel
theorem dX1_ring_5 : decode cX1_ring 5 = .ok (.iload_n 1, 1) := by decide +kernel
theorem dX1_ring_6 : decode cX1_ring 6 = .ok (.iconst 4, 1) := by decide +kernel
theorem dX1_ring_7 : decode cX1_ring 7 = .ok (.if_icmp .eq 15, 3) := by decide +kernel
theorem dX1_ring_10 : decode cX1_ring 10 = .ok (.iload_n 1, 1) := by decide +kernel
theorem dX1_ring_11 : decode cX1_ring 11 = .ok (.bipush 8, 2) := by decide +kernel
theorem dX1_ring_13 : decode cX1_ring 13 = .ok (.if_icmp .eq 9, 3) := by decide +kernel
theorem dX1_ring_16 : decode cX1_ring 16 = .ok (.iload_n 1, 1) := by decide +kernel
theorem dX1_ring_17 : decode cX1_ring 17 = .ok (.bipush 16, 2) := by decide +kernel
theorem dX1_ring_19 : decode cX1_ring 19 = .ok (.if_icmp .ne 29, 3) := by decide +kernel
theorem dX1_ring_22 : decode cX1_ring 22 = .ok (.iload_n 2, 1) := by decide +kernel
theorem dX1_ring_23 : decode cX1_ring 23 = .ok (.iconst 5, 1) := by decide +kernel
theorem dX1_ring_24 : decode cX1_ring 24 = .ok (.sipush 499, 3) := by decide +kernel
theorem dX1_ring_27 : decode cX1_ring 27 = .ok (.invokestatic 32, 3) := by decide +kernel
theorem dX1_ring_30 : decode cX1_ring 30 = .ok (.ifCond .eq 18, 3) := by decide +kernel
theorem dX1_ring_33 : decode cX1_ring 33 = .ok (.iload_n 2, 1) := by decide +kernel
theorem dX1_ring_34 : decode cX1_ring 34 = .ok (.invokestatic 44, 3) := by decide +kernel
theorem dX1_ring_37 : decode cX1_ring 37 = .ok (.ifCond .eq 11, 3) := by decide +kernel
theorem dX1_ring_40 : decode cX1_ring 40 = .ok (.iload_n 2, 1) := by decide +kernel
theorem dX1_ring_41 : decode cX1_ring 41 = .ok (.iconst 1, 1) := by decide +kernel
theorem dX1_ring_42 : decode cX1_ring 42 = .ok (.isub, 1) := by decide +kernel
theorem dX1_ring_43 : decode cX1_ring 43 = .ok (.iload_n 1, 1) := by decide +kernel
theorem dX1_ring_44 : decode cX1_ring 44 = .ok (.irem, 1) := by decide +kernel
theorem dX1_ring_45 : decode cX1_ring 45 = .ok (.ifCond .le 9, 3) := by decide +kernel
theorem dX1_ring_48 : decode cX1_ring 48 = .ok (.aload_n 0, 1) := by decide +kernel
theorem dX1_ring_49 : decode cX1_ring 49 = .ok (.iconst 1, 1) := by decide +kernel
theorem dX1_ring_50 : decode cX1_ring 50 = .ok (.invokevirtual 48, 3) := by decide +kernel
theorem dX1_ring_53 : decode cX1_ring 53 = .ok (.ireturn, 1) := by decide +kernel
theorem dX1_ring_54 : decode cX1_ring 54 = .ok (.aload_n 0, 1) := by decide +kernel
theorem dX1_ring_55 : decode cX1_ring 55 = .ok (.iload_n 1, 1) := by decide +kernel
theorem dX1_ring_56 : decode cX1_ring 56 = .ok (.putfield 7, 3) := by decide +kernel
theorem dX1_ring_59 : decode cX1_ring 59 = .ok (.aload_n 0, 1) := by decide +kernel
theorem dX1_ring_60 : decode cX1_ring 60 = .ok (.iload_n 2, 1) := by decide +kernel
theorem dX1_ring_61 : decode cX1_ring 61 = .ok (.putfield 13, 3) := by decide +kernel
theorem dX1_ring_64 : decode cX1_ring 64 = .ok (.aload_n 0, 1) := by decide +kernel
theorem dX1_ring_65 : decode cX1_ring 65 = .ok (.aload_n 0, 1) := by decide +kernel
theorem dX1_ring_66 : decode cX1_ring 66 = .ok (.invokevirtual 51, 3) := by decide +kernel
theorem dX1_ring_69 : decode cX1_ring 69 = .ok (.putfield 16, 3) := by decide +kernel
theorem dX1_ring_72 : decode cX1_ring 72 = .ok (.aload_n 0, 1) := by decide +kernel
theorem dX1_ring_73 : decode cX1_ring 73 = .ok (.aload_n 0, 1) := by decide +kernel
theorem dX1_ring_74 : decode cX1_ring 74 = .ok (.getfield 7, 3) := by decide +kernel
theorem dX1_ring_77 : decode cX1_ring 77 = .ok (.iconst 4, 1) := by decide +kernel
theorem dX1_ring_78 : decode cX1_ring 78 = .ok (.if_icmp .ne 7, 3) := by decide +kernel
theorem dX1_ring_81 : decode cX1_ring 81 = .ok (.iconst 2, 1) := by decide +kernel
theorem dX1_ring_82 : decode cX1_ring 82 = .ok (.goto 17, 3) := by decide +kernel
theorem dX1_ring_85 : decode cX1_ring 85 = .ok (.aload_n 0, 1) := by decide +kernel
theorem dX1_ring_86 : decode cX1_ring 86 = .ok (.getfield 7, 3) := by decide +kernel
theorem dX1_ring_89 : decode cX1_ring 89 = .ok (.bipush 8, 2) := by decide +kernel
theorem dX1_ring_91 : decode cX1_ring 91 = .ok (.if_icmp .ne 7, 3) := by decide +kernel
theorem dX1_ring_94 : decode cX1_ring 94 = .ok (.iconst 3, 1) := by decide +kernel
theorem dX1_ring_95 : decode cX1_ring 95 = .ok (.goto 4, 3) := by decide +kernel
theorem dX1_ring_98 : decode cX1_ring 98 = .ok (.iconst 4, 1) := by decide +kernel
theorem dX1_ring_99 : decode cX1_ring 99 = .ok (.putfield 19, 3) := by decide +kernel
theorem dX1_ring_102 : decode cX1_ring 102 = .ok (.iconst 0, 1) := by decide +kernel
theorem dX1_ring_103 : decode cX1_ring 103 = .ok (.istore_n 3, 1) := by decide +kernel
theorem dX1_ring_104 : decode cX1_ring 104 = .ok (.iload_n 3, 1) := by decide +kernel
theorem dX1_ring_105 : decode cX1_ring 105 = .ok (.aload_n 0, 1) := by decide +kernel
theorem dX1_ring_106 : decode cX1_ring 106 = .ok (.getfield 22, 3) := by decide +kernel
theorem dX1_ring_109 : decode cX1_ring 109 = .ok (.arraylength, 1) := by decide +kernel
theorem dX1_ring_110 : decode cX1_ring 110 = .ok (.if_icmp .ge 16, 3) := by decide +kernel
theorem dX1_ring_113 : decode cX1_ring 113 = .ok (.aload_n 0, 1) := by decide +kernel
theorem dX1_ring_114 : decode cX1_ring 114 = .ok (.getfield 22, 3) := by decide +kernel
theorem dX1_ring_117 : decode cX1_ring 117 = .ok (.iload_n 3, 1) := by decide +kernel
theorem dX1_ring_118 : decode cX1_ring 118 = .ok (.iconst 0, 1) := by decide +kernel
theorem dX1_ring_119 : decode cX1_ring 119 = .ok (.iastore, 1) := by decide +kernel
theorem dX1_ring_120 : decode cX1_ring 120 = .ok (.iinc 3 1, 3) := by decide +kernel
theorem dX1_ring_123 : decode cX1_ring 123 = .ok (.goto (-19), 3) := by decide +kernel
theorem dX1_ring_126 : decode cX1_ring 126 = .ok (.aload_n 0, 1) := by decide +kernel
theorem dX1_ring_127 : decode cX1_ring 127 = .ok (.getfield 16, 3) := by decide +kernel
theorem dX1_ring_130 : decode cX1_ring 130 = .ok (.ireturn, 1) := by decide +kernel
set_option maxRecDepth 20000 in
theorem ggX1_isUnit_X1_isIn : GoodIn wsX1_isUnit wsX1_isIn := goodIn_r _ [5] (by decide +kernel) (by decide +kernel)
set_option maxRecDepth 20000 in
theorem gX1_isUnit_X1_isIn : GoodIn wsX1_isUnit (va_wsS RX1 32 yX1_isIn wsX1_isIn) := goodIn_app (goodIn_of _ (by decide +kernel)) ggX1_isUnit_X1_isIn
theorem dX1_isUnit_0 : decode cX1_isUnit 0 = .ok (.iload_n 1, 1) := by decide +kernel
theorem dX1_isUnit_1 : decode cX1_isUnit 1 = .ok (.iconst 1, 1) := by decide +kernel
theorem dX1_isUnit_2 : decode cX1_isUnit 2 = .ok (.aload_n 0, 1) := by decide +kernel
theorem dX1_isUnit_3 : decode cX1_isUnit 3 = .ok (.getfield 13, 3) := by decide +kernel
theorem dX1_isUnit_6 : decode cX1_isUnit 6 = .ok (.iconst 1, 1) := by decide +kernel
theorem dX1_isUnit_7 : decode cX1_isUnit 7 = .ok (.isub, 1) := by decide +kernel
theorem dX1_isUnit_8 : decode cX1_isUnit 8 = .ok (.invokestatic 32, 3) := by decide +kernel
theorem dX1_isUnit_11 : decode cX1_isUnit 11 = .ok (.ireturn, 1) := by decide +kernel
set_option maxRecDepth 20000 in
theorem ggX1_order_X1_isUnit : GoodIn wsX1_order wsX1_isUnit := goodIn_r _ [6, 7, 8, 9, 5, 10, 23, 24, 25, 26, 27, 28, 29] (by decide +kernel) (by decide +kernel)
set_option maxRecDepth 20000 in
theorem gX1_order_X1_isUnit : GoodIn wsX1_order (wsV RX1 55 RX1 yX1_isUnit wsX1_isUnit) := goodIn_app (goodIn_of _ (by decide +kernel)) ggX1_order_X1_isUnit
set_option maxRecDepth 20000 in
theorem ggX1_order_X1_orderOf : GoodIn wsX1_order wsX1_orderOf := goodIn_r _ [14, 15, 16, 17, 5, 18, 7, 23, 24, 25, 26, 27, 28, 29] (by decide +kernel) (by decide +kernel)
set_option maxRecDepth 20000 in
theorem gX1_order_X1_orderOf : GoodIn wsX1_order (wsV RX1 40 RX1 yX1_orderOf wsX1_orderOf) := goodIn_app (goodIn_of _ (by decide +kernel)) ggX1_order_X1_orderOf
set_option maxRecDepth 20000 in
theorem ggX1_order_X1_no : GoodIn wsX1_order wsX1_no := goodIn_r _ [22, 1, 23, 24, 25, 26, 27, 28, 29] (by decide +kernel) (by decide +kernel)
set_option maxRecDepth 20000 in
theorem gX1_order_X1_no : GoodIn wsX1_order (wsV RX1 48 RX1 yX1_no wsX1_no) := goodIn_app (goodIn_of _ (by decide +kernel)) ggX1_order_X1_no
theorem dX1_order_0 : decode cX1_order 0 = .ok (.aload_n 0, 1) := by decide +kernel
theorem dX1_order_1 : decode cX1_order 1 = .ok (.iconst 0, 1) := by decide +kernel
theorem dX1_order_2 : decode cX1_order 2 = .ok (.putfield 29, 3) := by decide +kernel
theorem dX1_order_5 : decode cX1_order 5 = .ok (.aload_n 0, 1) := by decide +kernel
theorem dX1_order_6 : decode cX1_order 6 = .ok (.iload_n 1, 1) := by decide +kernel
theorem dX1_order_7 : decode cX1_order 7 = .ok (.invokevirtual 55, 3) := by decide +kernel
theorem dX1_order_10 : decode cX1_order 10 = .ok (.ifCond .eq 11, 3) := by decide +kernel
theorem dX1_order_13 : decode cX1_order 13 = .ok (.aload_n 0, 1) := by decide +kernel
theorem dX1_order_14 : decode cX1_order 14 = .ok (.iload_n 1, 1) := by decide +kernel
theorem dX1_order_15 : decode cX1_order 15 = .ok (.invokevirtual 40, 3) := by decide +kernel
theorem dX1_order_18 : decode cX1_order 18 = .ok (.goto 8, 3) := by decide +kernel
theorem dX1_order_21 : decode cX1_order 21 = .ok (.aload_n 0, 1) := by decide +kernel
theorem dX1_order_22 : decode cX1_order 22 = .ok (.iconst 1, 1) := by decide +kernel
theorem dX1_order_23 : decode cX1_order 23 = .ok (.invokevirtual 48, 3) := by decide +kernel
theorem dX1_order_26 : decode cX1_order 26 = .ok (.ireturn, 1) := by decide +kernel
set_option maxRecDepth 20000 in
theorem ggX1_inverse_X1_isUnit : GoodIn wsX1_inverse wsX1_isUnit := goodIn_r _ [6, 7, 8, 9, 5, 10, 19, 20, 21, 22, 23, 24, 25] (by decide +kernel) (by decide +kernel)
set_option maxRecDepth 20000 in
theorem gX1_inverse_X1_isUnit : GoodIn wsX1_inverse (wsV RX1 55 RX1 yX1_isUnit wsX1_isUnit) := goodIn_app (goodIn_of _ (by decide +kernel)) ggX1_inverse_X1_isUnit
set_option maxRecDepth 20000 in
theorem ggX1_inverse_X1_inverseOf : GoodIn wsX1_inverse wsX1_inverseOf := goodIn_r _ [14, 7, 19, 20, 21, 22, 23, 24, 25] (by decide +kernel) (by decide +kernel)
set_option maxRecDepth 20000 in
theorem gX1_inverse_X1_inverseOf : GoodIn wsX1_inverse (wsV RX1 58 RX1 yX1_inverseOf wsX1_inverseOf) := goodIn_app (goodIn_of _ (by decide +kernel)) ggX1_inverse_X1_inverseOf
set_option maxRecDepth 20000 in
theorem ggX1_inverse_X1_no : GoodIn wsX1_inverse wsX1_no := goodIn_r _ [18, 1, 19, 20, 21, 22, 23, 24, 25] (by decide +kernel) (by decide +kernel)
set_option maxRecDepth 20000 in
theorem gX1_inverse_X1_no : GoodIn wsX1_inverse (wsV RX1 48 RX1 yX1_no wsX1_no) := goodIn_app (goodIn_of _ (by decide +kernel)) ggX1_inverse_X1_no
theorem dX1_inverse_0 : decode cX1_inverse 0 = .ok (.aload_n 0, 1) := by decide +kernel
theorem dX1_inverse_1 : decode cX1_inverse 1 = .ok (.iconst 0, 1) := by decide +kernel
theorem dX1_inverse_2 : decode cX1_inverse 2 = .ok (.putfield 29, 3) := by decide +kernel
theorem dX1_inverse_5 : decode cX1_inverse 5 = .ok (.aload_n 0, 1) := by decide +kernel
theorem dX1_inverse_6 : decode cX1_inverse 6 = .ok (.iload_n 1, 1) := by decide +kernel
theorem dX1_inverse_7 : decode cX1_inverse 7 = .ok (.invokevirtual 55, 3) := by decide +kernel
theorem dX1_inverse_10 : decode cX1_inverse 10 = .ok (.ifCond .eq 11, 3) := by decide +kernel
theorem dX1_inverse_13 : decode cX1_inverse 13 = .ok (.aload_n 0, 1) := by decide +kernel
theorem dX1_inverse_14 : decode cX1_inverse 14 = .ok (.iload_n 1, 1) := by decide +kernel
theorem dX1_inverse_15 : decode cX1_inverse 15 = .ok (.invokevirtual 58, 3) := by decide +kernel
theorem dX1_inverse_18 : decode cX1_inverse 18 = .ok (.goto 8, 3) := by decide +kernel
theorem dX1_inverse_21 : decode cX1_inverse 21 = .ok (.aload_n 0, 1) := by decide +kernel
theorem dX1_inverse_22 : decode cX1_inverse 22 = .ok (.iconst 1, 1) := by decide +kernel
theorem dX1_inverse_23 : decode cX1_inverse 23 = .ok (.invokevirtual 48, 3) := by decide +kernel
theorem dX1_inverse_26 : decode cX1_inverse 26 = .ok (.ireturn, 1) := by decide +kernel
set_option maxRecDepth 20000 in
theorem ggX1_root_X1_isIn : GoodIn wsX1_root wsX1_isIn := goodIn_r _ [6] (by decide +kernel) (by decide +kernel)
set_option maxRecDepth 20000 in
theorem gX1_root_X1_isIn : GoodIn wsX1_root (va_wsS RX1 32 yX1_isIn wsX1_isIn) := goodIn_app (goodIn_of _ (by decide +kernel)) ggX1_root_X1_isIn
set_option maxRecDepth 20000 in
theorem ggX1_root_X1_power : GoodIn wsX1_root wsX1_power := goodIn_r _ [10, 11, 12, 13, 5, 14, 15, 20, 21, 22, 23, 24, 25, 26] (by decide +kernel) (by decide +kernel)
set_option maxRecDepth 20000 in
theorem gX1_root_X1_power : GoodIn wsX1_root (wsV RX1 61 RX1 yX1_power wsX1_power) := goodIn_app (goodIn_of _ (by decide +kernel)) ggX1_root_X1_power
set_option maxRecDepth 20000 in
theorem ggX1_root_X1_no : GoodIn wsX1_root wsX1_no := goodIn_r _ [19, 1, 20, 21, 22, 23, 24, 25, 26] (by decide +kernel) (by decide +kernel)
set_option maxRecDepth 20000 in
theorem gX1_root_X1_no : GoodIn wsX1_root (wsV RX1 48 RX1 yX1_no wsX1_no) := goodIn_app (goodIn_of _ (by decide +kernel)) ggX1_root_X1_no
theorem dX1_root_0 : decode cX1_root 0 = .ok (.aload_n 0, 1) := by decide +kernel
theorem dX1_root_1 : decode cX1_root 1 = .ok (.iconst 0, 1) := by decide +kernel
theorem dX1_root_2 : decode cX1_root 2 = .ok (.putfield 29, 3) := by decide +kernel
theorem dX1_root_5 : decode cX1_root 5 = .ok (.iload_n 1, 1) := by decide +kernel
theorem dX1_root_6 : decode cX1_root 6 = .ok (.iconst 0, 1) := by decide +kernel
theorem dX1_root_7 : decode cX1_root 7 = .ok (.sipush 9999, 3) := by decide +kernel
theorem dX1_root_10 : decode cX1_root 10 = .ok (.invokestatic 32, 3) := by decide +kernel
theorem dX1_root_13 : decode cX1_root 13 = .ok (.ifCond .eq 15, 3) := by decide +kernel
theorem dX1_root_16 : decode cX1_root 16 = .ok (.aload_n 0, 1) := by decide +kernel
theorem dX1_root_17 : decode cX1_root 17 = .ok (.aload_n 0, 1) := by decide +kernel
theorem dX1_root_18 : decode cX1_root 18 = .ok (.getfield 16, 3) := by decide +kernel
theorem dX1_root_21 : decode cX1_root 21 = .ok (.iload_n 1, 1) := by decide +kernel
theorem dX1_root_22 : decode cX1_root 22 = .ok (.invokevirtual 61, 3) := by decide +kernel
theorem dX1_root_25 : decode cX1_root 25 = .ok (.goto 8, 3) := by decide +kernel
theorem dX1_root_28 : decode cX1_root 28 = .ok (.aload_n 0, 1) := by decide +kernel
theorem dX1_root_29 : decode cX1_root 29 = .ok (.iconst 1, 1) := by decide +kernel
theorem dX1_root_30 : decode cX1_root 30 = .ok (.invokevirtual 48, 3) := by decide +kernel
theorem dX1_root_33 : decode cX1_root 33 = .ok (.ireturn, 1) := by decide +kernel
theorem dX1_lay_0 : decode cX1_lay 0 = .ok (.aload_n 0, 1) := by decide +kernel
theorem dX1_lay_1 : decode cX1_lay 1 = .ok (.getfield 26, 3) := by decide +kernel
theorem dX1_lay_4 : decode cX1_lay 4 = .ok (.iconst 0, 1) := by decide +kernel
theorem dX1_lay_5 : decode cX1_lay 5 = .ok (.aload_n 0, 1) := by decide +kernel
theorem dX1_lay_6 : decode cX1_lay 6 = .ok (.getfield 22, 3) := by decide +kernel
theorem dX1_lay_9 : decode cX1_lay 9 = .ok (.bipush 16, 2) := by decide +kernel
theorem dX1_lay_11 : decode cX1_lay 11 = .ok (.iload_n 1, 1) := by decide +kernel
theorem dX1_lay_12 : decode cX1_lay 12 = .ok (.imul, 1) := by decide +kernel
theorem dX1_lay_13 : decode cX1_lay 13 = .ok (.aload_n 0, 1) := by decide +kernel
theorem dX1_lay_14 : decode cX1_lay 14 = .ok (.getfield 7, 3) := by decide +kernel
theorem dX1_lay_17 : decode cX1_lay 17 = .ok (.invokestatic 64, 3) := by decide +kernel
theorem dX1_lay_20 : decode cX1_lay 20 = .ok (.return_, 1) := by decide +kernel
set_option maxRecDepth 20000 in
theorem ggX1_changes_X1_its : GoodIn wsX1_changes wsX1_its := goodIn_r _ [7, 8, 9, 10, 11, 12, 13, 14, 15] (by decide +kernel) (by decide +kernel)
set_option maxRecDepth 20000 in
theorem gX1_changes_X1_its : GoodIn wsX1_changes (wsV RX1 70 RX1 yX1_its wsX1_its) := goodIn_app (goodIn_of _ (by decide +kernel)) ggX1_changes_X1_its
theorem dX1_changes_0 : decode cX1_changes 0 = .ok (.iconst 0, 1) := by decide +kernel
theorem dX1_changes_1 : decode cX1_changes 1 = .ok (.istore_n 2, 1) := by decide +kernel
theorem dX1_changes_2 : decode cX1_changes 2 = .ok (.iconst 0, 1) := by decide +kernel
theorem dX1_changes_3 : decode cX1_changes 3 = .ok (.istore_n 3, 1) := by decide +kernel
theorem dX1_changes_4 : decode cX1_changes 4 = .ok (.iload_n 3, 1) := by decide +kernel
theorem dX1_changes_5 : decode cX1_changes 5 = .ok (.aload_n 0, 1) := by decide +kernel
theorem dX1_changes_6 : decode cX1_changes 6 = .ok (.getfield 7, 3) := by decide +kernel
theorem dX1_changes_9 : decode cX1_changes 9 = .ok (.if_icmp .ge 32, 3) := by decide +kernel
theorem dX1_changes_12 : decode cX1_changes 12 = .ok (.iload_n 2, 1) := by decide +kernel
theorem dX1_changes_13 : decode cX1_changes 13 = .ok (.aload_n 0, 1) := by decide +kernel
theorem dX1_changes_14 : decode cX1_changes 14 = .ok (.iload_n 1, 1) := by decide +kernel
theorem dX1_changes_15 : decode cX1_changes 15 = .ok (.iload_n 3, 1) := by decide +kernel
theorem dX1_changes_16 : decode cX1_changes 16 = .ok (.invokevirtual 70, 3) := by decide +kernel
theorem dX1_changes_19 : decode cX1_changes 19 = .ok (.aload_n 0, 1) := by decide +kernel
theorem dX1_changes_20 : decode cX1_changes 20 = .ok (.getfield 26, 3) := by decide +kernel
theorem dX1_changes_23 : decode cX1_changes 23 = .ok (.iload_n 3, 1) := by decide +kernel
theorem dX1_changes_24 : decode cX1_changes 24 = .ok (.iaload, 1) := by decide +kernel
theorem dX1_changes_25 : decode cX1_changes 25 = .ok (.if_icmp .eq 7, 3) := by decide +kernel
theorem dX1_changes_28 : decode cX1_changes 28 = .ok (.iconst 1, 1) := by decide +kernel
theorem dX1_changes_29 : decode cX1_changes 29 = .ok (.goto 4, 3) := by decide +kernel
theorem dX1_changes_32 : decode cX1_changes 32 = .ok (.iconst 0, 1) := by decide +kernel
theorem dX1_changes_33 : decode cX1_changes 33 = .ok (.iadd, 1) := by decide +kernel
theorem dX1_changes_34 : decode cX1_changes 34 = .ok (.istore_n 2, 1) := by decide +kernel
theorem dX1_changes_35 : decode cX1_changes 35 = .ok (.iinc 3 1, 3) := by decide +kernel
theorem dX1_changes_38 : decode cX1_changes 38 = .ok (.goto (-34), 3) := by decide +kernel
theorem dX1_changes_41 : decode cX1_changes 41 = .ok (.iload_n 2, 1) := by decide +kernel
theorem dX1_changes_42 : decode cX1_changes 42 = .ok (.ireturn, 1) := by decide +kernel
set_option maxRecDepth 20000 in
theorem ggX1_others_X1_its : GoodIn wsX1_others wsX1_its := goodIn_r _ [6, 7, 8, 9, 10, 11, 12, 13, 14] (by decide +kernel) (by decide +kernel)
set_option maxRecDepth 20000 in
theorem gX1_others_X1_its : GoodIn wsX1_others (wsV RX1 70 RX1 yX1_its wsX1_its) := goodIn_app (goodIn_of _ (by decide +kernel)) ggX1_others_X1_its
theorem dX1_others_0 : decode cX1_others 0 = .ok (.iconst 0, 1) := by decide +kernel
theorem dX1_others_1 : decode cX1_others 1 = .ok (.istore_n 2, 1) := by decide +kernel
theorem dX1_others_2 : decode cX1_others 2 = .ok (.iconst 0, 1) := by decide +kernel
theorem dX1_others_3 : decode cX1_others 3 = .ok (.istore_n 3, 1) := by decide +kernel
theorem dX1_others_4 : decode cX1_others 4 = .ok (.iload_n 3, 1) := by decide +kernel
theorem dX1_others_5 : decode cX1_others 5 = .ok (.aload_n 0, 1) := by decide +kernel
theorem dX1_others_6 : decode cX1_others 6 = .ok (.getfield 7, 3) := by decide +kernel
theorem dX1_others_9 : decode cX1_others 9 = .ok (.if_icmp .ge 26, 3) := by decide +kernel
theorem dX1_others_12 : decode cX1_others 12 = .ok (.iload_n 2, 1) := by decide +kernel
theorem dX1_others_13 : decode cX1_others 13 = .ok (.aload_n 0, 1) := by decide +kernel
theorem dX1_others_14 : decode cX1_others 14 = .ok (.iload_n 1, 1) := by decide +kernel
theorem dX1_others_15 : decode cX1_others 15 = .ok (.iload_n 3, 1) := by decide +kernel
theorem dX1_others_16 : decode cX1_others 16 = .ok (.invokevirtual 70, 3) := by decide +kernel
theorem dX1_others_19 : decode cX1_others 19 = .ok (.ifCond .eq 7, 3) := by decide +kernel
theorem dX1_others_22 : decode cX1_others 22 = .ok (.iconst 1, 1) := by decide +kernel
theorem dX1_others_23 : decode cX1_others 23 = .ok (.goto 4, 3) := by decide +kernel
theorem dX1_others_26 : decode cX1_others 26 = .ok (.iconst 0, 1) := by decide +kernel
theorem dX1_others_27 : decode cX1_others 27 = .ok (.iadd, 1) := by decide +kernel
theorem dX1_others_28 : decode cX1_others 28 = .ok (.istore_n 2, 1) := by decide +kernel
theorem dX1_others_29 : decode cX1_others 29 = .ok (.iinc 3 1, 3) := by decide +kernel
theorem dX1_others_32 : decode cX1_others 32 = .ok (.goto (-28), 3) := by decide +kernel
theorem dX1_others_35 : decode cX1_others 35 = .ok (.iload_n 2, 1) := by decide +kernel
theorem dX1_others_36 : decode cX1_others 36 = .ok (.ireturn, 1) := by decide +kernel
set_option maxRecDepth 20000 in
theorem ggX1_pointOf_X1_by : GoodIn wsX1_pointOf wsX1_by := goodIn_r _ [6, 7, 17, 18, 19, 20, 21, 22, 23] (by decide +kernel) (by decide +kernel)
set_option maxRecDepth 20000 in
theorem gX1_pointOf_X1_by : GoodIn wsX1_pointOf (wsV RX1 36 RX1 yX1_by wsX1_by) := goodIn_app (goodIn_of _ (by decide +kernel)) ggX1_pointOf_X1_by
set_option maxRecDepth 20000 in
theorem ggX1_pointOf_X1_its : GoodIn wsX1_pointOf wsX1_its := goodIn_r _ [11, 12, 17, 18, 19, 20, 21, 22, 23] (by decide +kernel) (by decide +kernel)
set_option maxRecDepth 20000 in
theorem gX1_pointOf_X1_its : GoodIn wsX1_pointOf (wsV RX1 70 RX1 yX1_its wsX1_its) := goodIn_app (goodIn_of _ (by decide +kernel)) ggX1_pointOf_X1_its
set_option maxRecDepth 20000 in
theorem ggX1_pointOf_X1_plus : GoodIn wsX1_pointOf wsX1_plus := goodIn_r _ [16, 7, 17, 18, 19, 20, 21, 22, 23] (by decide +kernel) (by decide +kernel)
set_option maxRecDepth 20000 in
theorem gX1_pointOf_X1_plus : GoodIn wsX1_pointOf (wsV RX1 73 RX1 yX1_plus wsX1_plus) := goodIn_app (goodIn_of _ (by decide +kernel)) ggX1_pointOf_X1_plus
theorem dX1_pointOf_0 : decode cX1_pointOf 0 = .ok (.iconst 0, 1) := by decide +kernel
theorem dX1_pointOf_1 : decode cX1_pointOf 1 = .ok (.istore_n 3, 1) := by decide +kernel
theorem dX1_pointOf_2 : decode cX1_pointOf 2 = .ok (.aload_n 0, 1) := by decide +kernel
theorem dX1_pointOf_3 : decode cX1_pointOf 3 = .ok (.getfield 7, 3) := by decide +kernel
theorem dX1_pointOf_6 : decode cX1_pointOf 6 = .ok (.iconst 1, 1) := by decide +kernel
theorem dX1_pointOf_7 : decode cX1_pointOf 7 = .ok (.isub, 1) := by decide +kernel
theorem dX1_pointOf_8 : decode cX1_pointOf 8 = .ok (.istore 4, 2) := by decide +kernel
theorem dX1_pointOf_10 : decode cX1_pointOf 10 = .ok (.iload 4, 2) := by decide +kernel
theorem dX1_pointOf_12 : decode cX1_pointOf 12 = .ok (.ifCond .lt 27, 3) := by decide +kernel
theorem dX1_pointOf_15 : decode cX1_pointOf 15 = .ok (.aload_n 0, 1) := by decide +kernel
theorem dX1_pointOf_16 : decode cX1_pointOf 16 = .ok (.aload_n 0, 1) := by decide +kernel
theorem dX1_pointOf_17 : decode cX1_pointOf 17 = .ok (.iload_n 3, 1) := by decide +kernel
theorem dX1_pointOf_18 : decode cX1_pointOf 18 = .ok (.iload_n 2, 1) := by decide +kernel
theorem dX1_pointOf_19 : decode cX1_pointOf 19 = .ok (.invokevirtual 36, 3) := by decide +kernel
theorem dX1_pointOf_22 : decode cX1_pointOf 22 = .ok (.aload_n 0, 1) := by decide +kernel
theorem dX1_pointOf_23 : decode cX1_pointOf 23 = .ok (.iload_n 1, 1) := by decide +kernel
theorem dX1_pointOf_24 : decode cX1_pointOf 24 = .ok (.iload 4, 2) := by decide +kernel
theorem dX1_pointOf_26 : decode cX1_pointOf 26 = .ok (.invokevirtual 70, 3) := by decide +kernel
theorem dX1_pointOf_29 : decode cX1_pointOf 29 = .ok (.invokevirtual 73, 3) := by decide +kernel
theorem dX1_pointOf_32 : decode cX1_pointOf 32 = .ok (.istore_n 3, 1) := by decide +kernel
theorem dX1_pointOf_33 : decode cX1_pointOf 33 = .ok (.iinc 4 (-1), 3) := by decide +kernel
theorem dX1_pointOf_36 : decode cX1_pointOf 36 = .ok (.goto (-26), 3) := by decide +kernel
theorem dX1_pointOf_39 : decode cX1_pointOf 39 = .ok (.iload_n 3, 1) := by decide +kernel
theorem dX1_pointOf_40 : decode cX1_pointOf 40 = .ok (.ireturn, 1) := by decide +kernel
set_option maxRecDepth 20000 in
theorem ggX1_makeTones_X1_pointOf : GoodIn wsX1_makeTones wsX1_pointOf := goodIn_r _ [7, 1, 8, 9, 10, 6, 11, 12, 13, 14, 15, 16, 17, 18, 19, 20, 21, 22, 23, 24, 25, 26, 27, 28] (by decide +kernel) (by decide +kernel)
set_option maxRecDepth 20000 in
theorem gX1_makeTones_X1_pointOf : GoodIn wsX1_makeTones (wsV RX1 76 RX1 yX1_pointOf wsX1_pointOf) := goodIn_app (goodIn_of _ (by decide +kernel)) ggX1_makeTones_X1_pointOf
set_option maxRecDepth 20000 in
theorem ggX1_makeTones_X1_by : GoodIn wsX1_makeTones wsX1_by := goodIn_r _ [11, 12, 22, 23, 24, 25, 26, 27, 28] (by decide +kernel) (by decide +kernel)
set_option maxRecDepth 20000 in
theorem gX1_makeTones_X1_by : GoodIn wsX1_makeTones (wsV RX1 36 RX1 yX1_by wsX1_by) := goodIn_app (goodIn_of _ (by decide +kernel)) ggX1_makeTones_X1_by
theorem dX1_makeTones_0 : decode cX1_makeTones 0 = .ok (.iconst 1, 1) := by decide +kernel
theorem dX1_makeTones_1 : decode cX1_makeTones 1 = .ok (.istore 4, 2) := by decide +kernel
theorem dX1_makeTones_3 : decode cX1_makeTones 3 = .ok (.iconst 0, 1) := by decide +kernel
theorem dX1_makeTones_4 : decode cX1_makeTones 4 = .ok (.istore 5, 2) := by decide +kernel
theorem dX1_makeTones_6 : decode cX1_makeTones 6 = .ok (.iload 5, 2) := by decide +kernel
theorem dX1_makeTones_8 : decode cX1_makeTones 8 = .ok (.aload_n 0, 1) := by decide +kernel
theorem dX1_makeTones_9 : decode cX1_makeTones 9 = .ok (.getfield 7, 3) := by decide +kernel
theorem dX1_makeTones_12 : decode cX1_makeTones 12 = .ok (.if_icmp .ge 37, 3) := by decide +kernel
theorem dX1_makeTones_15 : decode cX1_makeTones 15 = .ok (.aload_n 0, 1) := by decide +kernel
theorem dX1_makeTones_16 : decode cX1_makeTones 16 = .ok (.getfield 26, 3) := by decide +kernel
theorem dX1_makeTones_19 : decode cX1_makeTones 19 = .ok (.iload 5, 2) := by decide +kernel
theorem dX1_makeTones_21 : decode cX1_makeTones 21 = .ok (.aload_n 0, 1) := by decide +kernel
theorem dX1_makeTones_22 : decode cX1_makeTones 22 = .ok (.aload_n 0, 1) := by decide +kernel
theorem dX1_makeTones_23 : decode cX1_makeTones 23 = .ok (.iload_n 1, 1) := by decide +kernel
theorem dX1_makeTones_24 : decode cX1_makeTones 24 = .ok (.iload 4, 2) := by decide +kernel
theorem dX1_makeTones_26 : decode cX1_makeTones 26 = .ok (.invokevirtual 76, 3) := by decide +kernel
theorem dX1_makeTones_29 : decode cX1_makeTones 29 = .ok (.iload_n 3, 1) := by decide +kernel
theorem dX1_makeTones_30 : decode cX1_makeTones 30 = .ok (.invokevirtual 36, 3) := by decide +kernel
theorem dX1_makeTones_33 : decode cX1_makeTones 33 = .ok (.iastore, 1) := by decide +kernel
theorem dX1_makeTones_34 : decode cX1_makeTones 34 = .ok (.aload_n 0, 1) := by decide +kernel
theorem dX1_makeTones_35 : decode cX1_makeTones 35 = .ok (.iload 4, 2) := by decide +kernel
theorem dX1_makeTones_37 : decode cX1_makeTones 37 = .ok (.iload_n 2, 1) := by decide +kernel
theorem dX1_makeTones_38 : decode cX1_makeTones 38 = .ok (.invokevirtual 36, 3) := by decide +kernel
theorem dX1_makeTones_41 : decode cX1_makeTones 41 = .ok (.istore 4, 2) := by decide +kernel
theorem dX1_makeTones_43 : decode cX1_makeTones 43 = .ok (.iinc 5 1, 3) := by decide +kernel
theorem dX1_makeTones_46 : decode cX1_makeTones 46 = .ok (.goto (-40), 3) := by decide +kernel
theorem dX1_makeTones_49 : decode cX1_makeTones 49 = .ok (.return_, 1) := by decide +kernel
set_option maxRecDepth 20000 in
theorem ggX1_folded_X1_its : GoodIn wsX1_folded wsX1_its := goodIn_r _ [6, 7, 17, 18, 19, 20, 21, 22, 23] (by decide +kernel) (by decide +kernel)
set_option maxRecDepth 20000 in
theorem gX1_folded_X1_its : GoodIn wsX1_folded (wsV RX1 70 RX1 yX1_its wsX1_its) := goodIn_app (goodIn_of _ (by decide +kernel)) ggX1_folded_X1_its
set_option maxRecDepth 20000 in
theorem ggX1_folded_X1_by : GoodIn wsX1_folded wsX1_by := goodIn_r _ [11, 12, 17, 18, 19, 20, 21, 22, 23] (by decide +kernel) (by decide +kernel)
set_option maxRecDepth 20000 in
theorem gX1_folded_X1_by : GoodIn wsX1_folded (wsV RX1 36 RX1 yX1_by wsX1_by) := goodIn_app (goodIn_of _ (by decide +kernel)) ggX1_folded_X1_by
set_option maxRecDepth 20000 in
theorem ggX1_folded_X1_plus : GoodIn wsX1_folded wsX1_plus := goodIn_r _ [16, 12, 17, 18, 19, 20, 21, 22, 23] (by decide +kernel) (by decide +kernel)
set_option maxRecDepth 20000 in
theorem gX1_folded_X1_plus : GoodIn wsX1_folded (wsV RX1 73 RX1 yX1_plus wsX1_plus) := goodIn_app (goodIn_of _ (by decide +kernel)) ggX1_folded_X1_plus
theorem dX1_folded_0 : decode cX1_folded 0 = .ok (.iconst 0, 1) := by decide +kernel
theorem dX1_folded_1 : decode cX1_folded 1 = .ok (.istore 4, 2) := by decide +kernel
theorem dX1_folded_3 : decode cX1_folded 3 = .ok (.iconst 0, 1) := by decide +kernel
theorem dX1_folded_4 : decode cX1_folded 4 = .ok (.istore 5, 2) := by decide +kernel
theorem dX1_folded_6 : decode cX1_folded 6 = .ok (.iload 5, 2) := by decide +kernel
theorem dX1_folded_8 : decode cX1_folded 8 = .ok (.aload_n 0, 1) := by decide +kernel
theorem dX1_folded_9 : decode cX1_folded 9 = .ok (.getfield 7, 3) := by decide +kernel
theorem dX1_folded_12 : decode cX1_folded 12 = .ok (.if_icmp .ge 47, 3) := by decide +kernel
theorem dX1_folded_15 : decode cX1_folded 15 = .ok (.aload_n 0, 1) := by decide +kernel
theorem dX1_folded_16 : decode cX1_folded 16 = .ok (.iload 4, 2) := by decide +kernel
theorem dX1_folded_18 : decode cX1_folded 18 = .ok (.aload_n 0, 1) := by decide +kernel
theorem dX1_folded_19 : decode cX1_folded 19 = .ok (.aload_n 0, 1) := by decide +kernel
theorem dX1_folded_20 : decode cX1_folded 20 = .ok (.iload_n 1, 1) := by decide +kernel
theorem dX1_folded_21 : decode cX1_folded 21 = .ok (.iload 5, 2) := by decide +kernel
theorem dX1_folded_23 : decode cX1_folded 23 = .ok (.invokevirtual 70, 3) := by decide +kernel
theorem dX1_folded_26 : decode cX1_folded 26 = .ok (.aload_n 0, 1) := by decide +kernel
theorem dX1_folded_27 : decode cX1_folded 27 = .ok (.iload_n 2, 1) := by decide +kernel
theorem dX1_folded_28 : decode cX1_folded 28 = .ok (.iload_n 3, 1) := by decide +kernel
theorem dX1_folded_29 : decode cX1_folded 29 = .ok (.iload 5, 2) := by decide +kernel
theorem dX1_folded_31 : decode cX1_folded 31 = .ok (.isub, 1) := by decide +kernel
theorem dX1_folded_32 : decode cX1_folded 32 = .ok (.aload_n 0, 1) := by decide +kernel
theorem dX1_folded_33 : decode cX1_folded 33 = .ok (.getfield 7, 3) := by decide +kernel
theorem dX1_folded_36 : decode cX1_folded 36 = .ok (.iadd, 1) := by decide +kernel
theorem dX1_folded_37 : decode cX1_folded 37 = .ok (.aload_n 0, 1) := by decide +kernel
theorem dX1_folded_38 : decode cX1_folded 38 = .ok (.getfield 7, 3) := by decide +kernel
theorem dX1_folded_41 : decode cX1_folded 41 = .ok (.irem, 1) := by decide +kernel
theorem dX1_folded_42 : decode cX1_folded 42 = .ok (.invokevirtual 70, 3) := by decide +kernel
theorem dX1_folded_45 : decode cX1_folded 45 = .ok (.invokevirtual 36, 3) := by decide +kernel
theorem dX1_folded_48 : decode cX1_folded 48 = .ok (.invokevirtual 73, 3) := by decide +kernel
theorem dX1_folded_51 : decode cX1_folded 51 = .ok (.istore 4, 2) := by decide +kernel
theorem dX1_folded_53 : decode cX1_folded 53 = .ok (.iinc 5 1, 3) := by decide +kernel
theorem dX1_folded_56 : decode cX1_folded 56 = .ok (.goto (-50), 3) := by decide +kernel
theorem dX1_folded_59 : decode cX1_folded 59 = .ok (.iload 4, 2) := by decide +kernel
theorem dX1_folded_61 : decode cX1_folded 61 = .ok (.ireturn, 1) := by decide +kernel
theorem dX1_mirrored_0 : decode cX1_mirrored 0 = .ok (.iconst 0, 1) := by decide +kernel
theorem dX1_mirrored_1 : decode cX1_mirrored 1 = .ok (.istore_n 2, 1) := by decide +kernel
theorem dX1_mirrored_2 : decode cX1_mirrored 2 = .ok (.iconst 0, 1) := by decide +kernel
theorem dX1_mirrored_3 : decode cX1_mirrored 3 = .ok (.istore_n 3, 1) := by decide +kernel
theorem dX1_mirrored_4 : decode cX1_mirrored 4 = .ok (.iload_n 3, 1) := by decide +kernel
theorem dX1_mirrored_5 : decode cX1_mirrored 5 = .ok (.aload_n 0, 1) := by decide +kernel
theorem dX1_mirrored_6 : decode cX1_mirrored 6 = .ok (.getfield 19, 3) := by decide +kernel
theorem dX1_mirrored_9 : decode cX1_mirrored 9 = .ok (.if_icmp .ge 26, 3) := by decide +kernel
theorem dX1_mirrored_12 : decode cX1_mirrored 12 = .ok (.iload_n 2, 1) := by decide +kernel
theorem dX1_mirrored_13 : decode cX1_mirrored 13 = .ok (.iload_n 1, 1) := by decide +kernel
theorem dX1_mirrored_14 : decode cX1_mirrored 14 = .ok (.iload_n 3, 1) := by decide +kernel
theorem dX1_mirrored_15 : decode cX1_mirrored 15 = .ok (.ishr, 1) := by decide +kernel
theorem dX1_mirrored_16 : decode cX1_mirrored 16 = .ok (.iconst 1, 1) := by decide +kernel
theorem dX1_mirrored_17 : decode cX1_mirrored 17 = .ok (.iand, 1) := by decide +kernel
theorem dX1_mirrored_18 : decode cX1_mirrored 18 = .ok (.aload_n 0, 1) := by decide +kernel
theorem dX1_mirrored_19 : decode cX1_mirrored 19 = .ok (.getfield 19, 3) := by decide +kernel
theorem dX1_mirrored_22 : decode cX1_mirrored 22 = .ok (.iconst 1, 1) := by decide +kernel
theorem dX1_mirrored_23 : decode cX1_mirrored 23 = .ok (.isub, 1) := by decide +kernel
theorem dX1_mirrored_24 : decode cX1_mirrored 24 = .ok (.iload_n 3, 1) := by decide +kernel
theorem dX1_mirrored_25 : decode cX1_mirrored 25 = .ok (.isub, 1) := by decide +kernel
theorem dX1_mirrored_26 : decode cX1_mirrored 26 = .ok (.ishl, 1) := by decide +kernel
theorem dX1_mirrored_27 : decode cX1_mirrored 27 = .ok (.ior, 1) := by decide +kernel
theorem dX1_mirrored_28 : decode cX1_mirrored 28 = .ok (.istore_n 2, 1) := by decide +kernel
theorem dX1_mirrored_29 : decode cX1_mirrored 29 = .ok (.iinc 3 1, 3) := by decide +kernel
theorem dX1_mirrored_32 : decode cX1_mirrored 32 = .ok (.goto (-28), 3) := by decide +kernel
theorem dX1_mirrored_35 : decode cX1_mirrored 35 = .ok (.iload_n 2, 1) := by decide +kernel
theorem dX1_mirrored_36 : decode cX1_mirrored 36 = .ok (.ireturn, 1) := by decide +kernel
set_option maxRecDepth 20000 in
theorem ggX1_set_X1_isRow : GoodIn wsX1_set wsX1_isRow := goodIn_r _ [7, 8, 9, 6, 10] (by decide +kernel) (by decide +kernel)
set_option maxRecDepth 20000 in
theorem gX1_set_X1_isRow : GoodIn wsX1_set (va_wsS RX1 79 yX1_isRow wsX1_isRow) := goodIn_app (goodIn_of _ (by decide +kernel)) ggX1_set_X1_isRow
set_option maxRecDepth 20000 in
theorem ggX1_set_X1_isPlace : GoodIn wsX1_set wsX1_isPlace := goodIn_r _ [14, 15, 8, 9, 6, 10, 24, 25, 26, 27, 28, 29, 30] (by decide +kernel) (by decide +kernel)
set_option maxRecDepth 20000 in
theorem gX1_set_X1_isPlace : GoodIn wsX1_set (wsV RX1 82 RX1 yX1_isPlace wsX1_isPlace) := goodIn_app (goodIn_of _ (by decide +kernel)) ggX1_set_X1_isPlace
set_option maxRecDepth 20000 in
theorem ggX1_set_X1_no : GoodIn wsX1_set wsX1_no := goodIn_r _ [19, 1, 24, 25, 26, 27, 28, 29, 30] (by decide +kernel) (by decide +kernel)
set_option maxRecDepth 20000 in
theorem gX1_set_X1_no : GoodIn wsX1_set (wsV RX1 48 RX1 yX1_no wsX1_no) := goodIn_app (goodIn_of _ (by decide +kernel)) ggX1_set_X1_no
set_option maxRecDepth 20000 in
theorem ggX1_set_X1_isIn : GoodIn wsX1_set wsX1_isIn := goodIn_r _ [10] (by decide +kernel) (by decide +kernel)
set_option maxRecDepth 20000 in
theorem gX1_set_X1_isIn : GoodIn wsX1_set (va_wsS RX1 32 yX1_isIn wsX1_isIn) := goodIn_app (goodIn_of _ (by decide +kernel)) ggX1_set_X1_isIn
set_option maxRecDepth 20000 in
theorem ggX1_set_X1_its : GoodIn wsX1_set wsX1_its := goodIn_r _ [23, 3, 24, 25, 26, 27, 28, 29, 30] (by decide +kernel) (by decide +kernel)
set_option maxRecDepth 20000 in
theorem gX1_set_X1_its : GoodIn wsX1_set (wsV RX1 70 RX1 yX1_its wsX1_its) := goodIn_app (goodIn_of _ (by decide +kernel)) ggX1_set_X1_its
theorem dX1_set_0 : decode cX1_set 0 = .ok (.aload_n 0, 1) := by decide +kernel
theorem dX1_set_1 : decode cX1_set 1 = .ok (.iconst 0, 1) := by decide +kernel
theorem dX1_set_2 : decode cX1_set 2 = .ok (.putfield 29, 3) := by decide +kernel
theorem dX1_set_5 : decode cX1_set 5 = .ok (.iload_n 1, 1) := by decide +kernel
theorem dX1_set_6 : decode cX1_set 6 = .ok (.invokestatic 79, 3) := by decide +kernel
theorem dX1_set_9 : decode cX1_set 9 = .ok (.ifCond .eq 11, 3) := by decide +kernel
theorem dX1_set_12 : decode cX1_set 12 = .ok (.aload_n 0, 1) := by decide +kernel
theorem dX1_set_13 : decode cX1_set 13 = .ok (.iload_n 2, 1) := by decide +kernel
theorem dX1_set_14 : decode cX1_set 14 = .ok (.invokevirtual 82, 3) := by decide +kernel
theorem dX1_set_17 : decode cX1_set 17 = .ok (.ifCond .ne 9, 3) := by decide +kernel
theorem dX1_set_20 : decode cX1_set 20 = .ok (.aload_n 0, 1) := by decide +kernel
theorem dX1_set_21 : decode cX1_set 21 = .ok (.iconst 1, 1) := by decide +kernel
theorem dX1_set_22 : decode cX1_set 22 = .ok (.invokevirtual 48, 3) := by decide +kernel
theorem dX1_set_25 : decode cX1_set 25 = .ok (.ireturn, 1) := by decide +kernel
theorem dX1_set_26 : decode cX1_set 26 = .ok (.iload_n 3, 1) := by decide +kernel
theorem dX1_set_27 : decode cX1_set 27 = .ok (.iconst 0, 1) := by decide +kernel
theorem dX1_set_28 : decode cX1_set 28 = .ok (.aload_n 0, 1) := by decide +kernel
theorem dX1_set_29 : decode cX1_set 29 = .ok (.getfield 13, 3) := by decide +kernel
theorem dX1_set_32 : decode cX1_set 32 = .ok (.iconst 1, 1) := by decide +kernel
theorem dX1_set_33 : decode cX1_set 33 = .ok (.isub, 1) := by decide +kernel
theorem dX1_set_34 : decode cX1_set 34 = .ok (.invokestatic 32, 3) := by decide +kernel
theorem dX1_set_37 : decode cX1_set 37 = .ok (.ifCond .ne 9, 3) := by decide +kernel
theorem dX1_set_40 : decode cX1_set 40 = .ok (.aload_n 0, 1) := by decide +kernel
theorem dX1_set_41 : decode cX1_set 41 = .ok (.iconst 2, 1) := by decide +kernel
theorem dX1_set_42 : decode cX1_set 42 = .ok (.invokevirtual 48, 3) := by decide +kernel
theorem dX1_set_45 : decode cX1_set 45 = .ok (.ireturn, 1) := by decide +kernel
theorem dX1_set_46 : decode cX1_set 46 = .ok (.aload_n 0, 1) := by decide +kernel
theorem dX1_set_47 : decode cX1_set 47 = .ok (.iload_n 1, 1) := by decide +kernel
theorem dX1_set_48 : decode cX1_set 48 = .ok (.iload_n 2, 1) := by decide +kernel
theorem dX1_set_49 : decode cX1_set 49 = .ok (.invokevirtual 70, 3) := by decide +kernel
theorem dX1_set_52 : decode cX1_set 52 = .ok (.istore 4, 2) := by decide +kernel
theorem dX1_set_54 : decode cX1_set 54 = .ok (.aload_n 0, 1) := by decide +kernel
theorem dX1_set_55 : decode cX1_set 55 = .ok (.getfield 22, 3) := by decide +kernel
theorem dX1_set_58 : decode cX1_set 58 = .ok (.bipush 16, 2) := by decide +kernel
theorem dX1_set_60 : decode cX1_set 60 = .ok (.iload_n 1, 1) := by decide +kernel
theorem dX1_set_61 : decode cX1_set 61 = .ok (.imul, 1) := by decide +kernel
theorem dX1_set_62 : decode cX1_set 62 = .ok (.iload_n 2, 1) := by decide +kernel
theorem dX1_set_63 : decode cX1_set 63 = .ok (.iadd, 1) := by decide +kernel
theorem dX1_set_64 : decode cX1_set 64 = .ok (.iload_n 3, 1) := by decide +kernel
theorem dX1_set_65 : decode cX1_set 65 = .ok (.iastore, 1) := by decide +kernel
theorem dX1_set_66 : decode cX1_set 66 = .ok (.iload 4, 2) := by decide +kernel
theorem dX1_set_68 : decode cX1_set 68 = .ok (.ireturn, 1) := by decide +kernel
set_option maxRecDepth 20000 in
theorem ggX1_copy_X1_isRow : GoodIn wsX1_copy wsX1_isRow := goodIn_r _ [12, 13, 14, 11, 15] (by decide +kernel) (by decide +kernel)
set_option maxRecDepth 20000 in
theorem gX1_copy_X1_isRow : GoodIn wsX1_copy (va_wsS RX1 79 yX1_isRow wsX1_isRow) := goodIn_app (goodIn_of _ (by decide +kernel)) ggX1_copy_X1_isRow
set_option maxRecDepth 20000 in
theorem ggX1_copy_X1_no : GoodIn wsX1_copy wsX1_no := goodIn_r _ [19, 1, 32, 33, 34, 35, 36, 37, 38] (by decide +kernel) (by decide +kernel)
set_option maxRecDepth 20000 in
theorem gX1_copy_X1_no : GoodIn wsX1_copy (wsV RX1 48 RX1 yX1_no wsX1_no) := goodIn_app (goodIn_of _ (by decide +kernel)) ggX1_copy_X1_no
set_option maxRecDepth 20000 in
theorem ggX1_copy_X1_changes : GoodIn wsX1_copy wsX1_changes := goodIn_r _ [23, 4, 3, 24, 25, 26, 11, 27, 2, 32, 33, 34, 35, 36, 37, 38] (by decide +kernel) (by decide +kernel)
set_option maxRecDepth 20000 in
theorem gX1_copy_X1_changes : GoodIn wsX1_copy (wsV RX1 85 RX1 yX1_changes wsX1_changes) := goodIn_app (goodIn_of _ (by decide +kernel)) ggX1_copy_X1_changes
set_option maxRecDepth 20000 in
theorem ggX1_copy_X1_lay : GoodIn wsX1_copy wsX1_lay := goodIn_r _ [31, 3, 2, 4, 5, 6, 7, 8, 32, 33, 34, 35, 36, 37, 38] (by decide +kernel) (by decide +kernel)
set_option maxRecDepth 20000 in
theorem gX1_copy_X1_lay : GoodIn wsX1_copy (wsV RX1 88 RX1 yX1_lay wsX1_lay) := goodIn_app (goodIn_of _ (by decide +kernel)) ggX1_copy_X1_lay
theorem dX1_copy_0 : decode cX1_copy 0 = .ok (.aload_n 0, 1) := by decide +kernel
theorem dX1_copy_1 : decode cX1_copy 1 = .ok (.iconst 0, 1) := by decide +kernel
theorem dX1_copy_2 : decode cX1_copy 2 = .ok (.putfield 29, 3) := by decide +kernel
theorem dX1_copy_5 : decode cX1_copy 5 = .ok (.iload_n 1, 1) := by decide +kernel
theorem dX1_copy_6 : decode cX1_copy 6 = .ok (.invokestatic 79, 3) := by decide +kernel
theorem dX1_copy_9 : decode cX1_copy 9 = .ok (.ifCond .eq 10, 3) := by decide +kernel
theorem dX1_copy_12 : decode cX1_copy 12 = .ok (.iload_n 2, 1) := by decide +kernel
theorem dX1_copy_13 : decode cX1_copy 13 = .ok (.invokestatic 79, 3) := by decide +kernel
theorem dX1_copy_16 : decode cX1_copy 16 = .ok (.ifCond .ne 9, 3) := by decide +kernel
theorem dX1_copy_19 : decode cX1_copy 19 = .ok (.aload_n 0, 1) := by decide +kernel
theorem dX1_copy_20 : decode cX1_copy 20 = .ok (.iconst 1, 1) := by decide +kernel
theorem dX1_copy_21 : decode cX1_copy 21 = .ok (.invokevirtual 48, 3) := by decide +kernel
theorem dX1_copy_24 : decode cX1_copy 24 = .ok (.ireturn, 1) := by decide +kernel
theorem dX1_copy_25 : decode cX1_copy 25 = .ok (.aload_n 0, 1) := by decide +kernel
theorem dX1_copy_26 : decode cX1_copy 26 = .ok (.getfield 22, 3) := by decide +kernel
theorem dX1_copy_29 : decode cX1_copy 29 = .ok (.bipush 16, 2) := by decide +kernel
theorem dX1_copy_31 : decode cX1_copy 31 = .ok (.iload_n 1, 1) := by decide +kernel
theorem dX1_copy_32 : decode cX1_copy 32 = .ok (.imul, 1) := by decide +kernel
theorem dX1_copy_33 : decode cX1_copy 33 = .ok (.aload_n 0, 1) := by decide +kernel
theorem dX1_copy_34 : decode cX1_copy 34 = .ok (.getfield 26, 3) := by decide +kernel
theorem dX1_copy_37 : decode cX1_copy 37 = .ok (.iconst 0, 1) := by decide +kernel
theorem dX1_copy_38 : decode cX1_copy 38 = .ok (.aload_n 0, 1) := by decide +kernel
theorem dX1_copy_39 : decode cX1_copy 39 = .ok (.getfield 7, 3) := by decide +kernel
theorem dX1_copy_42 : decode cX1_copy 42 = .ok (.invokestatic 64, 3) := by decide +kernel
theorem dX1_copy_45 : decode cX1_copy 45 = .ok (.aload_n 0, 1) := by decide +kernel
theorem dX1_copy_46 : decode cX1_copy 46 = .ok (.iload_n 2, 1) := by decide +kernel
theorem dX1_copy_47 : decode cX1_copy 47 = .ok (.invokevirtual 85, 3) := by decide +kernel
theorem dX1_copy_50 : decode cX1_copy 50 = .ok (.istore_n 3, 1) := by decide +kernel
theorem dX1_copy_51 : decode cX1_copy 51 = .ok (.aload_n 0, 1) := by decide +kernel
theorem dX1_copy_52 : decode cX1_copy 52 = .ok (.iload_n 2, 1) := by decide +kernel
theorem dX1_copy_53 : decode cX1_copy 53 = .ok (.invokevirtual 88, 3) := by decide +kernel
theorem dX1_copy_56 : decode cX1_copy 56 = .ok (.iload_n 3, 1) := by decide +kernel
theorem dX1_copy_57 : decode cX1_copy 57 = .ok (.ireturn, 1) := by decide +kernel
set_option maxRecDepth 20000 in
theorem ggX1_turn_X1_isRow : GoodIn wsX1_turn wsX1_isRow := goodIn_r _ [8, 9, 10, 7, 11] (by decide +kernel) (by decide +kernel)
set_option maxRecDepth 20000 in
theorem gX1_turn_X1_isRow : GoodIn wsX1_turn (va_wsS RX1 79 yX1_isRow wsX1_isRow) := goodIn_app (goodIn_of _ (by decide +kernel)) ggX1_turn_X1_isRow
set_option maxRecDepth 20000 in
theorem ggX1_turn_X1_no : GoodIn wsX1_turn wsX1_no := goodIn_r _ [15, 1, 50, 51, 52, 53, 54, 55, 56] (by decide +kernel) (by decide +kernel)
set_option maxRecDepth 20000 in
theorem gX1_turn_X1_no : GoodIn wsX1_turn (wsV RX1 48 RX1 yX1_no wsX1_no) := goodIn_app (goodIn_of _ (by decide +kernel)) ggX1_turn_X1_no
set_option maxRecDepth 20000 in
theorem ggX1_turn_X1_inverseOf : GoodIn wsX1_turn wsX1_inverseOf := goodIn_r _ [19, 20, 50, 51, 52, 53, 54, 55, 56] (by decide +kernel) (by decide +kernel)
set_option maxRecDepth 20000 in
theorem gX1_turn_X1_inverseOf : GoodIn wsX1_turn (wsV RX1 58 RX1 yX1_inverseOf wsX1_inverseOf) := goodIn_app (goodIn_of _ (by decide +kernel)) ggX1_turn_X1_inverseOf
set_option maxRecDepth 20000 in
theorem ggX1_turn_X1_makeTones : GoodIn wsX1_turn wsX1_makeTones := goodIn_r _ [24, 3, 4, 25, 26, 27, 7, 28, 29, 30, 31, 32, 20, 33, 34, 35, 36, 37, 38, 39, 40, 41, 50, 51, 52, 53, 54, 55, 56] (by decide +kernel) (by decide +kernel)
set_option maxRecDepth 20000 in
theorem gX1_turn_X1_makeTones : GoodIn wsX1_turn (wsV RX1 92 RX1 yX1_makeTones wsX1_makeTones) := goodIn_app (goodIn_of _ (by decide +kernel)) ggX1_turn_X1_makeTones
set_option maxRecDepth 20000 in
theorem ggX1_turn_X1_lay : GoodIn wsX1_turn wsX1_lay := goodIn_r _ [45, 4, 37, 3, 46, 47, 48, 49, 50, 51, 52, 53, 54, 55, 56] (by decide +kernel) (by decide +kernel)
set_option maxRecDepth 20000 in
theorem gX1_turn_X1_lay : GoodIn wsX1_turn (wsV RX1 88 RX1 yX1_lay wsX1_lay) := goodIn_app (goodIn_of _ (by decide +kernel)) ggX1_turn_X1_lay
theorem dX1_turn_0 : decode cX1_turn 0 = .ok (.aload_n 0, 1) := by decide +kernel
theorem dX1_turn_1 : decode cX1_turn 1 = .ok (.iconst 0, 1) := by decide +kernel
theorem dX1_turn_2 : decode cX1_turn 2 = .ok (.putfield 29, 3) := by decide +kernel
theorem dX1_turn_5 : decode cX1_turn 5 = .ok (.iload_n 1, 1) := by decide +kernel
theorem dX1_turn_6 : decode cX1_turn 6 = .ok (.invokestatic 79, 3) := by decide +kernel
theorem dX1_turn_9 : decode cX1_turn 9 = .ok (.ifCond .ne 9, 3) := by decide +kernel
theorem dX1_turn_12 : decode cX1_turn 12 = .ok (.aload_n 0, 1) := by decide +kernel
theorem dX1_turn_13 : decode cX1_turn 13 = .ok (.iconst 1, 1) := by decide +kernel
theorem dX1_turn_14 : decode cX1_turn 14 = .ok (.invokevirtual 48, 3) := by decide +kernel
theorem dX1_turn_17 : decode cX1_turn 17 = .ok (.ireturn, 1) := by decide +kernel
theorem dX1_turn_18 : decode cX1_turn 18 = .ok (.aload_n 0, 1) := by decide +kernel
theorem dX1_turn_19 : decode cX1_turn 19 = .ok (.iload_n 1, 1) := by decide +kernel
theorem dX1_turn_20 : decode cX1_turn 20 = .ok (.iload_n 2, 1) := by decide +kernel
theorem dX1_turn_21 : decode cX1_turn 21 = .ok (.ifCond .eq 14, 3) := by decide +kernel
theorem dX1_turn_24 : decode cX1_turn 24 = .ok (.aload_n 0, 1) := by decide +kernel
theorem dX1_turn_25 : decode cX1_turn 25 = .ok (.aload_n 0, 1) := by decide +kernel
theorem dX1_turn_26 : decode cX1_turn 26 = .ok (.getfield 16, 3) := by decide +kernel
theorem dX1_turn_29 : decode cX1_turn 29 = .ok (.invokevirtual 58, 3) := by decide +kernel
theorem dX1_turn_32 : decode cX1_turn 32 = .ok (.goto 7, 3) := by decide +kernel
theorem dX1_turn_35 : decode cX1_turn 35 = .ok (.aload_n 0, 1) := by decide +kernel
theorem dX1_turn_36 : decode cX1_turn 36 = .ok (.getfield 16, 3) := by decide +kernel
theorem dX1_turn_39 : decode cX1_turn 39 = .ok (.iload_n 2, 1) := by decide +kernel
theorem dX1_turn_40 : decode cX1_turn 40 = .ok (.ifCond .eq 14, 3) := by decide +kernel
theorem dX1_turn_43 : decode cX1_turn 43 = .ok (.aload_n 0, 1) := by decide +kernel
theorem dX1_turn_44 : decode cX1_turn 44 = .ok (.aload_n 0, 1) := by decide +kernel
theorem dX1_turn_45 : decode cX1_turn 45 = .ok (.getfield 7, 3) := by decide +kernel
theorem dX1_turn_48 : decode cX1_turn 48 = .ok (.invokevirtual 58, 3) := by decide +kernel
theorem dX1_turn_51 : decode cX1_turn 51 = .ok (.goto 4, 3) := by decide +kernel
theorem dX1_turn_54 : decode cX1_turn 54 = .ok (.iconst 1, 1) := by decide +kernel
theorem dX1_turn_55 : decode cX1_turn 55 = .ok (.invokevirtual 92, 3) := by decide +kernel
theorem dX1_turn_58 : decode cX1_turn 58 = .ok (.aload_n 0, 1) := by decide +kernel
theorem dX1_turn_59 : decode cX1_turn 59 = .ok (.iload_n 1, 1) := by decide +kernel
theorem dX1_turn_60 : decode cX1_turn 60 = .ok (.invokevirtual 88, 3) := by decide +kernel
theorem dX1_turn_63 : decode cX1_turn 63 = .ok (.aload_n 0, 1) := by decide +kernel
theorem dX1_turn_64 : decode cX1_turn 64 = .ok (.getfield 26, 3) := by decide +kernel
theorem dX1_turn_67 : decode cX1_turn 67 = .ok (.iconst 0, 1) := by decide +kernel
theorem dX1_turn_68 : decode cX1_turn 68 = .ok (.iaload, 1) := by decide +kernel
theorem dX1_turn_69 : decode cX1_turn 69 = .ok (.ireturn, 1) := by decide +kernel
set_option maxRecDepth 20000 in
theorem ggX1_mirror_X1_isRow : GoodIn wsX1_mirror wsX1_isRow := goodIn_r _ [7, 8, 9, 6, 10] (by decide +kernel) (by decide +kernel)
set_option maxRecDepth 20000 in
theorem gX1_mirror_X1_isRow : GoodIn wsX1_mirror (va_wsS RX1 79 yX1_isRow wsX1_isRow) := goodIn_app (goodIn_of _ (by decide +kernel)) ggX1_mirror_X1_isRow
set_option maxRecDepth 20000 in
theorem ggX1_mirror_X1_no : GoodIn wsX1_mirror wsX1_no := goodIn_r _ [14, 1, 37, 38, 39, 40, 41, 42, 43] (by decide +kernel) (by decide +kernel)
set_option maxRecDepth 20000 in
theorem gX1_mirror_X1_no : GoodIn wsX1_mirror (wsV RX1 48 RX1 yX1_no wsX1_no) := goodIn_app (goodIn_of _ (by decide +kernel)) ggX1_mirror_X1_no
set_option maxRecDepth 20000 in
theorem ggX1_mirror_X1_mirrored : GoodIn wsX1_mirror wsX1_mirrored := goodIn_r _ [18, 19, 37, 38, 39, 40, 41, 42, 43] (by decide +kernel) (by decide +kernel)
set_option maxRecDepth 20000 in
theorem gX1_mirror_X1_mirrored : GoodIn wsX1_mirror (wsV RX1 96 RX1 yX1_mirrored wsX1_mirrored) := goodIn_app (goodIn_of _ (by decide +kernel)) ggX1_mirror_X1_mirrored
set_option maxRecDepth 20000 in
theorem ggX1_mirror_X1_its : GoodIn wsX1_mirror wsX1_its := goodIn_r _ [23, 24, 37, 38, 39, 40, 41, 42, 43] (by decide +kernel) (by decide +kernel)
set_option maxRecDepth 20000 in
theorem gX1_mirror_X1_its : GoodIn wsX1_mirror (wsV RX1 70 RX1 yX1_its wsX1_its) := goodIn_app (goodIn_of _ (by decide +kernel)) ggX1_mirror_X1_its
set_option maxRecDepth 20000 in
theorem ggX1_mirror_X1_changes : GoodIn wsX1_mirror wsX1_changes := goodIn_r _ [28, 2, 3, 20, 21, 22, 6, 23, 24, 37, 38, 39, 40, 41, 42, 43] (by decide +kernel) (by decide +kernel)
set_option maxRecDepth 20000 in
theorem gX1_mirror_X1_changes : GoodIn wsX1_mirror (wsV RX1 85 RX1 yX1_changes wsX1_changes) := goodIn_app (goodIn_of _ (by decide +kernel)) ggX1_mirror_X1_changes
set_option maxRecDepth 20000 in
theorem ggX1_mirror_X1_lay : GoodIn wsX1_mirror wsX1_lay := goodIn_r _ [32, 3, 24, 2, 33, 34, 35, 36, 37, 38, 39, 40, 41, 42, 43] (by decide +kernel) (by decide +kernel)
set_option maxRecDepth 20000 in
theorem gX1_mirror_X1_lay : GoodIn wsX1_mirror (wsV RX1 88 RX1 yX1_lay wsX1_lay) := goodIn_app (goodIn_of _ (by decide +kernel)) ggX1_mirror_X1_lay
theorem dX1_mirror_0 : decode cX1_mirror 0 = .ok (.aload_n 0, 1) := by decide +kernel
theorem dX1_mirror_1 : decode cX1_mirror 1 = .ok (.iconst 0, 1) := by decide +kernel
theorem dX1_mirror_2 : decode cX1_mirror 2 = .ok (.putfield 29, 3) := by decide +kernel
theorem dX1_mirror_5 : decode cX1_mirror 5 = .ok (.iload_n 1, 1) := by decide +kernel
theorem dX1_mirror_6 : decode cX1_mirror 6 = .ok (.invokestatic 79, 3) := by decide +kernel
theorem dX1_mirror_9 : decode cX1_mirror 9 = .ok (.ifCond .ne 9, 3) := by decide +kernel
theorem dX1_mirror_12 : decode cX1_mirror 12 = .ok (.aload_n 0, 1) := by decide +kernel
theorem dX1_mirror_13 : decode cX1_mirror 13 = .ok (.iconst 1, 1) := by decide +kernel
theorem dX1_mirror_14 : decode cX1_mirror 14 = .ok (.invokevirtual 48, 3) := by decide +kernel
theorem dX1_mirror_17 : decode cX1_mirror 17 = .ok (.ireturn, 1) := by decide +kernel
theorem dX1_mirror_18 : decode cX1_mirror 18 = .ok (.iconst 0, 1) := by decide +kernel
theorem dX1_mirror_19 : decode cX1_mirror 19 = .ok (.istore_n 2, 1) := by decide +kernel
theorem dX1_mirror_20 : decode cX1_mirror 20 = .ok (.iload_n 2, 1) := by decide +kernel
theorem dX1_mirror_21 : decode cX1_mirror 21 = .ok (.aload_n 0, 1) := by decide +kernel
theorem dX1_mirror_22 : decode cX1_mirror 22 = .ok (.getfield 7, 3) := by decide +kernel
theorem dX1_mirror_25 : decode cX1_mirror 25 = .ok (.if_icmp .ge 25, 3) := by decide +kernel
theorem dX1_mirror_28 : decode cX1_mirror 28 = .ok (.aload_n 0, 1) := by decide +kernel
theorem dX1_mirror_29 : decode cX1_mirror 29 = .ok (.getfield 26, 3) := by decide +kernel
theorem dX1_mirror_32 : decode cX1_mirror 32 = .ok (.aload_n 0, 1) := by decide +kernel
theorem dX1_mirror_33 : decode cX1_mirror 33 = .ok (.iload_n 2, 1) := by decide +kernel
theorem dX1_mirror_34 : decode cX1_mirror 34 = .ok (.invokevirtual 96, 3) := by decide +kernel
theorem dX1_mirror_37 : decode cX1_mirror 37 = .ok (.aload_n 0, 1) := by decide +kernel
theorem dX1_mirror_38 : decode cX1_mirror 38 = .ok (.iload_n 1, 1) := by decide +kernel
theorem dX1_mirror_39 : decode cX1_mirror 39 = .ok (.iload_n 2, 1) := by decide +kernel
theorem dX1_mirror_40 : decode cX1_mirror 40 = .ok (.invokevirtual 70, 3) := by decide +kernel
theorem dX1_mirror_43 : decode cX1_mirror 43 = .ok (.iastore, 1) := by decide +kernel
theorem dX1_mirror_44 : decode cX1_mirror 44 = .ok (.iinc 2 1, 3) := by decide +kernel
theorem dX1_mirror_47 : decode cX1_mirror 47 = .ok (.goto (-27), 3) := by decide +kernel
theorem dX1_mirror_50 : decode cX1_mirror 50 = .ok (.aload_n 0, 1) := by decide +kernel
theorem dX1_mirror_51 : decode cX1_mirror 51 = .ok (.iload_n 1, 1) := by decide +kernel
theorem dX1_mirror_52 : decode cX1_mirror 52 = .ok (.invokevirtual 85, 3) := by decide +kernel
theorem dX1_mirror_55 : decode cX1_mirror 55 = .ok (.istore_n 2, 1) := by decide +kernel
theorem dX1_mirror_56 : decode cX1_mirror 56 = .ok (.aload_n 0, 1) := by decide +kernel
theorem dX1_mirror_57 : decode cX1_mirror 57 = .ok (.iload_n 1, 1) := by decide +kernel
theorem dX1_mirror_58 : decode cX1_mirror 58 = .ok (.invokevirtual 88, 3) := by decide +kernel
theorem dX1_mirror_61 : decode cX1_mirror 61 = .ok (.iload_n 2, 1) := by decide +kernel
theorem dX1_mirror_62 : decode cX1_mirror 62 = .ok (.ireturn, 1) := by decide +kernel
set_option maxRecDepth 20000 in
theorem ggX1_stage_X1_isRow : GoodIn wsX1_stage wsX1_isRow := goodIn_r _ [9, 10, 11, 8, 12] (by decide +kernel) (by decide +kernel)
set_option maxRecDepth 20000 in
theorem gX1_stage_X1_isRow : GoodIn wsX1_stage (va_wsS RX1 79 yX1_isRow wsX1_isRow) := goodIn_app (goodIn_of _ (by decide +kernel)) ggX1_stage_X1_isRow
set_option maxRecDepth 20000 in
theorem ggX1_stage_X1_isIn : GoodIn wsX1_stage wsX1_isIn := goodIn_r _ [12] (by decide +kernel) (by decide +kernel)
set_option maxRecDepth 20000 in
theorem gX1_stage_X1_isIn : GoodIn wsX1_stage (va_wsS RX1 32 yX1_isIn wsX1_isIn) := goodIn_app (goodIn_of _ (by decide +kernel)) ggX1_stage_X1_isIn
set_option maxRecDepth 20000 in
theorem ggX1_stage_X1_no : GoodIn wsX1_stage wsX1_no := goodIn_r _ [16, 1, 47, 48, 49, 50, 51, 52, 53] (by decide +kernel) (by decide +kernel)
set_option maxRecDepth 20000 in
theorem gX1_stage_X1_no : GoodIn wsX1_stage (wsV RX1 48 RX1 yX1_no wsX1_no) := goodIn_app (goodIn_of _ (by decide +kernel)) ggX1_stage_X1_no
set_option maxRecDepth 20000 in
theorem ggX1_stage_X1_its : GoodIn wsX1_stage wsX1_its := goodIn_r _ [20, 21, 47, 48, 49, 50, 51, 52, 53] (by decide +kernel) (by decide +kernel)
set_option maxRecDepth 20000 in
theorem gX1_stage_X1_its : GoodIn wsX1_stage (wsV RX1 70 RX1 yX1_its wsX1_its) := goodIn_app (goodIn_of _ (by decide +kernel)) ggX1_stage_X1_its
set_option maxRecDepth 20000 in
theorem ggX1_stage_X1_power : GoodIn wsX1_stage wsX1_power := goodIn_r _ [25, 26, 27, 28, 8, 29, 30, 47, 48, 49, 50, 51, 52, 53] (by decide +kernel) (by decide +kernel)
set_option maxRecDepth 20000 in
theorem gX1_stage_X1_power : GoodIn wsX1_stage (wsV RX1 61 RX1 yX1_power wsX1_power) := goodIn_app (goodIn_of _ (by decide +kernel)) ggX1_stage_X1_power
set_option maxRecDepth 20000 in
theorem ggX1_stage_X1_by : GoodIn wsX1_stage wsX1_by := goodIn_r _ [29, 30, 47, 48, 49, 50, 51, 52, 53] (by decide +kernel) (by decide +kernel)
set_option maxRecDepth 20000 in
theorem gX1_stage_X1_by : GoodIn wsX1_stage (wsV RX1 36 RX1 yX1_by wsX1_by) := goodIn_app (goodIn_of _ (by decide +kernel)) ggX1_stage_X1_by
set_option maxRecDepth 20000 in
theorem ggX1_stage_X1_plus : GoodIn wsX1_stage wsX1_plus := goodIn_r _ [34, 30, 47, 48, 49, 50, 51, 52, 53] (by decide +kernel) (by decide +kernel)
set_option maxRecDepth 20000 in
theorem gX1_stage_X1_plus : GoodIn wsX1_stage (wsV RX1 73 RX1 yX1_plus wsX1_plus) := goodIn_app (goodIn_of _ (by decide +kernel)) ggX1_stage_X1_plus
set_option maxRecDepth 20000 in
theorem ggX1_stage_X1_minus : GoodIn wsX1_stage wsX1_minus := goodIn_r _ [38, 30, 47, 48, 49, 50, 51, 52, 53] (by decide +kernel) (by decide +kernel)
set_option maxRecDepth 20000 in
theorem gX1_stage_X1_minus : GoodIn wsX1_stage (wsV RX1 99 RX1 yX1_minus wsX1_minus) := goodIn_app (goodIn_of _ (by decide +kernel)) ggX1_stage_X1_minus
set_option maxRecDepth 20000 in
theorem ggX1_stage_X1_lay : GoodIn wsX1_stage wsX1_lay := goodIn_r _ [42, 5, 21, 3, 43, 44, 45, 46, 47, 48, 49, 50, 51, 52, 53] (by decide +kernel) (by decide +kernel)
set_option maxRecDepth 20000 in
theorem gX1_stage_X1_lay : GoodIn wsX1_stage (wsV RX1 88 RX1 yX1_lay wsX1_lay) := goodIn_app (goodIn_of _ (by decide +kernel)) ggX1_stage_X1_lay
theorem dX1_stage_0 : decode cX1_stage 0 = .ok (.aload_n 0, 1) := by decide +kernel
theorem dX1_stage_1 : decode cX1_stage 1 = .ok (.iconst 0, 1) := by decide +kernel
theorem dX1_stage_2 : decode cX1_stage 2 = .ok (.putfield 29, 3) := by decide +kernel
theorem dX1_stage_5 : decode cX1_stage 5 = .ok (.iload_n 1, 1) := by decide +kernel
theorem dX1_stage_6 : decode cX1_stage 6 = .ok (.invokestatic 79, 3) := by decide +kernel
theorem dX1_stage_9 : decode cX1_stage 9 = .ok (.ifCond .eq 17, 3) := by decide +kernel
theorem dX1_stage_12 : decode cX1_stage 12 = .ok (.iload_n 2, 1) := by decide +kernel
theorem dX1_stage_13 : decode cX1_stage 13 = .ok (.iconst 0, 1) := by decide +kernel
theorem dX1_stage_14 : decode cX1_stage 14 = .ok (.aload_n 0, 1) := by decide +kernel
theorem dX1_stage_15 : decode cX1_stage 15 = .ok (.getfield 19, 3) := by decide +kernel
theorem dX1_stage_18 : decode cX1_stage 18 = .ok (.iconst 1, 1) := by decide +kernel
theorem dX1_stage_19 : decode cX1_stage 19 = .ok (.isub, 1) := by decide +kernel
theorem dX1_stage_20 : decode cX1_stage 20 = .ok (.invokestatic 32, 3) := by decide +kernel
theorem dX1_stage_23 : decode cX1_stage 23 = .ok (.ifCond .ne 9, 3) := by decide +kernel
theorem dX1_stage_26 : decode cX1_stage 26 = .ok (.aload_n 0, 1) := by decide +kernel
theorem dX1_stage_27 : decode cX1_stage 27 = .ok (.iconst 1, 1) := by decide +kernel
theorem dX1_stage_28 : decode cX1_stage 28 = .ok (.invokevirtual 48, 3) := by decide +kernel
theorem dX1_stage_31 : decode cX1_stage 31 = .ok (.ireturn, 1) := by decide +kernel
theorem dX1_stage_32 : decode cX1_stage 32 = .ok (.iconst 1, 1) := by decide +kernel
theorem dX1_stage_33 : decode cX1_stage 33 = .ok (.iload_n 2, 1) := by decide +kernel
theorem dX1_stage_34 : decode cX1_stage 34 = .ok (.ishl, 1) := by decide +kernel
theorem dX1_stage_35 : decode cX1_stage 35 = .ok (.istore_n 3, 1) := by decide +kernel
theorem dX1_stage_36 : decode cX1_stage 36 = .ok (.iconst 0, 1) := by decide +kernel
theorem dX1_stage_37 : decode cX1_stage 37 = .ok (.istore 4, 2) := by decide +kernel
theorem dX1_stage_39 : decode cX1_stage 39 = .ok (.iload 4, 2) := by decide +kernel
theorem dX1_stage_41 : decode cX1_stage 41 = .ok (.aload_n 0, 1) := by decide +kernel
theorem dX1_stage_42 : decode cX1_stage 42 = .ok (.getfield 7, 3) := by decide +kernel
theorem dX1_stage_45 : decode cX1_stage 45 = .ok (.if_icmp .ge 127, 3) := by decide +kernel
theorem dX1_stage_48 : decode cX1_stage 48 = .ok (.iload 4, 2) := by decide +kernel
theorem dX1_stage_50 : decode cX1_stage 50 = .ok (.iload_n 3, 1) := by decide +kernel
theorem dX1_stage_51 : decode cX1_stage 51 = .ok (.irem, 1) := by decide +kernel
theorem dX1_stage_52 : decode cX1_stage 52 = .ok (.istore 5, 2) := by decide +kernel
theorem dX1_stage_54 : decode cX1_stage 54 = .ok (.iload 4, 2) := by decide +kernel
theorem dX1_stage_56 : decode cX1_stage 56 = .ok (.iload_n 3, 1) := by decide +kernel
theorem dX1_stage_57 : decode cX1_stage 57 = .ok (.idiv, 1) := by decide +kernel
theorem dX1_stage_58 : decode cX1_stage 58 = .ok (.iconst 2, 1) := by decide +kernel
theorem dX1_stage_59 : decode cX1_stage 59 = .ok (.irem, 1) := by decide +kernel
theorem dX1_stage_60 : decode cX1_stage 60 = .ok (.ifCond .ne 7, 3) := by decide +kernel
theorem dX1_stage_63 : decode cX1_stage 63 = .ok (.iconst 1, 1) := by decide +kernel
theorem dX1_stage_64 : decode cX1_stage 64 = .ok (.goto 4, 3) := by decide +kernel
theorem dX1_stage_67 : decode cX1_stage 67 = .ok (.iconst 0, 1) := by decide +kernel
theorem dX1_stage_68 : decode cX1_stage 68 = .ok (.istore 6, 2) := by decide +kernel
theorem dX1_stage_70 : decode cX1_stage 70 = .ok (.aload_n 0, 1) := by decide +kernel
theorem dX1_stage_71 : decode cX1_stage 71 = .ok (.iload_n 1, 1) := by decide +kernel
theorem dX1_stage_72 : decode cX1_stage 72 = .ok (.iload 6, 2) := by decide +kernel
theorem dX1_stage_74 : decode cX1_stage 74 = .ok (.ifCond .eq 8, 3) := by decide +kernel
theorem dX1_stage_77 : decode cX1_stage 77 = .ok (.iload 4, 2) := by decide +kernel
theorem dX1_stage_79 : decode cX1_stage 79 = .ok (.goto 7, 3) := by decide +kernel
theorem dX1_stage_82 : decode cX1_stage 82 = .ok (.iload 4, 2) := by decide +kernel
theorem dX1_stage_84 : decode cX1_stage 84 = .ok (.iload_n 3, 1) := by decide +kernel
theorem dX1_stage_85 : decode cX1_stage 85 = .ok (.isub, 1) := by decide +kernel
theorem dX1_stage_86 : decode cX1_stage 86 = .ok (.invokevirtual 70, 3) := by decide +kernel
theorem dX1_stage_89 : decode cX1_stage 89 = .ok (.istore 7, 2) := by decide +kernel
theorem dX1_stage_91 : decode cX1_stage 91 = .ok (.aload_n 0, 1) := by decide +kernel
theorem dX1_stage_92 : decode cX1_stage 92 = .ok (.aload_n 0, 1) := by decide +kernel
theorem dX1_stage_93 : decode cX1_stage 93 = .ok (.iload_n 1, 1) := by decide +kernel
theorem dX1_stage_94 : decode cX1_stage 94 = .ok (.iload 6, 2) := by decide +kernel
theorem dX1_stage_96 : decode cX1_stage 96 = .ok (.ifCond .eq 10, 3) := by decide +kernel
theorem dX1_stage_99 : decode cX1_stage 99 = .ok (.iload 4, 2) := by decide +kernel
theorem dX1_stage_101 : decode cX1_stage 101 = .ok (.iload_n 3, 1) := by decide +kernel
theorem dX1_stage_102 : decode cX1_stage 102 = .ok (.iadd, 1) := by decide +kernel
theorem dX1_stage_103 : decode cX1_stage 103 = .ok (.goto 5, 3) := by decide +kernel
theorem dX1_stage_106 : decode cX1_stage 106 = .ok (.iload 4, 2) := by decide +kernel
theorem dX1_stage_108 : decode cX1_stage 108 = .ok (.invokevirtual 70, 3) := by decide +kernel
theorem dX1_stage_111 : decode cX1_stage 111 = .ok (.aload_n 0, 1) := by decide +kernel
theorem dX1_stage_112 : decode cX1_stage 112 = .ok (.aload_n 0, 1) := by decide +kernel
theorem dX1_stage_113 : decode cX1_stage 113 = .ok (.getfield 16, 3) := by decide +kernel
theorem dX1_stage_116 : decode cX1_stage 116 = .ok (.iload 5, 2) := by decide +kernel
theorem dX1_stage_118 : decode cX1_stage 118 = .ok (.aload_n 0, 1) := by decide +kernel
theorem dX1_stage_119 : decode cX1_stage 119 = .ok (.getfield 7, 3) := by decide +kernel
theorem dX1_stage_122 : decode cX1_stage 122 = .ok (.imul, 1) := by decide +kernel
theorem dX1_stage_123 : decode cX1_stage 123 = .ok (.iconst 2, 1) := by decide +kernel
theorem dX1_stage_124 : decode cX1_stage 124 = .ok (.iload_n 3, 1) := by decide +kernel
theorem dX1_stage_125 : decode cX1_stage 125 = .ok (.imul, 1) := by decide +kernel
theorem dX1_stage_126 : decode cX1_stage 126 = .ok (.idiv, 1) := by decide +kernel
theorem dX1_stage_127 : decode cX1_stage 127 = .ok (.invokevirtual 61, 3) := by decide +kernel
theorem dX1_stage_130 : decode cX1_stage 130 = .ok (.invokevirtual 36, 3) := by decide +kernel
theorem dX1_stage_133 : decode cX1_stage 133 = .ok (.istore 8, 2) := by decide +kernel
theorem dX1_stage_135 : decode cX1_stage 135 = .ok (.aload_n 0, 1) := by decide +kernel
theorem dX1_stage_136 : decode cX1_stage 136 = .ok (.getfield 26, 3) := by decide +kernel
theorem dX1_stage_139 : decode cX1_stage 139 = .ok (.iload 4, 2) := by decide +kernel
theorem dX1_stage_141 : decode cX1_stage 141 = .ok (.iload 6, 2) := by decide +kernel
theorem dX1_stage_143 : decode cX1_stage 143 = .ok (.ifCond .eq 14, 3) := by decide +kernel
theorem dX1_stage_146 : decode cX1_stage 146 = .ok (.aload_n 0, 1) := by decide +kernel
theorem dX1_stage_147 : decode cX1_stage 147 = .ok (.iload 7, 2) := by decide +kernel
theorem dX1_stage_149 : decode cX1_stage 149 = .ok (.iload 8, 2) := by decide +kernel
theorem dX1_stage_151 : decode cX1_stage 151 = .ok (.invokevirtual 73, 3) := by decide +kernel
theorem dX1_stage_154 : decode cX1_stage 154 = .ok (.goto 11, 3) := by decide +kernel
theorem dX1_stage_157 : decode cX1_stage 157 = .ok (.aload_n 0, 1) := by decide +kernel
theorem dX1_stage_158 : decode cX1_stage 158 = .ok (.iload 7, 2) := by decide +kernel
theorem dX1_stage_160 : decode cX1_stage 160 = .ok (.iload 8, 2) := by decide +kernel
theorem dX1_stage_162 : decode cX1_stage 162 = .ok (.invokevirtual 99, 3) := by decide +kernel
theorem dX1_stage_165 : decode cX1_stage 165 = .ok (.iastore, 1) := by decide +kernel
theorem dX1_stage_166 : decode cX1_stage 166 = .ok (.iinc 4 1, 3) := by decide +kernel
theorem dX1_stage_169 : decode cX1_stage 169 = .ok (.goto (-130), 3) := by decide +kernel
theorem dX1_stage_172 : decode cX1_stage 172 = .ok (.aload_n 0, 1) := by decide +kernel
theorem dX1_stage_173 : decode cX1_stage 173 = .ok (.iload_n 1, 1) := by decide +kernel
theorem dX1_stage_174 : decode cX1_stage 174 = .ok (.invokevirtual 88, 3) := by decide +kernel
theorem dX1_stage_177 : decode cX1_stage 177 = .ok (.aload_n 0, 1) := by decide +kernel
theorem dX1_stage_178 : decode cX1_stage 178 = .ok (.getfield 26, 3) := by decide +kernel
theorem dX1_stage_181 : decode cX1_stage 181 = .ok (.iconst 0, 1) := by decide +kernel
theorem dX1_stage_182 : decode cX1_stage 182 = .ok (.iaload, 1) := by decide +kernel
theorem dX1_stage_183 : decode cX1_stage 183 = .ok (.ireturn, 1) := by decide +kernel
set_option maxRecDepth 20000 in
theorem ggX1_fold_X1_isRow : GoodIn wsX1_fold wsX1_isRow := goodIn_r _ [7, 8, 9, 6, 10] (by decide +kernel) (by decide +kernel)
set_option maxRecDepth 20000 in
theorem gX1_fold_X1_isRow : GoodIn wsX1_fold (va_wsS RX1 79 yX1_isRow wsX1_isRow) := goodIn_app (goodIn_of _ (by decide +kernel)) ggX1_fold_X1_isRow
set_option maxRecDepth 20000 in
theorem ggX1_fold_X1_no : GoodIn wsX1_fold wsX1_no := goodIn_r _ [14, 1, 41, 42, 43, 44, 45, 46, 47] (by decide +kernel) (by decide +kernel)
set_option maxRecDepth 20000 in
theorem gX1_fold_X1_no : GoodIn wsX1_fold (wsV RX1 48 RX1 yX1_no wsX1_no) := goodIn_app (goodIn_of _ (by decide +kernel)) ggX1_fold_X1_no
set_option maxRecDepth 20000 in
theorem ggX1_fold_X1_folded : GoodIn wsX1_fold wsX1_folded := goodIn_r _ [18, 2, 19, 20, 21, 6, 22, 23, 24, 25, 26, 27, 28, 29, 30, 31, 32, 41, 42, 43, 44, 45, 46, 47] (by decide +kernel) (by decide +kernel)
set_option maxRecDepth 20000 in
theorem gX1_fold_X1_folded : GoodIn wsX1_fold (wsV RX1 102 RX1 yX1_folded wsX1_folded) := goodIn_app (goodIn_of _ (by decide +kernel)) ggX1_fold_X1_folded
set_option maxRecDepth 20000 in
theorem ggX1_fold_X1_lay : GoodIn wsX1_fold wsX1_lay := goodIn_r _ [36, 3, 23, 2, 37, 38, 39, 40, 41, 42, 43, 44, 45, 46, 47] (by decide +kernel) (by decide +kernel)
set_option maxRecDepth 20000 in
theorem gX1_fold_X1_lay : GoodIn wsX1_fold (wsV RX1 88 RX1 yX1_lay wsX1_lay) := goodIn_app (goodIn_of _ (by decide +kernel)) ggX1_fold_X1_lay
theorem dX1_fold_0 : decode cX1_fold 0 = .ok (.aload_n 0, 1) := by decide +kernel
theorem dX1_fold_1 : decode cX1_fold 1 = .ok (.iconst 0, 1) := by decide +kernel
theorem dX1_fold_2 : decode cX1_fold 2 = .ok (.putfield 29, 3) := by decide +kernel
theorem dX1_fold_5 : decode cX1_fold 5 = .ok (.iload_n 1, 1) := by decide +kernel
theorem dX1_fold_6 : decode cX1_fold 6 = .ok (.invokestatic 79, 3) := by decide +kernel
theorem dX1_fold_9 : decode cX1_fold 9 = .ok (.ifCond .eq 10, 3) := by decide +kernel
theorem dX1_fold_12 : decode cX1_fold 12 = .ok (.iload_n 2, 1) := by decide +kernel
theorem dX1_fold_13 : decode cX1_fold 13 = .ok (.invokestatic 79, 3) := by decide +kernel
theorem dX1_fold_16 : decode cX1_fold 16 = .ok (.ifCond .ne 9, 3) := by decide +kernel
theorem dX1_fold_19 : decode cX1_fold 19 = .ok (.aload_n 0, 1) := by decide +kernel
theorem dX1_fold_20 : decode cX1_fold 20 = .ok (.iconst 1, 1) := by decide +kernel
theorem dX1_fold_21 : decode cX1_fold 21 = .ok (.invokevirtual 48, 3) := by decide +kernel
theorem dX1_fold_24 : decode cX1_fold 24 = .ok (.ireturn, 1) := by decide +kernel
theorem dX1_fold_25 : decode cX1_fold 25 = .ok (.iconst 0, 1) := by decide +kernel
theorem dX1_fold_26 : decode cX1_fold 26 = .ok (.istore_n 3, 1) := by decide +kernel
theorem dX1_fold_27 : decode cX1_fold 27 = .ok (.iload_n 3, 1) := by decide +kernel
theorem dX1_fold_28 : decode cX1_fold 28 = .ok (.aload_n 0, 1) := by decide +kernel
theorem dX1_fold_29 : decode cX1_fold 29 = .ok (.getfield 7, 3) := by decide +kernel
theorem dX1_fold_32 : decode cX1_fold 32 = .ok (.if_icmp .ge 22, 3) := by decide +kernel
theorem dX1_fold_35 : decode cX1_fold 35 = .ok (.aload_n 0, 1) := by decide +kernel
theorem dX1_fold_36 : decode cX1_fold 36 = .ok (.getfield 26, 3) := by decide +kernel
theorem dX1_fold_39 : decode cX1_fold 39 = .ok (.iload_n 3, 1) := by decide +kernel
theorem dX1_fold_40 : decode cX1_fold 40 = .ok (.aload_n 0, 1) := by decide +kernel
theorem dX1_fold_41 : decode cX1_fold 41 = .ok (.iload_n 1, 1) := by decide +kernel
theorem dX1_fold_42 : decode cX1_fold 42 = .ok (.iload_n 2, 1) := by decide +kernel
theorem dX1_fold_43 : decode cX1_fold 43 = .ok (.iload_n 3, 1) := by decide +kernel
theorem dX1_fold_44 : decode cX1_fold 44 = .ok (.invokevirtual 102, 3) := by decide +kernel
theorem dX1_fold_47 : decode cX1_fold 47 = .ok (.iastore, 1) := by decide +kernel
theorem dX1_fold_48 : decode cX1_fold 48 = .ok (.iinc 3 1, 3) := by decide +kernel
theorem dX1_fold_51 : decode cX1_fold 51 = .ok (.goto (-24), 3) := by decide +kernel
theorem dX1_fold_54 : decode cX1_fold 54 = .ok (.aload_n 0, 1) := by decide +kernel
theorem dX1_fold_55 : decode cX1_fold 55 = .ok (.iload_n 1, 1) := by decide +kernel
theorem dX1_fold_56 : decode cX1_fold 56 = .ok (.invokevirtual 88, 3) := by decide +kernel
theorem dX1_fold_59 : decode cX1_fold 59 = .ok (.aload_n 0, 1) := by decide +kernel
theorem dX1_fold_60 : decode cX1_fold 60 = .ok (.getfield 26, 3) := by decide +kernel
theorem dX1_fold_63 : decode cX1_fold 63 = .ok (.iconst 0, 1) := by decide +kernel
theorem dX1_fold_64 : decode cX1_fold 64 = .ok (.iaload, 1) := by decide +kernel
theorem dX1_fold_65 : decode cX1_fold 65 = .ok (.ireturn, 1) := by decide +kernel
set_option maxRecDepth 20000 in
theorem ggX1_join_X1_isRow : GoodIn wsX1_join wsX1_isRow := goodIn_r _ [7, 8, 9, 6, 10] (by decide +kernel) (by decide +kernel)
set_option maxRecDepth 20000 in
theorem gX1_join_X1_isRow : GoodIn wsX1_join (va_wsS RX1 79 yX1_isRow wsX1_isRow) := goodIn_app (goodIn_of _ (by decide +kernel)) ggX1_join_X1_isRow
set_option maxRecDepth 20000 in
theorem ggX1_join_X1_isIn : GoodIn wsX1_join wsX1_isIn := goodIn_r _ [10] (by decide +kernel) (by decide +kernel)
set_option maxRecDepth 20000 in
theorem gX1_join_X1_isIn : GoodIn wsX1_join (va_wsS RX1 32 yX1_isIn wsX1_isIn) := goodIn_app (goodIn_of _ (by decide +kernel)) ggX1_join_X1_isIn
set_option maxRecDepth 20000 in
theorem ggX1_join_X1_no : GoodIn wsX1_join wsX1_no := goodIn_r _ [14, 1, 45, 46, 47, 48, 49, 50, 51] (by decide +kernel) (by decide +kernel)
set_option maxRecDepth 20000 in
theorem gX1_join_X1_no : GoodIn wsX1_join (wsV RX1 48 RX1 yX1_no wsX1_no) := goodIn_app (goodIn_of _ (by decide +kernel)) ggX1_join_X1_no
set_option maxRecDepth 20000 in
theorem ggX1_join_X1_its : GoodIn wsX1_join wsX1_its := goodIn_r _ [18, 19, 45, 46, 47, 48, 49, 50, 51] (by decide +kernel) (by decide +kernel)
set_option maxRecDepth 20000 in
theorem gX1_join_X1_its : GoodIn wsX1_join (wsV RX1 70 RX1 yX1_its wsX1_its) := goodIn_app (goodIn_of _ (by decide +kernel)) ggX1_join_X1_its
set_option maxRecDepth 20000 in
theorem ggX1_join_X1_plus : GoodIn wsX1_join wsX1_plus := goodIn_r _ [23, 24, 45, 46, 47, 48, 49, 50, 51] (by decide +kernel) (by decide +kernel)
set_option maxRecDepth 20000 in
theorem gX1_join_X1_plus : GoodIn wsX1_join (wsV RX1 73 RX1 yX1_plus wsX1_plus) := goodIn_app (goodIn_of _ (by decide +kernel)) ggX1_join_X1_plus
set_option maxRecDepth 20000 in
theorem ggX1_join_X1_minus : GoodIn wsX1_join wsX1_minus := goodIn_r _ [28, 24, 45, 46, 47, 48, 49, 50, 51] (by decide +kernel) (by decide +kernel)
set_option maxRecDepth 20000 in
theorem gX1_join_X1_minus : GoodIn wsX1_join (wsV RX1 99 RX1 yX1_minus wsX1_minus) := goodIn_app (goodIn_of _ (by decide +kernel)) ggX1_join_X1_minus
set_option maxRecDepth 20000 in
theorem ggX1_join_X1_by : GoodIn wsX1_join wsX1_by := goodIn_r _ [32, 24, 45, 46, 47, 48, 49, 50, 51] (by decide +kernel) (by decide +kernel)
set_option maxRecDepth 20000 in
theorem gX1_join_X1_by : GoodIn wsX1_join (wsV RX1 36 RX1 yX1_by wsX1_by) := goodIn_app (goodIn_of _ (by decide +kernel)) ggX1_join_X1_by
set_option maxRecDepth 20000 in
theorem ggX1_join_X1_lay : GoodIn wsX1_join wsX1_lay := goodIn_r _ [36, 3, 19, 2, 37, 38, 39, 40, 45, 46, 47, 48, 49, 50, 51] (by decide +kernel) (by decide +kernel)
set_option maxRecDepth 20000 in
theorem gX1_join_X1_lay : GoodIn wsX1_join (wsV RX1 88 RX1 yX1_lay wsX1_lay) := goodIn_app (goodIn_of _ (by decide +kernel)) ggX1_join_X1_lay
set_option maxRecDepth 20000 in
theorem ggX1_join_X1_others : GoodIn wsX1_join wsX1_others := goodIn_r _ [44, 2, 15, 16, 17, 6, 18, 19, 45, 46, 47, 48, 49, 50, 51] (by decide +kernel) (by decide +kernel)
set_option maxRecDepth 20000 in
theorem gX1_join_X1_others : GoodIn wsX1_join (wsV RX1 106 RX1 yX1_others wsX1_others) := goodIn_app (goodIn_of _ (by decide +kernel)) ggX1_join_X1_others
theorem dX1_join_0 : decode cX1_join 0 = .ok (.aload_n 0, 1) := by decide +kernel
theorem dX1_join_1 : decode cX1_join 1 = .ok (.iconst 0, 1) := by decide +kernel
theorem dX1_join_2 : decode cX1_join 2 = .ok (.putfield 29, 3) := by decide +kernel
theorem dX1_join_5 : decode cX1_join 5 = .ok (.iload_n 1, 1) := by decide +kernel
theorem dX1_join_6 : decode cX1_join 6 = .ok (.invokestatic 79, 3) := by decide +kernel
theorem dX1_join_9 : decode cX1_join 9 = .ok (.ifCond .eq 19, 3) := by decide +kernel
theorem dX1_join_12 : decode cX1_join 12 = .ok (.iload_n 2, 1) := by decide +kernel
theorem dX1_join_13 : decode cX1_join 13 = .ok (.invokestatic 79, 3) := by decide +kernel
theorem dX1_join_16 : decode cX1_join 16 = .ok (.ifCond .eq 12, 3) := by decide +kernel
theorem dX1_join_19 : decode cX1_join 19 = .ok (.iload_n 3, 1) := by decide +kernel
theorem dX1_join_20 : decode cX1_join 20 = .ok (.iconst 0, 1) := by decide +kernel
theorem dX1_join_21 : decode cX1_join 21 = .ok (.iconst 2, 1) := by decide +kernel
theorem dX1_join_22 : decode cX1_join 22 = .ok (.invokestatic 32, 3) := by decide +kernel
theorem dX1_join_25 : decode cX1_join 25 = .ok (.ifCond .ne 9, 3) := by decide +kernel
theorem dX1_join_28 : decode cX1_join 28 = .ok (.aload_n 0, 1) := by decide +kernel
theorem dX1_join_29 : decode cX1_join 29 = .ok (.iconst 1, 1) := by decide +kernel
theorem dX1_join_30 : decode cX1_join 30 = .ok (.invokevirtual 48, 3) := by decide +kernel
theorem dX1_join_33 : decode cX1_join 33 = .ok (.ireturn, 1) := by decide +kernel
theorem dX1_join_34 : decode cX1_join 34 = .ok (.iconst 0, 1) := by decide +kernel
theorem dX1_join_35 : decode cX1_join 35 = .ok (.istore 4, 2) := by decide +kernel
theorem dX1_join_37 : decode cX1_join 37 = .ok (.iload 4, 2) := by decide +kernel
theorem dX1_join_39 : decode cX1_join 39 = .ok (.aload_n 0, 1) := by decide +kernel
theorem dX1_join_40 : decode cX1_join 40 = .ok (.getfield 7, 3) := by decide +kernel
theorem dX1_join_43 : decode cX1_join 43 = .ok (.if_icmp .ge 85, 3) := by decide +kernel
theorem dX1_join_46 : decode cX1_join 46 = .ok (.aload_n 0, 1) := by decide +kernel
theorem dX1_join_47 : decode cX1_join 47 = .ok (.getfield 26, 3) := by decide +kernel
theorem dX1_join_50 : decode cX1_join 50 = .ok (.iload 4, 2) := by decide +kernel
theorem dX1_join_52 : decode cX1_join 52 = .ok (.iload_n 3, 1) := by decide +kernel
theorem dX1_join_53 : decode cX1_join 53 = .ok (.ifCond .ne 24, 3) := by decide +kernel
theorem dX1_join_56 : decode cX1_join 56 = .ok (.aload_n 0, 1) := by decide +kernel
theorem dX1_join_57 : decode cX1_join 57 = .ok (.aload_n 0, 1) := by decide +kernel
theorem dX1_join_58 : decode cX1_join 58 = .ok (.iload_n 1, 1) := by decide +kernel
theorem dX1_join_59 : decode cX1_join 59 = .ok (.iload 4, 2) := by decide +kernel
theorem dX1_join_61 : decode cX1_join 61 = .ok (.invokevirtual 70, 3) := by decide +kernel
theorem dX1_join_64 : decode cX1_join 64 = .ok (.aload_n 0, 1) := by decide +kernel
theorem dX1_join_65 : decode cX1_join 65 = .ok (.iload_n 2, 1) := by decide +kernel
theorem dX1_join_66 : decode cX1_join 66 = .ok (.iload 4, 2) := by decide +kernel
theorem dX1_join_68 : decode cX1_join 68 = .ok (.invokevirtual 70, 3) := by decide +kernel
theorem dX1_join_71 : decode cX1_join 71 = .ok (.invokevirtual 73, 3) := by decide +kernel
theorem dX1_join_74 : decode cX1_join 74 = .ok (.goto 47, 3) := by decide +kernel
theorem dX1_join_77 : decode cX1_join 77 = .ok (.iload_n 3, 1) := by decide +kernel
theorem dX1_join_78 : decode cX1_join 78 = .ok (.iconst 1, 1) := by decide +kernel
theorem dX1_join_79 : decode cX1_join 79 = .ok (.if_icmp .ne 24, 3) := by decide +kernel
theorem dX1_join_82 : decode cX1_join 82 = .ok (.aload_n 0, 1) := by decide +kernel
theorem dX1_join_83 : decode cX1_join 83 = .ok (.aload_n 0, 1) := by decide +kernel
theorem dX1_join_84 : decode cX1_join 84 = .ok (.iload_n 1, 1) := by decide +kernel
theorem dX1_join_85 : decode cX1_join 85 = .ok (.iload 4, 2) := by decide +kernel
theorem dX1_join_87 : decode cX1_join 87 = .ok (.invokevirtual 70, 3) := by decide +kernel
theorem dX1_join_90 : decode cX1_join 90 = .ok (.aload_n 0, 1) := by decide +kernel
theorem dX1_join_91 : decode cX1_join 91 = .ok (.iload_n 2, 1) := by decide +kernel
theorem dX1_join_92 : decode cX1_join 92 = .ok (.iload 4, 2) := by decide +kernel
theorem dX1_join_94 : decode cX1_join 94 = .ok (.invokevirtual 70, 3) := by decide +kernel
theorem dX1_join_97 : decode cX1_join 97 = .ok (.invokevirtual 99, 3) := by decide +kernel
theorem dX1_join_100 : decode cX1_join 100 = .ok (.goto 21, 3) := by decide +kernel
theorem dX1_join_103 : decode cX1_join 103 = .ok (.aload_n 0, 1) := by decide +kernel
theorem dX1_join_104 : decode cX1_join 104 = .ok (.aload_n 0, 1) := by decide +kernel
theorem dX1_join_105 : decode cX1_join 105 = .ok (.iload_n 1, 1) := by decide +kernel
theorem dX1_join_106 : decode cX1_join 106 = .ok (.iload 4, 2) := by decide +kernel
theorem dX1_join_108 : decode cX1_join 108 = .ok (.invokevirtual 70, 3) := by decide +kernel
theorem dX1_join_111 : decode cX1_join 111 = .ok (.aload_n 0, 1) := by decide +kernel
theorem dX1_join_112 : decode cX1_join 112 = .ok (.iload_n 2, 1) := by decide +kernel
theorem dX1_join_113 : decode cX1_join 113 = .ok (.iload 4, 2) := by decide +kernel
theorem dX1_join_115 : decode cX1_join 115 = .ok (.invokevirtual 70, 3) := by decide +kernel
theorem dX1_join_118 : decode cX1_join 118 = .ok (.invokevirtual 36, 3) := by decide +kernel
theorem dX1_join_121 : decode cX1_join 121 = .ok (.iastore, 1) := by decide +kernel
theorem dX1_join_122 : decode cX1_join 122 = .ok (.iinc 4 1, 3) := by decide +kernel
theorem dX1_join_125 : decode cX1_join 125 = .ok (.goto (-88), 3) := by decide +kernel
theorem dX1_join_128 : decode cX1_join 128 = .ok (.aload_n 0, 1) := by decide +kernel
theorem dX1_join_129 : decode cX1_join 129 = .ok (.iload_n 1, 1) := by decide +kernel
theorem dX1_join_130 : decode cX1_join 130 = .ok (.invokevirtual 88, 3) := by decide +kernel
theorem dX1_join_133 : decode cX1_join 133 = .ok (.aload_n 0, 1) := by decide +kernel
theorem dX1_join_134 : decode cX1_join 134 = .ok (.iload_n 1, 1) := by decide +kernel
theorem dX1_join_135 : decode cX1_join 135 = .ok (.invokevirtual 106, 3) := by decide +kernel
theorem dX1_join_138 : decode cX1_join 138 = .ok (.ireturn, 1) := by decide +kernel
set_option maxRecDepth 20000 in
theorem ggX1_move_X1_isRow : GoodIn wsX1_move wsX1_isRow := goodIn_r _ [7, 8, 9, 6, 10] (by decide +kernel) (by decide +kernel)
set_option maxRecDepth 20000 in
theorem gX1_move_X1_isRow : GoodIn wsX1_move (va_wsS RX1 79 yX1_isRow wsX1_isRow) := goodIn_app (goodIn_of _ (by decide +kernel)) ggX1_move_X1_isRow
set_option maxRecDepth 20000 in
theorem ggX1_move_X1_no : GoodIn wsX1_move wsX1_no := goodIn_r _ [14, 1, 32, 33, 34, 35, 36, 37, 38] (by decide +kernel) (by decide +kernel)
set_option maxRecDepth 20000 in
theorem gX1_move_X1_no : GoodIn wsX1_move (wsV RX1 48 RX1 yX1_no wsX1_no) := goodIn_app (goodIn_of _ (by decide +kernel)) ggX1_move_X1_no
set_option maxRecDepth 20000 in
theorem ggX1_move_X1_isPlace : GoodIn wsX1_move wsX1_isPlace := goodIn_r _ [18, 2, 8, 9, 6, 10, 32, 33, 34, 35, 36, 37, 38] (by decide +kernel) (by decide +kernel)
set_option maxRecDepth 20000 in
theorem gX1_move_X1_isPlace : GoodIn wsX1_move (wsV RX1 82 RX1 yX1_isPlace wsX1_isPlace) := goodIn_app (goodIn_of _ (by decide +kernel)) ggX1_move_X1_isPlace
set_option maxRecDepth 20000 in
theorem ggX1_move_X1_its : GoodIn wsX1_move wsX1_its := goodIn_r _ [22, 23, 32, 33, 34, 35, 36, 37, 38] (by decide +kernel) (by decide +kernel)
set_option maxRecDepth 20000 in
theorem gX1_move_X1_its : GoodIn wsX1_move (wsV RX1 70 RX1 yX1_its wsX1_its) := goodIn_app (goodIn_of _ (by decide +kernel)) ggX1_move_X1_its
set_option maxRecDepth 20000 in
theorem ggX1_move_X1_lay : GoodIn wsX1_move wsX1_lay := goodIn_r _ [27, 3, 23, 2, 28, 29, 30, 31, 32, 33, 34, 35, 36, 37, 38] (by decide +kernel) (by decide +kernel)
set_option maxRecDepth 20000 in
theorem gX1_move_X1_lay : GoodIn wsX1_move (wsV RX1 88 RX1 yX1_lay wsX1_lay) := goodIn_app (goodIn_of _ (by decide +kernel)) ggX1_move_X1_lay
theorem dX1_move_0 : decode cX1_move 0 = .ok (.aload_n 0, 1) := by decide +kernel
theorem dX1_move_1 : decode cX1_move 1 = .ok (.iconst 0, 1) := by decide +kernel
theorem dX1_move_2 : decode cX1_move 2 = .ok (.putfield 29, 3) := by decide +kernel
theorem dX1_move_5 : decode cX1_move 5 = .ok (.iload_n 1, 1) := by decide +kernel
theorem dX1_move_6 : decode cX1_move 6 = .ok (.invokestatic 79, 3) := by decide +kernel
theorem dX1_move_9 : decode cX1_move 9 = .ok (.ifCond .ne 9, 3) := by decide +kernel
theorem dX1_move_12 : decode cX1_move 12 = .ok (.aload_n 0, 1) := by decide +kernel
theorem dX1_move_13 : decode cX1_move 13 = .ok (.iconst 1, 1) := by decide +kernel
theorem dX1_move_14 : decode cX1_move 14 = .ok (.invokevirtual 48, 3) := by decide +kernel
theorem dX1_move_17 : decode cX1_move 17 = .ok (.ireturn, 1) := by decide +kernel
theorem dX1_move_18 : decode cX1_move 18 = .ok (.aload_n 0, 1) := by decide +kernel
theorem dX1_move_19 : decode cX1_move 19 = .ok (.iload_n 2, 1) := by decide +kernel
theorem dX1_move_20 : decode cX1_move 20 = .ok (.invokevirtual 82, 3) := by decide +kernel
theorem dX1_move_23 : decode cX1_move 23 = .ok (.ifCond .ne 9, 3) := by decide +kernel
theorem dX1_move_26 : decode cX1_move 26 = .ok (.aload_n 0, 1) := by decide +kernel
theorem dX1_move_27 : decode cX1_move 27 = .ok (.iconst 2, 1) := by decide +kernel
theorem dX1_move_28 : decode cX1_move 28 = .ok (.invokevirtual 48, 3) := by decide +kernel
theorem dX1_move_31 : decode cX1_move 31 = .ok (.ireturn, 1) := by decide +kernel
theorem dX1_move_32 : decode cX1_move 32 = .ok (.iconst 0, 1) := by decide +kernel
theorem dX1_move_33 : decode cX1_move 33 = .ok (.istore_n 3, 1) := by decide +kernel
theorem dX1_move_34 : decode cX1_move 34 = .ok (.iload_n 3, 1) := by decide +kernel
theorem dX1_move_35 : decode cX1_move 35 = .ok (.aload_n 0, 1) := by decide +kernel
theorem dX1_move_36 : decode cX1_move 36 = .ok (.getfield 7, 3) := by decide +kernel
theorem dX1_move_39 : decode cX1_move 39 = .ok (.if_icmp .ge 28, 3) := by decide +kernel
theorem dX1_move_42 : decode cX1_move 42 = .ok (.aload_n 0, 1) := by decide +kernel
theorem dX1_move_43 : decode cX1_move 43 = .ok (.getfield 26, 3) := by decide +kernel
theorem dX1_move_46 : decode cX1_move 46 = .ok (.iload_n 3, 1) := by decide +kernel
theorem dX1_move_47 : decode cX1_move 47 = .ok (.iload_n 2, 1) := by decide +kernel
theorem dX1_move_48 : decode cX1_move 48 = .ok (.iadd, 1) := by decide +kernel
theorem dX1_move_49 : decode cX1_move 49 = .ok (.aload_n 0, 1) := by decide +kernel
theorem dX1_move_50 : decode cX1_move 50 = .ok (.getfield 7, 3) := by decide +kernel
theorem dX1_move_53 : decode cX1_move 53 = .ok (.irem, 1) := by decide +kernel
theorem dX1_move_54 : decode cX1_move 54 = .ok (.aload_n 0, 1) := by decide +kernel
theorem dX1_move_55 : decode cX1_move 55 = .ok (.iload_n 1, 1) := by decide +kernel
theorem dX1_move_56 : decode cX1_move 56 = .ok (.iload_n 3, 1) := by decide +kernel
theorem dX1_move_57 : decode cX1_move 57 = .ok (.invokevirtual 70, 3) := by decide +kernel
theorem dX1_move_60 : decode cX1_move 60 = .ok (.iastore, 1) := by decide +kernel
theorem dX1_move_61 : decode cX1_move 61 = .ok (.iinc 3 1, 3) := by decide +kernel
theorem dX1_move_64 : decode cX1_move 64 = .ok (.goto (-30), 3) := by decide +kernel
theorem dX1_move_67 : decode cX1_move 67 = .ok (.aload_n 0, 1) := by decide +kernel
theorem dX1_move_68 : decode cX1_move 68 = .ok (.iload_n 1, 1) := by decide +kernel
theorem dX1_move_69 : decode cX1_move 69 = .ok (.invokevirtual 88, 3) := by decide +kernel
theorem dX1_move_72 : decode cX1_move 72 = .ok (.aload_n 0, 1) := by decide +kernel
theorem dX1_move_73 : decode cX1_move 73 = .ok (.getfield 26, 3) := by decide +kernel
theorem dX1_move_76 : decode cX1_move 76 = .ok (.iconst 0, 1) := by decide +kernel
theorem dX1_move_77 : decode cX1_move 77 = .ok (.iaload, 1) := by decide +kernel
theorem dX1_move_78 : decode cX1_move 78 = .ok (.ireturn, 1) := by decide +kernel
set_option maxRecDepth 20000 in
theorem ggX1_times_X1_isRow : GoodIn wsX1_times wsX1_isRow := goodIn_r _ [8, 9, 10, 7, 11] (by decide +kernel) (by decide +kernel)
set_option maxRecDepth 20000 in
theorem gX1_times_X1_isRow : GoodIn wsX1_times (va_wsS RX1 79 yX1_isRow wsX1_isRow) := goodIn_app (goodIn_of _ (by decide +kernel)) ggX1_times_X1_isRow
set_option maxRecDepth 20000 in
theorem ggX1_times_X1_no : GoodIn wsX1_times wsX1_no := goodIn_r _ [15, 1, 37, 38, 39, 40, 41, 42, 43] (by decide +kernel) (by decide +kernel)
set_option maxRecDepth 20000 in
theorem gX1_times_X1_no : GoodIn wsX1_times (wsV RX1 48 RX1 yX1_no wsX1_no) := goodIn_app (goodIn_of _ (by decide +kernel)) ggX1_times_X1_no
set_option maxRecDepth 20000 in
theorem ggX1_times_X1_isIn : GoodIn wsX1_times wsX1_isIn := goodIn_r _ [11] (by decide +kernel) (by decide +kernel)
set_option maxRecDepth 20000 in
theorem gX1_times_X1_isIn : GoodIn wsX1_times (va_wsS RX1 32 yX1_isIn wsX1_isIn) := goodIn_app (goodIn_of _ (by decide +kernel)) ggX1_times_X1_isIn
set_option maxRecDepth 20000 in
theorem ggX1_times_X1_its : GoodIn wsX1_times wsX1_its := goodIn_r _ [19, 20, 37, 38, 39, 40, 41, 42, 43] (by decide +kernel) (by decide +kernel)
set_option maxRecDepth 20000 in
theorem gX1_times_X1_its : GoodIn wsX1_times (wsV RX1 70 RX1 yX1_its wsX1_its) := goodIn_app (goodIn_of _ (by decide +kernel)) ggX1_times_X1_its
set_option maxRecDepth 20000 in
theorem ggX1_times_X1_by : GoodIn wsX1_times wsX1_by := goodIn_r _ [24, 2, 37, 38, 39, 40, 41, 42, 43] (by decide +kernel) (by decide +kernel)
set_option maxRecDepth 20000 in
theorem gX1_times_X1_by : GoodIn wsX1_times (wsV RX1 36 RX1 yX1_by wsX1_by) := goodIn_app (goodIn_of _ (by decide +kernel)) ggX1_times_X1_by
set_option maxRecDepth 20000 in
theorem ggX1_times_X1_lay : GoodIn wsX1_times wsX1_lay := goodIn_r _ [28, 4, 20, 3, 29, 30, 31, 32, 37, 38, 39, 40, 41, 42, 43] (by decide +kernel) (by decide +kernel)
set_option maxRecDepth 20000 in
theorem gX1_times_X1_lay : GoodIn wsX1_times (wsV RX1 88 RX1 yX1_lay wsX1_lay) := goodIn_app (goodIn_of _ (by decide +kernel)) ggX1_times_X1_lay
set_option maxRecDepth 20000 in
theorem ggX1_times_X1_others : GoodIn wsX1_times wsX1_others := goodIn_r _ [36, 3, 16, 17, 18, 7, 19, 20, 37, 38, 39, 40, 41, 42, 43] (by decide +kernel) (by decide +kernel)
set_option maxRecDepth 20000 in
theorem gX1_times_X1_others : GoodIn wsX1_times (wsV RX1 106 RX1 yX1_others wsX1_others) := goodIn_app (goodIn_of _ (by decide +kernel)) ggX1_times_X1_others
theorem dX1_times_0 : decode cX1_times 0 = .ok (.aload_n 0, 1) := by decide +kernel
theorem dX1_times_1 : decode cX1_times 1 = .ok (.iconst 0, 1) := by decide +kernel
theorem dX1_times_2 : decode cX1_times 2 = .ok (.putfield 29, 3) := by decide +kernel
theorem dX1_times_5 : decode cX1_times 5 = .ok (.iload_n 1, 1) := by decide +kernel
theorem dX1_times_6 : decode cX1_times 6 = .ok (.invokestatic 79, 3) := by decide +kernel
theorem dX1_times_9 : decode cX1_times 9 = .ok (.ifCond .ne 9, 3) := by decide +kernel
theorem dX1_times_12 : decode cX1_times 12 = .ok (.aload_n 0, 1) := by decide +kernel
theorem dX1_times_13 : decode cX1_times 13 = .ok (.iconst 1, 1) := by decide +kernel
theorem dX1_times_14 : decode cX1_times 14 = .ok (.invokevirtual 48, 3) := by decide +kernel
theorem dX1_times_17 : decode cX1_times 17 = .ok (.ireturn, 1) := by decide +kernel
theorem dX1_times_18 : decode cX1_times 18 = .ok (.iload_n 2, 1) := by decide +kernel
theorem dX1_times_19 : decode cX1_times 19 = .ok (.iconst 0, 1) := by decide +kernel
theorem dX1_times_20 : decode cX1_times 20 = .ok (.aload_n 0, 1) := by decide +kernel
theorem dX1_times_21 : decode cX1_times 21 = .ok (.getfield 13, 3) := by decide +kernel
theorem dX1_times_24 : decode cX1_times 24 = .ok (.iconst 1, 1) := by decide +kernel
theorem dX1_times_25 : decode cX1_times 25 = .ok (.isub, 1) := by decide +kernel
theorem dX1_times_26 : decode cX1_times 26 = .ok (.invokestatic 32, 3) := by decide +kernel
theorem dX1_times_29 : decode cX1_times 29 = .ok (.ifCond .ne 9, 3) := by decide +kernel
theorem dX1_times_32 : decode cX1_times 32 = .ok (.aload_n 0, 1) := by decide +kernel
theorem dX1_times_33 : decode cX1_times 33 = .ok (.iconst 2, 1) := by decide +kernel
theorem dX1_times_34 : decode cX1_times 34 = .ok (.invokevirtual 48, 3) := by decide +kernel
theorem dX1_times_37 : decode cX1_times 37 = .ok (.ireturn, 1) := by decide +kernel
theorem dX1_times_38 : decode cX1_times 38 = .ok (.iconst 0, 1) := by decide +kernel
theorem dX1_times_39 : decode cX1_times 39 = .ok (.istore_n 3, 1) := by decide +kernel
theorem dX1_times_40 : decode cX1_times 40 = .ok (.iload_n 3, 1) := by decide +kernel
theorem dX1_times_41 : decode cX1_times 41 = .ok (.aload_n 0, 1) := by decide +kernel
theorem dX1_times_42 : decode cX1_times 42 = .ok (.getfield 7, 3) := by decide +kernel
theorem dX1_times_45 : decode cX1_times 45 = .ok (.if_icmp .ge 26, 3) := by decide +kernel
theorem dX1_times_48 : decode cX1_times 48 = .ok (.aload_n 0, 1) := by decide +kernel
theorem dX1_times_49 : decode cX1_times 49 = .ok (.getfield 26, 3) := by decide +kernel
theorem dX1_times_52 : decode cX1_times 52 = .ok (.iload_n 3, 1) := by decide +kernel
theorem dX1_times_53 : decode cX1_times 53 = .ok (.aload_n 0, 1) := by decide +kernel
theorem dX1_times_54 : decode cX1_times 54 = .ok (.aload_n 0, 1) := by decide +kernel
theorem dX1_times_55 : decode cX1_times 55 = .ok (.iload_n 1, 1) := by decide +kernel
theorem dX1_times_56 : decode cX1_times 56 = .ok (.iload_n 3, 1) := by decide +kernel
theorem dX1_times_57 : decode cX1_times 57 = .ok (.invokevirtual 70, 3) := by decide +kernel
theorem dX1_times_60 : decode cX1_times 60 = .ok (.iload_n 2, 1) := by decide +kernel
theorem dX1_times_61 : decode cX1_times 61 = .ok (.invokevirtual 36, 3) := by decide +kernel
theorem dX1_times_64 : decode cX1_times 64 = .ok (.iastore, 1) := by decide +kernel
theorem dX1_times_65 : decode cX1_times 65 = .ok (.iinc 3 1, 3) := by decide +kernel
theorem dX1_times_68 : decode cX1_times 68 = .ok (.goto (-28), 3) := by decide +kernel
theorem dX1_times_71 : decode cX1_times 71 = .ok (.aload_n 0, 1) := by decide +kernel
theorem dX1_times_72 : decode cX1_times 72 = .ok (.iload_n 1, 1) := by decide +kernel
theorem dX1_times_73 : decode cX1_times 73 = .ok (.invokevirtual 88, 3) := by decide +kernel
theorem dX1_times_76 : decode cX1_times 76 = .ok (.aload_n 0, 1) := by decide +kernel
theorem dX1_times_77 : decode cX1_times 77 = .ok (.iload_n 1, 1) := by decide +kernel
theorem dX1_times_78 : decode cX1_times 78 = .ok (.invokevirtual 106, 3) := by decide +kernel
theorem dX1_times_81 : decode cX1_times 81 = .ok (.ireturn, 1) := by decide +kernel
set_option maxRecDepth 20000 in
theorem ggX1_at_X1_isRow : GoodIn wsX1_at wsX1_isRow := goodIn_r _ [5, 6, 7, 4, 8] (by decide +kernel) (by decide +kernel)
set_option maxRecDepth 20000 in
theorem gX1_at_X1_isRow : GoodIn wsX1_at (va_wsS RX1 79 yX1_isRow wsX1_isRow) := goodIn_app (goodIn_of _ (by decide +kernel)) ggX1_at_X1_isRow
set_option maxRecDepth 20000 in
theorem ggX1_at_X1_isPlace : GoodIn wsX1_at wsX1_isPlace := goodIn_r _ [12, 13, 6, 7, 4, 8, 23, 24, 25, 26, 27, 28, 29] (by decide +kernel) (by decide +kernel)
set_option maxRecDepth 20000 in
theorem gX1_at_X1_isPlace : GoodIn wsX1_at (wsV RX1 82 RX1 yX1_isPlace wsX1_isPlace) := goodIn_app (goodIn_of _ (by decide +kernel)) ggX1_at_X1_isPlace
set_option maxRecDepth 20000 in
theorem ggX1_at_X1_its : GoodIn wsX1_at wsX1_its := goodIn_r _ [17, 18, 23, 24, 25, 26, 27, 28, 29] (by decide +kernel) (by decide +kernel)
set_option maxRecDepth 20000 in
theorem gX1_at_X1_its : GoodIn wsX1_at (wsV RX1 70 RX1 yX1_its wsX1_its) := goodIn_app (goodIn_of _ (by decide +kernel)) ggX1_at_X1_its
set_option maxRecDepth 20000 in
theorem ggX1_at_X1_no : GoodIn wsX1_at wsX1_no := goodIn_r _ [22, 1, 23, 24, 25, 26, 27, 28, 29] (by decide +kernel) (by decide +kernel)
set_option maxRecDepth 20000 in
theorem gX1_at_X1_no : GoodIn wsX1_at (wsV RX1 48 RX1 yX1_no wsX1_no) := goodIn_app (goodIn_of _ (by decide +kernel)) ggX1_at_X1_no
theorem dX1_at_0 : decode cX1_at 0 = .ok (.aload_n 0, 1) := by decide +kernel
theorem dX1_at_1 : decode cX1_at 1 = .ok (.iconst 0, 1) := by decide +kernel
theorem dX1_at_2 : decode cX1_at 2 = .ok (.putfield 29, 3) := by decide +kernel
theorem dX1_at_5 : decode cX1_at 5 = .ok (.iload_n 1, 1) := by decide +kernel
theorem dX1_at_6 : decode cX1_at 6 = .ok (.invokestatic 79, 3) := by decide +kernel
theorem dX1_at_9 : decode cX1_at 9 = .ok (.ifCond .eq 20, 3) := by decide +kernel
theorem dX1_at_12 : decode cX1_at 12 = .ok (.aload_n 0, 1) := by decide +kernel
theorem dX1_at_13 : decode cX1_at 13 = .ok (.iload_n 2, 1) := by decide +kernel
theorem dX1_at_14 : decode cX1_at 14 = .ok (.invokevirtual 82, 3) := by decide +kernel
theorem dX1_at_17 : decode cX1_at 17 = .ok (.ifCond .eq 12, 3) := by decide +kernel
theorem dX1_at_20 : decode cX1_at 20 = .ok (.aload_n 0, 1) := by decide +kernel
theorem dX1_at_21 : decode cX1_at 21 = .ok (.iload_n 1, 1) := by decide +kernel
theorem dX1_at_22 : decode cX1_at 22 = .ok (.iload_n 2, 1) := by decide +kernel
theorem dX1_at_23 : decode cX1_at 23 = .ok (.invokevirtual 70, 3) := by decide +kernel
theorem dX1_at_26 : decode cX1_at 26 = .ok (.goto 8, 3) := by decide +kernel
theorem dX1_at_29 : decode cX1_at 29 = .ok (.aload_n 0, 1) := by decide +kernel
theorem dX1_at_30 : decode cX1_at 30 = .ok (.iconst 1, 1) := by decide +kernel
theorem dX1_at_31 : decode cX1_at 31 = .ok (.invokevirtual 48, 3) := by decide +kernel
theorem dX1_at_34 : decode cX1_at 34 = .ok (.ireturn, 1) := by decide +kernel
set_option maxRecDepth 20000 in
theorem ggX1_point_X1_isRow : GoodIn wsX1_point wsX1_isRow := goodIn_r _ [6, 7, 8, 5, 9] (by decide +kernel) (by decide +kernel)
set_option maxRecDepth 20000 in
theorem gX1_point_X1_isRow : GoodIn wsX1_point (va_wsS RX1 79 yX1_isRow wsX1_isRow) := goodIn_app (goodIn_of _ (by decide +kernel)) ggX1_point_X1_isRow
set_option maxRecDepth 20000 in
theorem ggX1_point_X1_no : GoodIn wsX1_point wsX1_no := goodIn_r _ [13, 1, 32, 33, 34, 35, 36, 37, 38] (by decide +kernel) (by decide +kernel)
set_option maxRecDepth 20000 in
theorem gX1_point_X1_no : GoodIn wsX1_point (wsV RX1 48 RX1 yX1_no wsX1_no) := goodIn_app (goodIn_of _ (by decide +kernel)) ggX1_point_X1_no
set_option maxRecDepth 20000 in
theorem ggX1_point_X1_isIn : GoodIn wsX1_point wsX1_isIn := goodIn_r _ [9] (by decide +kernel) (by decide +kernel)
set_option maxRecDepth 20000 in
theorem gX1_point_X1_isIn : GoodIn wsX1_point (va_wsS RX1 32 yX1_isIn wsX1_isIn) := goodIn_app (goodIn_of _ (by decide +kernel)) ggX1_point_X1_isIn
set_option maxRecDepth 20000 in
theorem ggX1_point_X1_pointOf : GoodIn wsX1_point wsX1_pointOf := goodIn_r _ [17, 18, 19, 20, 21, 5, 22, 2, 23, 24, 25, 26, 27, 28, 29, 30, 31, 32, 33, 34, 35, 36, 37, 38] (by decide +kernel) (by decide +kernel)
set_option maxRecDepth 20000 in
theorem gX1_point_X1_pointOf : GoodIn wsX1_point (wsV RX1 76 RX1 yX1_pointOf wsX1_pointOf) := goodIn_app (goodIn_of _ (by decide +kernel)) ggX1_point_X1_pointOf
theorem dX1_point_0 : decode cX1_point 0 = .ok (.aload_n 0, 1) := by decide +kernel
theorem dX1_point_1 : decode cX1_point 1 = .ok (.iconst 0, 1) := by decide +kernel
theorem dX1_point_2 : decode cX1_point 2 = .ok (.putfield 29, 3) := by decide +kernel
theorem dX1_point_5 : decode cX1_point 5 = .ok (.iload_n 1, 1) := by decide +kernel
theorem dX1_point_6 : decode cX1_point 6 = .ok (.invokestatic 79, 3) := by decide +kernel
theorem dX1_point_9 : decode cX1_point 9 = .ok (.ifCond .ne 9, 3) := by decide +kernel
theorem dX1_point_12 : decode cX1_point 12 = .ok (.aload_n 0, 1) := by decide +kernel
theorem dX1_point_13 : decode cX1_point 13 = .ok (.iconst 1, 1) := by decide +kernel
theorem dX1_point_14 : decode cX1_point 14 = .ok (.invokevirtual 48, 3) := by decide +kernel
theorem dX1_point_17 : decode cX1_point 17 = .ok (.ireturn, 1) := by decide +kernel
theorem dX1_point_18 : decode cX1_point 18 = .ok (.iload_n 2, 1) := by decide +kernel
theorem dX1_point_19 : decode cX1_point 19 = .ok (.iconst 0, 1) := by decide +kernel
theorem dX1_point_20 : decode cX1_point 20 = .ok (.aload_n 0, 1) := by decide +kernel
theorem dX1_point_21 : decode cX1_point 21 = .ok (.getfield 13, 3) := by decide +kernel
theorem dX1_point_24 : decode cX1_point 24 = .ok (.iconst 1, 1) := by decide +kernel
theorem dX1_point_25 : decode cX1_point 25 = .ok (.isub, 1) := by decide +kernel
theorem dX1_point_26 : decode cX1_point 26 = .ok (.invokestatic 32, 3) := by decide +kernel
theorem dX1_point_29 : decode cX1_point 29 = .ok (.ifCond .eq 12, 3) := by decide +kernel
theorem dX1_point_32 : decode cX1_point 32 = .ok (.aload_n 0, 1) := by decide +kernel
theorem dX1_point_33 : decode cX1_point 33 = .ok (.iload_n 1, 1) := by decide +kernel
theorem dX1_point_34 : decode cX1_point 34 = .ok (.iload_n 2, 1) := by decide +kernel
theorem dX1_point_35 : decode cX1_point 35 = .ok (.invokevirtual 76, 3) := by decide +kernel
theorem dX1_point_38 : decode cX1_point 38 = .ok (.goto 8, 3) := by decide +kernel
theorem dX1_point_41 : decode cX1_point 41 = .ok (.aload_n 0, 1) := by decide +kernel
theorem dX1_point_42 : decode cX1_point 42 = .ok (.iconst 2, 1) := by decide +kernel
theorem dX1_point_43 : decode cX1_point 43 = .ok (.invokevirtual 48, 3) := by decide +kernel
theorem dX1_point_46 : decode cX1_point 46 = .ok (.ireturn, 1) := by decide +kernel
set_option maxRecDepth 20000 in
theorem ggX1_isMoved_X1_its : GoodIn wsX1_isMoved wsX1_its := goodIn_r _ [6, 7, 8, 9, 10, 11, 12, 13, 14] (by decide +kernel) (by decide +kernel)
set_option maxRecDepth 20000 in
theorem gX1_isMoved_X1_its : GoodIn wsX1_isMoved (wsV RX1 70 RX1 yX1_its wsX1_its) := goodIn_app (goodIn_of _ (by decide +kernel)) ggX1_isMoved_X1_its
theorem dX1_isMoved_0 : decode cX1_isMoved 0 = .ok (.iconst 0, 1) := by decide +kernel
theorem dX1_isMoved_1 : decode cX1_isMoved 1 = .ok (.istore 4, 2) := by decide +kernel
theorem dX1_isMoved_3 : decode cX1_isMoved 3 = .ok (.iload 4, 2) := by decide +kernel
theorem dX1_isMoved_5 : decode cX1_isMoved 5 = .ok (.aload_n 0, 1) := by decide +kernel
theorem dX1_isMoved_6 : decode cX1_isMoved 6 = .ok (.getfield 7, 3) := by decide +kernel
theorem dX1_isMoved_9 : decode cX1_isMoved 9 = .ok (.if_icmp .ge 35, 3) := by decide +kernel
theorem dX1_isMoved_12 : decode cX1_isMoved 12 = .ok (.aload_n 0, 1) := by decide +kernel
theorem dX1_isMoved_13 : decode cX1_isMoved 13 = .ok (.iload_n 1, 1) := by decide +kernel
theorem dX1_isMoved_14 : decode cX1_isMoved 14 = .ok (.iload 4, 2) := by decide +kernel
theorem dX1_isMoved_16 : decode cX1_isMoved 16 = .ok (.invokevirtual 70, 3) := by decide +kernel
theorem dX1_isMoved_19 : decode cX1_isMoved 19 = .ok (.aload_n 0, 1) := by decide +kernel
theorem dX1_isMoved_20 : decode cX1_isMoved 20 = .ok (.iload_n 2, 1) := by decide +kernel
theorem dX1_isMoved_21 : decode cX1_isMoved 21 = .ok (.iload 4, 2) := by decide +kernel
theorem dX1_isMoved_23 : decode cX1_isMoved 23 = .ok (.iload_n 3, 1) := by decide +kernel
theorem dX1_isMoved_24 : decode cX1_isMoved 24 = .ok (.iadd, 1) := by decide +kernel
theorem dX1_isMoved_25 : decode cX1_isMoved 25 = .ok (.aload_n 0, 1) := by decide +kernel
theorem dX1_isMoved_26 : decode cX1_isMoved 26 = .ok (.getfield 7, 3) := by decide +kernel
theorem dX1_isMoved_29 : decode cX1_isMoved 29 = .ok (.irem, 1) := by decide +kernel
theorem dX1_isMoved_30 : decode cX1_isMoved 30 = .ok (.invokevirtual 70, 3) := by decide +kernel
theorem dX1_isMoved_33 : decode cX1_isMoved 33 = .ok (.if_icmp .eq 5, 3) := by decide +kernel
theorem dX1_isMoved_36 : decode cX1_isMoved 36 = .ok (.iconst 0, 1) := by decide +kernel
theorem dX1_isMoved_37 : decode cX1_isMoved 37 = .ok (.ireturn, 1) := by decide +kernel
theorem dX1_isMoved_38 : decode cX1_isMoved 38 = .ok (.iinc 4 1, 3) := by decide +kernel
theorem dX1_isMoved_41 : decode cX1_isMoved 41 = .ok (.goto (-38), 3) := by decide +kernel
theorem dX1_isMoved_44 : decode cX1_isMoved 44 = .ok (.iconst 1, 1) := by decide +kernel
theorem dX1_isMoved_45 : decode cX1_isMoved 45 = .ok (.ireturn, 1) := by decide +kernel
set_option maxRecDepth 20000 in
theorem ggX1_aboutTold_X1_pointOf : GoodIn wsX1_aboutTold wsX1_pointOf := goodIn_r _ [10, 1, 11, 12, 13, 9, 14, 15, 16, 17, 18, 19, 20, 21, 22, 23, 24, 33, 34, 35, 36, 37, 38, 39] (by decide +kernel) (by decide +kernel)
set_option maxRecDepth 20000 in
theorem gX1_aboutTold_X1_pointOf : GoodIn wsX1_aboutTold (wsV RX1 76 RX1 yX1_pointOf wsX1_pointOf) := goodIn_app (goodIn_of _ (by decide +kernel)) ggX1_aboutTold_X1_pointOf
set_option maxRecDepth 20000 in
theorem ggX1_aboutTold_X1_others : GoodIn wsX1_aboutTold wsX1_others := goodIn_r _ [28, 1, 16, 17, 18, 9, 19, 20, 33, 34, 35, 36, 37, 38, 39] (by decide +kernel) (by decide +kernel)
set_option maxRecDepth 20000 in
theorem gX1_aboutTold_X1_others : GoodIn wsX1_aboutTold (wsV RX1 106 RX1 yX1_others wsX1_others) := goodIn_app (goodIn_of _ (by decide +kernel)) ggX1_aboutTold_X1_others
set_option maxRecDepth 20000 in
theorem ggX1_aboutTold_X1_its : GoodIn wsX1_aboutTold wsX1_its := goodIn_r _ [19, 20, 33, 34, 35, 36, 37, 38, 39] (by decide +kernel) (by decide +kernel)
set_option maxRecDepth 20000 in
theorem gX1_aboutTold_X1_its : GoodIn wsX1_aboutTold (wsV RX1 70 RX1 yX1_its wsX1_its) := goodIn_app (goodIn_of _ (by decide +kernel)) ggX1_aboutTold_X1_its
set_option maxRecDepth 20000 in
theorem ggX1_aboutTold_X1_isMoved : GoodIn wsX1_aboutTold wsX1_isMoved := goodIn_r _ [32, 1, 16, 17, 18, 9, 19, 20, 33, 34, 35, 36, 37, 38, 39] (by decide +kernel) (by decide +kernel)
set_option maxRecDepth 20000 in
theorem gX1_aboutTold_X1_isMoved : GoodIn wsX1_aboutTold (wsV RX1 109 RX1 yX1_isMoved wsX1_isMoved) := goodIn_app (goodIn_of _ (by decide +kernel)) ggX1_aboutTold_X1_isMoved
theorem dX1_aboutTold_0 : decode cX1_aboutTold 0 = .ok (.iload_n 2, 1) := by decide +kernel
theorem dX1_aboutTold_1 : decode cX1_aboutTold 1 = .ok (.tableswitch 92 0 3 #[31, 38, 44, 72], 31) := by decide +kernel
theorem dX1_aboutTold_32 : decode cX1_aboutTold 32 = .ok (.aload_n 0, 1) := by decide +kernel
theorem dX1_aboutTold_33 : decode cX1_aboutTold 33 = .ok (.iload_n 1, 1) := by decide +kernel
theorem dX1_aboutTold_34 : decode cX1_aboutTold 34 = .ok (.iconst 1, 1) := by decide +kernel
theorem dX1_aboutTold_35 : decode cX1_aboutTold 35 = .ok (.invokevirtual 76, 3) := by decide +kernel
theorem dX1_aboutTold_38 : decode cX1_aboutTold 38 = .ok (.ireturn, 1) := by decide +kernel
theorem dX1_aboutTold_39 : decode cX1_aboutTold 39 = .ok (.aload_n 0, 1) := by decide +kernel
theorem dX1_aboutTold_40 : decode cX1_aboutTold 40 = .ok (.iload_n 1, 1) := by decide +kernel
theorem dX1_aboutTold_41 : decode cX1_aboutTold 41 = .ok (.invokevirtual 106, 3) := by decide +kernel
theorem dX1_aboutTold_44 : decode cX1_aboutTold 44 = .ok (.ireturn, 1) := by decide +kernel
theorem dX1_aboutTold_45 : decode cX1_aboutTold 45 = .ok (.aload_n 0, 1) := by decide +kernel
theorem dX1_aboutTold_46 : decode cX1_aboutTold 46 = .ok (.getfield 7, 3) := by decide +kernel
theorem dX1_aboutTold_49 : decode cX1_aboutTold 49 = .ok (.iconst 1, 1) := by decide +kernel
theorem dX1_aboutTold_50 : decode cX1_aboutTold 50 = .ok (.isub, 1) := by decide +kernel
theorem dX1_aboutTold_51 : decode cX1_aboutTold 51 = .ok (.istore_n 3, 1) := by decide +kernel
theorem dX1_aboutTold_52 : decode cX1_aboutTold 52 = .ok (.iload_n 3, 1) := by decide +kernel
theorem dX1_aboutTold_53 : decode cX1_aboutTold 53 = .ok (.ifCond .lt 18, 3) := by decide +kernel
theorem dX1_aboutTold_56 : decode cX1_aboutTold 56 = .ok (.aload_n 0, 1) := by decide +kernel
theorem dX1_aboutTold_57 : decode cX1_aboutTold 57 = .ok (.iload_n 1, 1) := by decide +kernel
theorem dX1_aboutTold_58 : decode cX1_aboutTold 58 = .ok (.iload_n 3, 1) := by decide +kernel
theorem dX1_aboutTold_59 : decode cX1_aboutTold 59 = .ok (.invokevirtual 70, 3) := by decide +kernel
theorem dX1_aboutTold_62 : decode cX1_aboutTold 62 = .ok (.ifCond .ne 9, 3) := by decide +kernel
theorem dX1_aboutTold_65 : decode cX1_aboutTold 65 = .ok (.iinc 3 (-1), 3) := by decide +kernel
theorem dX1_aboutTold_68 : decode cX1_aboutTold 68 = .ok (.goto (-16), 3) := by decide +kernel
theorem dX1_aboutTold_71 : decode cX1_aboutTold 71 = .ok (.iload_n 3, 1) := by decide +kernel
theorem dX1_aboutTold_72 : decode cX1_aboutTold 72 = .ok (.ireturn, 1) := by decide +kernel
theorem dX1_aboutTold_73 : decode cX1_aboutTold 73 = .ok (.iconst 1, 1) := by decide +kernel
theorem dX1_aboutTold_74 : decode cX1_aboutTold 74 = .ok (.istore_n 3, 1) := by decide +kernel
theorem dX1_aboutTold_75 : decode cX1_aboutTold 75 = .ok (.aload_n 0, 1) := by decide +kernel
theorem dX1_aboutTold_76 : decode cX1_aboutTold 76 = .ok (.iload_n 1, 1) := by decide +kernel
theorem dX1_aboutTold_77 : decode cX1_aboutTold 77 = .ok (.iload_n 1, 1) := by decide +kernel
theorem dX1_aboutTold_78 : decode cX1_aboutTold 78 = .ok (.iload_n 3, 1) := by decide +kernel
theorem dX1_aboutTold_79 : decode cX1_aboutTold 79 = .ok (.invokevirtual 109, 3) := by decide +kernel
theorem dX1_aboutTold_82 : decode cX1_aboutTold 82 = .ok (.ifCond .ne 9, 3) := by decide +kernel
theorem dX1_aboutTold_85 : decode cX1_aboutTold 85 = .ok (.iinc 3 1, 3) := by decide +kernel
theorem dX1_aboutTold_88 : decode cX1_aboutTold 88 = .ok (.goto (-13), 3) := by decide +kernel
theorem dX1_aboutTold_91 : decode cX1_aboutTold 91 = .ok (.iload_n 3, 1) := by decide +kernel
theorem dX1_aboutTold_92 : decode cX1_aboutTold 92 = .ok (.ireturn, 1) := by decide +kernel
theorem dX1_aboutTold_93 : decode cX1_aboutTold 93 = .ok (.iconst 0, 1) := by decide +kernel
theorem dX1_aboutTold_94 : decode cX1_aboutTold 94 = .ok (.istore_n 3, 1) := by decide +kernel
theorem dX1_aboutTold_95 : decode cX1_aboutTold 95 = .ok (.iconst 0, 1) := by decide +kernel
theorem dX1_aboutTold_96 : decode cX1_aboutTold 96 = .ok (.istore 4, 2) := by decide +kernel
theorem dX1_aboutTold_98 : decode cX1_aboutTold 98 = .ok (.iload 4, 2) := by decide +kernel
theorem dX1_aboutTold_100 : decode cX1_aboutTold 100 = .ok (.aload_n 0, 1) := by decide +kernel
theorem dX1_aboutTold_101 : decode cX1_aboutTold 101 = .ok (.getfield 7, 3) := by decide +kernel
theorem dX1_aboutTold_104 : decode cX1_aboutTold 104 = .ok (.if_icmp .ge 21, 3) := by decide +kernel
theorem dX1_aboutTold_107 : decode cX1_aboutTold 107 = .ok (.iload_n 3, 1) := by decide +kernel
theorem dX1_aboutTold_108 : decode cX1_aboutTold 108 = .ok (.aload_n 0, 1) := by decide +kernel
theorem dX1_aboutTold_109 : decode cX1_aboutTold 109 = .ok (.iload_n 1, 1) := by decide +kernel
theorem dX1_aboutTold_110 : decode cX1_aboutTold 110 = .ok (.iload 4, 2) := by decide +kernel
theorem dX1_aboutTold_112 : decode cX1_aboutTold 112 = .ok (.invokevirtual 70, 3) := by decide +kernel
theorem dX1_aboutTold_115 : decode cX1_aboutTold 115 = .ok (.invokestatic 112, 3) := by decide +kernel
theorem dX1_aboutTold_118 : decode cX1_aboutTold 118 = .ok (.istore_n 3, 1) := by decide +kernel
theorem dX1_aboutTold_119 : decode cX1_aboutTold 119 = .ok (.iinc 4 1, 3) := by decide +kernel
theorem dX1_aboutTold_122 : decode cX1_aboutTold 122 = .ok (.goto (-24), 3) := by decide +kernel
theorem dX1_aboutTold_125 : decode cX1_aboutTold 125 = .ok (.iload_n 3, 1) := by decide +kernel
theorem dX1_aboutTold_126 : decode cX1_aboutTold 126 = .ok (.ireturn, 1) := by decide +kernel
set_option maxRecDepth 20000 in
theorem ggX1_about_X1_isRow : GoodIn wsX1_about wsX1_isRow := goodIn_r _ [5, 6, 7, 4, 8] (by decide +kernel) (by decide +kernel)
set_option maxRecDepth 20000 in
theorem gX1_about_X1_isRow : GoodIn wsX1_about (va_wsS RX1 79 yX1_isRow wsX1_isRow) := goodIn_app (goodIn_of _ (by decide +kernel)) ggX1_about_X1_isRow
set_option maxRecDepth 20000 in
theorem ggX1_about_X1_isIn : GoodIn wsX1_about wsX1_isIn := goodIn_r _ [8] (by decide +kernel) (by decide +kernel)
set_option maxRecDepth 20000 in
theorem gX1_about_X1_isIn : GoodIn wsX1_about (va_wsS RX1 32 yX1_isIn wsX1_isIn) := goodIn_app (goodIn_of _ (by decide +kernel)) ggX1_about_X1_isIn
set_option maxRecDepth 20000 in
theorem ggX1_about_X1_aboutTold : GoodIn wsX1_about wsX1_aboutTold := goodIn_r _ [12, 13, 14, 15, 16, 17, 18, 19, 20, 4, 21, 22, 23, 24, 25, 26, 27, 28, 29, 30, 31, 32, 33, 34, 35, 36, 37, 38, 39, 40, 41, 42, 43, 48, 49, 50, 51, 52, 53, 54] (by decide +kernel) (by decide +kernel)
set_option maxRecDepth 20000 in
theorem gX1_about_X1_aboutTold : GoodIn wsX1_about (wsV RX1 117 RX1 yX1_aboutTold wsX1_aboutTold) := goodIn_app (goodIn_of _ (by decide +kernel)) ggX1_about_X1_aboutTold
set_option maxRecDepth 20000 in
theorem ggX1_about_X1_no : GoodIn wsX1_about wsX1_no := goodIn_r _ [47, 1, 48, 49, 50, 51, 52, 53, 54] (by decide +kernel) (by decide +kernel)
set_option maxRecDepth 20000 in
theorem gX1_about_X1_no : GoodIn wsX1_about (wsV RX1 48 RX1 yX1_no wsX1_no) := goodIn_app (goodIn_of _ (by decide +kernel)) ggX1_about_X1_no
theorem dX1_about_0 : decode cX1_about 0 = .ok (.aload_n 0, 1) := by decide +kernel
theorem dX1_about_1 : decode cX1_about 1 = .ok (.iconst 0, 1) := by decide +kernel
theorem dX1_about_2 : decode cX1_about 2 = .ok (.putfield 29, 3) := by decide +kernel
theorem dX1_about_5 : decode cX1_about 5 = .ok (.iload_n 1, 1) := by decide +kernel
theorem dX1_about_6 : decode cX1_about 6 = .ok (.invokestatic 79, 3) := by decide +kernel
theorem dX1_about_9 : decode cX1_about 9 = .ok (.ifCond .eq 21, 3) := by decide +kernel
theorem dX1_about_12 : decode cX1_about 12 = .ok (.iload_n 2, 1) := by decide +kernel
theorem dX1_about_13 : decode cX1_about 13 = .ok (.iconst 0, 1) := by decide +kernel
theorem dX1_about_14 : decode cX1_about 14 = .ok (.iconst 4, 1) := by decide +kernel
theorem dX1_about_15 : decode cX1_about 15 = .ok (.invokestatic 32, 3) := by decide +kernel
theorem dX1_about_18 : decode cX1_about 18 = .ok (.ifCond .eq 12, 3) := by decide +kernel
theorem dX1_about_21 : decode cX1_about 21 = .ok (.aload_n 0, 1) := by decide +kernel
theorem dX1_about_22 : decode cX1_about 22 = .ok (.iload_n 1, 1) := by decide +kernel
theorem dX1_about_23 : decode cX1_about 23 = .ok (.iload_n 2, 1) := by decide +kernel
theorem dX1_about_24 : decode cX1_about 24 = .ok (.invokevirtual 117, 3) := by decide +kernel
theorem dX1_about_27 : decode cX1_about 27 = .ok (.goto 8, 3) := by decide +kernel
theorem dX1_about_30 : decode cX1_about 30 = .ok (.aload_n 0, 1) := by decide +kernel
theorem dX1_about_31 : decode cX1_about 31 = .ok (.iconst 1, 1) := by decide +kernel
theorem dX1_about_32 : decode cX1_about 32 = .ok (.invokevirtual 48, 3) := by decide +kernel
theorem dX1_about_35 : decode cX1_about 35 = .ok (.ireturn, 1) := by decide +kernel
set_option maxRecDepth 20000 in
theorem ggX1_counted_X1_inverseOf : GoodIn wsX1_counted wsX1_inverseOf := goodIn_r _ [9, 2, 10, 11, 12, 13, 14, 15, 16] (by decide +kernel) (by decide +kernel)
set_option maxRecDepth 20000 in
theorem gX1_counted_X1_inverseOf : GoodIn wsX1_counted (wsV RX1 58 RX1 yX1_inverseOf wsX1_inverseOf) := goodIn_app (goodIn_of _ (by decide +kernel)) ggX1_counted_X1_inverseOf
theorem dX1_counted_0 : decode cX1_counted 0 = .ok (.iload_n 1, 1) := by decide +kernel
theorem dX1_counted_1 : decode cX1_counted 1 = .ok (.tableswitch 68 0 4 #[35, 40, 45, 50, 59], 35) := by decide +kernel
theorem dX1_counted_36 : decode cX1_counted 36 = .ok (.aload_n 0, 1) := by decide +kernel
theorem dX1_counted_37 : decode cX1_counted 37 = .ok (.getfield 7, 3) := by decide +kernel
theorem dX1_counted_40 : decode cX1_counted 40 = .ok (.ireturn, 1) := by decide +kernel
theorem dX1_counted_41 : decode cX1_counted 41 = .ok (.aload_n 0, 1) := by decide +kernel
theorem dX1_counted_42 : decode cX1_counted 42 = .ok (.getfield 13, 3) := by decide +kernel
theorem dX1_counted_45 : decode cX1_counted 45 = .ok (.ireturn, 1) := by decide +kernel
theorem dX1_counted_46 : decode cX1_counted 46 = .ok (.aload_n 0, 1) := by decide +kernel
theorem dX1_counted_47 : decode cX1_counted 47 = .ok (.getfield 16, 3) := by decide +kernel
theorem dX1_counted_50 : decode cX1_counted 50 = .ok (.ireturn, 1) := by decide +kernel
theorem dX1_counted_51 : decode cX1_counted 51 = .ok (.aload_n 0, 1) := by decide +kernel
theorem dX1_counted_52 : decode cX1_counted 52 = .ok (.aload_n 0, 1) := by decide +kernel
theorem dX1_counted_53 : decode cX1_counted 53 = .ok (.getfield 16, 3) := by decide +kernel
theorem dX1_counted_56 : decode cX1_counted 56 = .ok (.invokevirtual 58, 3) := by decide +kernel
theorem dX1_counted_59 : decode cX1_counted 59 = .ok (.ireturn, 1) := by decide +kernel
theorem dX1_counted_60 : decode cX1_counted 60 = .ok (.aload_n 0, 1) := by decide +kernel
theorem dX1_counted_61 : decode cX1_counted 61 = .ok (.aload_n 0, 1) := by decide +kernel
theorem dX1_counted_62 : decode cX1_counted 62 = .ok (.getfield 7, 3) := by decide +kernel
theorem dX1_counted_65 : decode cX1_counted 65 = .ok (.invokevirtual 58, 3) := by decide +kernel
theorem dX1_counted_68 : decode cX1_counted 68 = .ok (.ireturn, 1) := by decide +kernel
theorem dX1_counted_69 : decode cX1_counted 69 = .ok (.aload_n 0, 1) := by decide +kernel
theorem dX1_counted_70 : decode cX1_counted 70 = .ok (.getfield 19, 3) := by decide +kernel
theorem dX1_counted_73 : decode cX1_counted 73 = .ok (.ireturn, 1) := by decide +kernel
set_option maxRecDepth 20000 in
theorem ggX1_count_X1_isIn : GoodIn wsX1_count wsX1_isIn := goodIn_r _ [5] (by decide +kernel) (by decide +kernel)
set_option maxRecDepth 20000 in
theorem gX1_count_X1_isIn : GoodIn wsX1_count (va_wsS RX1 32 yX1_isIn wsX1_isIn) := goodIn_app (goodIn_of _ (by decide +kernel)) ggX1_count_X1_isIn
set_option maxRecDepth 20000 in
theorem ggX1_count_X1_counted : GoodIn wsX1_count wsX1_counted := goodIn_r _ [9, 10, 11, 12, 13, 14, 15, 16, 4, 17, 22, 23, 24, 25, 26, 27, 28] (by decide +kernel) (by decide +kernel)
set_option maxRecDepth 20000 in
theorem gX1_count_X1_counted : GoodIn wsX1_count (wsV RX1 120 RX1 yX1_counted wsX1_counted) := goodIn_app (goodIn_of _ (by decide +kernel)) ggX1_count_X1_counted
set_option maxRecDepth 20000 in
theorem ggX1_count_X1_no : GoodIn wsX1_count wsX1_no := goodIn_r _ [21, 1, 22, 23, 24, 25, 26, 27, 28] (by decide +kernel) (by decide +kernel)
set_option maxRecDepth 20000 in
theorem gX1_count_X1_no : GoodIn wsX1_count (wsV RX1 48 RX1 yX1_no wsX1_no) := goodIn_app (goodIn_of _ (by decide +kernel)) ggX1_count_X1_no
theorem dX1_count_0 : decode cX1_count 0 = .ok (.aload_n 0, 1) := by decide +kernel
theorem dX1_count_1 : decode cX1_count 1 = .ok (.iconst 0, 1) := by decide +kernel
theorem dX1_count_2 : decode cX1_count 2 = .ok (.putfield 29, 3) := by decide +kernel
theorem dX1_count_5 : decode cX1_count 5 = .ok (.iload_n 1, 1) := by decide +kernel
theorem dX1_count_6 : decode cX1_count 6 = .ok (.iconst 0, 1) := by decide +kernel
theorem dX1_count_7 : decode cX1_count 7 = .ok (.iconst 5, 1) := by decide +kernel
theorem dX1_count_8 : decode cX1_count 8 = .ok (.invokestatic 32, 3) := by decide +kernel
theorem dX1_count_11 : decode cX1_count 11 = .ok (.ifCond .eq 11, 3) := by decide +kernel
theorem dX1_count_14 : decode cX1_count 14 = .ok (.aload_n 0, 1) := by decide +kernel
theorem dX1_count_15 : decode cX1_count 15 = .ok (.iload_n 1, 1) := by decide +kernel
theorem dX1_count_16 : decode cX1_count 16 = .ok (.invokevirtual 120, 3) := by decide +kernel
theorem dX1_count_19 : decode cX1_count 19 = .ok (.goto 8, 3) := by decide +kernel
theorem dX1_count_22 : decode cX1_count 22 = .ok (.aload_n 0, 1) := by decide +kernel
theorem dX1_count_23 : decode cX1_count 23 = .ok (.iconst 1, 1) := by decide +kernel
theorem dX1_count_24 : decode cX1_count 24 = .ok (.invokevirtual 48, 3) := by decide +kernel
theorem dX1_count_27 : decode cX1_count 27 = .ok (.ireturn, 1) := by decide +kernel
set_option maxRecDepth 20000 in
theorem ggX1_would_X1_isRow : GoodIn wsX1_would wsX1_isRow := goodIn_r _ [5, 6, 7, 4, 8] (by decide +kernel) (by decide +kernel)
set_option maxRecDepth 20000 in
theorem gX1_would_X1_isRow : GoodIn wsX1_would (va_wsS RX1 79 yX1_isRow wsX1_isRow) := goodIn_app (goodIn_of _ (by decide +kernel)) ggX1_would_X1_isRow
set_option maxRecDepth 20000 in
theorem ggX1_would_X1_isPlace : GoodIn wsX1_would wsX1_isPlace := goodIn_r _ [12, 13, 6, 7, 4, 8, 36, 37, 38, 39, 40, 41, 42] (by decide +kernel) (by decide +kernel)
set_option maxRecDepth 20000 in
theorem gX1_would_X1_isPlace : GoodIn wsX1_would (wsV RX1 82 RX1 yX1_isPlace wsX1_isPlace) := goodIn_app (goodIn_of _ (by decide +kernel)) ggX1_would_X1_isPlace
set_option maxRecDepth 20000 in
theorem ggX1_would_X1_folded : GoodIn wsX1_would wsX1_folded := goodIn_r _ [17, 13, 18, 19, 20, 4, 21, 22, 23, 24, 25, 26, 27, 28, 29, 30, 31, 36, 37, 38, 39, 40, 41, 42] (by decide +kernel) (by decide +kernel)
set_option maxRecDepth 20000 in
theorem gX1_would_X1_folded : GoodIn wsX1_would (wsV RX1 102 RX1 yX1_folded wsX1_folded) := goodIn_app (goodIn_of _ (by decide +kernel)) ggX1_would_X1_folded
set_option maxRecDepth 20000 in
theorem ggX1_would_X1_no : GoodIn wsX1_would wsX1_no := goodIn_r _ [35, 1, 36, 37, 38, 39, 40, 41, 42] (by decide +kernel) (by decide +kernel)
set_option maxRecDepth 20000 in
theorem gX1_would_X1_no : GoodIn wsX1_would (wsV RX1 48 RX1 yX1_no wsX1_no) := goodIn_app (goodIn_of _ (by decide +kernel)) ggX1_would_X1_no
theorem dX1_would_0 : decode cX1_would 0 = .ok (.aload_n 0, 1) := by decide +kernel
theorem dX1_would_1 : decode cX1_would 1 = .ok (.iconst 0, 1) := by decide +kernel
theorem dX1_would_2 : decode cX1_would 2 = .ok (.putfield 29, 3) := by decide +kernel
theorem dX1_would_5 : decode cX1_would 5 = .ok (.iload_n 1, 1) := by decide +kernel
theorem dX1_would_6 : decode cX1_would 6 = .ok (.invokestatic 79, 3) := by decide +kernel
theorem dX1_would_9 : decode cX1_would 9 = .ok (.ifCond .eq 28, 3) := by decide +kernel
theorem dX1_would_12 : decode cX1_would 12 = .ok (.iload_n 2, 1) := by decide +kernel
theorem dX1_would_13 : decode cX1_would 13 = .ok (.invokestatic 79, 3) := by decide +kernel
theorem dX1_would_16 : decode cX1_would 16 = .ok (.ifCond .eq 21, 3) := by decide +kernel
theorem dX1_would_19 : decode cX1_would 19 = .ok (.aload_n 0, 1) := by decide +kernel
theorem dX1_would_20 : decode cX1_would 20 = .ok (.iload_n 3, 1) := by decide +kernel
theorem dX1_would_21 : decode cX1_would 21 = .ok (.invokevirtual 82, 3) := by decide +kernel
theorem dX1_would_24 : decode cX1_would 24 = .ok (.ifCond .eq 13, 3) := by decide +kernel
theorem dX1_would_27 : decode cX1_would 27 = .ok (.aload_n 0, 1) := by decide +kernel
theorem dX1_would_28 : decode cX1_would 28 = .ok (.iload_n 1, 1) := by decide +kernel
theorem dX1_would_29 : decode cX1_would 29 = .ok (.iload_n 2, 1) := by decide +kernel
theorem dX1_would_30 : decode cX1_would 30 = .ok (.iload_n 3, 1) := by decide +kernel
theorem dX1_would_31 : decode cX1_would 31 = .ok (.invokevirtual 102, 3) := by decide +kernel
theorem dX1_would_34 : decode cX1_would 34 = .ok (.goto 8, 3) := by decide +kernel
theorem dX1_would_37 : decode cX1_would 37 = .ok (.aload_n 0, 1) := by decide +kernel
theorem dX1_would_38 : decode cX1_would 38 = .ok (.iconst 1, 1) := by decide +kernel
theorem dX1_would_39 : decode cX1_would 39 = .ok (.invokevirtual 48, 3) := by decide +kernel
theorem dX1_would_42 : decode cX1_would 42 = .ok (.ireturn, 1) := by decide +kernel
set_option maxRecDepth 20000 in
theorem ggX1_comesBy_X1_isMoved : GoodIn wsX1_comesBy wsX1_isMoved := goodIn_r _ [6, 1, 7, 8, 9, 5, 10, 11, 12, 13, 14, 15, 16, 17, 18] (by decide +kernel) (by decide +kernel)
set_option maxRecDepth 20000 in
theorem gX1_comesBy_X1_isMoved : GoodIn wsX1_comesBy (wsV RX1 109 RX1 yX1_isMoved wsX1_isMoved) := goodIn_app (goodIn_of _ (by decide +kernel)) ggX1_comesBy_X1_isMoved
theorem dX1_comesBy_0 : decode cX1_comesBy 0 = .ok (.iconst 0, 1) := by decide +kernel
theorem dX1_comesBy_1 : decode cX1_comesBy 1 = .ok (.istore_n 3, 1) := by decide +kernel
theorem dX1_comesBy_2 : decode cX1_comesBy 2 = .ok (.iload_n 3, 1) := by decide +kernel
theorem dX1_comesBy_3 : decode cX1_comesBy 3 = .ok (.aload_n 0, 1) := by decide +kernel
theorem dX1_comesBy_4 : decode cX1_comesBy 4 = .ok (.getfield 7, 3) := by decide +kernel
theorem dX1_comesBy_7 : decode cX1_comesBy 7 = .ok (.if_icmp .ge 21, 3) := by decide +kernel
theorem dX1_comesBy_10 : decode cX1_comesBy 10 = .ok (.aload_n 0, 1) := by decide +kernel
theorem dX1_comesBy_11 : decode cX1_comesBy 11 = .ok (.iload_n 1, 1) := by decide +kernel
theorem dX1_comesBy_12 : decode cX1_comesBy 12 = .ok (.iload_n 2, 1) := by decide +kernel
theorem dX1_comesBy_13 : decode cX1_comesBy 13 = .ok (.iload_n 3, 1) := by decide +kernel
theorem dX1_comesBy_14 : decode cX1_comesBy 14 = .ok (.invokevirtual 109, 3) := by decide +kernel
theorem dX1_comesBy_17 : decode cX1_comesBy 17 = .ok (.ifCond .eq 5, 3) := by decide +kernel
theorem dX1_comesBy_20 : decode cX1_comesBy 20 = .ok (.iload_n 3, 1) := by decide +kernel
theorem dX1_comesBy_21 : decode cX1_comesBy 21 = .ok (.ireturn, 1) := by decide +kernel
theorem dX1_comesBy_22 : decode cX1_comesBy 22 = .ok (.iinc 3 1, 3) := by decide +kernel
theorem dX1_comesBy_25 : decode cX1_comesBy 25 = .ok (.goto (-23), 3) := by decide +kernel
theorem dX1_comesBy_28 : decode cX1_comesBy 28 = .ok (.iconst (-1), 1) := by decide +kernel
theorem dX1_comesBy_29 : decode cX1_comesBy 29 = .ok (.ireturn, 1) := by decide +kernel
set_option maxRecDepth 20000 in
theorem ggX1_comes_X1_isRow : GoodIn wsX1_comes wsX1_isRow := goodIn_r _ [5, 6, 7, 4, 8] (by decide +kernel) (by decide +kernel)
set_option maxRecDepth 20000 in
theorem gX1_comes_X1_isRow : GoodIn wsX1_comes (va_wsS RX1 79 yX1_isRow wsX1_isRow) := goodIn_app (goodIn_of _ (by decide +kernel)) ggX1_comes_X1_isRow
set_option maxRecDepth 20000 in
theorem ggX1_comes_X1_comesBy : GoodIn wsX1_comes wsX1_comesBy := goodIn_r _ [12, 13, 14, 15, 16, 4, 17, 18, 19, 20, 21, 22, 27, 28, 29, 30, 31, 32, 33] (by decide +kernel) (by decide +kernel)
set_option maxRecDepth 20000 in
theorem gX1_comes_X1_comesBy : GoodIn wsX1_comes (wsV RX1 123 RX1 yX1_comesBy wsX1_comesBy) := goodIn_app (goodIn_of _ (by decide +kernel)) ggX1_comes_X1_comesBy
set_option maxRecDepth 20000 in
theorem ggX1_comes_X1_no : GoodIn wsX1_comes wsX1_no := goodIn_r _ [26, 1, 27, 28, 29, 30, 31, 32, 33] (by decide +kernel) (by decide +kernel)
set_option maxRecDepth 20000 in
theorem gX1_comes_X1_no : GoodIn wsX1_comes (wsV RX1 48 RX1 yX1_no wsX1_no) := goodIn_app (goodIn_of _ (by decide +kernel)) ggX1_comes_X1_no
theorem dX1_comes_0 : decode cX1_comes 0 = .ok (.aload_n 0, 1) := by decide +kernel
theorem dX1_comes_1 : decode cX1_comes 1 = .ok (.iconst 0, 1) := by decide +kernel
theorem dX1_comes_2 : decode cX1_comes 2 = .ok (.putfield 29, 3) := by decide +kernel
theorem dX1_comes_5 : decode cX1_comes 5 = .ok (.iload_n 1, 1) := by decide +kernel
theorem dX1_comes_6 : decode cX1_comes 6 = .ok (.invokestatic 79, 3) := by decide +kernel
theorem dX1_comes_9 : decode cX1_comes 9 = .ok (.ifCond .eq 19, 3) := by decide +kernel
theorem dX1_comes_12 : decode cX1_comes 12 = .ok (.iload_n 2, 1) := by decide +kernel
theorem dX1_comes_13 : decode cX1_comes 13 = .ok (.invokestatic 79, 3) := by decide +kernel
theorem dX1_comes_16 : decode cX1_comes 16 = .ok (.ifCond .eq 12, 3) := by decide +kernel
theorem dX1_comes_19 : decode cX1_comes 19 = .ok (.aload_n 0, 1) := by decide +kernel
theorem dX1_comes_20 : decode cX1_comes 20 = .ok (.iload_n 1, 1) := by decide +kernel
theorem dX1_comes_21 : decode cX1_comes 21 = .ok (.iload_n 2, 1) := by decide +kernel
theorem dX1_comes_22 : decode cX1_comes 22 = .ok (.invokevirtual 123, 3) := by decide +kernel
theorem dX1_comes_25 : decode cX1_comes 25 = .ok (.goto 8, 3) := by decide +kernel
theorem dX1_comes_28 : decode cX1_comes 28 = .ok (.aload_n 0, 1) := by decide +kernel
theorem dX1_comes_29 : decode cX1_comes 29 = .ok (.iconst 1, 1) := by decide +kernel
theorem dX1_comes_30 : decode cX1_comes 30 = .ok (.invokevirtual 48, 3) := by decide +kernel
theorem dX1_comes_33 : decode cX1_comes 33 = .ok (.ireturn, 1) := by decide +kernel
set_option maxRecDepth 20000 in
theorem ggX1_together_X1_its : GoodIn wsX1_together wsX1_its := goodIn_r _ [6, 7, 17, 18, 19, 20, 21, 22, 23] (by decide +kernel) (by decide +kernel)
set_option maxRecDepth 20000 in
theorem gX1_together_X1_its : GoodIn wsX1_together (wsV RX1 70 RX1 yX1_its wsX1_its) := goodIn_app (goodIn_of _ (by decide +kernel)) ggX1_together_X1_its
set_option maxRecDepth 20000 in
theorem ggX1_together_X1_by : GoodIn wsX1_together wsX1_by := goodIn_r _ [11, 12, 17, 18, 19, 20, 21, 22, 23] (by decide +kernel) (by decide +kernel)
set_option maxRecDepth 20000 in
theorem gX1_together_X1_by : GoodIn wsX1_together (wsV RX1 36 RX1 yX1_by wsX1_by) := goodIn_app (goodIn_of _ (by decide +kernel)) ggX1_together_X1_by
set_option maxRecDepth 20000 in
theorem ggX1_together_X1_plus : GoodIn wsX1_together wsX1_plus := goodIn_r _ [16, 12, 17, 18, 19, 20, 21, 22, 23] (by decide +kernel) (by decide +kernel)
set_option maxRecDepth 20000 in
theorem gX1_together_X1_plus : GoodIn wsX1_together (wsV RX1 73 RX1 yX1_plus wsX1_plus) := goodIn_app (goodIn_of _ (by decide +kernel)) ggX1_together_X1_plus
theorem dX1_together_0 : decode cX1_together 0 = .ok (.iconst 0, 1) := by decide +kernel
theorem dX1_together_1 : decode cX1_together 1 = .ok (.istore 4, 2) := by decide +kernel
theorem dX1_together_3 : decode cX1_together 3 = .ok (.iconst 0, 1) := by decide +kernel
theorem dX1_together_4 : decode cX1_together 4 = .ok (.istore 5, 2) := by decide +kernel
theorem dX1_together_6 : decode cX1_together 6 = .ok (.iload 5, 2) := by decide +kernel
theorem dX1_together_8 : decode cX1_together 8 = .ok (.aload_n 0, 1) := by decide +kernel
theorem dX1_together_9 : decode cX1_together 9 = .ok (.getfield 7, 3) := by decide +kernel
theorem dX1_together_12 : decode cX1_together 12 = .ok (.if_icmp .ge 42, 3) := by decide +kernel
theorem dX1_together_15 : decode cX1_together 15 = .ok (.aload_n 0, 1) := by decide +kernel
theorem dX1_together_16 : decode cX1_together 16 = .ok (.iload 4, 2) := by decide +kernel
theorem dX1_together_18 : decode cX1_together 18 = .ok (.aload_n 0, 1) := by decide +kernel
theorem dX1_together_19 : decode cX1_together 19 = .ok (.aload_n 0, 1) := by decide +kernel
theorem dX1_together_20 : decode cX1_together 20 = .ok (.iload_n 1, 1) := by decide +kernel
theorem dX1_together_21 : decode cX1_together 21 = .ok (.iload 5, 2) := by decide +kernel
theorem dX1_together_23 : decode cX1_together 23 = .ok (.invokevirtual 70, 3) := by decide +kernel
theorem dX1_together_26 : decode cX1_together 26 = .ok (.aload_n 0, 1) := by decide +kernel
theorem dX1_together_27 : decode cX1_together 27 = .ok (.iload_n 2, 1) := by decide +kernel
theorem dX1_together_28 : decode cX1_together 28 = .ok (.iload 5, 2) := by decide +kernel
theorem dX1_together_30 : decode cX1_together 30 = .ok (.iload_n 3, 1) := by decide +kernel
theorem dX1_together_31 : decode cX1_together 31 = .ok (.iadd, 1) := by decide +kernel
theorem dX1_together_32 : decode cX1_together 32 = .ok (.aload_n 0, 1) := by decide +kernel
theorem dX1_together_33 : decode cX1_together 33 = .ok (.getfield 7, 3) := by decide +kernel
theorem dX1_together_36 : decode cX1_together 36 = .ok (.irem, 1) := by decide +kernel
theorem dX1_together_37 : decode cX1_together 37 = .ok (.invokevirtual 70, 3) := by decide +kernel
theorem dX1_together_40 : decode cX1_together 40 = .ok (.invokevirtual 36, 3) := by decide +kernel
theorem dX1_together_43 : decode cX1_together 43 = .ok (.invokevirtual 73, 3) := by decide +kernel
theorem dX1_together_46 : decode cX1_together 46 = .ok (.istore 4, 2) := by decide +kernel
theorem dX1_together_48 : decode cX1_together 48 = .ok (.iinc 5 1, 3) := by decide +kernel
theorem dX1_together_51 : decode cX1_together 51 = .ok (.goto (-45), 3) := by decide +kernel
theorem dX1_together_54 : decode cX1_together 54 = .ok (.iload 4, 2) := by decide +kernel
theorem dX1_together_56 : decode cX1_together 56 = .ok (.ireturn, 1) := by decide +kernel
set_option maxRecDepth 20000 in
theorem ggX1_advise_X1_isRow : GoodIn wsX1_advise wsX1_isRow := goodIn_r _ [6, 7, 8, 5, 9] (by decide +kernel) (by decide +kernel)
set_option maxRecDepth 20000 in
theorem gX1_advise_X1_isRow : GoodIn wsX1_advise (va_wsS RX1 79 yX1_isRow wsX1_isRow) := goodIn_app (goodIn_of _ (by decide +kernel)) ggX1_advise_X1_isRow
set_option maxRecDepth 20000 in
theorem ggX1_advise_X1_no : GoodIn wsX1_advise wsX1_no := goodIn_r _ [13, 1, 32, 33, 34, 35, 36, 37, 38] (by decide +kernel) (by decide +kernel)
set_option maxRecDepth 20000 in
theorem gX1_advise_X1_no : GoodIn wsX1_advise (wsV RX1 48 RX1 yX1_no wsX1_no) := goodIn_app (goodIn_of _ (by decide +kernel)) ggX1_advise_X1_no
set_option maxRecDepth 20000 in
theorem ggX1_advise_X1_together : GoodIn wsX1_advise wsX1_together := goodIn_r _ [17, 2, 18, 19, 20, 5, 21, 22, 23, 24, 25, 26, 27, 28, 29, 30, 31, 32, 33, 34, 35, 36, 37, 38] (by decide +kernel) (by decide +kernel)
set_option maxRecDepth 20000 in
theorem gX1_advise_X1_together : GoodIn wsX1_advise (wsV RX1 126 RX1 yX1_together wsX1_together) := goodIn_app (goodIn_of _ (by decide +kernel)) ggX1_advise_X1_together
theorem dX1_advise_0 : decode cX1_advise 0 = .ok (.aload_n 0, 1) := by decide +kernel
theorem dX1_advise_1 : decode cX1_advise 1 = .ok (.iconst 0, 1) := by decide +kernel
theorem dX1_advise_2 : decode cX1_advise 2 = .ok (.putfield 29, 3) := by decide +kernel
theorem dX1_advise_5 : decode cX1_advise 5 = .ok (.iload_n 1, 1) := by decide +kernel
theorem dX1_advise_6 : decode cX1_advise 6 = .ok (.invokestatic 79, 3) := by decide +kernel
theorem dX1_advise_9 : decode cX1_advise 9 = .ok (.ifCond .eq 10, 3) := by decide +kernel
theorem dX1_advise_12 : decode cX1_advise 12 = .ok (.iload_n 2, 1) := by decide +kernel
theorem dX1_advise_13 : decode cX1_advise 13 = .ok (.invokestatic 79, 3) := by decide +kernel
theorem dX1_advise_16 : decode cX1_advise 16 = .ok (.ifCond .ne 9, 3) := by decide +kernel
theorem dX1_advise_19 : decode cX1_advise 19 = .ok (.aload_n 0, 1) := by decide +kernel
theorem dX1_advise_20 : decode cX1_advise 20 = .ok (.iconst 1, 1) := by decide +kernel
theorem dX1_advise_21 : decode cX1_advise 21 = .ok (.invokevirtual 48, 3) := by decide +kernel
theorem dX1_advise_24 : decode cX1_advise 24 = .ok (.ireturn, 1) := by decide +kernel
theorem dX1_advise_25 : decode cX1_advise 25 = .ok (.iconst 0, 1) := by decide +kernel
theorem dX1_advise_26 : decode cX1_advise 26 = .ok (.istore_n 3, 1) := by decide +kernel
theorem dX1_advise_27 : decode cX1_advise 27 = .ok (.iconst 1, 1) := by decide +kernel
theorem dX1_advise_28 : decode cX1_advise 28 = .ok (.istore 4, 2) := by decide +kernel
theorem dX1_advise_30 : decode cX1_advise 30 = .ok (.iload 4, 2) := by decide +kernel
theorem dX1_advise_32 : decode cX1_advise 32 = .ok (.aload_n 0, 1) := by decide +kernel
theorem dX1_advise_33 : decode cX1_advise 33 = .ok (.getfield 7, 3) := by decide +kernel
theorem dX1_advise_36 : decode cX1_advise 36 = .ok (.if_icmp .ge 30, 3) := by decide +kernel
theorem dX1_advise_39 : decode cX1_advise 39 = .ok (.aload_n 0, 1) := by decide +kernel
theorem dX1_advise_40 : decode cX1_advise 40 = .ok (.iload_n 1, 1) := by decide +kernel
theorem dX1_advise_41 : decode cX1_advise 41 = .ok (.iload_n 2, 1) := by decide +kernel
theorem dX1_advise_42 : decode cX1_advise 42 = .ok (.iload 4, 2) := by decide +kernel
theorem dX1_advise_44 : decode cX1_advise 44 = .ok (.invokevirtual 126, 3) := by decide +kernel
theorem dX1_advise_47 : decode cX1_advise 47 = .ok (.aload_n 0, 1) := by decide +kernel
theorem dX1_advise_48 : decode cX1_advise 48 = .ok (.iload_n 1, 1) := by decide +kernel
theorem dX1_advise_49 : decode cX1_advise 49 = .ok (.iload_n 2, 1) := by decide +kernel
theorem dX1_advise_50 : decode cX1_advise 50 = .ok (.iload_n 3, 1) := by decide +kernel
theorem dX1_advise_51 : decode cX1_advise 51 = .ok (.invokevirtual 126, 3) := by decide +kernel
theorem dX1_advise_54 : decode cX1_advise 54 = .ok (.if_icmp .le 6, 3) := by decide +kernel
theorem dX1_advise_57 : decode cX1_advise 57 = .ok (.iload 4, 2) := by decide +kernel
theorem dX1_advise_59 : decode cX1_advise 59 = .ok (.istore_n 3, 1) := by decide +kernel
theorem dX1_advise_60 : decode cX1_advise 60 = .ok (.iinc 4 1, 3) := by decide +kernel
theorem dX1_advise_63 : decode cX1_advise 63 = .ok (.goto (-33), 3) := by decide +kernel
theorem dX1_advise_66 : decode cX1_advise 66 = .ok (.iload_n 3, 1) := by decide +kernel
theorem dX1_advise_67 : decode cX1_advise 67 = .ok (.ireturn, 1) := by decide +kernel
set_option maxRecDepth 20000 in
theorem ggX1_areTones_X1_makeTones : GoodIn wsX1_areTones wsX1_makeTones := goodIn_r _ [6, 7, 8, 9, 10, 11, 5, 12, 13, 14, 15, 16, 17, 18, 19, 20, 21, 22, 23, 24, 25, 26, 31, 32, 33, 34, 35, 36, 37] (by decide +kernel) (by decide +kernel)
set_option maxRecDepth 20000 in
theorem gX1_areTones_X1_makeTones : GoodIn wsX1_areTones (wsV RX1 92 RX1 yX1_makeTones wsX1_makeTones) := goodIn_app (goodIn_of _ (by decide +kernel)) ggX1_areTones_X1_makeTones
set_option maxRecDepth 20000 in
theorem ggX1_areTones_X1_changes : GoodIn wsX1_areTones wsX1_changes := goodIn_r _ [30, 7, 8, 18, 19, 20, 5, 21, 22, 31, 32, 33, 34, 35, 36, 37] (by decide +kernel) (by decide +kernel)
set_option maxRecDepth 20000 in
theorem gX1_areTones_X1_changes : GoodIn wsX1_areTones (wsV RX1 85 RX1 yX1_changes wsX1_changes) := goodIn_app (goodIn_of _ (by decide +kernel)) ggX1_areTones_X1_changes
theorem dX1_areTones_0 : decode cX1_areTones 0 = .ok (.aload_n 0, 1) := by decide +kernel
theorem dX1_areTones_1 : decode cX1_areTones 1 = .ok (.iload_n 1, 1) := by decide +kernel
theorem dX1_areTones_2 : decode cX1_areTones 2 = .ok (.aload_n 0, 1) := by decide +kernel
theorem dX1_areTones_3 : decode cX1_areTones 3 = .ok (.getfield 16, 3) := by decide +kernel
theorem dX1_areTones_6 : decode cX1_areTones 6 = .ok (.iconst 1, 1) := by decide +kernel
theorem dX1_areTones_7 : decode cX1_areTones 7 = .ok (.invokevirtual 92, 3) := by decide +kernel
theorem dX1_areTones_10 : decode cX1_areTones 10 = .ok (.aload_n 0, 1) := by decide +kernel
theorem dX1_areTones_11 : decode cX1_areTones 11 = .ok (.iload_n 2, 1) := by decide +kernel
theorem dX1_areTones_12 : decode cX1_areTones 12 = .ok (.invokevirtual 85, 3) := by decide +kernel
theorem dX1_areTones_15 : decode cX1_areTones 15 = .ok (.ifCond .ne 7, 3) := by decide +kernel
theorem dX1_areTones_18 : decode cX1_areTones 18 = .ok (.iconst 1, 1) := by decide +kernel
theorem dX1_areTones_19 : decode cX1_areTones 19 = .ok (.goto 4, 3) := by decide +kernel
theorem dX1_areTones_22 : decode cX1_areTones 22 = .ok (.iconst 0, 1) := by decide +kernel
theorem dX1_areTones_23 : decode cX1_areTones 23 = .ok (.ireturn, 1) := by decide +kernel
set_option maxRecDepth 20000 in
theorem ggX1_tones_X1_isRow : GoodIn wsX1_tones wsX1_isRow := goodIn_r _ [5, 6, 7, 4, 8] (by decide +kernel) (by decide +kernel)
set_option maxRecDepth 20000 in
theorem gX1_tones_X1_isRow : GoodIn wsX1_tones (va_wsS RX1 79 yX1_isRow wsX1_isRow) := goodIn_app (goodIn_of _ (by decide +kernel)) ggX1_tones_X1_isRow
set_option maxRecDepth 20000 in
theorem ggX1_tones_X1_areTones : GoodIn wsX1_tones wsX1_areTones := goodIn_r _ [12, 13, 14, 15, 16, 4, 17, 18, 19, 20, 21, 22, 23, 24, 25, 26, 27, 28, 29, 30, 31, 32, 33, 34, 35, 36, 37, 38, 39, 40, 41, 42, 43, 44, 45, 46, 47, 48] (by decide +kernel) (by decide +kernel)
set_option maxRecDepth 20000 in
theorem gX1_tones_X1_areTones : GoodIn wsX1_tones (wsV RX1 129 RX1 yX1_areTones wsX1_areTones) := goodIn_app (goodIn_of _ (by decide +kernel)) ggX1_tones_X1_areTones
theorem dX1_tones_0 : decode cX1_tones 0 = .ok (.aload_n 0, 1) := by decide +kernel
theorem dX1_tones_1 : decode cX1_tones 1 = .ok (.iload_n 1, 1) := by decide +kernel
theorem dX1_tones_2 : decode cX1_tones 2 = .ok (.invokestatic 79, 3) := by decide +kernel
theorem dX1_tones_5 : decode cX1_tones 5 = .ok (.ifCond .eq 14, 3) := by decide +kernel
theorem dX1_tones_8 : decode cX1_tones 8 = .ok (.iload_n 2, 1) := by decide +kernel
theorem dX1_tones_9 : decode cX1_tones 9 = .ok (.invokestatic 79, 3) := by decide +kernel
theorem dX1_tones_12 : decode cX1_tones 12 = .ok (.ifCond .eq 7, 3) := by decide +kernel
theorem dX1_tones_15 : decode cX1_tones 15 = .ok (.iconst 0, 1) := by decide +kernel
theorem dX1_tones_16 : decode cX1_tones 16 = .ok (.goto 4, 3) := by decide +kernel
theorem dX1_tones_19 : decode cX1_tones 19 = .ok (.iconst 1, 1) := by decide +kernel
theorem dX1_tones_20 : decode cX1_tones 20 = .ok (.putfield 29, 3) := by decide +kernel
theorem dX1_tones_23 : decode cX1_tones 23 = .ok (.aload_n 0, 1) := by decide +kernel
theorem dX1_tones_24 : decode cX1_tones 24 = .ok (.getfield 29, 3) := by decide +kernel
theorem dX1_tones_27 : decode cX1_tones 27 = .ok (.ifCond .ne 16, 3) := by decide +kernel
theorem dX1_tones_30 : decode cX1_tones 30 = .ok (.aload_n 0, 1) := by decide +kernel
theorem dX1_tones_31 : decode cX1_tones 31 = .ok (.iload_n 1, 1) := by decide +kernel
theorem dX1_tones_32 : decode cX1_tones 32 = .ok (.iload_n 2, 1) := by decide +kernel
theorem dX1_tones_33 : decode cX1_tones 33 = .ok (.invokevirtual 129, 3) := by decide +kernel
theorem dX1_tones_36 : decode cX1_tones 36 = .ok (.ifCond .eq 7, 3) := by decide +kernel
theorem dX1_tones_39 : decode cX1_tones 39 = .ok (.iconst 1, 1) := by decide +kernel
theorem dX1_tones_40 : decode cX1_tones 40 = .ok (.goto 4, 3) := by decide +kernel
theorem dX1_tones_43 : decode cX1_tones 43 = .ok (.iconst 0, 1) := by decide +kernel
theorem dX1_tones_44 : decode cX1_tones 44 = .ok (.ireturn, 1) := by decide +kernel
set_option maxRecDepth 20000 in
theorem ggX1_mean_X1_isRow : GoodIn wsX1_mean wsX1_isRow := goodIn_r _ [6, 7, 8, 5, 9] (by decide +kernel) (by decide +kernel)
set_option maxRecDepth 20000 in
theorem gX1_mean_X1_isRow : GoodIn wsX1_mean (va_wsS RX1 79 yX1_isRow wsX1_isRow) := goodIn_app (goodIn_of _ (by decide +kernel)) ggX1_mean_X1_isRow
set_option maxRecDepth 20000 in
theorem ggX1_mean_X1_its : GoodIn wsX1_mean wsX1_its := goodIn_r _ [13, 14, 15, 16, 17, 18, 19, 20, 21] (by decide +kernel) (by decide +kernel)
set_option maxRecDepth 20000 in
theorem gX1_mean_X1_its : GoodIn wsX1_mean (wsV RX1 70 RX1 yX1_its wsX1_its) := goodIn_app (goodIn_of _ (by decide +kernel)) ggX1_mean_X1_its
theorem dX1_mean_0 : decode cX1_mean 0 = .ok (.aload_n 0, 1) := by decide +kernel
theorem dX1_mean_1 : decode cX1_mean 1 = .ok (.iload_n 1, 1) := by decide +kernel
theorem dX1_mean_2 : decode cX1_mean 2 = .ok (.invokestatic 79, 3) := by decide +kernel
theorem dX1_mean_5 : decode cX1_mean 5 = .ok (.ifCond .eq 7, 3) := by decide +kernel
theorem dX1_mean_8 : decode cX1_mean 8 = .ok (.iconst 0, 1) := by decide +kernel
theorem dX1_mean_9 : decode cX1_mean 9 = .ok (.goto 4, 3) := by decide +kernel
theorem dX1_mean_12 : decode cX1_mean 12 = .ok (.iconst 1, 1) := by decide +kernel
theorem dX1_mean_13 : decode cX1_mean 13 = .ok (.putfield 29, 3) := by decide +kernel
theorem dX1_mean_16 : decode cX1_mean 16 = .ok (.iconst 0, 1) := by decide +kernel
theorem dX1_mean_17 : decode cX1_mean 17 = .ok (.istore_n 2, 1) := by decide +kernel
theorem dX1_mean_18 : decode cX1_mean 18 = .ok (.iconst 0, 1) := by decide +kernel
theorem dX1_mean_19 : decode cX1_mean 19 = .ok (.istore_n 3, 1) := by decide +kernel
theorem dX1_mean_20 : decode cX1_mean 20 = .ok (.iload_n 3, 1) := by decide +kernel
theorem dX1_mean_21 : decode cX1_mean 21 = .ok (.aload_n 0, 1) := by decide +kernel
theorem dX1_mean_22 : decode cX1_mean 22 = .ok (.getfield 7, 3) := by decide +kernel
theorem dX1_mean_25 : decode cX1_mean 25 = .ok (.if_icmp .ge 25, 3) := by decide +kernel
theorem dX1_mean_28 : decode cX1_mean 28 = .ok (.aload_n 0, 1) := by decide +kernel
theorem dX1_mean_29 : decode cX1_mean 29 = .ok (.getfield 29, 3) := by decide +kernel
theorem dX1_mean_32 : decode cX1_mean 32 = .ok (.ifCond .ne 18, 3) := by decide +kernel
theorem dX1_mean_35 : decode cX1_mean 35 = .ok (.iload_n 2, 1) := by decide +kernel
theorem dX1_mean_36 : decode cX1_mean 36 = .ok (.aload_n 0, 1) := by decide +kernel
theorem dX1_mean_37 : decode cX1_mean 37 = .ok (.iload_n 1, 1) := by decide +kernel
theorem dX1_mean_38 : decode cX1_mean 38 = .ok (.iload_n 3, 1) := by decide +kernel
theorem dX1_mean_39 : decode cX1_mean 39 = .ok (.invokevirtual 70, 3) := by decide +kernel
theorem dX1_mean_42 : decode cX1_mean 42 = .ok (.iadd, 1) := by decide +kernel
theorem dX1_mean_43 : decode cX1_mean 43 = .ok (.istore_n 2, 1) := by decide +kernel
theorem dX1_mean_44 : decode cX1_mean 44 = .ok (.iinc 3 1, 3) := by decide +kernel
theorem dX1_mean_47 : decode cX1_mean 47 = .ok (.goto (-27), 3) := by decide +kernel
theorem dX1_mean_50 : decode cX1_mean 50 = .ok (.iload_n 2, 1) := by decide +kernel
theorem dX1_mean_51 : decode cX1_mean 51 = .ok (.i2d, 1) := by decide +kernel
theorem dX1_mean_52 : decode cX1_mean 52 = .ok (.aload_n 0, 1) := by decide +kernel
theorem dX1_mean_53 : decode cX1_mean 53 = .ok (.getfield 7, 3) := by decide +kernel
theorem dX1_mean_56 : decode cX1_mean 56 = .ok (.i2d, 1) := by decide +kernel
theorem dX1_mean_57 : decode cX1_mean 57 = .ok (.ddiv, 1) := by decide +kernel
theorem dX1_mean_58 : decode cX1_mean 58 = .ok (.dreturn, 1) := by decide +kernel
set_option maxRecDepth 20000 in
theorem ggX1_digest_X1_counted : GoodIn wsX1_digest wsX1_counted := goodIn_r _ [11, 4, 12, 5, 13, 14, 15, 16, 10, 17, 55, 56, 57, 58, 59, 60, 61] (by decide +kernel) (by decide +kernel)
set_option maxRecDepth 20000 in
theorem gX1_digest_X1_counted : GoodIn wsX1_digest (wsV RX1 120 RX1 yX1_counted wsX1_counted) := goodIn_app (goodIn_of _ (by decide +kernel)) ggX1_digest_X1_counted
set_option maxRecDepth 20000 in
theorem ggX1_digest_X1_its : GoodIn wsX1_digest wsX1_its := goodIn_r _ [21, 22, 55, 56, 57, 58, 59, 60, 61] (by decide +kernel) (by decide +kernel)
set_option maxRecDepth 20000 in
theorem gX1_digest_X1_its : GoodIn wsX1_digest (wsV RX1 70 RX1 yX1_its wsX1_its) := goodIn_app (goodIn_of _ (by decide +kernel)) ggX1_digest_X1_its
set_option maxRecDepth 20000 in
theorem ggX1_digest_X1_aboutTold : GoodIn wsX1_digest wsX1_aboutTold := goodIn_r _ [26, 4, 27, 28, 29, 30, 31, 32, 33, 10, 34, 35, 36, 37, 38, 12, 18, 19, 20, 21, 22, 39, 40, 41, 42, 43, 44, 45, 46, 47, 48, 49, 50, 55, 56, 57, 58, 59, 60, 61] (by decide +kernel) (by decide +kernel)
set_option maxRecDepth 20000 in
theorem gX1_digest_X1_aboutTold : GoodIn wsX1_digest (wsV RX1 117 RX1 yX1_aboutTold wsX1_aboutTold) := goodIn_app (goodIn_of _ (by decide +kernel)) ggX1_digest_X1_aboutTold
set_option maxRecDepth 20000 in
theorem ggX1_digest_X1_makeTones : GoodIn wsX1_digest wsX1_makeTones := goodIn_r _ [54, 4, 6, 31, 32, 33, 10, 34, 35, 36, 37, 38, 12, 18, 19, 20, 21, 22, 39, 40, 41, 42, 55, 56, 57, 58, 59, 60, 61] (by decide +kernel) (by decide +kernel)
set_option maxRecDepth 20000 in
theorem gX1_digest_X1_makeTones : GoodIn wsX1_digest (wsV RX1 92 RX1 yX1_makeTones wsX1_makeTones) := goodIn_app (goodIn_of _ (by decide +kernel)) ggX1_digest_X1_makeTones
theorem dX1_digest_0 : decode cX1_digest 0 = .ok (.aload_n 0, 1) := by decide +kernel
theorem dX1_digest_1 : decode cX1_digest 1 = .ok (.iconst 0, 1) := by decide +kernel
theorem dX1_digest_2 : decode cX1_digest 2 = .ok (.putfield 29, 3) := by decide +kernel
theorem dX1_digest_5 : decode cX1_digest 5 = .ok (.ldc2_w 133, 3) := by decide +kernel
theorem dX1_digest_8 : decode cX1_digest 8 = .ok (.lstore_n 1, 1) := by decide +kernel
theorem dX1_digest_9 : decode cX1_digest 9 = .ok (.iconst 0, 1) := by decide +kernel
theorem dX1_digest_10 : decode cX1_digest 10 = .ok (.istore_n 3, 1) := by decide +kernel
theorem dX1_digest_11 : decode cX1_digest 11 = .ok (.iload_n 3, 1) := by decide +kernel
theorem dX1_digest_12 : decode cX1_digest 12 = .ok (.iconst 5, 1) := by decide +kernel
theorem dX1_digest_13 : decode cX1_digest 13 = .ok (.if_icmp .gt 22, 3) := by decide +kernel
theorem dX1_digest_16 : decode cX1_digest 16 = .ok (.lload_n 1, 1) := by decide +kernel
theorem dX1_digest_17 : decode cX1_digest 17 = .ok (.ldc2_w 135, 3) := by decide +kernel
theorem dX1_digest_20 : decode cX1_digest 20 = .ok (.lmul, 1) := by decide +kernel
theorem dX1_digest_21 : decode cX1_digest 21 = .ok (.aload_n 0, 1) := by decide +kernel
theorem dX1_digest_22 : decode cX1_digest 22 = .ok (.iload_n 3, 1) := by decide +kernel
theorem dX1_digest_23 : decode cX1_digest 23 = .ok (.invokevirtual 120, 3) := by decide +kernel
theorem dX1_digest_26 : decode cX1_digest 26 = .ok (.i2l, 1) := by decide +kernel
theorem dX1_digest_27 : decode cX1_digest 27 = .ok (.ladd, 1) := by decide +kernel
theorem dX1_digest_28 : decode cX1_digest 28 = .ok (.lstore_n 1, 1) := by decide +kernel
theorem dX1_digest_29 : decode cX1_digest 29 = .ok (.iinc 3 1, 3) := by decide +kernel
theorem dX1_digest_32 : decode cX1_digest 32 = .ok (.goto (-21), 3) := by decide +kernel
theorem dX1_digest_35 : decode cX1_digest 35 = .ok (.iconst 0, 1) := by decide +kernel
theorem dX1_digest_36 : decode cX1_digest 36 = .ok (.istore_n 3, 1) := by decide +kernel
theorem dX1_digest_37 : decode cX1_digest 37 = .ok (.iload_n 3, 1) := by decide +kernel
theorem dX1_digest_38 : decode cX1_digest 38 = .ok (.iconst 4, 1) := by decide +kernel
theorem dX1_digest_39 : decode cX1_digest 39 = .ok (.if_icmp .ge 115, 3) := by decide +kernel
theorem dX1_digest_42 : decode cX1_digest 42 = .ok (.iconst 0, 1) := by decide +kernel
theorem dX1_digest_43 : decode cX1_digest 43 = .ok (.istore 4, 2) := by decide +kernel
theorem dX1_digest_45 : decode cX1_digest 45 = .ok (.iload 4, 2) := by decide +kernel
theorem dX1_digest_47 : decode cX1_digest 47 = .ok (.aload_n 0, 1) := by decide +kernel
theorem dX1_digest_48 : decode cX1_digest 48 = .ok (.getfield 7, 3) := by decide +kernel
theorem dX1_digest_51 : decode cX1_digest 51 = .ok (.if_icmp .ge 24, 3) := by decide +kernel
theorem dX1_digest_54 : decode cX1_digest 54 = .ok (.lload_n 1, 1) := by decide +kernel
theorem dX1_digest_55 : decode cX1_digest 55 = .ok (.ldc2_w 135, 3) := by decide +kernel
theorem dX1_digest_58 : decode cX1_digest 58 = .ok (.lmul, 1) := by decide +kernel
theorem dX1_digest_59 : decode cX1_digest 59 = .ok (.aload_n 0, 1) := by decide +kernel
theorem dX1_digest_60 : decode cX1_digest 60 = .ok (.iload_n 3, 1) := by decide +kernel
theorem dX1_digest_61 : decode cX1_digest 61 = .ok (.iload 4, 2) := by decide +kernel
theorem dX1_digest_63 : decode cX1_digest 63 = .ok (.invokevirtual 70, 3) := by decide +kernel
theorem dX1_digest_66 : decode cX1_digest 66 = .ok (.i2l, 1) := by decide +kernel
theorem dX1_digest_67 : decode cX1_digest 67 = .ok (.ladd, 1) := by decide +kernel
theorem dX1_digest_68 : decode cX1_digest 68 = .ok (.lstore_n 1, 1) := by decide +kernel
theorem dX1_digest_69 : decode cX1_digest 69 = .ok (.iinc 4 1, 3) := by decide +kernel
theorem dX1_digest_72 : decode cX1_digest 72 = .ok (.goto (-27), 3) := by decide +kernel
theorem dX1_digest_75 : decode cX1_digest 75 = .ok (.iconst 0, 1) := by decide +kernel
theorem dX1_digest_76 : decode cX1_digest 76 = .ok (.istore 4, 2) := by decide +kernel
theorem dX1_digest_78 : decode cX1_digest 78 = .ok (.iload 4, 2) := by decide +kernel
theorem dX1_digest_80 : decode cX1_digest 80 = .ok (.iconst 4, 1) := by decide +kernel
theorem dX1_digest_81 : decode cX1_digest 81 = .ok (.if_icmp .gt 24, 3) := by decide +kernel
theorem dX1_digest_84 : decode cX1_digest 84 = .ok (.lload_n 1, 1) := by decide +kernel
theorem dX1_digest_85 : decode cX1_digest 85 = .ok (.ldc2_w 135, 3) := by decide +kernel
theorem dX1_digest_88 : decode cX1_digest 88 = .ok (.lmul, 1) := by decide +kernel
theorem dX1_digest_89 : decode cX1_digest 89 = .ok (.aload_n 0, 1) := by decide +kernel
theorem dX1_digest_90 : decode cX1_digest 90 = .ok (.iload_n 3, 1) := by decide +kernel
theorem dX1_digest_91 : decode cX1_digest 91 = .ok (.iload 4, 2) := by decide +kernel
theorem dX1_digest_93 : decode cX1_digest 93 = .ok (.invokevirtual 117, 3) := by decide +kernel
theorem dX1_digest_96 : decode cX1_digest 96 = .ok (.i2l, 1) := by decide +kernel
theorem dX1_digest_97 : decode cX1_digest 97 = .ok (.ladd, 1) := by decide +kernel
theorem dX1_digest_98 : decode cX1_digest 98 = .ok (.lstore_n 1, 1) := by decide +kernel
theorem dX1_digest_99 : decode cX1_digest 99 = .ok (.iinc 4 1, 3) := by decide +kernel
theorem dX1_digest_102 : decode cX1_digest 102 = .ok (.goto (-24), 3) := by decide +kernel
theorem dX1_digest_105 : decode cX1_digest 105 = .ok (.aload_n 0, 1) := by decide +kernel
theorem dX1_digest_106 : decode cX1_digest 106 = .ok (.iload_n 3, 1) := by decide +kernel
theorem dX1_digest_107 : decode cX1_digest 107 = .ok (.aload_n 0, 1) := by decide +kernel
theorem dX1_digest_108 : decode cX1_digest 108 = .ok (.getfield 16, 3) := by decide +kernel
theorem dX1_digest_111 : decode cX1_digest 111 = .ok (.iconst 1, 1) := by decide +kernel
theorem dX1_digest_112 : decode cX1_digest 112 = .ok (.invokevirtual 92, 3) := by decide +kernel
theorem dX1_digest_115 : decode cX1_digest 115 = .ok (.iconst 0, 1) := by decide +kernel
theorem dX1_digest_116 : decode cX1_digest 116 = .ok (.istore 4, 2) := by decide +kernel
theorem dX1_digest_118 : decode cX1_digest 118 = .ok (.iload 4, 2) := by decide +kernel
theorem dX1_digest_120 : decode cX1_digest 120 = .ok (.aload_n 0, 1) := by decide +kernel
theorem dX1_digest_121 : decode cX1_digest 121 = .ok (.getfield 7, 3) := by decide +kernel
theorem dX1_digest_124 : decode cX1_digest 124 = .ok (.if_icmp .ge 24, 3) := by decide +kernel
theorem dX1_digest_127 : decode cX1_digest 127 = .ok (.lload_n 1, 1) := by decide +kernel
theorem dX1_digest_128 : decode cX1_digest 128 = .ok (.ldc2_w 135, 3) := by decide +kernel
theorem dX1_digest_131 : decode cX1_digest 131 = .ok (.lmul, 1) := by decide +kernel
theorem dX1_digest_132 : decode cX1_digest 132 = .ok (.aload_n 0, 1) := by decide +kernel
theorem dX1_digest_133 : decode cX1_digest 133 = .ok (.getfield 26, 3) := by decide +kernel
theorem dX1_digest_136 : decode cX1_digest 136 = .ok (.iload 4, 2) := by decide +kernel
theorem dX1_digest_138 : decode cX1_digest 138 = .ok (.iaload, 1) := by decide +kernel
theorem dX1_digest_139 : decode cX1_digest 139 = .ok (.i2l, 1) := by decide +kernel
theorem dX1_digest_140 : decode cX1_digest 140 = .ok (.ladd, 1) := by decide +kernel
theorem dX1_digest_141 : decode cX1_digest 141 = .ok (.lstore_n 1, 1) := by decide +kernel
theorem dX1_digest_142 : decode cX1_digest 142 = .ok (.iinc 4 1, 3) := by decide +kernel
theorem dX1_digest_145 : decode cX1_digest 145 = .ok (.goto (-27), 3) := by decide +kernel
theorem dX1_digest_148 : decode cX1_digest 148 = .ok (.iinc 3 1, 3) := by decide +kernel
theorem dX1_digest_151 : decode cX1_digest 151 = .ok (.goto (-114), 3) := by decide +kernel
theorem dX1_digest_154 : decode cX1_digest 154 = .ok (.lload_n 1, 1) := by decide +kernel
theorem dX1_digest_155 : decode cX1_digest 155 = .ok (.lreturn, 1) := by decide +kernel
theorem dJ9_floorMod_7cf53_0 : decode cJ9_floorMod_7cf53 0 = .ok (.iload_n 0, 1) := by decide +kernel
theorem dJ9_floorMod_7cf53_1 : decode cJ9_floorMod_7cf53 1 = .ok (.iload_n 1, 1) := by decide +kernel
theorem dJ9_floorMod_7cf53_2 : decode cJ9_floorMod_7cf53 2 = .ok (.irem, 1) := by decide +kernel
theorem dJ9_floorMod_7cf53_3 : decode cJ9_floorMod_7cf53 3 = .ok (.istore_n 2, 1) := by decide +kernel
theorem dJ9_floorMod_7cf53_4 : decode cJ9_floorMod_7cf53 4 = .ok (.iload_n 0, 1) := by decide +kernel
theorem dJ9_floorMod_7cf53_5 : decode cJ9_floorMod_7cf53 5 = .ok (.iload_n 1, 1) := by decide +kernel
theorem dJ9_floorMod_7cf53_6 : decode cJ9_floorMod_7cf53 6 = .ok (.ixor, 1) := by decide +kernel
theorem dJ9_floorMod_7cf53_7 : decode cJ9_floorMod_7cf53 7 = .ok (.ifCond .ge 11, 3) := by decide +kernel
theorem dJ9_floorMod_7cf53_10 : decode cJ9_floorMod_7cf53 10 = .ok (.iload_n 2, 1) := by decide +kernel
theorem dJ9_floorMod_7cf53_11 : decode cJ9_floorMod_7cf53 11 = .ok (.ifCond .eq 7, 3) := by decide +kernel
theorem dJ9_floorMod_7cf53_14 : decode cJ9_floorMod_7cf53 14 = .ok (.iload_n 2, 1) := by decide +kernel
theorem dJ9_floorMod_7cf53_15 : decode cJ9_floorMod_7cf53 15 = .ok (.iload_n 1, 1) := by decide +kernel
theorem dJ9_floorMod_7cf53_16 : decode cJ9_floorMod_7cf53 16 = .ok (.iadd, 1) := by decide +kernel
theorem dJ9_floorMod_7cf53_17 : decode cJ9_floorMod_7cf53 17 = .ok (.ireturn, 1) := by decide +kernel
theorem dJ9_floorMod_7cf53_18 : decode cJ9_floorMod_7cf53 18 = .ok (.iload_n 2, 1) := by decide +kernel
theorem dJ9_floorMod_7cf53_19 : decode cJ9_floorMod_7cf53 19 = .ok (.ireturn, 1) := by decide +kernel
theorem dJ9_max_7cf53_0 : decode cJ9_max_7cf53 0 = .ok (.iload_n 0, 1) := by decide +kernel
theorem dJ9_max_7cf53_1 : decode cJ9_max_7cf53 1 = .ok (.iload_n 1, 1) := by decide +kernel
theorem dJ9_max_7cf53_2 : decode cJ9_max_7cf53 2 = .ok (.if_icmp .lt 7, 3) := by decide +kernel
theorem dJ9_max_7cf53_5 : decode cJ9_max_7cf53 5 = .ok (.iload_n 0, 1) := by decide +kernel
theorem dJ9_max_7cf53_6 : decode cJ9_max_7cf53 6 = .ok (.goto 4, 3) := by decide +kernel
theorem dJ9_max_7cf53_9 : decode cJ9_max_7cf53 9 = .ok (.iload_n 1, 1) := by decide +kernel
theorem dJ9_max_7cf53_10 : decode cJ9_max_7cf53 10 = .ok (.ireturn, 1) := by decide +kernel
set_option maxRecDepth 20000 in
theorem ggL_ring_X0_ring : GoodIn wsL_ring wsX0_ring := goodIn_ca (goodIn_r _ [6, 7, 8, 9, 10, 11, 5, 12, 13, 14, 15, 16, 17, 18, 19, 20, 21, 22, 23, 24, 25, 26, 27, 28, 29, 30, 31, 32, 33, 34, 35, 36, 37, 38, 39, 40, 41, 42, 43, 44, 45, 46, 47, 48, 49, 50, 51, 52, 53, 54, 55] (by decide +kernel) (by decide +kernel)) (goodIn_sub (fun _ h => List.mem_cons_of_mem _ (List.mem_append_right _ h)) (by decide +kernel))
set_option maxRecDepth 20000 in
theorem gL_ring_X0_ring : GoodIn wsL_ring (wsV RL 7 RX0 yX0_ring wsX0_ring) := goodIn_app (goodIn_of _ (by decide +kernel)) ggL_ring_X0_ring
theorem dL_ring_0 : decode cL_ring 0 = .ok (.aload_n 3, 1) := by decide +kernel
theorem dL_ring_1 : decode cL_ring 1 = .ok (.iconst 0, 1) := by decide +kernel
theorem dL_ring_2 : decode cL_ring 2 = .ok (.aload_n 0, 1) := by decide +kernel
theorem dL_ring_3 : decode cL_ring 3 = .ok (.iload_n 1, 1) := by decide +kernel
theorem dL_ring_4 : decode cL_ring 4 = .ok (.iload_n 2, 1) := by decide +kernel
theorem dL_ring_5 : decode cL_ring 5 = .ok (.invokevirtual 7, 3) := by decide +kernel
theorem dL_ring_8 : decode cL_ring 8 = .ok (.i2l, 1) := by decide +kernel
theorem dL_ring_9 : decode cL_ring 9 = .ok (.lastore, 1) := by decide +kernel
theorem dL_ring_10 : decode cL_ring 10 = .ok (.goto 7, 3) := by decide +kernel
theorem dL_ring_13 : decode cL_ring 13 = .ok (.astore 4, 2) := by decide +kernel
theorem dL_ring_15 : decode cL_ring 15 = .ok (.iconst 1, 1) := by decide +kernel
theorem dL_ring_16 : decode cL_ring 16 = .ok (.ireturn, 1) := by decide +kernel
theorem dL_ring_17 : decode cL_ring 17 = .ok (.iconst 0, 1) := by decide +kernel
theorem dL_ring_18 : decode cL_ring 18 = .ok (.ireturn, 1) := by decide +kernel
set_option maxRecDepth 20000 in
theorem ggL_order_X0_order : GoodIn wsL_order wsX0_order := goodIn_ca (goodIn_r _ [6, 7, 8, 9, 10, 5, 11, 12, 13, 14, 15, 16, 17, 18, 19, 20, 21, 22, 23, 24, 25, 26, 27, 28] (by decide +kernel) (by decide +kernel)) (goodIn_sub (fun _ h => List.mem_cons_of_mem _ (List.mem_append_right _ h)) (by decide +kernel))
set_option maxRecDepth 20000 in
theorem gL_order_X0_order : GoodIn wsL_order (wsV RL 15 RX0 yX0_order wsX0_order) := goodIn_app (goodIn_of _ (by decide +kernel)) ggL_order_X0_order
theorem dL_order_0 : decode cL_order 0 = .ok (.aload_n 2, 1) := by decide +kernel
theorem dL_order_1 : decode cL_order 1 = .ok (.iconst 0, 1) := by decide +kernel
theorem dL_order_2 : decode cL_order 2 = .ok (.aload_n 0, 1) := by decide +kernel
theorem dL_order_3 : decode cL_order 3 = .ok (.iload_n 1, 1) := by decide +kernel
theorem dL_order_4 : decode cL_order 4 = .ok (.invokevirtual 15, 3) := by decide +kernel
theorem dL_order_7 : decode cL_order 7 = .ok (.i2l, 1) := by decide +kernel
theorem dL_order_8 : decode cL_order 8 = .ok (.lastore, 1) := by decide +kernel
theorem dL_order_9 : decode cL_order 9 = .ok (.goto 6, 3) := by decide +kernel
theorem dL_order_12 : decode cL_order 12 = .ok (.astore_n 3, 1) := by decide +kernel
theorem dL_order_13 : decode cL_order 13 = .ok (.iconst 1, 1) := by decide +kernel
theorem dL_order_14 : decode cL_order 14 = .ok (.ireturn, 1) := by decide +kernel
theorem dL_order_15 : decode cL_order 15 = .ok (.iconst 0, 1) := by decide +kernel
theorem dL_order_16 : decode cL_order 16 = .ok (.ireturn, 1) := by decide +kernel
set_option maxRecDepth 20000 in
theorem ggL_inverse_X0_inverse : GoodIn wsL_inverse wsX0_inverse := goodIn_ca (goodIn_r _ [6, 7, 8, 9, 5, 10, 11, 12, 13, 14, 15, 16, 17, 18, 19, 20, 21, 22, 23, 24, 25, 26, 27, 28, 29, 30, 31, 32, 33, 34, 35, 36] (by decide +kernel) (by decide +kernel)) (goodIn_sub (fun _ h => List.mem_cons_of_mem _ (List.mem_append_right _ h)) (by decide +kernel))
set_option maxRecDepth 20000 in
theorem gL_inverse_X0_inverse : GoodIn wsL_inverse (wsV RL 19 RX0 yX0_inverse wsX0_inverse) := goodIn_app (goodIn_of _ (by decide +kernel)) ggL_inverse_X0_inverse
theorem dL_inverse_0 : decode cL_inverse 0 = .ok (.aload_n 2, 1) := by decide +kernel
theorem dL_inverse_1 : decode cL_inverse 1 = .ok (.iconst 0, 1) := by decide +kernel
theorem dL_inverse_2 : decode cL_inverse 2 = .ok (.aload_n 0, 1) := by decide +kernel
theorem dL_inverse_3 : decode cL_inverse 3 = .ok (.iload_n 1, 1) := by decide +kernel
theorem dL_inverse_4 : decode cL_inverse 4 = .ok (.invokevirtual 19, 3) := by decide +kernel
theorem dL_inverse_7 : decode cL_inverse 7 = .ok (.i2l, 1) := by decide +kernel
theorem dL_inverse_8 : decode cL_inverse 8 = .ok (.lastore, 1) := by decide +kernel
theorem dL_inverse_9 : decode cL_inverse 9 = .ok (.goto 6, 3) := by decide +kernel
theorem dL_inverse_12 : decode cL_inverse 12 = .ok (.astore_n 3, 1) := by decide +kernel
theorem dL_inverse_13 : decode cL_inverse 13 = .ok (.iconst 1, 1) := by decide +kernel
theorem dL_inverse_14 : decode cL_inverse 14 = .ok (.ireturn, 1) := by decide +kernel
theorem dL_inverse_15 : decode cL_inverse 15 = .ok (.iconst 0, 1) := by decide +kernel
theorem dL_inverse_16 : decode cL_inverse 16 = .ok (.ireturn, 1) := by decide +kernel
set_option maxRecDepth 20000 in
theorem ggL_root_X0_root : GoodIn wsL_root wsX0_root := goodIn_ca (goodIn_r _ [6, 7, 8, 9, 10, 11, 12, 5, 13, 14, 15, 16, 17, 18, 19, 20, 21, 22, 23, 24, 25, 26, 27, 28, 29] (by decide +kernel) (by decide +kernel)) (goodIn_sub (fun _ h => List.mem_cons_of_mem _ (List.mem_append_right _ h)) (by decide +kernel))
set_option maxRecDepth 20000 in
theorem gL_root_X0_root : GoodIn wsL_root (wsV RL 22 RX0 yX0_root wsX0_root) := goodIn_app (goodIn_of _ (by decide +kernel)) ggL_root_X0_root
theorem dL_root_0 : decode cL_root 0 = .ok (.aload_n 2, 1) := by decide +kernel
theorem dL_root_1 : decode cL_root 1 = .ok (.iconst 0, 1) := by decide +kernel
theorem dL_root_2 : decode cL_root 2 = .ok (.aload_n 0, 1) := by decide +kernel
theorem dL_root_3 : decode cL_root 3 = .ok (.iload_n 1, 1) := by decide +kernel
theorem dL_root_4 : decode cL_root 4 = .ok (.invokevirtual 22, 3) := by decide +kernel
theorem dL_root_7 : decode cL_root 7 = .ok (.i2l, 1) := by decide +kernel
theorem dL_root_8 : decode cL_root 8 = .ok (.lastore, 1) := by decide +kernel
theorem dL_root_9 : decode cL_root 9 = .ok (.goto 6, 3) := by decide +kernel
theorem dL_root_12 : decode cL_root 12 = .ok (.astore_n 3, 1) := by decide +kernel
theorem dL_root_13 : decode cL_root 13 = .ok (.iconst 1, 1) := by decide +kernel
theorem dL_root_14 : decode cL_root 14 = .ok (.ireturn, 1) := by decide +kernel
theorem dL_root_15 : decode cL_root 15 = .ok (.iconst 0, 1) := by decide +kernel
theorem dL_root_16 : decode cL_root 16 = .ok (.ireturn, 1) := by decide +kernel
set_option maxRecDepth 20000 in
theorem ggL_set_X0_set : GoodIn wsL_set wsX0_set := goodIn_ca (goodIn_ca (goodIn_r _ [7, 8, 9, 10, 6, 11, 12, 13, 14, 15, 16, 17, 18, 19, 20, 21, 22, 23, 24, 25, 26, 27, 28, 29, 30, 31, 32, 33, 34, 35, 36, 37, 38, 39, 40, 41] (by decide +kernel) (by decide +kernel)) (goodIn_sub (fun _ h => List.mem_cons_of_mem _ (List.mem_append_left _ (List.mem_append_right _ h))) (by decide +kernel))) (goodIn_sub (fun _ h => List.mem_cons_of_mem _ (List.mem_append_right _ h)) (by decide +kernel))
set_option maxRecDepth 20000 in
theorem gL_set_X0_set : GoodIn wsL_set (wsV RL 25 RX0 yX0_set wsX0_set) := goodIn_app (goodIn_of _ (by decide +kernel)) ggL_set_X0_set
theorem dL_set_0 : decode cL_set 0 = .ok (.aload 4, 2) := by decide +kernel
theorem dL_set_2 : decode cL_set 2 = .ok (.iconst 0, 1) := by decide +kernel
theorem dL_set_3 : decode cL_set 3 = .ok (.aload_n 0, 1) := by decide +kernel
theorem dL_set_4 : decode cL_set 4 = .ok (.iload_n 1, 1) := by decide +kernel
theorem dL_set_5 : decode cL_set 5 = .ok (.iload_n 2, 1) := by decide +kernel
theorem dL_set_6 : decode cL_set 6 = .ok (.iload_n 3, 1) := by decide +kernel
theorem dL_set_7 : decode cL_set 7 = .ok (.invokevirtual 25, 3) := by decide +kernel
theorem dL_set_10 : decode cL_set 10 = .ok (.i2l, 1) := by decide +kernel
theorem dL_set_11 : decode cL_set 11 = .ok (.lastore, 1) := by decide +kernel
theorem dL_set_12 : decode cL_set 12 = .ok (.goto 11, 3) := by decide +kernel
theorem dL_set_15 : decode cL_set 15 = .ok (.astore 5, 2) := by decide +kernel
theorem dL_set_17 : decode cL_set 17 = .ok (.iconst 1, 1) := by decide +kernel
theorem dL_set_18 : decode cL_set 18 = .ok (.ireturn, 1) := by decide +kernel
theorem dL_set_19 : decode cL_set 19 = .ok (.astore 5, 2) := by decide +kernel
theorem dL_set_21 : decode cL_set 21 = .ok (.iconst 2, 1) := by decide +kernel
theorem dL_set_22 : decode cL_set 22 = .ok (.ireturn, 1) := by decide +kernel
theorem dL_set_23 : decode cL_set 23 = .ok (.iconst 0, 1) := by decide +kernel
theorem dL_set_24 : decode cL_set 24 = .ok (.ireturn, 1) := by decide +kernel
set_option maxRecDepth 20000 in
theorem ggL_copy_X0_copy : GoodIn wsL_copy wsX0_copy := goodIn_ca (goodIn_r _ [6, 7, 8, 9, 5, 10, 11, 12, 13, 14, 15, 16, 17, 18, 19, 20, 21, 22, 23, 24, 25, 26, 27, 28, 29, 30, 31, 32, 33] (by decide +kernel) (by decide +kernel)) (goodIn_sub (fun _ h => List.mem_cons_of_mem _ (List.mem_append_right _ h)) (by decide +kernel))
set_option maxRecDepth 20000 in
theorem gL_copy_X0_copy : GoodIn wsL_copy (wsV RL 31 RX0 yX0_copy wsX0_copy) := goodIn_app (goodIn_of _ (by decide +kernel)) ggL_copy_X0_copy
theorem dL_copy_0 : decode cL_copy 0 = .ok (.aload_n 3, 1) := by decide +kernel
theorem dL_copy_1 : decode cL_copy 1 = .ok (.iconst 0, 1) := by decide +kernel
theorem dL_copy_2 : decode cL_copy 2 = .ok (.aload_n 0, 1) := by decide +kernel
theorem dL_copy_3 : decode cL_copy 3 = .ok (.iload_n 1, 1) := by decide +kernel
theorem dL_copy_4 : decode cL_copy 4 = .ok (.iload_n 2, 1) := by decide +kernel
theorem dL_copy_5 : decode cL_copy 5 = .ok (.invokevirtual 31, 3) := by decide +kernel
theorem dL_copy_8 : decode cL_copy 8 = .ok (.i2l, 1) := by decide +kernel
theorem dL_copy_9 : decode cL_copy 9 = .ok (.lastore, 1) := by decide +kernel
theorem dL_copy_10 : decode cL_copy 10 = .ok (.goto 7, 3) := by decide +kernel
theorem dL_copy_13 : decode cL_copy 13 = .ok (.astore 4, 2) := by decide +kernel
theorem dL_copy_15 : decode cL_copy 15 = .ok (.iconst 1, 1) := by decide +kernel
theorem dL_copy_16 : decode cL_copy 16 = .ok (.ireturn, 1) := by decide +kernel
theorem dL_copy_17 : decode cL_copy 17 = .ok (.iconst 0, 1) := by decide +kernel
theorem dL_copy_18 : decode cL_copy 18 = .ok (.ireturn, 1) := by decide +kernel
set_option maxRecDepth 20000 in
theorem ggL_turn_X0_turn : GoodIn wsL_turn wsX0_turn := goodIn_ca (goodIn_r _ [6, 7, 8, 9, 5, 10, 11, 12, 13, 14, 15, 16, 17, 18, 19, 20, 21, 22, 23, 24, 25, 26, 27, 28, 29, 30, 31, 32, 33, 34, 35, 36, 37, 38, 39, 40, 41, 42, 43, 44, 45, 46, 47, 48, 49, 50, 51, 52, 53, 54, 55, 56, 57, 58, 59, 60, 61] (by decide +kernel) (by decide +kernel)) (goodIn_sub (fun _ h => List.mem_cons_of_mem _ (List.mem_append_right _ h)) (by decide +kernel))
set_option maxRecDepth 20000 in
theorem gL_turn_X0_turn : GoodIn wsL_turn (wsV RL 34 RX0 yX0_turn wsX0_turn) := goodIn_app (goodIn_of _ (by decide +kernel)) ggL_turn_X0_turn
theorem dL_turn_0 : decode cL_turn 0 = .ok (.aload_n 3, 1) := by decide +kernel
theorem dL_turn_1 : decode cL_turn 1 = .ok (.iconst 0, 1) := by decide +kernel
theorem dL_turn_2 : decode cL_turn 2 = .ok (.aload_n 0, 1) := by decide +kernel
theorem dL_turn_3 : decode cL_turn 3 = .ok (.iload_n 1, 1) := by decide +kernel
theorem dL_turn_4 : decode cL_turn 4 = .ok (.iload_n 2, 1) := by decide +kernel
theorem dL_turn_5 : decode cL_turn 5 = .ok (.invokevirtual 34, 3) := by decide +kernel
theorem dL_turn_8 : decode cL_turn 8 = .ok (.i2l, 1) := by decide +kernel
theorem dL_turn_9 : decode cL_turn 9 = .ok (.lastore, 1) := by decide +kernel
theorem dL_turn_10 : decode cL_turn 10 = .ok (.goto 7, 3) := by decide +kernel
theorem dL_turn_13 : decode cL_turn 13 = .ok (.astore 4, 2) := by decide +kernel
theorem dL_turn_15 : decode cL_turn 15 = .ok (.iconst 1, 1) := by decide +kernel
theorem dL_turn_16 : decode cL_turn 16 = .ok (.ireturn, 1) := by decide +kernel
theorem dL_turn_17 : decode cL_turn 17 = .ok (.iconst 0, 1) := by decide +kernel
theorem dL_turn_18 : decode cL_turn 18 = .ok (.ireturn, 1) := by decide +kernel
set_option maxRecDepth 20000 in
theorem ggL_mirror_X0_mirror : GoodIn wsL_mirror wsX0_mirror := goodIn_ca (goodIn_r _ [6, 7, 8, 9, 10, 5, 11, 12, 13, 14, 15, 16, 17, 18, 19, 20, 21, 22, 23, 24, 25, 26, 27, 28, 29, 30, 31, 32, 33, 34, 35, 36, 37, 38] (by decide +kernel) (by decide +kernel)) (goodIn_sub (fun _ h => List.mem_cons_of_mem _ (List.mem_append_right _ h)) (by decide +kernel))
set_option maxRecDepth 20000 in
theorem gL_mirror_X0_mirror : GoodIn wsL_mirror (wsV RL 38 RX0 yX0_mirror wsX0_mirror) := goodIn_app (goodIn_of _ (by decide +kernel)) ggL_mirror_X0_mirror
theorem dL_mirror_0 : decode cL_mirror 0 = .ok (.aload_n 2, 1) := by decide +kernel
theorem dL_mirror_1 : decode cL_mirror 1 = .ok (.iconst 0, 1) := by decide +kernel
theorem dL_mirror_2 : decode cL_mirror 2 = .ok (.aload_n 0, 1) := by decide +kernel
theorem dL_mirror_3 : decode cL_mirror 3 = .ok (.iload_n 1, 1) := by decide +kernel
theorem dL_mirror_4 : decode cL_mirror 4 = .ok (.invokevirtual 38, 3) := by decide +kernel
theorem dL_mirror_7 : decode cL_mirror 7 = .ok (.i2l, 1) := by decide +kernel
theorem dL_mirror_8 : decode cL_mirror 8 = .ok (.lastore, 1) := by decide +kernel
theorem dL_mirror_9 : decode cL_mirror 9 = .ok (.goto 6, 3) := by decide +kernel
theorem dL_mirror_12 : decode cL_mirror 12 = .ok (.astore_n 3, 1) := by decide +kernel
theorem dL_mirror_13 : decode cL_mirror 13 = .ok (.iconst 1, 1) := by decide +kernel
theorem dL_mirror_14 : decode cL_mirror 14 = .ok (.ireturn, 1) := by decide +kernel
theorem dL_mirror_15 : decode cL_mirror 15 = .ok (.iconst 0, 1) := by decide +kernel
theorem dL_mirror_16 : decode cL_mirror 16 = .ok (.ireturn, 1) := by decide +kernel
set_option maxRecDepth 20000 in
theorem ggL_stage_X0_stage : GoodIn wsL_stage wsX0_stage := goodIn_ca (goodIn_r _ [6, 7, 8, 9, 10, 11, 12, 13, 14, 5, 15, 16, 17, 18, 19, 20, 21, 22, 23, 24, 25, 26, 27, 28, 29, 30, 31, 32, 33, 34, 35, 36, 37, 38, 39, 40, 41, 42, 43, 44, 45, 46, 47, 48] (by decide +kernel) (by decide +kernel)) (goodIn_sub (fun _ h => List.mem_cons_of_mem _ (List.mem_append_right _ h)) (by decide +kernel))
set_option maxRecDepth 20000 in
theorem gL_stage_X0_stage : GoodIn wsL_stage (wsV RL 41 RX0 yX0_stage wsX0_stage) := goodIn_app (goodIn_of _ (by decide +kernel)) ggL_stage_X0_stage
theorem dL_stage_0 : decode cL_stage 0 = .ok (.aload_n 3, 1) := by decide +kernel
theorem dL_stage_1 : decode cL_stage 1 = .ok (.iconst 0, 1) := by decide +kernel
theorem dL_stage_2 : decode cL_stage 2 = .ok (.aload_n 0, 1) := by decide +kernel
theorem dL_stage_3 : decode cL_stage 3 = .ok (.iload_n 1, 1) := by decide +kernel
theorem dL_stage_4 : decode cL_stage 4 = .ok (.iload_n 2, 1) := by decide +kernel
theorem dL_stage_5 : decode cL_stage 5 = .ok (.invokevirtual 41, 3) := by decide +kernel
theorem dL_stage_8 : decode cL_stage 8 = .ok (.i2l, 1) := by decide +kernel
theorem dL_stage_9 : decode cL_stage 9 = .ok (.lastore, 1) := by decide +kernel
theorem dL_stage_10 : decode cL_stage 10 = .ok (.goto 7, 3) := by decide +kernel
theorem dL_stage_13 : decode cL_stage 13 = .ok (.astore 4, 2) := by decide +kernel
theorem dL_stage_15 : decode cL_stage 15 = .ok (.iconst 1, 1) := by decide +kernel
theorem dL_stage_16 : decode cL_stage 16 = .ok (.ireturn, 1) := by decide +kernel
theorem dL_stage_17 : decode cL_stage 17 = .ok (.iconst 0, 1) := by decide +kernel
theorem dL_stage_18 : decode cL_stage 18 = .ok (.ireturn, 1) := by decide +kernel
set_option maxRecDepth 20000 in
theorem ggL_fold_X0_fold : GoodIn wsL_fold wsX0_fold := goodIn_ca (goodIn_r _ [6, 7, 8, 9, 10, 5, 11, 12, 13, 14, 15, 16, 17, 18, 19, 20, 21, 22, 23, 24, 25, 26, 27, 28, 29, 30, 31, 32, 33, 34, 35, 36, 37, 38, 39, 40, 41, 42, 43, 44, 45, 46, 47, 48, 49, 50] (by decide +kernel) (by decide +kernel)) (goodIn_sub (fun _ h => List.mem_cons_of_mem _ (List.mem_append_right _ h)) (by decide +kernel))
set_option maxRecDepth 20000 in
theorem gL_fold_X0_fold : GoodIn wsL_fold (wsV RL 44 RX0 yX0_fold wsX0_fold) := goodIn_app (goodIn_of _ (by decide +kernel)) ggL_fold_X0_fold
theorem dL_fold_0 : decode cL_fold 0 = .ok (.aload_n 3, 1) := by decide +kernel
theorem dL_fold_1 : decode cL_fold 1 = .ok (.iconst 0, 1) := by decide +kernel
theorem dL_fold_2 : decode cL_fold 2 = .ok (.aload_n 0, 1) := by decide +kernel
theorem dL_fold_3 : decode cL_fold 3 = .ok (.iload_n 1, 1) := by decide +kernel
theorem dL_fold_4 : decode cL_fold 4 = .ok (.iload_n 2, 1) := by decide +kernel
theorem dL_fold_5 : decode cL_fold 5 = .ok (.invokevirtual 44, 3) := by decide +kernel
theorem dL_fold_8 : decode cL_fold 8 = .ok (.i2l, 1) := by decide +kernel
theorem dL_fold_9 : decode cL_fold 9 = .ok (.lastore, 1) := by decide +kernel
theorem dL_fold_10 : decode cL_fold 10 = .ok (.goto 7, 3) := by decide +kernel
theorem dL_fold_13 : decode cL_fold 13 = .ok (.astore 4, 2) := by decide +kernel
theorem dL_fold_15 : decode cL_fold 15 = .ok (.iconst 1, 1) := by decide +kernel
theorem dL_fold_16 : decode cL_fold 16 = .ok (.ireturn, 1) := by decide +kernel
theorem dL_fold_17 : decode cL_fold 17 = .ok (.iconst 0, 1) := by decide +kernel
theorem dL_fold_18 : decode cL_fold 18 = .ok (.ireturn, 1) := by decide +kernel
set_option maxRecDepth 20000 in
theorem ggL_join_X0_join : GoodIn wsL_join wsX0_join := goodIn_ca (goodIn_r _ [6, 7, 8, 9, 10, 11, 12, 5, 13, 14, 15, 16, 17, 18, 19, 20, 21, 22, 23, 24, 25, 26, 27, 28, 29, 30, 31, 32, 33, 34, 35, 36, 37, 38, 39, 40, 41, 42, 43, 44, 45, 46] (by decide +kernel) (by decide +kernel)) (goodIn_sub (fun _ h => List.mem_cons_of_mem _ (List.mem_append_right _ h)) (by decide +kernel))
set_option maxRecDepth 20000 in
theorem gL_join_X0_join : GoodIn wsL_join (wsV RL 47 RX0 yX0_join wsX0_join) := goodIn_app (goodIn_of _ (by decide +kernel)) ggL_join_X0_join
theorem dL_join_0 : decode cL_join 0 = .ok (.aload 4, 2) := by decide +kernel
theorem dL_join_2 : decode cL_join 2 = .ok (.iconst 0, 1) := by decide +kernel
theorem dL_join_3 : decode cL_join 3 = .ok (.aload_n 0, 1) := by decide +kernel
theorem dL_join_4 : decode cL_join 4 = .ok (.iload_n 1, 1) := by decide +kernel
theorem dL_join_5 : decode cL_join 5 = .ok (.iload_n 2, 1) := by decide +kernel
theorem dL_join_6 : decode cL_join 6 = .ok (.iload_n 3, 1) := by decide +kernel
theorem dL_join_7 : decode cL_join 7 = .ok (.invokevirtual 47, 3) := by decide +kernel
theorem dL_join_10 : decode cL_join 10 = .ok (.i2l, 1) := by decide +kernel
theorem dL_join_11 : decode cL_join 11 = .ok (.lastore, 1) := by decide +kernel
theorem dL_join_12 : decode cL_join 12 = .ok (.goto 7, 3) := by decide +kernel
theorem dL_join_15 : decode cL_join 15 = .ok (.astore 5, 2) := by decide +kernel
theorem dL_join_17 : decode cL_join 17 = .ok (.iconst 1, 1) := by decide +kernel
theorem dL_join_18 : decode cL_join 18 = .ok (.ireturn, 1) := by decide +kernel
theorem dL_join_19 : decode cL_join 19 = .ok (.iconst 0, 1) := by decide +kernel
theorem dL_join_20 : decode cL_join 20 = .ok (.ireturn, 1) := by decide +kernel
set_option maxRecDepth 20000 in
theorem ggL_move_X0_move : GoodIn wsL_move wsX0_move := goodIn_ca (goodIn_ca (goodIn_r _ [7, 8, 9, 10, 11, 12, 13, 6, 14, 15, 16, 17, 18, 19, 20, 21, 22, 23, 24, 25, 26, 27, 28, 29, 30, 31, 32, 33, 34, 35, 36, 37, 38, 39, 40] (by decide +kernel) (by decide +kernel)) (goodIn_sub (fun _ h => List.mem_cons_of_mem _ (List.mem_append_left _ (List.mem_append_right _ h))) (by decide +kernel))) (goodIn_sub (fun _ h => List.mem_cons_of_mem _ (List.mem_append_right _ h)) (by decide +kernel))
set_option maxRecDepth 20000 in
theorem gL_move_X0_move : GoodIn wsL_move (wsV RL 50 RX0 yX0_move wsX0_move) := goodIn_app (goodIn_of _ (by decide +kernel)) ggL_move_X0_move
theorem dL_move_0 : decode cL_move 0 = .ok (.aload_n 3, 1) := by decide +kernel
theorem dL_move_1 : decode cL_move 1 = .ok (.iconst 0, 1) := by decide +kernel
theorem dL_move_2 : decode cL_move 2 = .ok (.aload_n 0, 1) := by decide +kernel
theorem dL_move_3 : decode cL_move 3 = .ok (.iload_n 1, 1) := by decide +kernel
theorem dL_move_4 : decode cL_move 4 = .ok (.iload_n 2, 1) := by decide +kernel
theorem dL_move_5 : decode cL_move 5 = .ok (.invokevirtual 50, 3) := by decide +kernel
theorem dL_move_8 : decode cL_move 8 = .ok (.i2l, 1) := by decide +kernel
theorem dL_move_9 : decode cL_move 9 = .ok (.lastore, 1) := by decide +kernel
theorem dL_move_10 : decode cL_move 10 = .ok (.goto 11, 3) := by decide +kernel
theorem dL_move_13 : decode cL_move 13 = .ok (.astore 4, 2) := by decide +kernel
theorem dL_move_15 : decode cL_move 15 = .ok (.iconst 1, 1) := by decide +kernel
theorem dL_move_16 : decode cL_move 16 = .ok (.ireturn, 1) := by decide +kernel
theorem dL_move_17 : decode cL_move 17 = .ok (.astore 4, 2) := by decide +kernel
theorem dL_move_19 : decode cL_move 19 = .ok (.iconst 2, 1) := by decide +kernel
theorem dL_move_20 : decode cL_move 20 = .ok (.ireturn, 1) := by decide +kernel
theorem dL_move_21 : decode cL_move 21 = .ok (.iconst 0, 1) := by decide +kernel
theorem dL_move_22 : decode cL_move 22 = .ok (.ireturn, 1) := by decide +kernel
set_option maxRecDepth 20000 in
theorem ggL_times_X0_times : GoodIn wsL_times wsX0_times := goodIn_ca (goodIn_ca (goodIn_r _ [7, 8, 9, 10, 11, 6, 12, 13, 14, 15, 16, 17, 18, 19, 20, 21, 22, 23, 24, 25, 26, 27, 28, 29, 30, 31, 32, 33, 34, 35, 36, 37, 38, 39, 40, 41, 42, 43, 44, 45, 46, 47, 48, 49] (by decide +kernel) (by decide +kernel)) (goodIn_sub (fun _ h => List.mem_cons_of_mem _ (List.mem_append_left _ (List.mem_append_right _ h))) (by decide +kernel))) (goodIn_sub (fun _ h => List.mem_cons_of_mem _ (List.mem_append_right _ h)) (by decide +kernel))
set_option maxRecDepth 20000 in
theorem gL_times_X0_times : GoodIn wsL_times (wsV RL 53 RX0 yX0_times wsX0_times) := goodIn_app (goodIn_of _ (by decide +kernel)) ggL_times_X0_times
theorem dL_times_0 : decode cL_times 0 = .ok (.aload_n 3, 1) := by decide +kernel
theorem dL_times_1 : decode cL_times 1 = .ok (.iconst 0, 1) := by decide +kernel
theorem dL_times_2 : decode cL_times 2 = .ok (.aload_n 0, 1) := by decide +kernel
theorem dL_times_3 : decode cL_times 3 = .ok (.iload_n 1, 1) := by decide +kernel
theorem dL_times_4 : decode cL_times 4 = .ok (.iload_n 2, 1) := by decide +kernel
theorem dL_times_5 : decode cL_times 5 = .ok (.invokevirtual 53, 3) := by decide +kernel
theorem dL_times_8 : decode cL_times 8 = .ok (.i2l, 1) := by decide +kernel
theorem dL_times_9 : decode cL_times 9 = .ok (.lastore, 1) := by decide +kernel
theorem dL_times_10 : decode cL_times 10 = .ok (.goto 11, 3) := by decide +kernel
theorem dL_times_13 : decode cL_times 13 = .ok (.astore 4, 2) := by decide +kernel
theorem dL_times_15 : decode cL_times 15 = .ok (.iconst 1, 1) := by decide +kernel
theorem dL_times_16 : decode cL_times 16 = .ok (.ireturn, 1) := by decide +kernel
theorem dL_times_17 : decode cL_times 17 = .ok (.astore 4, 2) := by decide +kernel
theorem dL_times_19 : decode cL_times 19 = .ok (.iconst 2, 1) := by decide +kernel
theorem dL_times_20 : decode cL_times 20 = .ok (.ireturn, 1) := by decide +kernel
theorem dL_times_21 : decode cL_times 21 = .ok (.iconst 0, 1) := by decide +kernel
theorem dL_times_22 : decode cL_times 22 = .ok (.ireturn, 1) := by decide +kernel
set_option maxRecDepth 20000 in
theorem ggL_at_X0_at : GoodIn wsL_at wsX0_at := goodIn_ca (goodIn_r _ [6, 7, 8, 9, 5, 10, 11, 12, 13, 14, 15, 16, 17, 18, 19, 20, 21, 22, 23, 24, 25, 26, 27, 28, 29] (by decide +kernel) (by decide +kernel)) (goodIn_sub (fun _ h => List.mem_cons_of_mem _ (List.mem_append_right _ h)) (by decide +kernel))
set_option maxRecDepth 20000 in
theorem gL_at_X0_at : GoodIn wsL_at (wsV RL 56 RX0 yX0_at wsX0_at) := goodIn_app (goodIn_of _ (by decide +kernel)) ggL_at_X0_at
theorem dL_at_0 : decode cL_at 0 = .ok (.aload_n 3, 1) := by decide +kernel
theorem dL_at_1 : decode cL_at 1 = .ok (.iconst 0, 1) := by decide +kernel
theorem dL_at_2 : decode cL_at 2 = .ok (.aload_n 0, 1) := by decide +kernel
theorem dL_at_3 : decode cL_at 3 = .ok (.iload_n 1, 1) := by decide +kernel
theorem dL_at_4 : decode cL_at 4 = .ok (.iload_n 2, 1) := by decide +kernel
theorem dL_at_5 : decode cL_at 5 = .ok (.invokevirtual 56, 3) := by decide +kernel
theorem dL_at_8 : decode cL_at 8 = .ok (.i2l, 1) := by decide +kernel
theorem dL_at_9 : decode cL_at 9 = .ok (.lastore, 1) := by decide +kernel
theorem dL_at_10 : decode cL_at 10 = .ok (.goto 7, 3) := by decide +kernel
theorem dL_at_13 : decode cL_at 13 = .ok (.astore 4, 2) := by decide +kernel
theorem dL_at_15 : decode cL_at 15 = .ok (.iconst 1, 1) := by decide +kernel
theorem dL_at_16 : decode cL_at 16 = .ok (.ireturn, 1) := by decide +kernel
theorem dL_at_17 : decode cL_at 17 = .ok (.iconst 0, 1) := by decide +kernel
theorem dL_at_18 : decode cL_at 18 = .ok (.ireturn, 1) := by decide +kernel
set_option maxRecDepth 20000 in
theorem ggL_point_X0_point : GoodIn wsL_point wsX0_point := goodIn_ca (goodIn_ca (goodIn_r _ [7, 8, 9, 10, 6, 11, 12, 13, 14, 15, 16, 17, 18, 19, 20, 21, 22, 23, 24, 25, 26, 27, 28, 29, 30, 31, 32, 33, 34, 35, 36, 37, 38, 39, 40, 41, 42, 43, 44, 45] (by decide +kernel) (by decide +kernel)) (goodIn_sub (fun _ h => List.mem_cons_of_mem _ (List.mem_append_left _ (List.mem_append_right _ h))) (by decide +kernel))) (goodIn_sub (fun _ h => List.mem_cons_of_mem _ (List.mem_append_right _ h)) (by decide +kernel))
set_option maxRecDepth 20000 in
theorem gL_point_X0_point : GoodIn wsL_point (wsV RL 59 RX0 yX0_point wsX0_point) := goodIn_app (goodIn_of _ (by decide +kernel)) ggL_point_X0_point
theorem dL_point_0 : decode cL_point 0 = .ok (.aload_n 3, 1) := by decide +kernel
theorem dL_point_1 : decode cL_point 1 = .ok (.iconst 0, 1) := by decide +kernel
theorem dL_point_2 : decode cL_point 2 = .ok (.aload_n 0, 1) := by decide +kernel
theorem dL_point_3 : decode cL_point 3 = .ok (.iload_n 1, 1) := by decide +kernel
theorem dL_point_4 : decode cL_point 4 = .ok (.iload_n 2, 1) := by decide +kernel
theorem dL_point_5 : decode cL_point 5 = .ok (.invokevirtual 59, 3) := by decide +kernel
theorem dL_point_8 : decode cL_point 8 = .ok (.i2l, 1) := by decide +kernel
theorem dL_point_9 : decode cL_point 9 = .ok (.lastore, 1) := by decide +kernel
theorem dL_point_10 : decode cL_point 10 = .ok (.goto 11, 3) := by decide +kernel
theorem dL_point_13 : decode cL_point 13 = .ok (.astore 4, 2) := by decide +kernel
theorem dL_point_15 : decode cL_point 15 = .ok (.iconst 1, 1) := by decide +kernel
theorem dL_point_16 : decode cL_point 16 = .ok (.ireturn, 1) := by decide +kernel
theorem dL_point_17 : decode cL_point 17 = .ok (.astore 4, 2) := by decide +kernel
theorem dL_point_19 : decode cL_point 19 = .ok (.iconst 2, 1) := by decide +kernel
theorem dL_point_20 : decode cL_point 20 = .ok (.ireturn, 1) := by decide +kernel
theorem dL_point_21 : decode cL_point 21 = .ok (.iconst 0, 1) := by decide +kernel
theorem dL_point_22 : decode cL_point 22 = .ok (.ireturn, 1) := by decide +kernel
set_option maxRecDepth 20000 in
theorem ggL_about_X0_about : GoodIn wsL_about wsX0_about := goodIn_ca (goodIn_r _ [6, 7, 8, 9, 10, 11, 5, 12, 13, 14, 15, 16, 17, 18, 19, 20, 21, 22, 23, 24, 25, 26, 27, 28, 29, 30, 31, 32, 33, 34, 35, 36, 37, 38, 39, 40, 41, 42, 43, 44, 45, 46, 47, 48, 49, 50, 51, 52, 53, 54, 55, 56, 57, 58, 59, 60, 61, 62, 63, 64, 65, 66, 67, 68, 69, 70] (by decide +kernel) (by decide +kernel)) (goodIn_sub (fun _ h => List.mem_cons_of_mem _ (List.mem_append_right _ h)) (by decide +kernel))
set_option maxRecDepth 20000 in
theorem gL_about_X0_about : GoodIn wsL_about (wsV RL 62 RX0 yX0_about wsX0_about) := goodIn_app (goodIn_of _ (by decide +kernel)) ggL_about_X0_about
theorem dL_about_0 : decode cL_about 0 = .ok (.aload_n 3, 1) := by decide +kernel
theorem dL_about_1 : decode cL_about 1 = .ok (.iconst 0, 1) := by decide +kernel
theorem dL_about_2 : decode cL_about 2 = .ok (.aload_n 0, 1) := by decide +kernel
theorem dL_about_3 : decode cL_about 3 = .ok (.iload_n 1, 1) := by decide +kernel
theorem dL_about_4 : decode cL_about 4 = .ok (.iload_n 2, 1) := by decide +kernel
theorem dL_about_5 : decode cL_about 5 = .ok (.invokevirtual 62, 3) := by decide +kernel
theorem dL_about_8 : decode cL_about 8 = .ok (.i2l, 1) := by decide +kernel
theorem dL_about_9 : decode cL_about 9 = .ok (.lastore, 1) := by decide +kernel
theorem dL_about_10 : decode cL_about 10 = .ok (.goto 7, 3) := by decide +kernel
theorem dL_about_13 : decode cL_about 13 = .ok (.astore 4, 2) := by decide +kernel
theorem dL_about_15 : decode cL_about 15 = .ok (.iconst 1, 1) := by decide +kernel
theorem dL_about_16 : decode cL_about 16 = .ok (.ireturn, 1) := by decide +kernel
theorem dL_about_17 : decode cL_about 17 = .ok (.iconst 0, 1) := by decide +kernel
theorem dL_about_18 : decode cL_about 18 = .ok (.ireturn, 1) := by decide +kernel
set_option maxRecDepth 20000 in
theorem ggL_count_X0_count : GoodIn wsL_count wsX0_count := goodIn_ca (goodIn_r _ [6, 7, 8, 9, 10, 11, 5, 12, 13, 14, 15, 16, 17, 18, 19, 20, 21, 22, 23, 24, 25] (by decide +kernel) (by decide +kernel)) (goodIn_sub (fun _ h => List.mem_cons_of_mem _ (List.mem_append_right _ h)) (by decide +kernel))
set_option maxRecDepth 20000 in
theorem gL_count_X0_count : GoodIn wsL_count (wsV RL 65 RX0 yX0_count wsX0_count) := goodIn_app (goodIn_of _ (by decide +kernel)) ggL_count_X0_count
theorem dL_count_0 : decode cL_count 0 = .ok (.aload_n 2, 1) := by decide +kernel
theorem dL_count_1 : decode cL_count 1 = .ok (.iconst 0, 1) := by decide +kernel
theorem dL_count_2 : decode cL_count 2 = .ok (.aload_n 0, 1) := by decide +kernel
theorem dL_count_3 : decode cL_count 3 = .ok (.iload_n 1, 1) := by decide +kernel
theorem dL_count_4 : decode cL_count 4 = .ok (.invokevirtual 65, 3) := by decide +kernel
theorem dL_count_7 : decode cL_count 7 = .ok (.i2l, 1) := by decide +kernel
theorem dL_count_8 : decode cL_count 8 = .ok (.lastore, 1) := by decide +kernel
theorem dL_count_9 : decode cL_count 9 = .ok (.goto 6, 3) := by decide +kernel
theorem dL_count_12 : decode cL_count 12 = .ok (.astore_n 3, 1) := by decide +kernel
theorem dL_count_13 : decode cL_count 13 = .ok (.iconst 1, 1) := by decide +kernel
theorem dL_count_14 : decode cL_count 14 = .ok (.ireturn, 1) := by decide +kernel
theorem dL_count_15 : decode cL_count 15 = .ok (.iconst 0, 1) := by decide +kernel
theorem dL_count_16 : decode cL_count 16 = .ok (.ireturn, 1) := by decide +kernel
set_option maxRecDepth 20000 in
theorem ggL_would_X0_would : GoodIn wsL_would wsX0_would := goodIn_ca (goodIn_r _ [6, 7, 8, 9, 5, 10, 11, 12, 13, 14, 15, 16, 17, 18, 19, 20, 21, 22, 23, 24, 25, 26, 27, 28, 29, 30, 31, 32, 33, 34, 35, 36, 37, 38, 39, 40, 41, 42, 43, 44, 45, 46] (by decide +kernel) (by decide +kernel)) (goodIn_sub (fun _ h => List.mem_cons_of_mem _ (List.mem_append_right _ h)) (by decide +kernel))
set_option maxRecDepth 20000 in
theorem gL_would_X0_would : GoodIn wsL_would (wsV RL 68 RX0 yX0_would wsX0_would) := goodIn_app (goodIn_of _ (by decide +kernel)) ggL_would_X0_would
theorem dL_would_0 : decode cL_would 0 = .ok (.aload 4, 2) := by decide +kernel
theorem dL_would_2 : decode cL_would 2 = .ok (.iconst 0, 1) := by decide +kernel
theorem dL_would_3 : decode cL_would 3 = .ok (.aload_n 0, 1) := by decide +kernel
theorem dL_would_4 : decode cL_would 4 = .ok (.iload_n 1, 1) := by decide +kernel
theorem dL_would_5 : decode cL_would 5 = .ok (.iload_n 2, 1) := by decide +kernel
theorem dL_would_6 : decode cL_would 6 = .ok (.iload_n 3, 1) := by decide +kernel
theorem dL_would_7 : decode cL_would 7 = .ok (.invokevirtual 68, 3) := by decide +kernel
theorem dL_would_10 : decode cL_would 10 = .ok (.i2l, 1) := by decide +kernel
theorem dL_would_11 : decode cL_would 11 = .ok (.lastore, 1) := by decide +kernel
theorem dL_would_12 : decode cL_would 12 = .ok (.goto 7, 3) := by decide +kernel
theorem dL_would_15 : decode cL_would 15 = .ok (.astore 5, 2) := by decide +kernel
theorem dL_would_17 : decode cL_would 17 = .ok (.iconst 1, 1) := by decide +kernel
theorem dL_would_18 : decode cL_would 18 = .ok (.ireturn, 1) := by decide +kernel
theorem dL_would_19 : decode cL_would 19 = .ok (.iconst 0, 1) := by decide +kernel
theorem dL_would_20 : decode cL_would 20 = .ok (.ireturn, 1) := by decide +kernel
set_option maxRecDepth 20000 in
theorem ggL_comes_X0_comes : GoodIn wsL_comes wsX0_comes := goodIn_ca (goodIn_r _ [6, 7, 8, 9, 10, 5, 11, 12, 13, 14, 15, 16, 17, 18, 19, 20, 21, 22, 23, 24, 25, 26, 27, 28, 29, 30, 31, 32, 33] (by decide +kernel) (by decide +kernel)) (goodIn_sub (fun _ h => List.mem_cons_of_mem _ (List.mem_append_right _ h)) (by decide +kernel))
set_option maxRecDepth 20000 in
theorem gL_comes_X0_comes : GoodIn wsL_comes (wsV RL 71 RX0 yX0_comes wsX0_comes) := goodIn_app (goodIn_of _ (by decide +kernel)) ggL_comes_X0_comes
theorem dL_comes_0 : decode cL_comes 0 = .ok (.aload_n 3, 1) := by decide +kernel
theorem dL_comes_1 : decode cL_comes 1 = .ok (.iconst 0, 1) := by decide +kernel
theorem dL_comes_2 : decode cL_comes 2 = .ok (.aload_n 0, 1) := by decide +kernel
theorem dL_comes_3 : decode cL_comes 3 = .ok (.iload_n 1, 1) := by decide +kernel
theorem dL_comes_4 : decode cL_comes 4 = .ok (.iload_n 2, 1) := by decide +kernel
theorem dL_comes_5 : decode cL_comes 5 = .ok (.invokevirtual 71, 3) := by decide +kernel
theorem dL_comes_8 : decode cL_comes 8 = .ok (.i2l, 1) := by decide +kernel
theorem dL_comes_9 : decode cL_comes 9 = .ok (.lastore, 1) := by decide +kernel
theorem dL_comes_10 : decode cL_comes 10 = .ok (.goto 7, 3) := by decide +kernel
theorem dL_comes_13 : decode cL_comes 13 = .ok (.astore 4, 2) := by decide +kernel
theorem dL_comes_15 : decode cL_comes 15 = .ok (.iconst 1, 1) := by decide +kernel
theorem dL_comes_16 : decode cL_comes 16 = .ok (.ireturn, 1) := by decide +kernel
theorem dL_comes_17 : decode cL_comes 17 = .ok (.iconst 0, 1) := by decide +kernel
theorem dL_comes_18 : decode cL_comes 18 = .ok (.ireturn, 1) := by decide +kernel
set_option maxRecDepth 20000 in
theorem ggL_advise_X0_advise : GoodIn wsL_advise wsX0_advise := goodIn_ca (goodIn_r _ [6, 7, 8, 9, 10, 5, 11, 12, 13, 14, 15, 16, 17, 18, 19, 20, 21, 22, 23, 24, 25, 26, 27, 28, 29, 30, 31, 32, 33, 34, 35, 36, 37, 38, 39, 40, 41, 42] (by decide +kernel) (by decide +kernel)) (goodIn_sub (fun _ h => List.mem_cons_of_mem _ (List.mem_append_right _ h)) (by decide +kernel))
set_option maxRecDepth 20000 in
theorem gL_advise_X0_advise : GoodIn wsL_advise (wsV RL 74 RX0 yX0_advise wsX0_advise) := goodIn_app (goodIn_of _ (by decide +kernel)) ggL_advise_X0_advise
theorem dL_advise_0 : decode cL_advise 0 = .ok (.aload_n 3, 1) := by decide +kernel
theorem dL_advise_1 : decode cL_advise 1 = .ok (.iconst 0, 1) := by decide +kernel
theorem dL_advise_2 : decode cL_advise 2 = .ok (.aload_n 0, 1) := by decide +kernel
theorem dL_advise_3 : decode cL_advise 3 = .ok (.iload_n 1, 1) := by decide +kernel
theorem dL_advise_4 : decode cL_advise 4 = .ok (.iload_n 2, 1) := by decide +kernel
theorem dL_advise_5 : decode cL_advise 5 = .ok (.invokevirtual 74, 3) := by decide +kernel
theorem dL_advise_8 : decode cL_advise 8 = .ok (.i2l, 1) := by decide +kernel
theorem dL_advise_9 : decode cL_advise 9 = .ok (.lastore, 1) := by decide +kernel
theorem dL_advise_10 : decode cL_advise 10 = .ok (.goto 7, 3) := by decide +kernel
theorem dL_advise_13 : decode cL_advise 13 = .ok (.astore 4, 2) := by decide +kernel
theorem dL_advise_15 : decode cL_advise 15 = .ok (.iconst 1, 1) := by decide +kernel
theorem dL_advise_16 : decode cL_advise 16 = .ok (.ireturn, 1) := by decide +kernel
theorem dL_advise_17 : decode cL_advise 17 = .ok (.iconst 0, 1) := by decide +kernel
theorem dL_advise_18 : decode cL_advise 18 = .ok (.ireturn, 1) := by decide +kernel
set_option maxRecDepth 20000 in
theorem ggL_tones_X0_tones : GoodIn wsL_tones wsX0_tones := goodIn_ca (goodIn_r _ [6, 7, 8, 9, 5, 10, 11, 12, 13, 14, 15, 16, 17, 18, 19, 20, 21, 22, 23, 24, 25, 26, 27, 28, 29, 30, 31, 32, 33, 34, 35, 36, 37, 38, 39, 40, 41, 42, 43, 44, 45, 46, 47, 48, 49, 50, 51, 52, 53, 54, 55, 56, 57, 58, 59] (by decide +kernel) (by decide +kernel)) (goodIn_sub (fun _ h => List.mem_cons_of_mem _ (List.mem_append_right _ h)) (by decide +kernel))
set_option maxRecDepth 20000 in
theorem gL_tones_X0_tones : GoodIn wsL_tones (wsV RL 77 RX0 yX0_tones wsX0_tones) := goodIn_app (goodIn_of _ (by decide +kernel)) ggL_tones_X0_tones
theorem dL_tones_0 : decode cL_tones 0 = .ok (.aload_n 3, 1) := by decide +kernel
theorem dL_tones_1 : decode cL_tones 1 = .ok (.iconst 0, 1) := by decide +kernel
theorem dL_tones_2 : decode cL_tones 2 = .ok (.aload_n 0, 1) := by decide +kernel
theorem dL_tones_3 : decode cL_tones 3 = .ok (.iload_n 1, 1) := by decide +kernel
theorem dL_tones_4 : decode cL_tones 4 = .ok (.iload_n 2, 1) := by decide +kernel
theorem dL_tones_5 : decode cL_tones 5 = .ok (.invokevirtual 77, 3) := by decide +kernel
theorem dL_tones_8 : decode cL_tones 8 = .ok (.ifCond .eq 7, 3) := by decide +kernel
theorem dL_tones_11 : decode cL_tones 11 = .ok (.lconst 1, 1) := by decide +kernel
theorem dL_tones_12 : decode cL_tones 12 = .ok (.goto 4, 3) := by decide +kernel
theorem dL_tones_15 : decode cL_tones 15 = .ok (.lconst 0, 1) := by decide +kernel
theorem dL_tones_16 : decode cL_tones 16 = .ok (.lastore, 1) := by decide +kernel
theorem dL_tones_17 : decode cL_tones 17 = .ok (.goto 7, 3) := by decide +kernel
theorem dL_tones_20 : decode cL_tones 20 = .ok (.astore 4, 2) := by decide +kernel
theorem dL_tones_22 : decode cL_tones 22 = .ok (.iconst 1, 1) := by decide +kernel
theorem dL_tones_23 : decode cL_tones 23 = .ok (.ireturn, 1) := by decide +kernel
theorem dL_tones_24 : decode cL_tones 24 = .ok (.iconst 0, 1) := by decide +kernel
theorem dL_tones_25 : decode cL_tones 25 = .ok (.ireturn, 1) := by decide +kernel
set_option maxRecDepth 20000 in
theorem ggL_mean_X0_mean : GoodIn wsL_mean wsX0_mean := goodIn_ca (goodIn_r _ [6, 7, 8, 9, 10, 5, 11, 12, 13, 14, 15, 16, 17, 18, 19, 20, 21, 22, 23, 24, 25, 26, 27, 28, 29] (by decide +kernel) (by decide +kernel)) (goodIn_sub (fun _ h => List.mem_cons_of_mem _ (List.mem_append_right _ h)) (by decide +kernel))
set_option maxRecDepth 20000 in
theorem gL_mean_X0_mean : GoodIn wsL_mean (wsV RL 81 RX0 yX0_mean wsX0_mean) := goodIn_app (goodIn_of _ (by decide +kernel)) ggL_mean_X0_mean
theorem dL_mean_0 : decode cL_mean 0 = .ok (.aload_n 2, 1) := by decide +kernel
theorem dL_mean_1 : decode cL_mean 1 = .ok (.iconst 0, 1) := by decide +kernel
theorem dL_mean_2 : decode cL_mean 2 = .ok (.aload_n 0, 1) := by decide +kernel
theorem dL_mean_3 : decode cL_mean 3 = .ok (.iload_n 1, 1) := by decide +kernel
theorem dL_mean_4 : decode cL_mean 4 = .ok (.invokevirtual 81, 3) := by decide +kernel
theorem dL_mean_7 : decode cL_mean 7 = .ok (.dastore, 1) := by decide +kernel
theorem dL_mean_8 : decode cL_mean 8 = .ok (.goto 6, 3) := by decide +kernel
theorem dL_mean_11 : decode cL_mean 11 = .ok (.astore_n 3, 1) := by decide +kernel
theorem dL_mean_12 : decode cL_mean 12 = .ok (.iconst 1, 1) := by decide +kernel
theorem dL_mean_13 : decode cL_mean 13 = .ok (.ireturn, 1) := by decide +kernel
theorem dL_mean_14 : decode cL_mean 14 = .ok (.iconst 0, 1) := by decide +kernel
theorem dL_mean_15 : decode cL_mean 15 = .ok (.ireturn, 1) := by decide +kernel
set_option maxRecDepth 20000 in
theorem ggL_law_X0_init : GoodIn wsL_law wsX0_init := goodIn_r _ [10, 11, 12, 13, 14, 15, 16, 17, 18, 2, 19, 20, 21, 22, 23, 24, 25, 26, 27, 28, 29, 30, 31, 32, 33, 34, 35, 36, 37, 38, 39, 40, 41, 42, 43, 44, 45, 549, 550, 551, 552, 553, 554, 555] (by decide +kernel) (by decide +kernel)
set_option maxRecDepth 20000 in
theorem gL_law_X0_init : GoodIn wsL_law (wsX0_init) := ggL_law_X0_init
set_option maxRecDepth 20000 in
theorem ggL_law_X1_init : GoodIn wsL_law wsX1_init := goodIn_r _ [48, 49, 12, 13, 50, 51, 52, 53, 14, 54, 55, 556, 557, 558, 559, 560, 561, 562] (by decide +kernel) (by decide +kernel)
set_option maxRecDepth 20000 in
theorem gL_law_X1_init : GoodIn wsL_law (wsX1_init) := ggL_law_X1_init
set_option maxRecDepth 20000 in
theorem ggL_law_L_ring : GoodIn wsL_law wsL_ring := goodIn_ca (goodIn_r _ [59, 60, 61, 62, 63, 2, 64, 65, 66, 23, 67, 68, 69, 70, 71, 72, 73, 74, 75, 16, 17, 18, 19, 20, 21, 22, 24, 25, 15, 26, 27, 28, 29, 30, 31, 32, 33, 34, 35, 36, 37, 38, 39, 40, 41, 42, 43, 44, 45, 549, 550, 551, 552, 553, 554, 555] (by decide +kernel) (by decide +kernel)) (goodIn_sub (fun _ h => List.mem_append_left _ (List.mem_append_right _ h)) (by decide +kernel))
set_option maxRecDepth 20000 in
theorem gL_law_L_ring : GoodIn wsL_law (va_wsS RL 89 yL_ring wsL_ring) := goodIn_app (goodIn_of _ (by decide +kernel)) ggL_law_L_ring
set_option maxRecDepth 20000 in
theorem ggL_law_X1_ring : GoodIn wsL_law wsX1_ring := goodIn_r _ [79, 80, 50, 51, 52, 53, 54, 81, 82, 5, 83, 84, 85, 86, 87, 88, 89, 90, 91, 92, 93, 94, 95, 96, 97, 98, 99, 100, 101, 102, 556, 557, 558, 559, 560, 561, 562] (by decide +kernel) (by decide +kernel)
set_option maxRecDepth 20000 in
theorem gL_law_X1_ring : GoodIn wsL_law (wsV RL 94 RX1 yX1_ring wsX1_ring) := goodIn_app (goodIn_of _ (by decide +kernel)) ggL_law_X1_ring
set_option maxRecDepth 20000 in
theorem ggL_law_X1_thrown : GoodIn wsL_law wsX1_thrown := goodIn_r _ [106, 80, 556, 557, 558, 559, 560, 561, 562] (by decide +kernel) (by decide +kernel)
set_option maxRecDepth 20000 in
theorem gL_law_X1_thrown : GoodIn wsL_law (wsV RL 95 RX1 yX1_thrown wsX1_thrown) := goodIn_app (goodIn_of _ (by decide +kernel)) ggL_law_X1_thrown
set_option maxRecDepth 20000 in
theorem ggL_law_L_order : GoodIn wsL_law wsL_order := goodIn_ca (goodIn_r _ [109, 60, 110, 111, 112, 2, 113, 21, 114, 115, 116, 117, 65, 66, 34, 35, 36, 37, 38, 39, 40, 41, 549, 550, 551, 552, 553, 554, 555] (by decide +kernel) (by decide +kernel)) (goodIn_sub (fun _ h => List.mem_append_left _ (List.mem_append_right _ h)) (by decide +kernel))
set_option maxRecDepth 20000 in
theorem gL_law_L_order : GoodIn wsL_law (va_wsS RL 99 yL_order wsL_order) := goodIn_app (goodIn_of _ (by decide +kernel)) ggL_law_L_order
set_option maxRecDepth 20000 in
theorem ggL_law_X1_order : GoodIn wsL_law wsX1_order := goodIn_r _ [121, 80, 122, 123, 124, 5, 125, 51, 81, 82, 83, 95, 96, 97, 98, 99, 100, 101, 102, 87, 88, 89, 90, 556, 557, 558, 559, 560, 561, 562] (by decide +kernel) (by decide +kernel)
set_option maxRecDepth 20000 in
theorem gL_law_X1_order : GoodIn wsL_law (wsV RL 102 RX1 yX1_order wsX1_order) := goodIn_app (goodIn_of _ (by decide +kernel)) ggL_law_X1_order
set_option maxRecDepth 20000 in
theorem ggL_law_L_inverse : GoodIn wsL_law wsL_inverse := goodIn_ca (goodIn_r _ [128, 60, 129, 130, 131, 2, 132, 114, 115, 116, 117, 65, 66, 21, 42, 43, 44, 45, 30, 31, 32, 33, 34, 35, 36, 37, 38, 39, 40, 41, 549, 550, 551, 552, 553, 554, 555] (by decide +kernel) (by decide +kernel)) (goodIn_sub (fun _ h => List.mem_append_left _ (List.mem_append_right _ h)) (by decide +kernel))
set_option maxRecDepth 20000 in
theorem gL_law_L_inverse : GoodIn wsL_law (va_wsS RL 103 yL_inverse wsL_inverse) := goodIn_app (goodIn_of _ (by decide +kernel)) ggL_law_L_inverse
set_option maxRecDepth 20000 in
theorem ggL_law_X1_inverse : GoodIn wsL_law wsX1_inverse := goodIn_r _ [136, 80, 122, 123, 124, 5, 125, 51, 81, 82, 83, 137, 138, 139, 140, 87, 88, 89, 90, 556, 557, 558, 559, 560, 561, 562] (by decide +kernel) (by decide +kernel)
set_option maxRecDepth 20000 in
theorem gL_law_X1_inverse : GoodIn wsL_law (wsV RL 105 RX1 yX1_inverse wsX1_inverse) := goodIn_app (goodIn_of _ (by decide +kernel)) ggL_law_X1_inverse
set_option maxRecDepth 20000 in
theorem ggL_law_L_root : GoodIn wsL_law wsL_root := goodIn_ca (goodIn_r _ [143, 60, 144, 145, 146, 2, 147, 65, 66, 23, 30, 31, 32, 33, 34, 35, 36, 37, 21, 38, 39, 40, 41, 549, 550, 551, 552, 553, 554, 555] (by decide +kernel) (by decide +kernel)) (goodIn_sub (fun _ h => List.mem_append_left _ (List.mem_append_right _ h)) (by decide +kernel))
set_option maxRecDepth 20000 in
theorem gL_law_L_root : GoodIn wsL_law (va_wsS RL 106 yL_root wsL_root) := goodIn_app (goodIn_of _ (by decide +kernel)) ggL_law_L_root
set_option maxRecDepth 20000 in
theorem ggL_law_X1_root : GoodIn wsL_law wsX1_root := goodIn_r _ [151, 80, 52, 81, 82, 5, 83, 152, 153, 154, 155, 99, 100, 101, 102, 51, 87, 88, 89, 90, 556, 557, 558, 559, 560, 561, 562] (by decide +kernel) (by decide +kernel)
set_option maxRecDepth 20000 in
theorem gL_law_X1_root : GoodIn wsL_law (wsV RL 108 RX1 yX1_root wsX1_root) := goodIn_app (goodIn_of _ (by decide +kernel)) ggL_law_X1_root
set_option maxRecDepth 20000 in
theorem ggL_law_L_set : GoodIn wsL_law wsL_set := goodIn_ca (goodIn_ca (goodIn_r _ [158, 159, 60, 160, 161, 162, 2, 163, 164, 165, 166, 167, 168, 169, 170, 171, 172, 173, 20, 174, 175, 176, 177, 65, 66, 21, 178, 179, 180, 181, 15, 182, 183, 184, 185, 549, 550, 551, 552, 553, 554, 555] (by decide +kernel) (by decide +kernel)) (goodIn_sub (fun _ h => List.mem_append_right _ h) (by decide +kernel))) (goodIn_sub (fun _ h => List.mem_append_left _ (List.mem_append_right _ h)) (by decide +kernel))
set_option maxRecDepth 20000 in
theorem gL_law_L_set : GoodIn wsL_law (va_wsS RL 109 yL_set wsL_set) := goodIn_app (goodIn_of _ (by decide +kernel)) ggL_law_L_set
set_option maxRecDepth 20000 in
theorem ggL_law_X1_set : GoodIn wsL_law wsX1_set := goodIn_r _ [189, 80, 51, 54, 190, 191, 5, 192, 81, 82, 83, 193, 194, 195, 196, 50, 87, 88, 89, 90, 197, 198, 199, 200, 556, 557, 558, 559, 560, 561, 562] (by decide +kernel) (by decide +kernel)
set_option maxRecDepth 20000 in
theorem gL_law_X1_set : GoodIn wsL_law (wsV RL 112 RX1 yX1_set wsX1_set) := goodIn_app (goodIn_of _ (by decide +kernel)) ggL_law_X1_set
set_option maxRecDepth 20000 in
theorem ggL_law_L_copy : GoodIn wsL_law wsL_copy := goodIn_ca (goodIn_r _ [203, 159, 204, 205, 206, 2, 207, 164, 165, 166, 167, 168, 169, 208, 209, 210, 211, 20, 178, 179, 180, 181, 15, 182, 183, 184, 185, 549, 550, 551, 552, 553, 554, 555] (by decide +kernel) (by decide +kernel)) (goodIn_sub (fun _ h => List.mem_append_right _ h) (by decide +kernel))
set_option maxRecDepth 20000 in
theorem gL_law_L_copy : GoodIn wsL_law (va_wsS RL 113 yL_copy wsL_copy) := goodIn_app (goodIn_of _ (by decide +kernel)) ggL_law_L_copy
set_option maxRecDepth 20000 in
theorem ggL_law_X1_copy : GoodIn wsL_law wsX1_copy := goodIn_r _ [215, 80, 54, 55, 50, 216, 217, 218, 219, 190, 191, 5, 192, 81, 82, 83, 87, 88, 89, 90, 220, 221, 222, 223, 197, 198, 199, 200, 224, 225, 226, 227, 556, 557, 558, 559, 560, 561, 562] (by decide +kernel) (by decide +kernel)
set_option maxRecDepth 20000 in
theorem gL_law_X1_copy : GoodIn wsL_law (wsV RL 115 RX1 yX1_copy wsX1_copy) := goodIn_app (goodIn_of _ (by decide +kernel)) ggL_law_X1_copy
set_option maxRecDepth 20000 in
theorem ggL_law_L_turn : GoodIn wsL_law wsL_turn := goodIn_ca (goodIn_r _ [230, 159, 231, 232, 233, 2, 234, 164, 165, 166, 167, 168, 169, 235, 236, 237, 238, 24, 25, 239, 240, 241, 242, 20, 243, 244, 245, 246, 178, 179, 180, 181, 15, 34, 35, 36, 37, 21, 38, 39, 40, 41, 182, 183, 184, 185, 247, 248, 249, 250, 23, 208, 209, 210, 211, 549, 550, 551, 552, 553, 554, 555] (by decide +kernel) (by decide +kernel)) (goodIn_sub (fun _ h => List.mem_append_right _ h) (by decide +kernel))
set_option maxRecDepth 20000 in
theorem gL_law_L_turn : GoodIn wsL_law (va_wsS RL 116 yL_turn wsL_turn) := goodIn_app (goodIn_of _ (by decide +kernel)) ggL_law_L_turn
set_option maxRecDepth 20000 in
theorem ggL_law_X1_turn : GoodIn wsL_law wsX1_turn := goodIn_r _ [254, 80, 52, 50, 55, 190, 191, 5, 192, 81, 82, 83, 87, 88, 89, 90, 137, 138, 139, 140, 51, 255, 256, 257, 258, 259, 260, 261, 262, 99, 100, 101, 102, 197, 198, 199, 200, 54, 263, 264, 265, 266, 224, 225, 226, 227, 216, 217, 218, 219, 556, 557, 558, 559, 560, 561, 562] (by decide +kernel) (by decide +kernel)
set_option maxRecDepth 20000 in
theorem gL_law_X1_turn : GoodIn wsL_law (wsV RL 119 RX1 yX1_turn wsX1_turn) := goodIn_app (goodIn_of _ (by decide +kernel)) ggL_law_X1_turn
set_option maxRecDepth 20000 in
theorem ggL_law_L_mirror : GoodIn wsL_law wsL_mirror := goodIn_ca (goodIn_r _ [269, 159, 270, 271, 272, 2, 273, 20, 164, 165, 166, 167, 168, 169, 274, 275, 276, 277, 22, 178, 179, 180, 181, 15, 182, 183, 184, 185, 208, 209, 210, 211, 549, 550, 551, 552, 553, 554, 555] (by decide +kernel) (by decide +kernel)) (goodIn_sub (fun _ h => List.mem_append_right _ h) (by decide +kernel))
set_option maxRecDepth 20000 in
theorem gL_law_L_mirror : GoodIn wsL_law (va_wsS RL 120 yL_mirror wsL_mirror) := goodIn_app (goodIn_of _ (by decide +kernel)) ggL_law_L_mirror
set_option maxRecDepth 20000 in
theorem ggL_law_X1_mirror : GoodIn wsL_law wsX1_mirror := goodIn_r _ [281, 80, 50, 55, 190, 191, 5, 192, 81, 82, 83, 87, 88, 89, 90, 282, 283, 284, 285, 53, 197, 198, 199, 200, 54, 220, 221, 222, 223, 224, 225, 226, 227, 216, 217, 218, 219, 556, 557, 558, 559, 560, 561, 562] (by decide +kernel) (by decide +kernel)
set_option maxRecDepth 20000 in
theorem gL_law_X1_mirror : GoodIn wsL_law (wsV RL 122 RX1 yX1_mirror wsX1_mirror) := goodIn_app (goodIn_of _ (by decide +kernel)) ggL_law_X1_mirror
set_option maxRecDepth 20000 in
theorem ggL_law_L_stage : GoodIn wsL_law wsL_stage := goodIn_ca (goodIn_r _ [288, 159, 289, 290, 291, 2, 292, 168, 169, 22, 20, 23, 164, 165, 166, 167, 30, 31, 32, 33, 34, 35, 36, 37, 21, 38, 39, 40, 41, 293, 294, 295, 296, 178, 179, 180, 181, 15, 182, 183, 184, 185, 549, 550, 551, 552, 553, 554, 555] (by decide +kernel) (by decide +kernel)) (goodIn_sub (fun _ h => List.mem_append_right _ h) (by decide +kernel))
set_option maxRecDepth 20000 in
theorem gL_law_L_stage : GoodIn wsL_law (va_wsS RL 123 yL_stage wsL_stage) := goodIn_app (goodIn_of _ (by decide +kernel)) ggL_law_L_stage
set_option maxRecDepth 20000 in
theorem ggL_law_X1_stage : GoodIn wsL_law wsX1_stage := goodIn_r _ [300, 80, 53, 50, 52, 55, 190, 191, 5, 192, 81, 82, 83, 87, 88, 89, 90, 197, 198, 199, 200, 54, 152, 153, 154, 155, 99, 100, 101, 102, 51, 263, 264, 265, 266, 301, 302, 303, 304, 224, 225, 226, 227, 216, 217, 218, 219, 556, 557, 558, 559, 560, 561, 562] (by decide +kernel) (by decide +kernel)
set_option maxRecDepth 20000 in
theorem gL_law_X1_stage : GoodIn wsL_law (wsV RL 125 RX1 yX1_stage wsX1_stage) := goodIn_app (goodIn_of _ (by decide +kernel)) ggL_law_X1_stage
set_option maxRecDepth 20000 in
theorem ggL_law_L_fold : GoodIn wsL_law wsL_fold := goodIn_ca (goodIn_r _ [307, 159, 308, 309, 310, 2, 311, 20, 164, 165, 166, 167, 168, 169, 312, 313, 314, 315, 178, 179, 180, 181, 15, 316, 317, 318, 319, 34, 35, 36, 37, 21, 38, 39, 40, 41, 182, 183, 184, 185, 208, 209, 210, 211, 549, 550, 551, 552, 553, 554, 555] (by decide +kernel) (by decide +kernel)) (goodIn_sub (fun _ h => List.mem_append_right _ h) (by decide +kernel))
set_option maxRecDepth 20000 in
theorem gL_law_L_fold : GoodIn wsL_law (va_wsS RL 126 yL_fold wsL_fold) := goodIn_app (goodIn_of _ (by decide +kernel)) ggL_law_L_fold
set_option maxRecDepth 20000 in
theorem ggL_law_X1_fold : GoodIn wsL_law wsX1_fold := goodIn_r _ [323, 80, 50, 55, 190, 191, 5, 192, 81, 82, 83, 87, 88, 89, 90, 324, 325, 326, 327, 197, 198, 199, 200, 54, 99, 100, 101, 102, 51, 263, 264, 265, 266, 224, 225, 226, 227, 216, 217, 218, 219, 556, 557, 558, 559, 560, 561, 562] (by decide +kernel) (by decide +kernel)
set_option maxRecDepth 20000 in
theorem gL_law_X1_fold : GoodIn wsL_law (wsV RL 128 RX1 yX1_fold wsX1_fold) := goodIn_app (goodIn_of _ (by decide +kernel)) ggL_law_X1_fold
set_option maxRecDepth 20000 in
theorem ggL_law_L_join : GoodIn wsL_law wsL_join := goodIn_ca (goodIn_r _ [330, 159, 331, 332, 333, 2, 334, 168, 169, 20, 164, 165, 166, 167, 178, 179, 180, 181, 15, 335, 336, 337, 338, 34, 35, 36, 37, 21, 38, 39, 40, 41, 182, 183, 184, 185, 339, 340, 341, 342, 549, 550, 551, 552, 553, 554, 555] (by decide +kernel) (by decide +kernel)) (goodIn_sub (fun _ h => List.mem_append_right _ h) (by decide +kernel))
set_option maxRecDepth 20000 in
theorem gL_law_L_join : GoodIn wsL_law (va_wsS RL 129 yL_join wsL_join) := goodIn_app (goodIn_of _ (by decide +kernel)) ggL_law_L_join
set_option maxRecDepth 20000 in
theorem ggL_law_X1_join : GoodIn wsL_law wsX1_join := goodIn_r _ [346, 80, 50, 55, 190, 191, 5, 192, 81, 82, 83, 87, 88, 89, 90, 197, 198, 199, 200, 54, 263, 264, 265, 266, 51, 301, 302, 303, 304, 99, 100, 101, 102, 224, 225, 226, 227, 216, 217, 218, 219, 347, 348, 349, 350, 556, 557, 558, 559, 560, 561, 562] (by decide +kernel) (by decide +kernel)
set_option maxRecDepth 20000 in
theorem gL_law_X1_join : GoodIn wsL_law (wsV RL 131 RX1 yX1_join wsX1_join) := goodIn_app (goodIn_of _ (by decide +kernel)) ggL_law_X1_join
set_option maxRecDepth 20000 in
theorem ggL_law_L_move : GoodIn wsL_law wsL_move := goodIn_ca (goodIn_ca (goodIn_r _ [353, 159, 60, 354, 355, 356, 2, 357, 65, 66, 20, 164, 165, 166, 167, 168, 169, 316, 317, 318, 319, 178, 179, 180, 181, 15, 182, 183, 184, 185, 208, 209, 210, 211, 549, 550, 551, 552, 553, 554, 555] (by decide +kernel) (by decide +kernel)) (goodIn_sub (fun _ h => List.mem_append_left _ (List.mem_append_right _ h)) (by decide +kernel))) (goodIn_sub (fun _ h => List.mem_append_right _ h) (by decide +kernel))
set_option maxRecDepth 20000 in
theorem gL_law_L_move : GoodIn wsL_law (va_wsS RL 132 yL_move wsL_move) := goodIn_app (goodIn_of _ (by decide +kernel)) ggL_law_L_move
set_option maxRecDepth 20000 in
theorem ggL_law_X1_move : GoodIn wsL_law wsX1_move := goodIn_r _ [361, 80, 50, 55, 190, 191, 5, 192, 81, 82, 83, 87, 88, 89, 90, 193, 194, 195, 196, 197, 198, 199, 200, 54, 224, 225, 226, 227, 216, 217, 218, 219, 556, 557, 558, 559, 560, 561, 562] (by decide +kernel) (by decide +kernel)
set_option maxRecDepth 20000 in
theorem gL_law_X1_move : GoodIn wsL_law (wsV RL 134 RX1 yX1_move wsX1_move) := goodIn_app (goodIn_of _ (by decide +kernel)) ggL_law_X1_move
set_option maxRecDepth 20000 in
theorem ggL_law_L_times : GoodIn wsL_law wsL_times := goodIn_ca (goodIn_ca (goodIn_r _ [364, 159, 60, 365, 366, 367, 2, 368, 20, 164, 165, 166, 167, 168, 169, 174, 175, 176, 177, 65, 66, 21, 178, 179, 180, 181, 15, 34, 35, 36, 37, 38, 39, 40, 41, 182, 183, 184, 185, 339, 340, 341, 342, 549, 550, 551, 552, 553, 554, 555] (by decide +kernel) (by decide +kernel)) (goodIn_sub (fun _ h => List.mem_append_right _ h) (by decide +kernel))) (goodIn_sub (fun _ h => List.mem_append_left _ (List.mem_append_right _ h)) (by decide +kernel))
set_option maxRecDepth 20000 in
theorem gL_law_L_times : GoodIn wsL_law (va_wsS RL 135 yL_times wsL_times) := goodIn_app (goodIn_of _ (by decide +kernel)) ggL_law_L_times
set_option maxRecDepth 20000 in
theorem ggL_law_X1_times : GoodIn wsL_law wsX1_times := goodIn_r _ [372, 80, 51, 50, 55, 190, 191, 5, 192, 81, 82, 83, 87, 88, 89, 90, 197, 198, 199, 200, 54, 99, 100, 101, 102, 224, 225, 226, 227, 216, 217, 218, 219, 347, 348, 349, 350, 556, 557, 558, 559, 560, 561, 562] (by decide +kernel) (by decide +kernel)
set_option maxRecDepth 20000 in
theorem gL_law_X1_times : GoodIn wsL_law (wsV RL 137 RX1 yX1_times wsX1_times) := goodIn_app (goodIn_of _ (by decide +kernel)) ggL_law_X1_times
set_option maxRecDepth 20000 in
theorem ggL_law_L_at : GoodIn wsL_law wsL_at := goodIn_ca (goodIn_r _ [375, 159, 376, 377, 378, 2, 379, 164, 165, 166, 167, 168, 169, 170, 171, 172, 173, 20, 178, 179, 180, 181, 15, 549, 550, 551, 552, 553, 554, 555] (by decide +kernel) (by decide +kernel)) (goodIn_sub (fun _ h => List.mem_append_right _ h) (by decide +kernel))
set_option maxRecDepth 20000 in
theorem gL_law_L_at : GoodIn wsL_law (va_wsS RL 138 yL_at wsL_at) := goodIn_app (goodIn_of _ (by decide +kernel)) ggL_law_L_at
set_option maxRecDepth 20000 in
theorem ggL_law_X1_at : GoodIn wsL_law wsX1_at := goodIn_r _ [383, 80, 190, 191, 5, 192, 81, 82, 83, 193, 194, 195, 196, 50, 197, 198, 199, 200, 54, 87, 88, 89, 90, 556, 557, 558, 559, 560, 561, 562] (by decide +kernel) (by decide +kernel)
set_option maxRecDepth 20000 in
theorem gL_law_X1_at : GoodIn wsL_law (wsV RL 140 RX1 yX1_at wsX1_at) := goodIn_app (goodIn_of _ (by decide +kernel)) ggL_law_X1_at
set_option maxRecDepth 20000 in
theorem ggL_law_L_point : GoodIn wsL_law wsL_point := goodIn_ca (goodIn_ca (goodIn_r _ [386, 159, 60, 387, 388, 389, 2, 390, 164, 165, 166, 167, 168, 169, 174, 175, 176, 177, 65, 66, 21, 243, 244, 245, 246, 20, 178, 179, 180, 181, 15, 34, 35, 36, 37, 38, 39, 40, 41, 549, 550, 551, 552, 553, 554, 555] (by decide +kernel) (by decide +kernel)) (goodIn_sub (fun _ h => List.mem_append_right _ h) (by decide +kernel))) (goodIn_sub (fun _ h => List.mem_append_left _ (List.mem_append_right _ h)) (by decide +kernel))
set_option maxRecDepth 20000 in
theorem gL_law_L_point : GoodIn wsL_law (va_wsS RL 141 yL_point wsL_point) := goodIn_app (goodIn_of _ (by decide +kernel)) ggL_law_L_point
set_option maxRecDepth 20000 in
theorem ggL_law_X1_point : GoodIn wsL_law wsX1_point := goodIn_r _ [394, 80, 51, 190, 191, 5, 192, 81, 82, 83, 87, 88, 89, 90, 259, 260, 261, 262, 50, 99, 100, 101, 102, 197, 198, 199, 200, 54, 263, 264, 265, 266, 556, 557, 558, 559, 560, 561, 562] (by decide +kernel) (by decide +kernel)
set_option maxRecDepth 20000 in
theorem gL_law_X1_point : GoodIn wsL_law (wsV RL 143 RX1 yX1_point wsX1_point) := goodIn_app (goodIn_of _ (by decide +kernel)) ggL_law_X1_point
set_option maxRecDepth 20000 in
theorem ggL_law_L_about : GoodIn wsL_law wsL_about := goodIn_ca (goodIn_r _ [397, 159, 398, 399, 400, 2, 401, 168, 169, 164, 165, 166, 167, 402, 403, 404, 405, 406, 407, 408, 409, 20, 178, 179, 180, 181, 15, 34, 35, 36, 37, 21, 38, 39, 40, 41, 339, 340, 341, 342, 410, 411, 412, 413, 414, 415, 416, 417, 418, 419, 420, 421, 316, 317, 318, 319, 422, 423, 424, 425, 426, 427, 428, 429, 549, 550, 551, 552, 553, 554, 555] (by decide +kernel) (by decide +kernel)) (goodIn_sub (fun _ h => List.mem_append_right _ h) (by decide +kernel))
set_option maxRecDepth 20000 in
theorem gL_law_L_about : GoodIn wsL_law (va_wsS RL 144 yL_about wsL_about) := goodIn_app (goodIn_of _ (by decide +kernel)) ggL_law_L_about
set_option maxRecDepth 20000 in
theorem ggL_law_X1_about : GoodIn wsL_law wsX1_about := goodIn_r _ [433, 80, 190, 191, 5, 192, 81, 82, 83, 434, 435, 436, 437, 50, 438, 427, 428, 429, 259, 260, 261, 262, 99, 100, 101, 102, 51, 197, 198, 199, 200, 54, 263, 264, 265, 266, 347, 348, 349, 350, 439, 440, 441, 442, 87, 88, 89, 90, 556, 557, 558, 559, 560, 561, 562] (by decide +kernel) (by decide +kernel)
set_option maxRecDepth 20000 in
theorem gL_law_X1_about : GoodIn wsL_law (wsV RL 146 RX1 yX1_about wsX1_about) := goodIn_app (goodIn_of _ (by decide +kernel)) ggL_law_X1_about
set_option maxRecDepth 20000 in
theorem ggL_law_L_count : GoodIn wsL_law wsL_count := goodIn_ca (goodIn_r _ [445, 159, 446, 447, 448, 2, 449, 168, 169, 450, 451, 452, 453, 20, 21, 23, 24, 25, 22, 549, 550, 551, 552, 553, 554, 555] (by decide +kernel) (by decide +kernel)) (goodIn_sub (fun _ h => List.mem_append_right _ h) (by decide +kernel))
set_option maxRecDepth 20000 in
theorem gL_law_L_count : GoodIn wsL_law (va_wsS RL 147 yL_count wsL_count) := goodIn_app (goodIn_of _ (by decide +kernel)) ggL_law_L_count
set_option maxRecDepth 20000 in
theorem ggL_law_X1_count : GoodIn wsL_law wsX1_count := goodIn_r _ [457, 80, 81, 82, 5, 83, 458, 459, 460, 461, 50, 51, 52, 53, 137, 138, 139, 140, 87, 88, 89, 90, 556, 557, 558, 559, 560, 561, 562] (by decide +kernel) (by decide +kernel)
set_option maxRecDepth 20000 in
theorem gL_law_X1_count : GoodIn wsL_law (wsV RL 149 RX1 yX1_count wsX1_count) := goodIn_app (goodIn_of _ (by decide +kernel)) ggL_law_X1_count
set_option maxRecDepth 20000 in
theorem ggL_law_L_would : GoodIn wsL_law wsL_would := goodIn_ca (goodIn_r _ [464, 159, 465, 466, 467, 2, 468, 164, 165, 166, 167, 168, 169, 170, 171, 172, 173, 20, 312, 313, 314, 315, 178, 179, 180, 181, 15, 316, 317, 318, 319, 34, 35, 36, 37, 21, 38, 39, 40, 41, 549, 550, 551, 552, 553, 554, 555] (by decide +kernel) (by decide +kernel)) (goodIn_sub (fun _ h => List.mem_append_right _ h) (by decide +kernel))
set_option maxRecDepth 20000 in
theorem gL_law_L_would : GoodIn wsL_law (va_wsS RL 150 yL_would wsL_would) := goodIn_app (goodIn_of _ (by decide +kernel)) ggL_law_L_would
set_option maxRecDepth 20000 in
theorem ggL_law_X1_would : GoodIn wsL_law wsX1_would := goodIn_r _ [472, 80, 190, 191, 5, 192, 81, 82, 83, 193, 194, 195, 196, 50, 324, 325, 326, 327, 197, 198, 199, 200, 54, 99, 100, 101, 102, 51, 263, 264, 265, 266, 87, 88, 89, 90, 556, 557, 558, 559, 560, 561, 562] (by decide +kernel) (by decide +kernel)
set_option maxRecDepth 20000 in
theorem gL_law_X1_would : GoodIn wsL_law (wsV RL 152 RX1 yX1_would wsX1_would) := goodIn_app (goodIn_of _ (by decide +kernel)) ggL_law_X1_would
set_option maxRecDepth 20000 in
theorem ggL_law_L_comes : GoodIn wsL_law wsL_comes := goodIn_ca (goodIn_r _ [475, 159, 476, 477, 478, 2, 479, 20, 164, 165, 166, 167, 168, 169, 418, 419, 420, 421, 316, 317, 318, 319, 178, 179, 180, 181, 15, 549, 550, 551, 552, 553, 554, 555] (by decide +kernel) (by decide +kernel)) (goodIn_sub (fun _ h => List.mem_append_right _ h) (by decide +kernel))
set_option maxRecDepth 20000 in
theorem gL_law_L_comes : GoodIn wsL_law (va_wsS RL 153 yL_comes wsL_comes) := goodIn_app (goodIn_of _ (by decide +kernel)) ggL_law_L_comes
set_option maxRecDepth 20000 in
theorem ggL_law_X1_comes : GoodIn wsL_law wsX1_comes := goodIn_r _ [483, 80, 190, 191, 5, 192, 81, 82, 83, 484, 485, 486, 487, 50, 439, 440, 441, 442, 197, 198, 199, 200, 54, 87, 88, 89, 90, 556, 557, 558, 559, 560, 561, 562] (by decide +kernel) (by decide +kernel)
set_option maxRecDepth 20000 in
theorem gL_law_X1_comes : GoodIn wsL_law (wsV RL 155 RX1 yX1_comes wsX1_comes) := goodIn_app (goodIn_of _ (by decide +kernel)) ggL_law_X1_comes
set_option maxRecDepth 20000 in
theorem ggL_law_L_advise : GoodIn wsL_law wsL_advise := goodIn_ca (goodIn_r _ [490, 159, 491, 492, 493, 2, 494, 20, 164, 165, 166, 167, 168, 169, 495, 496, 497, 498, 178, 179, 180, 181, 15, 316, 317, 318, 319, 34, 35, 36, 37, 21, 38, 39, 40, 41, 549, 550, 551, 552, 553, 554, 555] (by decide +kernel) (by decide +kernel)) (goodIn_sub (fun _ h => List.mem_append_right _ h) (by decide +kernel))
set_option maxRecDepth 20000 in
theorem gL_law_L_advise : GoodIn wsL_law (va_wsS RL 156 yL_advise wsL_advise) := goodIn_app (goodIn_of _ (by decide +kernel)) ggL_law_L_advise
set_option maxRecDepth 20000 in
theorem ggL_law_X1_advise : GoodIn wsL_law wsX1_advise := goodIn_r _ [502, 80, 50, 190, 191, 5, 192, 81, 82, 83, 87, 88, 89, 90, 503, 504, 505, 506, 197, 198, 199, 200, 54, 99, 100, 101, 102, 51, 263, 264, 265, 266, 556, 557, 558, 559, 560, 561, 562] (by decide +kernel) (by decide +kernel)
set_option maxRecDepth 20000 in
theorem gL_law_X1_advise : GoodIn wsL_law (wsV RL 158 RX1 yX1_advise wsX1_advise) := goodIn_app (goodIn_of _ (by decide +kernel)) ggL_law_X1_advise
set_option maxRecDepth 20000 in
theorem ggL_law_L_tones : GoodIn wsL_law wsL_tones := goodIn_ca (goodIn_r _ [509, 159, 510, 511, 512, 2, 513, 164, 165, 166, 167, 168, 169, 247, 248, 249, 250, 23, 239, 240, 241, 242, 20, 243, 244, 245, 246, 178, 179, 180, 181, 15, 34, 35, 36, 37, 21, 38, 39, 40, 41, 182, 183, 184, 185, 418, 419, 420, 421, 316, 317, 318, 319, 549, 550, 551, 552, 553, 554, 555] (by decide +kernel) (by decide +kernel)) (goodIn_sub (fun _ h => List.mem_append_right _ h) (by decide +kernel))
set_option maxRecDepth 20000 in
theorem gL_law_L_tones : GoodIn wsL_law (va_wsS RL 159 yL_tones wsL_tones) := goodIn_app (goodIn_of _ (by decide +kernel)) ggL_law_L_tones
set_option maxRecDepth 20000 in
theorem ggL_law_X1_tones : GoodIn wsL_law wsX1_tones := goodIn_r _ [517, 80, 190, 191, 5, 192, 81, 82, 83, 518, 519, 520, 521, 52, 255, 256, 257, 258, 50, 55, 259, 260, 261, 262, 99, 100, 101, 102, 51, 197, 198, 199, 200, 54, 263, 264, 265, 266, 220, 221, 222, 223, 556, 557, 558, 559, 560, 561, 562] (by decide +kernel) (by decide +kernel)
set_option maxRecDepth 20000 in
theorem gL_law_X1_tones : GoodIn wsL_law (wsV RL 161 RX1 yX1_tones wsX1_tones) := goodIn_app (goodIn_of _ (by decide +kernel)) ggL_law_X1_tones
set_option maxRecDepth 20000 in
theorem ggL_law_L_mean : GoodIn wsL_law wsL_mean := goodIn_ca (goodIn_r _ [524, 159, 525, 526, 527, 2, 528, 20, 164, 165, 166, 167, 168, 169, 406, 407, 408, 409, 178, 179, 180, 181, 15, 549, 550, 551, 552, 553, 554, 555] (by decide +kernel) (by decide +kernel)) (goodIn_sub (fun _ h => List.mem_append_right _ h) (by decide +kernel))
set_option maxRecDepth 20000 in
theorem gL_law_L_mean : GoodIn wsL_law (va_wsS RL 162 yL_mean wsL_mean) := goodIn_app (goodIn_of _ (by decide +kernel)) ggL_law_L_mean
set_option maxRecDepth 20000 in
theorem ggL_law_X1_mean : GoodIn wsL_law wsX1_mean := goodIn_r _ [532, 80, 50, 190, 191, 5, 192, 81, 82, 83, 197, 198, 199, 200, 54, 556, 557, 558, 559, 560, 561, 562] (by decide +kernel) (by decide +kernel)
set_option maxRecDepth 20000 in
theorem gL_law_X1_mean : GoodIn wsL_law (wsV RL 165 RX1 yX1_mean wsX1_mean) := goodIn_app (goodIn_of _ (by decide +kernel)) ggL_law_X1_mean
set_option maxRecDepth 20000 in
theorem ggL_law_X0_digest : GoodIn wsL_law wsX0_digest := goodIn_r _ [536, 537, 538, 450, 451, 452, 2, 453, 20, 21, 23, 24, 25, 22, 539, 540, 541, 542, 178, 179, 180, 181, 15, 402, 403, 404, 405, 406, 407, 408, 409, 34, 35, 36, 37, 38, 39, 40, 41, 339, 340, 341, 342, 410, 411, 412, 413, 414, 415, 416, 417, 418, 419, 420, 421, 316, 317, 318, 319, 422, 423, 424, 425, 426, 427, 428, 429, 247, 248, 249, 250, 239, 240, 241, 242, 243, 244, 245, 246, 182, 183, 184, 185, 549, 550, 551, 552, 553, 554, 555] (by decide +kernel) (by decide +kernel)
set_option maxRecDepth 20000 in
theorem gL_law_X0_digest : GoodIn wsL_law (wsV RL 166 RX0 yX0_digest wsX0_digest) := goodIn_app (goodIn_of _ (by decide +kernel)) ggL_law_X0_digest
set_option maxRecDepth 20000 in
theorem ggL_law_X1_digest : GoodIn wsL_law wsX1_digest := goodIn_r _ [546, 80, 547, 548, 50, 52, 55, 458, 459, 460, 5, 461, 51, 53, 137, 138, 139, 140, 197, 198, 199, 200, 54, 434, 435, 436, 437, 438, 427, 428, 429, 259, 260, 261, 262, 99, 100, 101, 102, 263, 264, 265, 266, 347, 348, 349, 350, 439, 440, 441, 442, 255, 256, 257, 258, 556, 557, 558, 559, 560, 561, 562] (by decide +kernel) (by decide +kernel)
set_option maxRecDepth 20000 in
theorem gL_law_X1_digest : GoodIn wsL_law (wsV RL 170 RX1 yX1_digest wsX1_digest) := goodIn_app (goodIn_of _ (by decide +kernel)) ggL_law_X1_digest
theorem dL_law_0 : decode cL_law 0 = .ok (.new 8, 3) := by decide +kernel
theorem dL_law_3 : decode cL_law 3 = .ok (.dup, 1) := by decide +kernel
theorem dL_law_4 : decode cL_law 4 = .ok (.invokespecial 85, 3) := by decide +kernel
theorem dL_law_7 : decode cL_law 7 = .ok (.astore_n 1, 1) := by decide +kernel
theorem dL_law_8 : decode cL_law 8 = .ok (.new 86, 3) := by decide +kernel
theorem dL_law_11 : decode cL_law 11 = .ok (.dup, 1) := by decide +kernel
theorem dL_law_12 : decode cL_law 12 = .ok (.invokespecial 88, 3) := by decide +kernel
theorem dL_law_15 : decode cL_law 15 = .ok (.astore_n 2, 1) := by decide +kernel
theorem dL_law_16 : decode cL_law 16 = .ok (.iconst 1, 1) := by decide +kernel
theorem dL_law_17 : decode cL_law 17 = .ok (.newarray .long, 2) := by decide +kernel
theorem dL_law_19 : decode cL_law 19 = .ok (.astore_n 3, 1) := by decide +kernel
theorem dL_law_20 : decode cL_law 20 = .ok (.iconst 1, 1) := by decide +kernel
theorem dL_law_21 : decode cL_law 21 = .ok (.newarray .double, 2) := by decide +kernel
theorem dL_law_23 : decode cL_law 23 = .ok (.astore 4, 2) := by decide +kernel
theorem dL_law_25 : decode cL_law 25 = .ok (.iconst 0, 1) := by decide +kernel
theorem dL_law_26 : decode cL_law 26 = .ok (.istore 5, 2) := by decide +kernel
theorem dL_law_28 : decode cL_law 28 = .ok (.iload 5, 2) := by decide +kernel
theorem dL_law_30 : decode cL_law 30 = .ok (.aload_n 0, 1) := by decide +kernel
theorem dL_law_31 : decode cL_law 31 = .ok (.arraylength, 1) := by decide +kernel
theorem dL_law_32 : decode cL_law 32 = .ok (.iconst 4, 1) := by decide +kernel
theorem dL_law_33 : decode cL_law 33 = .ok (.isub, 1) := by decide +kernel
theorem dL_law_34 : decode cL_law 34 = .ok (.if_icmp .gt 1642, 3) := by decide +kernel
theorem dL_law_37 : decode cL_law 37 = .ok (.aload_n 0, 1) := by decide +kernel
theorem dL_law_38 : decode cL_law 38 = .ok (.iload 5, 2) := by decide +kernel
theorem dL_law_40 : decode cL_law 40 = .ok (.iaload, 1) := by decide +kernel
theorem dL_law_41 : decode cL_law 41 = .ok (.bipush 31, 2) := by decide +kernel
theorem dL_law_43 : decode cL_law 43 = .ok (.iand, 1) := by decide +kernel
theorem dL_law_44 : decode cL_law 44 = .ok (.tableswitch 1626 0 22 #[108, 176, 232, 288, 344, 424, 492, 576, 632, 700, 768, 848, 916, 984, 1052, 1120, 1188, 1244, 1324, 1392, 1460, 1535, 1612], 108) := by decide +kernel
theorem dL_law_152 : decode cL_law 152 = .ok (.aload_n 1, 1) := by decide +kernel
theorem dL_law_153 : decode cL_law 153 = .ok (.aload_n 0, 1) := by decide +kernel
theorem dL_law_154 : decode cL_law 154 = .ok (.iload 5, 2) := by decide +kernel
theorem dL_law_156 : decode cL_law 156 = .ok (.iconst 1, 1) := by decide +kernel
theorem dL_law_157 : decode cL_law 157 = .ok (.iadd, 1) := by decide +kernel
theorem dL_law_158 : decode cL_law 158 = .ok (.iaload, 1) := by decide +kernel
theorem dL_law_159 : decode cL_law 159 = .ok (.aload_n 0, 1) := by decide +kernel
theorem dL_law_160 : decode cL_law 160 = .ok (.iload 5, 2) := by decide +kernel
theorem dL_law_162 : decode cL_law 162 = .ok (.iconst 2, 1) := by decide +kernel
theorem dL_law_163 : decode cL_law 163 = .ok (.iadd, 1) := by decide +kernel
theorem dL_law_164 : decode cL_law 164 = .ok (.iaload, 1) := by decide +kernel
theorem dL_law_165 : decode cL_law 165 = .ok (.aload_n 3, 1) := by decide +kernel
theorem dL_law_166 : decode cL_law 166 = .ok (.invokestatic 89, 3) := by decide +kernel
theorem dL_law_169 : decode cL_law 169 = .ok (.istore 6, 2) := by decide +kernel
theorem dL_law_171 : decode cL_law 171 = .ok (.aload_n 2, 1) := by decide +kernel
theorem dL_law_172 : decode cL_law 172 = .ok (.aload_n 0, 1) := by decide +kernel
theorem dL_law_173 : decode cL_law 173 = .ok (.iload 5, 2) := by decide +kernel
theorem dL_law_175 : decode cL_law 175 = .ok (.iconst 1, 1) := by decide +kernel
theorem dL_law_176 : decode cL_law 176 = .ok (.iadd, 1) := by decide +kernel
theorem dL_law_177 : decode cL_law 177 = .ok (.iaload, 1) := by decide +kernel
theorem dL_law_178 : decode cL_law 178 = .ok (.aload_n 0, 1) := by decide +kernel
theorem dL_law_179 : decode cL_law 179 = .ok (.iload 5, 2) := by decide +kernel
theorem dL_law_181 : decode cL_law 181 = .ok (.iconst 2, 1) := by decide +kernel
theorem dL_law_182 : decode cL_law 182 = .ok (.iadd, 1) := by decide +kernel
theorem dL_law_183 : decode cL_law 183 = .ok (.iaload, 1) := by decide +kernel
theorem dL_law_184 : decode cL_law 184 = .ok (.invokevirtual 94, 3) := by decide +kernel
theorem dL_law_187 : decode cL_law 187 = .ok (.istore 7, 2) := by decide +kernel
theorem dL_law_189 : decode cL_law 189 = .ok (.aload_n 2, 1) := by decide +kernel
theorem dL_law_190 : decode cL_law 190 = .ok (.invokevirtual 95, 3) := by decide +kernel
theorem dL_law_193 : decode cL_law 193 = .ok (.iload 6, 2) := by decide +kernel
theorem dL_law_195 : decode cL_law 195 = .ok (.if_icmp .eq 5, 3) := by decide +kernel
theorem dL_law_198 : decode cL_law 198 = .ok (.iconst 0, 1) := by decide +kernel
theorem dL_law_199 : decode cL_law 199 = .ok (.ireturn, 1) := by decide +kernel
theorem dL_law_200 : decode cL_law 200 = .ok (.iload 6, 2) := by decide +kernel
theorem dL_law_202 : decode cL_law 202 = .ok (.ifCond .ne 15, 3) := by decide +kernel
theorem dL_law_205 : decode cL_law 205 = .ok (.aload_n 3, 1) := by decide +kernel
theorem dL_law_206 : decode cL_law 206 = .ok (.iconst 0, 1) := by decide +kernel
theorem dL_law_207 : decode cL_law 207 = .ok (.laload, 1) := by decide +kernel
theorem dL_law_208 : decode cL_law 208 = .ok (.iload 7, 2) := by decide +kernel
theorem dL_law_210 : decode cL_law 210 = .ok (.i2l, 1) := by decide +kernel
theorem dL_law_211 : decode cL_law 211 = .ok (.lcmp, 1) := by decide +kernel
theorem dL_law_212 : decode cL_law 212 = .ok (.ifCond .eq 5, 3) := by decide +kernel
theorem dL_law_215 : decode cL_law 215 = .ok (.iconst 0, 1) := by decide +kernel
theorem dL_law_216 : decode cL_law 216 = .ok (.ireturn, 1) := by decide +kernel
theorem dL_law_217 : decode cL_law 217 = .ok (.goto 1453, 3) := by decide +kernel
theorem dL_law_220 : decode cL_law 220 = .ok (.aload_n 1, 1) := by decide +kernel
theorem dL_law_221 : decode cL_law 221 = .ok (.aload_n 0, 1) := by decide +kernel
theorem dL_law_222 : decode cL_law 222 = .ok (.iload 5, 2) := by decide +kernel
theorem dL_law_224 : decode cL_law 224 = .ok (.iconst 1, 1) := by decide +kernel
theorem dL_law_225 : decode cL_law 225 = .ok (.iadd, 1) := by decide +kernel
theorem dL_law_226 : decode cL_law 226 = .ok (.iaload, 1) := by decide +kernel
theorem dL_law_227 : decode cL_law 227 = .ok (.aload_n 3, 1) := by decide +kernel
theorem dL_law_228 : decode cL_law 228 = .ok (.invokestatic 99, 3) := by decide +kernel
theorem dL_law_231 : decode cL_law 231 = .ok (.istore 6, 2) := by decide +kernel
theorem dL_law_233 : decode cL_law 233 = .ok (.aload_n 2, 1) := by decide +kernel
theorem dL_law_234 : decode cL_law 234 = .ok (.aload_n 0, 1) := by decide +kernel
theorem dL_law_235 : decode cL_law 235 = .ok (.iload 5, 2) := by decide +kernel
theorem dL_law_237 : decode cL_law 237 = .ok (.iconst 1, 1) := by decide +kernel
theorem dL_law_238 : decode cL_law 238 = .ok (.iadd, 1) := by decide +kernel
theorem dL_law_239 : decode cL_law 239 = .ok (.iaload, 1) := by decide +kernel
theorem dL_law_240 : decode cL_law 240 = .ok (.invokevirtual 102, 3) := by decide +kernel
theorem dL_law_243 : decode cL_law 243 = .ok (.istore 7, 2) := by decide +kernel
theorem dL_law_245 : decode cL_law 245 = .ok (.aload_n 2, 1) := by decide +kernel
theorem dL_law_246 : decode cL_law 246 = .ok (.invokevirtual 95, 3) := by decide +kernel
theorem dL_law_249 : decode cL_law 249 = .ok (.iload 6, 2) := by decide +kernel
theorem dL_law_251 : decode cL_law 251 = .ok (.if_icmp .eq 5, 3) := by decide +kernel
theorem dL_law_254 : decode cL_law 254 = .ok (.iconst 0, 1) := by decide +kernel
theorem dL_law_255 : decode cL_law 255 = .ok (.ireturn, 1) := by decide +kernel
theorem dL_law_256 : decode cL_law 256 = .ok (.iload 6, 2) := by decide +kernel
theorem dL_law_258 : decode cL_law 258 = .ok (.ifCond .ne 15, 3) := by decide +kernel
theorem dL_law_261 : decode cL_law 261 = .ok (.aload_n 3, 1) := by decide +kernel
theorem dL_law_262 : decode cL_law 262 = .ok (.iconst 0, 1) := by decide +kernel
theorem dL_law_263 : decode cL_law 263 = .ok (.laload, 1) := by decide +kernel
theorem dL_law_264 : decode cL_law 264 = .ok (.iload 7, 2) := by decide +kernel
theorem dL_law_266 : decode cL_law 266 = .ok (.i2l, 1) := by decide +kernel
theorem dL_law_267 : decode cL_law 267 = .ok (.lcmp, 1) := by decide +kernel
theorem dL_law_268 : decode cL_law 268 = .ok (.ifCond .eq 5, 3) := by decide +kernel
theorem dL_law_271 : decode cL_law 271 = .ok (.iconst 0, 1) := by decide +kernel
theorem dL_law_272 : decode cL_law 272 = .ok (.ireturn, 1) := by decide +kernel
theorem dL_law_273 : decode cL_law 273 = .ok (.goto 1397, 3) := by decide +kernel
theorem dL_law_276 : decode cL_law 276 = .ok (.aload_n 1, 1) := by decide +kernel
theorem dL_law_277 : decode cL_law 277 = .ok (.aload_n 0, 1) := by decide +kernel
theorem dL_law_278 : decode cL_law 278 = .ok (.iload 5, 2) := by decide +kernel
theorem dL_law_280 : decode cL_law 280 = .ok (.iconst 1, 1) := by decide +kernel
theorem dL_law_281 : decode cL_law 281 = .ok (.iadd, 1) := by decide +kernel
theorem dL_law_282 : decode cL_law 282 = .ok (.iaload, 1) := by decide +kernel
theorem dL_law_283 : decode cL_law 283 = .ok (.aload_n 3, 1) := by decide +kernel
theorem dL_law_284 : decode cL_law 284 = .ok (.invokestatic 103, 3) := by decide +kernel
theorem dL_law_287 : decode cL_law 287 = .ok (.istore 6, 2) := by decide +kernel
theorem dL_law_289 : decode cL_law 289 = .ok (.aload_n 2, 1) := by decide +kernel
theorem dL_law_290 : decode cL_law 290 = .ok (.aload_n 0, 1) := by decide +kernel
theorem dL_law_291 : decode cL_law 291 = .ok (.iload 5, 2) := by decide +kernel
theorem dL_law_293 : decode cL_law 293 = .ok (.iconst 1, 1) := by decide +kernel
theorem dL_law_294 : decode cL_law 294 = .ok (.iadd, 1) := by decide +kernel
theorem dL_law_295 : decode cL_law 295 = .ok (.iaload, 1) := by decide +kernel
theorem dL_law_296 : decode cL_law 296 = .ok (.invokevirtual 105, 3) := by decide +kernel
theorem dL_law_299 : decode cL_law 299 = .ok (.istore 7, 2) := by decide +kernel
theorem dL_law_301 : decode cL_law 301 = .ok (.aload_n 2, 1) := by decide +kernel
theorem dL_law_302 : decode cL_law 302 = .ok (.invokevirtual 95, 3) := by decide +kernel
theorem dL_law_305 : decode cL_law 305 = .ok (.iload 6, 2) := by decide +kernel
theorem dL_law_307 : decode cL_law 307 = .ok (.if_icmp .eq 5, 3) := by decide +kernel
theorem dL_law_310 : decode cL_law 310 = .ok (.iconst 0, 1) := by decide +kernel
theorem dL_law_311 : decode cL_law 311 = .ok (.ireturn, 1) := by decide +kernel
theorem dL_law_312 : decode cL_law 312 = .ok (.iload 6, 2) := by decide +kernel
theorem dL_law_314 : decode cL_law 314 = .ok (.ifCond .ne 15, 3) := by decide +kernel
theorem dL_law_317 : decode cL_law 317 = .ok (.aload_n 3, 1) := by decide +kernel
theorem dL_law_318 : decode cL_law 318 = .ok (.iconst 0, 1) := by decide +kernel
theorem dL_law_319 : decode cL_law 319 = .ok (.laload, 1) := by decide +kernel
theorem dL_law_320 : decode cL_law 320 = .ok (.iload 7, 2) := by decide +kernel
theorem dL_law_322 : decode cL_law 322 = .ok (.i2l, 1) := by decide +kernel
theorem dL_law_323 : decode cL_law 323 = .ok (.lcmp, 1) := by decide +kernel
theorem dL_law_324 : decode cL_law 324 = .ok (.ifCond .eq 5, 3) := by decide +kernel
theorem dL_law_327 : decode cL_law 327 = .ok (.iconst 0, 1) := by decide +kernel
theorem dL_law_328 : decode cL_law 328 = .ok (.ireturn, 1) := by decide +kernel
theorem dL_law_329 : decode cL_law 329 = .ok (.goto 1341, 3) := by decide +kernel
theorem dL_law_332 : decode cL_law 332 = .ok (.aload_n 1, 1) := by decide +kernel
theorem dL_law_333 : decode cL_law 333 = .ok (.aload_n 0, 1) := by decide +kernel
theorem dL_law_334 : decode cL_law 334 = .ok (.iload 5, 2) := by decide +kernel
theorem dL_law_336 : decode cL_law 336 = .ok (.iconst 1, 1) := by decide +kernel
theorem dL_law_337 : decode cL_law 337 = .ok (.iadd, 1) := by decide +kernel
theorem dL_law_338 : decode cL_law 338 = .ok (.iaload, 1) := by decide +kernel
theorem dL_law_339 : decode cL_law 339 = .ok (.aload_n 3, 1) := by decide +kernel
theorem dL_law_340 : decode cL_law 340 = .ok (.invokestatic 106, 3) := by decide +kernel
theorem dL_law_343 : decode cL_law 343 = .ok (.istore 6, 2) := by decide +kernel
theorem dL_law_345 : decode cL_law 345 = .ok (.aload_n 2, 1) := by decide +kernel
theorem dL_law_346 : decode cL_law 346 = .ok (.aload_n 0, 1) := by decide +kernel
theorem dL_law_347 : decode cL_law 347 = .ok (.iload 5, 2) := by decide +kernel
theorem dL_law_349 : decode cL_law 349 = .ok (.iconst 1, 1) := by decide +kernel
theorem dL_law_350 : decode cL_law 350 = .ok (.iadd, 1) := by decide +kernel
theorem dL_law_351 : decode cL_law 351 = .ok (.iaload, 1) := by decide +kernel
theorem dL_law_352 : decode cL_law 352 = .ok (.invokevirtual 108, 3) := by decide +kernel
theorem dL_law_355 : decode cL_law 355 = .ok (.istore 7, 2) := by decide +kernel
theorem dL_law_357 : decode cL_law 357 = .ok (.aload_n 2, 1) := by decide +kernel
theorem dL_law_358 : decode cL_law 358 = .ok (.invokevirtual 95, 3) := by decide +kernel
theorem dL_law_361 : decode cL_law 361 = .ok (.iload 6, 2) := by decide +kernel
theorem dL_law_363 : decode cL_law 363 = .ok (.if_icmp .eq 5, 3) := by decide +kernel
theorem dL_law_366 : decode cL_law 366 = .ok (.iconst 0, 1) := by decide +kernel
theorem dL_law_367 : decode cL_law 367 = .ok (.ireturn, 1) := by decide +kernel
theorem dL_law_368 : decode cL_law 368 = .ok (.iload 6, 2) := by decide +kernel
theorem dL_law_370 : decode cL_law 370 = .ok (.ifCond .ne 15, 3) := by decide +kernel
theorem dL_law_373 : decode cL_law 373 = .ok (.aload_n 3, 1) := by decide +kernel
theorem dL_law_374 : decode cL_law 374 = .ok (.iconst 0, 1) := by decide +kernel
theorem dL_law_375 : decode cL_law 375 = .ok (.laload, 1) := by decide +kernel
theorem dL_law_376 : decode cL_law 376 = .ok (.iload 7, 2) := by decide +kernel
theorem dL_law_378 : decode cL_law 378 = .ok (.i2l, 1) := by decide +kernel
theorem dL_law_379 : decode cL_law 379 = .ok (.lcmp, 1) := by decide +kernel
theorem dL_law_380 : decode cL_law 380 = .ok (.ifCond .eq 5, 3) := by decide +kernel
theorem dL_law_383 : decode cL_law 383 = .ok (.iconst 0, 1) := by decide +kernel
theorem dL_law_384 : decode cL_law 384 = .ok (.ireturn, 1) := by decide +kernel
theorem dL_law_385 : decode cL_law 385 = .ok (.goto 1285, 3) := by decide +kernel
theorem dL_law_388 : decode cL_law 388 = .ok (.aload_n 1, 1) := by decide +kernel
theorem dL_law_389 : decode cL_law 389 = .ok (.aload_n 0, 1) := by decide +kernel
theorem dL_law_390 : decode cL_law 390 = .ok (.iload 5, 2) := by decide +kernel
theorem dL_law_392 : decode cL_law 392 = .ok (.iconst 1, 1) := by decide +kernel
theorem dL_law_393 : decode cL_law 393 = .ok (.iadd, 1) := by decide +kernel
theorem dL_law_394 : decode cL_law 394 = .ok (.iaload, 1) := by decide +kernel
theorem dL_law_395 : decode cL_law 395 = .ok (.aload_n 0, 1) := by decide +kernel
theorem dL_law_396 : decode cL_law 396 = .ok (.iload 5, 2) := by decide +kernel
theorem dL_law_398 : decode cL_law 398 = .ok (.iconst 2, 1) := by decide +kernel
theorem dL_law_399 : decode cL_law 399 = .ok (.iadd, 1) := by decide +kernel
theorem dL_law_400 : decode cL_law 400 = .ok (.iaload, 1) := by decide +kernel
theorem dL_law_401 : decode cL_law 401 = .ok (.aload_n 0, 1) := by decide +kernel
theorem dL_law_402 : decode cL_law 402 = .ok (.iload 5, 2) := by decide +kernel
theorem dL_law_404 : decode cL_law 404 = .ok (.iconst 3, 1) := by decide +kernel
theorem dL_law_405 : decode cL_law 405 = .ok (.iadd, 1) := by decide +kernel
theorem dL_law_406 : decode cL_law 406 = .ok (.iaload, 1) := by decide +kernel
theorem dL_law_407 : decode cL_law 407 = .ok (.aload_n 3, 1) := by decide +kernel
theorem dL_law_408 : decode cL_law 408 = .ok (.invokestatic 109, 3) := by decide +kernel
theorem dL_law_411 : decode cL_law 411 = .ok (.istore 6, 2) := by decide +kernel
theorem dL_law_413 : decode cL_law 413 = .ok (.aload_n 2, 1) := by decide +kernel
theorem dL_law_414 : decode cL_law 414 = .ok (.aload_n 0, 1) := by decide +kernel
theorem dL_law_415 : decode cL_law 415 = .ok (.iload 5, 2) := by decide +kernel
theorem dL_law_417 : decode cL_law 417 = .ok (.iconst 1, 1) := by decide +kernel
theorem dL_law_418 : decode cL_law 418 = .ok (.iadd, 1) := by decide +kernel
theorem dL_law_419 : decode cL_law 419 = .ok (.iaload, 1) := by decide +kernel
theorem dL_law_420 : decode cL_law 420 = .ok (.aload_n 0, 1) := by decide +kernel
theorem dL_law_421 : decode cL_law 421 = .ok (.iload 5, 2) := by decide +kernel
theorem dL_law_423 : decode cL_law 423 = .ok (.iconst 2, 1) := by decide +kernel
theorem dL_law_424 : decode cL_law 424 = .ok (.iadd, 1) := by decide +kernel
theorem dL_law_425 : decode cL_law 425 = .ok (.iaload, 1) := by decide +kernel
theorem dL_law_426 : decode cL_law 426 = .ok (.aload_n 0, 1) := by decide +kernel
theorem dL_law_427 : decode cL_law 427 = .ok (.iload 5, 2) := by decide +kernel
theorem dL_law_429 : decode cL_law 429 = .ok (.iconst 3, 1) := by decide +kernel
theorem dL_law_430 : decode cL_law 430 = .ok (.iadd, 1) := by decide +kernel
theorem dL_law_431 : decode cL_law 431 = .ok (.iaload, 1) := by decide +kernel
theorem dL_law_432 : decode cL_law 432 = .ok (.invokevirtual 112, 3) := by decide +kernel
theorem dL_law_435 : decode cL_law 435 = .ok (.istore 7, 2) := by decide +kernel
theorem dL_law_437 : decode cL_law 437 = .ok (.aload_n 2, 1) := by decide +kernel
theorem dL_law_438 : decode cL_law 438 = .ok (.invokevirtual 95, 3) := by decide +kernel
theorem dL_law_441 : decode cL_law 441 = .ok (.iload 6, 2) := by decide +kernel
theorem dL_law_443 : decode cL_law 443 = .ok (.if_icmp .eq 5, 3) := by decide +kernel
theorem dL_law_446 : decode cL_law 446 = .ok (.iconst 0, 1) := by decide +kernel
theorem dL_law_447 : decode cL_law 447 = .ok (.ireturn, 1) := by decide +kernel
theorem dL_law_448 : decode cL_law 448 = .ok (.iload 6, 2) := by decide +kernel
theorem dL_law_450 : decode cL_law 450 = .ok (.ifCond .ne 15, 3) := by decide +kernel
theorem dL_law_453 : decode cL_law 453 = .ok (.aload_n 3, 1) := by decide +kernel
theorem dL_law_454 : decode cL_law 454 = .ok (.iconst 0, 1) := by decide +kernel
theorem dL_law_455 : decode cL_law 455 = .ok (.laload, 1) := by decide +kernel
theorem dL_law_456 : decode cL_law 456 = .ok (.iload 7, 2) := by decide +kernel
theorem dL_law_458 : decode cL_law 458 = .ok (.i2l, 1) := by decide +kernel
theorem dL_law_459 : decode cL_law 459 = .ok (.lcmp, 1) := by decide +kernel
theorem dL_law_460 : decode cL_law 460 = .ok (.ifCond .eq 5, 3) := by decide +kernel
theorem dL_law_463 : decode cL_law 463 = .ok (.iconst 0, 1) := by decide +kernel
theorem dL_law_464 : decode cL_law 464 = .ok (.ireturn, 1) := by decide +kernel
theorem dL_law_465 : decode cL_law 465 = .ok (.goto 1205, 3) := by decide +kernel
theorem dL_law_468 : decode cL_law 468 = .ok (.aload_n 1, 1) := by decide +kernel
theorem dL_law_469 : decode cL_law 469 = .ok (.aload_n 0, 1) := by decide +kernel
theorem dL_law_470 : decode cL_law 470 = .ok (.iload 5, 2) := by decide +kernel
theorem dL_law_472 : decode cL_law 472 = .ok (.iconst 1, 1) := by decide +kernel
theorem dL_law_473 : decode cL_law 473 = .ok (.iadd, 1) := by decide +kernel
theorem dL_law_474 : decode cL_law 474 = .ok (.iaload, 1) := by decide +kernel
theorem dL_law_475 : decode cL_law 475 = .ok (.aload_n 0, 1) := by decide +kernel
theorem dL_law_476 : decode cL_law 476 = .ok (.iload 5, 2) := by decide +kernel
theorem dL_law_478 : decode cL_law 478 = .ok (.iconst 2, 1) := by decide +kernel
theorem dL_law_479 : decode cL_law 479 = .ok (.iadd, 1) := by decide +kernel
theorem dL_law_480 : decode cL_law 480 = .ok (.iaload, 1) := by decide +kernel
theorem dL_law_481 : decode cL_law 481 = .ok (.aload_n 3, 1) := by decide +kernel
theorem dL_law_482 : decode cL_law 482 = .ok (.invokestatic 113, 3) := by decide +kernel
theorem dL_law_485 : decode cL_law 485 = .ok (.istore 6, 2) := by decide +kernel
theorem dL_law_487 : decode cL_law 487 = .ok (.aload_n 2, 1) := by decide +kernel
theorem dL_law_488 : decode cL_law 488 = .ok (.aload_n 0, 1) := by decide +kernel
theorem dL_law_489 : decode cL_law 489 = .ok (.iload 5, 2) := by decide +kernel
theorem dL_law_491 : decode cL_law 491 = .ok (.iconst 1, 1) := by decide +kernel
theorem dL_law_492 : decode cL_law 492 = .ok (.iadd, 1) := by decide +kernel
theorem dL_law_493 : decode cL_law 493 = .ok (.iaload, 1) := by decide +kernel
theorem dL_law_494 : decode cL_law 494 = .ok (.aload_n 0, 1) := by decide +kernel
theorem dL_law_495 : decode cL_law 495 = .ok (.iload 5, 2) := by decide +kernel
theorem dL_law_497 : decode cL_law 497 = .ok (.iconst 2, 1) := by decide +kernel
theorem dL_law_498 : decode cL_law 498 = .ok (.iadd, 1) := by decide +kernel
theorem dL_law_499 : decode cL_law 499 = .ok (.iaload, 1) := by decide +kernel
theorem dL_law_500 : decode cL_law 500 = .ok (.invokevirtual 115, 3) := by decide +kernel
theorem dL_law_503 : decode cL_law 503 = .ok (.istore 7, 2) := by decide +kernel
theorem dL_law_505 : decode cL_law 505 = .ok (.aload_n 2, 1) := by decide +kernel
theorem dL_law_506 : decode cL_law 506 = .ok (.invokevirtual 95, 3) := by decide +kernel
theorem dL_law_509 : decode cL_law 509 = .ok (.iload 6, 2) := by decide +kernel
theorem dL_law_511 : decode cL_law 511 = .ok (.if_icmp .eq 5, 3) := by decide +kernel
theorem dL_law_514 : decode cL_law 514 = .ok (.iconst 0, 1) := by decide +kernel
theorem dL_law_515 : decode cL_law 515 = .ok (.ireturn, 1) := by decide +kernel
theorem dL_law_516 : decode cL_law 516 = .ok (.iload 6, 2) := by decide +kernel
theorem dL_law_518 : decode cL_law 518 = .ok (.ifCond .ne 15, 3) := by decide +kernel
theorem dL_law_521 : decode cL_law 521 = .ok (.aload_n 3, 1) := by decide +kernel
theorem dL_law_522 : decode cL_law 522 = .ok (.iconst 0, 1) := by decide +kernel
theorem dL_law_523 : decode cL_law 523 = .ok (.laload, 1) := by decide +kernel
theorem dL_law_524 : decode cL_law 524 = .ok (.iload 7, 2) := by decide +kernel
theorem dL_law_526 : decode cL_law 526 = .ok (.i2l, 1) := by decide +kernel
theorem dL_law_527 : decode cL_law 527 = .ok (.lcmp, 1) := by decide +kernel
theorem dL_law_528 : decode cL_law 528 = .ok (.ifCond .eq 5, 3) := by decide +kernel
theorem dL_law_531 : decode cL_law 531 = .ok (.iconst 0, 1) := by decide +kernel
theorem dL_law_532 : decode cL_law 532 = .ok (.ireturn, 1) := by decide +kernel
theorem dL_law_533 : decode cL_law 533 = .ok (.goto 1137, 3) := by decide +kernel
theorem dL_law_536 : decode cL_law 536 = .ok (.aload_n 1, 1) := by decide +kernel
theorem dL_law_537 : decode cL_law 537 = .ok (.aload_n 0, 1) := by decide +kernel
theorem dL_law_538 : decode cL_law 538 = .ok (.iload 5, 2) := by decide +kernel
theorem dL_law_540 : decode cL_law 540 = .ok (.iconst 1, 1) := by decide +kernel
theorem dL_law_541 : decode cL_law 541 = .ok (.iadd, 1) := by decide +kernel
theorem dL_law_542 : decode cL_law 542 = .ok (.iaload, 1) := by decide +kernel
theorem dL_law_543 : decode cL_law 543 = .ok (.aload_n 0, 1) := by decide +kernel
theorem dL_law_544 : decode cL_law 544 = .ok (.iload 5, 2) := by decide +kernel
theorem dL_law_546 : decode cL_law 546 = .ok (.iconst 2, 1) := by decide +kernel
theorem dL_law_547 : decode cL_law 547 = .ok (.iadd, 1) := by decide +kernel
theorem dL_law_548 : decode cL_law 548 = .ok (.iaload, 1) := by decide +kernel
theorem dL_law_549 : decode cL_law 549 = .ok (.ifCond .eq 7, 3) := by decide +kernel
theorem dL_law_552 : decode cL_law 552 = .ok (.iconst 1, 1) := by decide +kernel
theorem dL_law_553 : decode cL_law 553 = .ok (.goto 4, 3) := by decide +kernel
theorem dL_law_556 : decode cL_law 556 = .ok (.iconst 0, 1) := by decide +kernel
theorem dL_law_557 : decode cL_law 557 = .ok (.aload_n 3, 1) := by decide +kernel
theorem dL_law_558 : decode cL_law 558 = .ok (.invokestatic 116, 3) := by decide +kernel
theorem dL_law_561 : decode cL_law 561 = .ok (.istore 6, 2) := by decide +kernel
theorem dL_law_563 : decode cL_law 563 = .ok (.aload_n 2, 1) := by decide +kernel
theorem dL_law_564 : decode cL_law 564 = .ok (.aload_n 0, 1) := by decide +kernel
theorem dL_law_565 : decode cL_law 565 = .ok (.iload 5, 2) := by decide +kernel
theorem dL_law_567 : decode cL_law 567 = .ok (.iconst 1, 1) := by decide +kernel
theorem dL_law_568 : decode cL_law 568 = .ok (.iadd, 1) := by decide +kernel
theorem dL_law_569 : decode cL_law 569 = .ok (.iaload, 1) := by decide +kernel
theorem dL_law_570 : decode cL_law 570 = .ok (.aload_n 0, 1) := by decide +kernel
theorem dL_law_571 : decode cL_law 571 = .ok (.iload 5, 2) := by decide +kernel
theorem dL_law_573 : decode cL_law 573 = .ok (.iconst 2, 1) := by decide +kernel
theorem dL_law_574 : decode cL_law 574 = .ok (.iadd, 1) := by decide +kernel
theorem dL_law_575 : decode cL_law 575 = .ok (.iaload, 1) := by decide +kernel
theorem dL_law_576 : decode cL_law 576 = .ok (.ifCond .eq 7, 3) := by decide +kernel
theorem dL_law_579 : decode cL_law 579 = .ok (.iconst 1, 1) := by decide +kernel
theorem dL_law_580 : decode cL_law 580 = .ok (.goto 4, 3) := by decide +kernel
theorem dL_law_583 : decode cL_law 583 = .ok (.iconst 0, 1) := by decide +kernel
theorem dL_law_584 : decode cL_law 584 = .ok (.invokevirtual 119, 3) := by decide +kernel
theorem dL_law_587 : decode cL_law 587 = .ok (.istore 7, 2) := by decide +kernel
theorem dL_law_589 : decode cL_law 589 = .ok (.aload_n 2, 1) := by decide +kernel
theorem dL_law_590 : decode cL_law 590 = .ok (.invokevirtual 95, 3) := by decide +kernel
theorem dL_law_593 : decode cL_law 593 = .ok (.iload 6, 2) := by decide +kernel
theorem dL_law_595 : decode cL_law 595 = .ok (.if_icmp .eq 5, 3) := by decide +kernel
theorem dL_law_598 : decode cL_law 598 = .ok (.iconst 0, 1) := by decide +kernel
theorem dL_law_599 : decode cL_law 599 = .ok (.ireturn, 1) := by decide +kernel
theorem dL_law_600 : decode cL_law 600 = .ok (.iload 6, 2) := by decide +kernel
theorem dL_law_602 : decode cL_law 602 = .ok (.ifCond .ne 15, 3) := by decide +kernel
theorem dL_law_605 : decode cL_law 605 = .ok (.aload_n 3, 1) := by decide +kernel
theorem dL_law_606 : decode cL_law 606 = .ok (.iconst 0, 1) := by decide +kernel
theorem dL_law_607 : decode cL_law 607 = .ok (.laload, 1) := by decide +kernel
theorem dL_law_608 : decode cL_law 608 = .ok (.iload 7, 2) := by decide +kernel
theorem dL_law_610 : decode cL_law 610 = .ok (.i2l, 1) := by decide +kernel
theorem dL_law_611 : decode cL_law 611 = .ok (.lcmp, 1) := by decide +kernel
theorem dL_law_612 : decode cL_law 612 = .ok (.ifCond .eq 5, 3) := by decide +kernel
theorem dL_law_615 : decode cL_law 615 = .ok (.iconst 0, 1) := by decide +kernel
theorem dL_law_616 : decode cL_law 616 = .ok (.ireturn, 1) := by decide +kernel
theorem dL_law_617 : decode cL_law 617 = .ok (.goto 1053, 3) := by decide +kernel
theorem dL_law_620 : decode cL_law 620 = .ok (.aload_n 1, 1) := by decide +kernel
theorem dL_law_621 : decode cL_law 621 = .ok (.aload_n 0, 1) := by decide +kernel
theorem dL_law_622 : decode cL_law 622 = .ok (.iload 5, 2) := by decide +kernel
theorem dL_law_624 : decode cL_law 624 = .ok (.iconst 1, 1) := by decide +kernel
theorem dL_law_625 : decode cL_law 625 = .ok (.iadd, 1) := by decide +kernel
theorem dL_law_626 : decode cL_law 626 = .ok (.iaload, 1) := by decide +kernel
theorem dL_law_627 : decode cL_law 627 = .ok (.aload_n 3, 1) := by decide +kernel
theorem dL_law_628 : decode cL_law 628 = .ok (.invokestatic 120, 3) := by decide +kernel
theorem dL_law_631 : decode cL_law 631 = .ok (.istore 6, 2) := by decide +kernel
theorem dL_law_633 : decode cL_law 633 = .ok (.aload_n 2, 1) := by decide +kernel
theorem dL_law_634 : decode cL_law 634 = .ok (.aload_n 0, 1) := by decide +kernel
theorem dL_law_635 : decode cL_law 635 = .ok (.iload 5, 2) := by decide +kernel
theorem dL_law_637 : decode cL_law 637 = .ok (.iconst 1, 1) := by decide +kernel
theorem dL_law_638 : decode cL_law 638 = .ok (.iadd, 1) := by decide +kernel
theorem dL_law_639 : decode cL_law 639 = .ok (.iaload, 1) := by decide +kernel
theorem dL_law_640 : decode cL_law 640 = .ok (.invokevirtual 122, 3) := by decide +kernel
theorem dL_law_643 : decode cL_law 643 = .ok (.istore 7, 2) := by decide +kernel
theorem dL_law_645 : decode cL_law 645 = .ok (.aload_n 2, 1) := by decide +kernel
theorem dL_law_646 : decode cL_law 646 = .ok (.invokevirtual 95, 3) := by decide +kernel
theorem dL_law_649 : decode cL_law 649 = .ok (.iload 6, 2) := by decide +kernel
theorem dL_law_651 : decode cL_law 651 = .ok (.if_icmp .eq 5, 3) := by decide +kernel
theorem dL_law_654 : decode cL_law 654 = .ok (.iconst 0, 1) := by decide +kernel
theorem dL_law_655 : decode cL_law 655 = .ok (.ireturn, 1) := by decide +kernel
theorem dL_law_656 : decode cL_law 656 = .ok (.iload 6, 2) := by decide +kernel
theorem dL_law_658 : decode cL_law 658 = .ok (.ifCond .ne 15, 3) := by decide +kernel
theorem dL_law_661 : decode cL_law 661 = .ok (.aload_n 3, 1) := by decide +kernel
theorem dL_law_662 : decode cL_law 662 = .ok (.iconst 0, 1) := by decide +kernel
theorem dL_law_663 : decode cL_law 663 = .ok (.laload, 1) := by decide +kernel
theorem dL_law_664 : decode cL_law 664 = .ok (.iload 7, 2) := by decide +kernel
theorem dL_law_666 : decode cL_law 666 = .ok (.i2l, 1) := by decide +kernel
theorem dL_law_667 : decode cL_law 667 = .ok (.lcmp, 1) := by decide +kernel
theorem dL_law_668 : decode cL_law 668 = .ok (.ifCond .eq 5, 3) := by decide +kernel
theorem dL_law_671 : decode cL_law 671 = .ok (.iconst 0, 1) := by decide +kernel
theorem dL_law_672 : decode cL_law 672 = .ok (.ireturn, 1) := by decide +kernel
theorem dL_law_673 : decode cL_law 673 = .ok (.goto 997, 3) := by decide +kernel
theorem dL_law_676 : decode cL_law 676 = .ok (.aload_n 1, 1) := by decide +kernel
theorem dL_law_677 : decode cL_law 677 = .ok (.aload_n 0, 1) := by decide +kernel
theorem dL_law_678 : decode cL_law 678 = .ok (.iload 5, 2) := by decide +kernel
theorem dL_law_680 : decode cL_law 680 = .ok (.iconst 1, 1) := by decide +kernel
theorem dL_law_681 : decode cL_law 681 = .ok (.iadd, 1) := by decide +kernel
theorem dL_law_682 : decode cL_law 682 = .ok (.iaload, 1) := by decide +kernel
theorem dL_law_683 : decode cL_law 683 = .ok (.aload_n 0, 1) := by decide +kernel
theorem dL_law_684 : decode cL_law 684 = .ok (.iload 5, 2) := by decide +kernel
theorem dL_law_686 : decode cL_law 686 = .ok (.iconst 2, 1) := by decide +kernel
theorem dL_law_687 : decode cL_law 687 = .ok (.iadd, 1) := by decide +kernel
theorem dL_law_688 : decode cL_law 688 = .ok (.iaload, 1) := by decide +kernel
theorem dL_law_689 : decode cL_law 689 = .ok (.aload_n 3, 1) := by decide +kernel
theorem dL_law_690 : decode cL_law 690 = .ok (.invokestatic 123, 3) := by decide +kernel
theorem dL_law_693 : decode cL_law 693 = .ok (.istore 6, 2) := by decide +kernel
theorem dL_law_695 : decode cL_law 695 = .ok (.aload_n 2, 1) := by decide +kernel
theorem dL_law_696 : decode cL_law 696 = .ok (.aload_n 0, 1) := by decide +kernel
theorem dL_law_697 : decode cL_law 697 = .ok (.iload 5, 2) := by decide +kernel
theorem dL_law_699 : decode cL_law 699 = .ok (.iconst 1, 1) := by decide +kernel
theorem dL_law_700 : decode cL_law 700 = .ok (.iadd, 1) := by decide +kernel
theorem dL_law_701 : decode cL_law 701 = .ok (.iaload, 1) := by decide +kernel
theorem dL_law_702 : decode cL_law 702 = .ok (.aload_n 0, 1) := by decide +kernel
theorem dL_law_703 : decode cL_law 703 = .ok (.iload 5, 2) := by decide +kernel
theorem dL_law_705 : decode cL_law 705 = .ok (.iconst 2, 1) := by decide +kernel
theorem dL_law_706 : decode cL_law 706 = .ok (.iadd, 1) := by decide +kernel
theorem dL_law_707 : decode cL_law 707 = .ok (.iaload, 1) := by decide +kernel
theorem dL_law_708 : decode cL_law 708 = .ok (.invokevirtual 125, 3) := by decide +kernel
theorem dL_law_711 : decode cL_law 711 = .ok (.istore 7, 2) := by decide +kernel
theorem dL_law_713 : decode cL_law 713 = .ok (.aload_n 2, 1) := by decide +kernel
theorem dL_law_714 : decode cL_law 714 = .ok (.invokevirtual 95, 3) := by decide +kernel
theorem dL_law_717 : decode cL_law 717 = .ok (.iload 6, 2) := by decide +kernel
theorem dL_law_719 : decode cL_law 719 = .ok (.if_icmp .eq 5, 3) := by decide +kernel
theorem dL_law_722 : decode cL_law 722 = .ok (.iconst 0, 1) := by decide +kernel
theorem dL_law_723 : decode cL_law 723 = .ok (.ireturn, 1) := by decide +kernel
theorem dL_law_724 : decode cL_law 724 = .ok (.iload 6, 2) := by decide +kernel
theorem dL_law_726 : decode cL_law 726 = .ok (.ifCond .ne 15, 3) := by decide +kernel
theorem dL_law_729 : decode cL_law 729 = .ok (.aload_n 3, 1) := by decide +kernel
theorem dL_law_730 : decode cL_law 730 = .ok (.iconst 0, 1) := by decide +kernel
theorem dL_law_731 : decode cL_law 731 = .ok (.laload, 1) := by decide +kernel
theorem dL_law_732 : decode cL_law 732 = .ok (.iload 7, 2) := by decide +kernel
theorem dL_law_734 : decode cL_law 734 = .ok (.i2l, 1) := by decide +kernel
theorem dL_law_735 : decode cL_law 735 = .ok (.lcmp, 1) := by decide +kernel
theorem dL_law_736 : decode cL_law 736 = .ok (.ifCond .eq 5, 3) := by decide +kernel
theorem dL_law_739 : decode cL_law 739 = .ok (.iconst 0, 1) := by decide +kernel
theorem dL_law_740 : decode cL_law 740 = .ok (.ireturn, 1) := by decide +kernel
theorem dL_law_741 : decode cL_law 741 = .ok (.goto 929, 3) := by decide +kernel
theorem dL_law_744 : decode cL_law 744 = .ok (.aload_n 1, 1) := by decide +kernel
theorem dL_law_745 : decode cL_law 745 = .ok (.aload_n 0, 1) := by decide +kernel
theorem dL_law_746 : decode cL_law 746 = .ok (.iload 5, 2) := by decide +kernel
theorem dL_law_748 : decode cL_law 748 = .ok (.iconst 1, 1) := by decide +kernel
theorem dL_law_749 : decode cL_law 749 = .ok (.iadd, 1) := by decide +kernel
theorem dL_law_750 : decode cL_law 750 = .ok (.iaload, 1) := by decide +kernel
theorem dL_law_751 : decode cL_law 751 = .ok (.aload_n 0, 1) := by decide +kernel
theorem dL_law_752 : decode cL_law 752 = .ok (.iload 5, 2) := by decide +kernel
theorem dL_law_754 : decode cL_law 754 = .ok (.iconst 2, 1) := by decide +kernel
theorem dL_law_755 : decode cL_law 755 = .ok (.iadd, 1) := by decide +kernel
theorem dL_law_756 : decode cL_law 756 = .ok (.iaload, 1) := by decide +kernel
theorem dL_law_757 : decode cL_law 757 = .ok (.aload_n 3, 1) := by decide +kernel
theorem dL_law_758 : decode cL_law 758 = .ok (.invokestatic 126, 3) := by decide +kernel
theorem dL_law_761 : decode cL_law 761 = .ok (.istore 6, 2) := by decide +kernel
theorem dL_law_763 : decode cL_law 763 = .ok (.aload_n 2, 1) := by decide +kernel
theorem dL_law_764 : decode cL_law 764 = .ok (.aload_n 0, 1) := by decide +kernel
theorem dL_law_765 : decode cL_law 765 = .ok (.iload 5, 2) := by decide +kernel
theorem dL_law_767 : decode cL_law 767 = .ok (.iconst 1, 1) := by decide +kernel
theorem dL_law_768 : decode cL_law 768 = .ok (.iadd, 1) := by decide +kernel
theorem dL_law_769 : decode cL_law 769 = .ok (.iaload, 1) := by decide +kernel
theorem dL_law_770 : decode cL_law 770 = .ok (.aload_n 0, 1) := by decide +kernel
theorem dL_law_771 : decode cL_law 771 = .ok (.iload 5, 2) := by decide +kernel
theorem dL_law_773 : decode cL_law 773 = .ok (.iconst 2, 1) := by decide +kernel
theorem dL_law_774 : decode cL_law 774 = .ok (.iadd, 1) := by decide +kernel
theorem dL_law_775 : decode cL_law 775 = .ok (.iaload, 1) := by decide +kernel
theorem dL_law_776 : decode cL_law 776 = .ok (.invokevirtual 128, 3) := by decide +kernel
theorem dL_law_779 : decode cL_law 779 = .ok (.istore 7, 2) := by decide +kernel
theorem dL_law_781 : decode cL_law 781 = .ok (.aload_n 2, 1) := by decide +kernel
theorem dL_law_782 : decode cL_law 782 = .ok (.invokevirtual 95, 3) := by decide +kernel
theorem dL_law_785 : decode cL_law 785 = .ok (.iload 6, 2) := by decide +kernel
theorem dL_law_787 : decode cL_law 787 = .ok (.if_icmp .eq 5, 3) := by decide +kernel
theorem dL_law_790 : decode cL_law 790 = .ok (.iconst 0, 1) := by decide +kernel
theorem dL_law_791 : decode cL_law 791 = .ok (.ireturn, 1) := by decide +kernel
theorem dL_law_792 : decode cL_law 792 = .ok (.iload 6, 2) := by decide +kernel
theorem dL_law_794 : decode cL_law 794 = .ok (.ifCond .ne 15, 3) := by decide +kernel
theorem dL_law_797 : decode cL_law 797 = .ok (.aload_n 3, 1) := by decide +kernel
theorem dL_law_798 : decode cL_law 798 = .ok (.iconst 0, 1) := by decide +kernel
theorem dL_law_799 : decode cL_law 799 = .ok (.laload, 1) := by decide +kernel
theorem dL_law_800 : decode cL_law 800 = .ok (.iload 7, 2) := by decide +kernel
theorem dL_law_802 : decode cL_law 802 = .ok (.i2l, 1) := by decide +kernel
theorem dL_law_803 : decode cL_law 803 = .ok (.lcmp, 1) := by decide +kernel
theorem dL_law_804 : decode cL_law 804 = .ok (.ifCond .eq 5, 3) := by decide +kernel
theorem dL_law_807 : decode cL_law 807 = .ok (.iconst 0, 1) := by decide +kernel
theorem dL_law_808 : decode cL_law 808 = .ok (.ireturn, 1) := by decide +kernel
theorem dL_law_809 : decode cL_law 809 = .ok (.goto 861, 3) := by decide +kernel
theorem dL_law_812 : decode cL_law 812 = .ok (.aload_n 1, 1) := by decide +kernel
theorem dL_law_813 : decode cL_law 813 = .ok (.aload_n 0, 1) := by decide +kernel
theorem dL_law_814 : decode cL_law 814 = .ok (.iload 5, 2) := by decide +kernel
theorem dL_law_816 : decode cL_law 816 = .ok (.iconst 1, 1) := by decide +kernel
theorem dL_law_817 : decode cL_law 817 = .ok (.iadd, 1) := by decide +kernel
theorem dL_law_818 : decode cL_law 818 = .ok (.iaload, 1) := by decide +kernel
theorem dL_law_819 : decode cL_law 819 = .ok (.aload_n 0, 1) := by decide +kernel
theorem dL_law_820 : decode cL_law 820 = .ok (.iload 5, 2) := by decide +kernel
theorem dL_law_822 : decode cL_law 822 = .ok (.iconst 2, 1) := by decide +kernel
theorem dL_law_823 : decode cL_law 823 = .ok (.iadd, 1) := by decide +kernel
theorem dL_law_824 : decode cL_law 824 = .ok (.iaload, 1) := by decide +kernel
theorem dL_law_825 : decode cL_law 825 = .ok (.aload_n 0, 1) := by decide +kernel
theorem dL_law_826 : decode cL_law 826 = .ok (.iload 5, 2) := by decide +kernel
theorem dL_law_828 : decode cL_law 828 = .ok (.iconst 3, 1) := by decide +kernel
theorem dL_law_829 : decode cL_law 829 = .ok (.iadd, 1) := by decide +kernel
theorem dL_law_830 : decode cL_law 830 = .ok (.iaload, 1) := by decide +kernel
theorem dL_law_831 : decode cL_law 831 = .ok (.aload_n 3, 1) := by decide +kernel
theorem dL_law_832 : decode cL_law 832 = .ok (.invokestatic 129, 3) := by decide +kernel
theorem dL_law_835 : decode cL_law 835 = .ok (.istore 6, 2) := by decide +kernel
theorem dL_law_837 : decode cL_law 837 = .ok (.aload_n 2, 1) := by decide +kernel
theorem dL_law_838 : decode cL_law 838 = .ok (.aload_n 0, 1) := by decide +kernel
theorem dL_law_839 : decode cL_law 839 = .ok (.iload 5, 2) := by decide +kernel
theorem dL_law_841 : decode cL_law 841 = .ok (.iconst 1, 1) := by decide +kernel
theorem dL_law_842 : decode cL_law 842 = .ok (.iadd, 1) := by decide +kernel
theorem dL_law_843 : decode cL_law 843 = .ok (.iaload, 1) := by decide +kernel
theorem dL_law_844 : decode cL_law 844 = .ok (.aload_n 0, 1) := by decide +kernel
theorem dL_law_845 : decode cL_law 845 = .ok (.iload 5, 2) := by decide +kernel
theorem dL_law_847 : decode cL_law 847 = .ok (.iconst 2, 1) := by decide +kernel
theorem dL_law_848 : decode cL_law 848 = .ok (.iadd, 1) := by decide +kernel
theorem dL_law_849 : decode cL_law 849 = .ok (.iaload, 1) := by decide +kernel
theorem dL_law_850 : decode cL_law 850 = .ok (.aload_n 0, 1) := by decide +kernel
theorem dL_law_851 : decode cL_law 851 = .ok (.iload 5, 2) := by decide +kernel
theorem dL_law_853 : decode cL_law 853 = .ok (.iconst 3, 1) := by decide +kernel
theorem dL_law_854 : decode cL_law 854 = .ok (.iadd, 1) := by decide +kernel
theorem dL_law_855 : decode cL_law 855 = .ok (.iaload, 1) := by decide +kernel
theorem dL_law_856 : decode cL_law 856 = .ok (.invokevirtual 131, 3) := by decide +kernel
theorem dL_law_859 : decode cL_law 859 = .ok (.istore 7, 2) := by decide +kernel
theorem dL_law_861 : decode cL_law 861 = .ok (.aload_n 2, 1) := by decide +kernel
theorem dL_law_862 : decode cL_law 862 = .ok (.invokevirtual 95, 3) := by decide +kernel
theorem dL_law_865 : decode cL_law 865 = .ok (.iload 6, 2) := by decide +kernel
theorem dL_law_867 : decode cL_law 867 = .ok (.if_icmp .eq 5, 3) := by decide +kernel
theorem dL_law_870 : decode cL_law 870 = .ok (.iconst 0, 1) := by decide +kernel
theorem dL_law_871 : decode cL_law 871 = .ok (.ireturn, 1) := by decide +kernel
theorem dL_law_872 : decode cL_law 872 = .ok (.iload 6, 2) := by decide +kernel
theorem dL_law_874 : decode cL_law 874 = .ok (.ifCond .ne 15, 3) := by decide +kernel
theorem dL_law_877 : decode cL_law 877 = .ok (.aload_n 3, 1) := by decide +kernel
theorem dL_law_878 : decode cL_law 878 = .ok (.iconst 0, 1) := by decide +kernel
theorem dL_law_879 : decode cL_law 879 = .ok (.laload, 1) := by decide +kernel
theorem dL_law_880 : decode cL_law 880 = .ok (.iload 7, 2) := by decide +kernel
theorem dL_law_882 : decode cL_law 882 = .ok (.i2l, 1) := by decide +kernel
theorem dL_law_883 : decode cL_law 883 = .ok (.lcmp, 1) := by decide +kernel
theorem dL_law_884 : decode cL_law 884 = .ok (.ifCond .eq 5, 3) := by decide +kernel
theorem dL_law_887 : decode cL_law 887 = .ok (.iconst 0, 1) := by decide +kernel
theorem dL_law_888 : decode cL_law 888 = .ok (.ireturn, 1) := by decide +kernel
theorem dL_law_889 : decode cL_law 889 = .ok (.goto 781, 3) := by decide +kernel
theorem dL_law_892 : decode cL_law 892 = .ok (.aload_n 1, 1) := by decide +kernel
theorem dL_law_893 : decode cL_law 893 = .ok (.aload_n 0, 1) := by decide +kernel
theorem dL_law_894 : decode cL_law 894 = .ok (.iload 5, 2) := by decide +kernel
theorem dL_law_896 : decode cL_law 896 = .ok (.iconst 1, 1) := by decide +kernel
theorem dL_law_897 : decode cL_law 897 = .ok (.iadd, 1) := by decide +kernel
theorem dL_law_898 : decode cL_law 898 = .ok (.iaload, 1) := by decide +kernel
theorem dL_law_899 : decode cL_law 899 = .ok (.aload_n 0, 1) := by decide +kernel
theorem dL_law_900 : decode cL_law 900 = .ok (.iload 5, 2) := by decide +kernel
theorem dL_law_902 : decode cL_law 902 = .ok (.iconst 2, 1) := by decide +kernel
theorem dL_law_903 : decode cL_law 903 = .ok (.iadd, 1) := by decide +kernel
theorem dL_law_904 : decode cL_law 904 = .ok (.iaload, 1) := by decide +kernel
theorem dL_law_905 : decode cL_law 905 = .ok (.aload_n 3, 1) := by decide +kernel
theorem dL_law_906 : decode cL_law 906 = .ok (.invokestatic 132, 3) := by decide +kernel
theorem dL_law_909 : decode cL_law 909 = .ok (.istore 6, 2) := by decide +kernel
theorem dL_law_911 : decode cL_law 911 = .ok (.aload_n 2, 1) := by decide +kernel
theorem dL_law_912 : decode cL_law 912 = .ok (.aload_n 0, 1) := by decide +kernel
theorem dL_law_913 : decode cL_law 913 = .ok (.iload 5, 2) := by decide +kernel
theorem dL_law_915 : decode cL_law 915 = .ok (.iconst 1, 1) := by decide +kernel
theorem dL_law_916 : decode cL_law 916 = .ok (.iadd, 1) := by decide +kernel
theorem dL_law_917 : decode cL_law 917 = .ok (.iaload, 1) := by decide +kernel
theorem dL_law_918 : decode cL_law 918 = .ok (.aload_n 0, 1) := by decide +kernel
theorem dL_law_919 : decode cL_law 919 = .ok (.iload 5, 2) := by decide +kernel
theorem dL_law_921 : decode cL_law 921 = .ok (.iconst 2, 1) := by decide +kernel
theorem dL_law_922 : decode cL_law 922 = .ok (.iadd, 1) := by decide +kernel
theorem dL_law_923 : decode cL_law 923 = .ok (.iaload, 1) := by decide +kernel
theorem dL_law_924 : decode cL_law 924 = .ok (.invokevirtual 134, 3) := by decide +kernel
theorem dL_law_927 : decode cL_law 927 = .ok (.istore 7, 2) := by decide +kernel
theorem dL_law_929 : decode cL_law 929 = .ok (.aload_n 2, 1) := by decide +kernel
theorem dL_law_930 : decode cL_law 930 = .ok (.invokevirtual 95, 3) := by decide +kernel
theorem dL_law_933 : decode cL_law 933 = .ok (.iload 6, 2) := by decide +kernel
theorem dL_law_935 : decode cL_law 935 = .ok (.if_icmp .eq 5, 3) := by decide +kernel
theorem dL_law_938 : decode cL_law 938 = .ok (.iconst 0, 1) := by decide +kernel
theorem dL_law_939 : decode cL_law 939 = .ok (.ireturn, 1) := by decide +kernel
theorem dL_law_940 : decode cL_law 940 = .ok (.iload 6, 2) := by decide +kernel
theorem dL_law_942 : decode cL_law 942 = .ok (.ifCond .ne 15, 3) := by decide +kernel
theorem dL_law_945 : decode cL_law 945 = .ok (.aload_n 3, 1) := by decide +kernel
theorem dL_law_946 : decode cL_law 946 = .ok (.iconst 0, 1) := by decide +kernel
theorem dL_law_947 : decode cL_law 947 = .ok (.laload, 1) := by decide +kernel
theorem dL_law_948 : decode cL_law 948 = .ok (.iload 7, 2) := by decide +kernel
theorem dL_law_950 : decode cL_law 950 = .ok (.i2l, 1) := by decide +kernel
theorem dL_law_951 : decode cL_law 951 = .ok (.lcmp, 1) := by decide +kernel
theorem dL_law_952 : decode cL_law 952 = .ok (.ifCond .eq 5, 3) := by decide +kernel
theorem dL_law_955 : decode cL_law 955 = .ok (.iconst 0, 1) := by decide +kernel
theorem dL_law_956 : decode cL_law 956 = .ok (.ireturn, 1) := by decide +kernel
theorem dL_law_957 : decode cL_law 957 = .ok (.goto 713, 3) := by decide +kernel
theorem dL_law_960 : decode cL_law 960 = .ok (.aload_n 1, 1) := by decide +kernel
theorem dL_law_961 : decode cL_law 961 = .ok (.aload_n 0, 1) := by decide +kernel
theorem dL_law_962 : decode cL_law 962 = .ok (.iload 5, 2) := by decide +kernel
theorem dL_law_964 : decode cL_law 964 = .ok (.iconst 1, 1) := by decide +kernel
theorem dL_law_965 : decode cL_law 965 = .ok (.iadd, 1) := by decide +kernel
theorem dL_law_966 : decode cL_law 966 = .ok (.iaload, 1) := by decide +kernel
theorem dL_law_967 : decode cL_law 967 = .ok (.aload_n 0, 1) := by decide +kernel
theorem dL_law_968 : decode cL_law 968 = .ok (.iload 5, 2) := by decide +kernel
theorem dL_law_970 : decode cL_law 970 = .ok (.iconst 2, 1) := by decide +kernel
theorem dL_law_971 : decode cL_law 971 = .ok (.iadd, 1) := by decide +kernel
theorem dL_law_972 : decode cL_law 972 = .ok (.iaload, 1) := by decide +kernel
theorem dL_law_973 : decode cL_law 973 = .ok (.aload_n 3, 1) := by decide +kernel
theorem dL_law_974 : decode cL_law 974 = .ok (.invokestatic 135, 3) := by decide +kernel
theorem dL_law_977 : decode cL_law 977 = .ok (.istore 6, 2) := by decide +kernel
theorem dL_law_979 : decode cL_law 979 = .ok (.aload_n 2, 1) := by decide +kernel
theorem dL_law_980 : decode cL_law 980 = .ok (.aload_n 0, 1) := by decide +kernel
theorem dL_law_981 : decode cL_law 981 = .ok (.iload 5, 2) := by decide +kernel
theorem dL_law_983 : decode cL_law 983 = .ok (.iconst 1, 1) := by decide +kernel
theorem dL_law_984 : decode cL_law 984 = .ok (.iadd, 1) := by decide +kernel
theorem dL_law_985 : decode cL_law 985 = .ok (.iaload, 1) := by decide +kernel
theorem dL_law_986 : decode cL_law 986 = .ok (.aload_n 0, 1) := by decide +kernel
theorem dL_law_987 : decode cL_law 987 = .ok (.iload 5, 2) := by decide +kernel
theorem dL_law_989 : decode cL_law 989 = .ok (.iconst 2, 1) := by decide +kernel
theorem dL_law_990 : decode cL_law 990 = .ok (.iadd, 1) := by decide +kernel
theorem dL_law_991 : decode cL_law 991 = .ok (.iaload, 1) := by decide +kernel
theorem dL_law_992 : decode cL_law 992 = .ok (.invokevirtual 137, 3) := by decide +kernel
theorem dL_law_995 : decode cL_law 995 = .ok (.istore 7, 2) := by decide +kernel
theorem dL_law_997 : decode cL_law 997 = .ok (.aload_n 2, 1) := by decide +kernel
theorem dL_law_998 : decode cL_law 998 = .ok (.invokevirtual 95, 3) := by decide +kernel
theorem dL_law_1001 : decode cL_law 1001 = .ok (.iload 6, 2) := by decide +kernel
theorem dL_law_1003 : decode cL_law 1003 = .ok (.if_icmp .eq 5, 3) := by decide +kernel
theorem dL_law_1006 : decode cL_law 1006 = .ok (.iconst 0, 1) := by decide +kernel
theorem dL_law_1007 : decode cL_law 1007 = .ok (.ireturn, 1) := by decide +kernel
theorem dL_law_1008 : decode cL_law 1008 = .ok (.iload 6, 2) := by decide +kernel
theorem dL_law_1010 : decode cL_law 1010 = .ok (.ifCond .ne 15, 3) := by decide +kernel
theorem dL_law_1013 : decode cL_law 1013 = .ok (.aload_n 3, 1) := by decide +kernel
theorem dL_law_1014 : decode cL_law 1014 = .ok (.iconst 0, 1) := by decide +kernel
theorem dL_law_1015 : decode cL_law 1015 = .ok (.laload, 1) := by decide +kernel
theorem dL_law_1016 : decode cL_law 1016 = .ok (.iload 7, 2) := by decide +kernel
theorem dL_law_1018 : decode cL_law 1018 = .ok (.i2l, 1) := by decide +kernel
theorem dL_law_1019 : decode cL_law 1019 = .ok (.lcmp, 1) := by decide +kernel
theorem dL_law_1020 : decode cL_law 1020 = .ok (.ifCond .eq 5, 3) := by decide +kernel
theorem dL_law_1023 : decode cL_law 1023 = .ok (.iconst 0, 1) := by decide +kernel
theorem dL_law_1024 : decode cL_law 1024 = .ok (.ireturn, 1) := by decide +kernel
theorem dL_law_1025 : decode cL_law 1025 = .ok (.goto 645, 3) := by decide +kernel
theorem dL_law_1028 : decode cL_law 1028 = .ok (.aload_n 1, 1) := by decide +kernel
theorem dL_law_1029 : decode cL_law 1029 = .ok (.aload_n 0, 1) := by decide +kernel
theorem dL_law_1030 : decode cL_law 1030 = .ok (.iload 5, 2) := by decide +kernel
theorem dL_law_1032 : decode cL_law 1032 = .ok (.iconst 1, 1) := by decide +kernel
theorem dL_law_1033 : decode cL_law 1033 = .ok (.iadd, 1) := by decide +kernel
theorem dL_law_1034 : decode cL_law 1034 = .ok (.iaload, 1) := by decide +kernel
theorem dL_law_1035 : decode cL_law 1035 = .ok (.aload_n 0, 1) := by decide +kernel
theorem dL_law_1036 : decode cL_law 1036 = .ok (.iload 5, 2) := by decide +kernel
theorem dL_law_1038 : decode cL_law 1038 = .ok (.iconst 2, 1) := by decide +kernel
theorem dL_law_1039 : decode cL_law 1039 = .ok (.iadd, 1) := by decide +kernel
theorem dL_law_1040 : decode cL_law 1040 = .ok (.iaload, 1) := by decide +kernel
theorem dL_law_1041 : decode cL_law 1041 = .ok (.aload_n 3, 1) := by decide +kernel
theorem dL_law_1042 : decode cL_law 1042 = .ok (.invokestatic 138, 3) := by decide +kernel
theorem dL_law_1045 : decode cL_law 1045 = .ok (.istore 6, 2) := by decide +kernel
theorem dL_law_1047 : decode cL_law 1047 = .ok (.aload_n 2, 1) := by decide +kernel
theorem dL_law_1048 : decode cL_law 1048 = .ok (.aload_n 0, 1) := by decide +kernel
theorem dL_law_1049 : decode cL_law 1049 = .ok (.iload 5, 2) := by decide +kernel
theorem dL_law_1051 : decode cL_law 1051 = .ok (.iconst 1, 1) := by decide +kernel
theorem dL_law_1052 : decode cL_law 1052 = .ok (.iadd, 1) := by decide +kernel
theorem dL_law_1053 : decode cL_law 1053 = .ok (.iaload, 1) := by decide +kernel
theorem dL_law_1054 : decode cL_law 1054 = .ok (.aload_n 0, 1) := by decide +kernel
theorem dL_law_1055 : decode cL_law 1055 = .ok (.iload 5, 2) := by decide +kernel
theorem dL_law_1057 : decode cL_law 1057 = .ok (.iconst 2, 1) := by decide +kernel
theorem dL_law_1058 : decode cL_law 1058 = .ok (.iadd, 1) := by decide +kernel
theorem dL_law_1059 : decode cL_law 1059 = .ok (.iaload, 1) := by decide +kernel
theorem dL_law_1060 : decode cL_law 1060 = .ok (.invokevirtual 140, 3) := by decide +kernel
theorem dL_law_1063 : decode cL_law 1063 = .ok (.istore 7, 2) := by decide +kernel
theorem dL_law_1065 : decode cL_law 1065 = .ok (.aload_n 2, 1) := by decide +kernel
theorem dL_law_1066 : decode cL_law 1066 = .ok (.invokevirtual 95, 3) := by decide +kernel
theorem dL_law_1069 : decode cL_law 1069 = .ok (.iload 6, 2) := by decide +kernel
theorem dL_law_1071 : decode cL_law 1071 = .ok (.if_icmp .eq 5, 3) := by decide +kernel
theorem dL_law_1074 : decode cL_law 1074 = .ok (.iconst 0, 1) := by decide +kernel
theorem dL_law_1075 : decode cL_law 1075 = .ok (.ireturn, 1) := by decide +kernel
theorem dL_law_1076 : decode cL_law 1076 = .ok (.iload 6, 2) := by decide +kernel
theorem dL_law_1078 : decode cL_law 1078 = .ok (.ifCond .ne 15, 3) := by decide +kernel
theorem dL_law_1081 : decode cL_law 1081 = .ok (.aload_n 3, 1) := by decide +kernel
theorem dL_law_1082 : decode cL_law 1082 = .ok (.iconst 0, 1) := by decide +kernel
theorem dL_law_1083 : decode cL_law 1083 = .ok (.laload, 1) := by decide +kernel
theorem dL_law_1084 : decode cL_law 1084 = .ok (.iload 7, 2) := by decide +kernel
theorem dL_law_1086 : decode cL_law 1086 = .ok (.i2l, 1) := by decide +kernel
theorem dL_law_1087 : decode cL_law 1087 = .ok (.lcmp, 1) := by decide +kernel
theorem dL_law_1088 : decode cL_law 1088 = .ok (.ifCond .eq 5, 3) := by decide +kernel
theorem dL_law_1091 : decode cL_law 1091 = .ok (.iconst 0, 1) := by decide +kernel
theorem dL_law_1092 : decode cL_law 1092 = .ok (.ireturn, 1) := by decide +kernel
theorem dL_law_1093 : decode cL_law 1093 = .ok (.goto 577, 3) := by decide +kernel
theorem dL_law_1096 : decode cL_law 1096 = .ok (.aload_n 1, 1) := by decide +kernel
theorem dL_law_1097 : decode cL_law 1097 = .ok (.aload_n 0, 1) := by decide +kernel
theorem dL_law_1098 : decode cL_law 1098 = .ok (.iload 5, 2) := by decide +kernel
theorem dL_law_1100 : decode cL_law 1100 = .ok (.iconst 1, 1) := by decide +kernel
theorem dL_law_1101 : decode cL_law 1101 = .ok (.iadd, 1) := by decide +kernel
theorem dL_law_1102 : decode cL_law 1102 = .ok (.iaload, 1) := by decide +kernel
theorem dL_law_1103 : decode cL_law 1103 = .ok (.aload_n 0, 1) := by decide +kernel
theorem dL_law_1104 : decode cL_law 1104 = .ok (.iload 5, 2) := by decide +kernel
theorem dL_law_1106 : decode cL_law 1106 = .ok (.iconst 2, 1) := by decide +kernel
theorem dL_law_1107 : decode cL_law 1107 = .ok (.iadd, 1) := by decide +kernel
theorem dL_law_1108 : decode cL_law 1108 = .ok (.iaload, 1) := by decide +kernel
theorem dL_law_1109 : decode cL_law 1109 = .ok (.aload_n 3, 1) := by decide +kernel
theorem dL_law_1110 : decode cL_law 1110 = .ok (.invokestatic 141, 3) := by decide +kernel
theorem dL_law_1113 : decode cL_law 1113 = .ok (.istore 6, 2) := by decide +kernel
theorem dL_law_1115 : decode cL_law 1115 = .ok (.aload_n 2, 1) := by decide +kernel
theorem dL_law_1116 : decode cL_law 1116 = .ok (.aload_n 0, 1) := by decide +kernel
theorem dL_law_1117 : decode cL_law 1117 = .ok (.iload 5, 2) := by decide +kernel
theorem dL_law_1119 : decode cL_law 1119 = .ok (.iconst 1, 1) := by decide +kernel
theorem dL_law_1120 : decode cL_law 1120 = .ok (.iadd, 1) := by decide +kernel
theorem dL_law_1121 : decode cL_law 1121 = .ok (.iaload, 1) := by decide +kernel
theorem dL_law_1122 : decode cL_law 1122 = .ok (.aload_n 0, 1) := by decide +kernel
theorem dL_law_1123 : decode cL_law 1123 = .ok (.iload 5, 2) := by decide +kernel
theorem dL_law_1125 : decode cL_law 1125 = .ok (.iconst 2, 1) := by decide +kernel
theorem dL_law_1126 : decode cL_law 1126 = .ok (.iadd, 1) := by decide +kernel
theorem dL_law_1127 : decode cL_law 1127 = .ok (.iaload, 1) := by decide +kernel
theorem dL_law_1128 : decode cL_law 1128 = .ok (.invokevirtual 143, 3) := by decide +kernel
theorem dL_law_1131 : decode cL_law 1131 = .ok (.istore 7, 2) := by decide +kernel
theorem dL_law_1133 : decode cL_law 1133 = .ok (.aload_n 2, 1) := by decide +kernel
theorem dL_law_1134 : decode cL_law 1134 = .ok (.invokevirtual 95, 3) := by decide +kernel
theorem dL_law_1137 : decode cL_law 1137 = .ok (.iload 6, 2) := by decide +kernel
theorem dL_law_1139 : decode cL_law 1139 = .ok (.if_icmp .eq 5, 3) := by decide +kernel
theorem dL_law_1142 : decode cL_law 1142 = .ok (.iconst 0, 1) := by decide +kernel
theorem dL_law_1143 : decode cL_law 1143 = .ok (.ireturn, 1) := by decide +kernel
theorem dL_law_1144 : decode cL_law 1144 = .ok (.iload 6, 2) := by decide +kernel
theorem dL_law_1146 : decode cL_law 1146 = .ok (.ifCond .ne 15, 3) := by decide +kernel
theorem dL_law_1149 : decode cL_law 1149 = .ok (.aload_n 3, 1) := by decide +kernel
theorem dL_law_1150 : decode cL_law 1150 = .ok (.iconst 0, 1) := by decide +kernel
theorem dL_law_1151 : decode cL_law 1151 = .ok (.laload, 1) := by decide +kernel
theorem dL_law_1152 : decode cL_law 1152 = .ok (.iload 7, 2) := by decide +kernel
theorem dL_law_1154 : decode cL_law 1154 = .ok (.i2l, 1) := by decide +kernel
theorem dL_law_1155 : decode cL_law 1155 = .ok (.lcmp, 1) := by decide +kernel
theorem dL_law_1156 : decode cL_law 1156 = .ok (.ifCond .eq 5, 3) := by decide +kernel
theorem dL_law_1159 : decode cL_law 1159 = .ok (.iconst 0, 1) := by decide +kernel
theorem dL_law_1160 : decode cL_law 1160 = .ok (.ireturn, 1) := by decide +kernel
theorem dL_law_1161 : decode cL_law 1161 = .ok (.goto 509, 3) := by decide +kernel
theorem dL_law_1164 : decode cL_law 1164 = .ok (.aload_n 1, 1) := by decide +kernel
theorem dL_law_1165 : decode cL_law 1165 = .ok (.aload_n 0, 1) := by decide +kernel
theorem dL_law_1166 : decode cL_law 1166 = .ok (.iload 5, 2) := by decide +kernel
theorem dL_law_1168 : decode cL_law 1168 = .ok (.iconst 1, 1) := by decide +kernel
theorem dL_law_1169 : decode cL_law 1169 = .ok (.iadd, 1) := by decide +kernel
theorem dL_law_1170 : decode cL_law 1170 = .ok (.iaload, 1) := by decide +kernel
theorem dL_law_1171 : decode cL_law 1171 = .ok (.aload_n 0, 1) := by decide +kernel
theorem dL_law_1172 : decode cL_law 1172 = .ok (.iload 5, 2) := by decide +kernel
theorem dL_law_1174 : decode cL_law 1174 = .ok (.iconst 2, 1) := by decide +kernel
theorem dL_law_1175 : decode cL_law 1175 = .ok (.iadd, 1) := by decide +kernel
theorem dL_law_1176 : decode cL_law 1176 = .ok (.iaload, 1) := by decide +kernel
theorem dL_law_1177 : decode cL_law 1177 = .ok (.aload_n 3, 1) := by decide +kernel
theorem dL_law_1178 : decode cL_law 1178 = .ok (.invokestatic 144, 3) := by decide +kernel
theorem dL_law_1181 : decode cL_law 1181 = .ok (.istore 6, 2) := by decide +kernel
theorem dL_law_1183 : decode cL_law 1183 = .ok (.aload_n 2, 1) := by decide +kernel
theorem dL_law_1184 : decode cL_law 1184 = .ok (.aload_n 0, 1) := by decide +kernel
theorem dL_law_1185 : decode cL_law 1185 = .ok (.iload 5, 2) := by decide +kernel
theorem dL_law_1187 : decode cL_law 1187 = .ok (.iconst 1, 1) := by decide +kernel
theorem dL_law_1188 : decode cL_law 1188 = .ok (.iadd, 1) := by decide +kernel
theorem dL_law_1189 : decode cL_law 1189 = .ok (.iaload, 1) := by decide +kernel
theorem dL_law_1190 : decode cL_law 1190 = .ok (.aload_n 0, 1) := by decide +kernel
theorem dL_law_1191 : decode cL_law 1191 = .ok (.iload 5, 2) := by decide +kernel
theorem dL_law_1193 : decode cL_law 1193 = .ok (.iconst 2, 1) := by decide +kernel
theorem dL_law_1194 : decode cL_law 1194 = .ok (.iadd, 1) := by decide +kernel
theorem dL_law_1195 : decode cL_law 1195 = .ok (.iaload, 1) := by decide +kernel
theorem dL_law_1196 : decode cL_law 1196 = .ok (.invokevirtual 146, 3) := by decide +kernel
theorem dL_law_1199 : decode cL_law 1199 = .ok (.istore 7, 2) := by decide +kernel
theorem dL_law_1201 : decode cL_law 1201 = .ok (.aload_n 2, 1) := by decide +kernel
theorem dL_law_1202 : decode cL_law 1202 = .ok (.invokevirtual 95, 3) := by decide +kernel
theorem dL_law_1205 : decode cL_law 1205 = .ok (.iload 6, 2) := by decide +kernel
theorem dL_law_1207 : decode cL_law 1207 = .ok (.if_icmp .eq 5, 3) := by decide +kernel
theorem dL_law_1210 : decode cL_law 1210 = .ok (.iconst 0, 1) := by decide +kernel
theorem dL_law_1211 : decode cL_law 1211 = .ok (.ireturn, 1) := by decide +kernel
theorem dL_law_1212 : decode cL_law 1212 = .ok (.iload 6, 2) := by decide +kernel
theorem dL_law_1214 : decode cL_law 1214 = .ok (.ifCond .ne 15, 3) := by decide +kernel
theorem dL_law_1217 : decode cL_law 1217 = .ok (.aload_n 3, 1) := by decide +kernel
theorem dL_law_1218 : decode cL_law 1218 = .ok (.iconst 0, 1) := by decide +kernel
theorem dL_law_1219 : decode cL_law 1219 = .ok (.laload, 1) := by decide +kernel
theorem dL_law_1220 : decode cL_law 1220 = .ok (.iload 7, 2) := by decide +kernel
theorem dL_law_1222 : decode cL_law 1222 = .ok (.i2l, 1) := by decide +kernel
theorem dL_law_1223 : decode cL_law 1223 = .ok (.lcmp, 1) := by decide +kernel
theorem dL_law_1224 : decode cL_law 1224 = .ok (.ifCond .eq 5, 3) := by decide +kernel
theorem dL_law_1227 : decode cL_law 1227 = .ok (.iconst 0, 1) := by decide +kernel
theorem dL_law_1228 : decode cL_law 1228 = .ok (.ireturn, 1) := by decide +kernel
theorem dL_law_1229 : decode cL_law 1229 = .ok (.goto 441, 3) := by decide +kernel
theorem dL_law_1232 : decode cL_law 1232 = .ok (.aload_n 1, 1) := by decide +kernel
theorem dL_law_1233 : decode cL_law 1233 = .ok (.aload_n 0, 1) := by decide +kernel
theorem dL_law_1234 : decode cL_law 1234 = .ok (.iload 5, 2) := by decide +kernel
theorem dL_law_1236 : decode cL_law 1236 = .ok (.iconst 1, 1) := by decide +kernel
theorem dL_law_1237 : decode cL_law 1237 = .ok (.iadd, 1) := by decide +kernel
theorem dL_law_1238 : decode cL_law 1238 = .ok (.iaload, 1) := by decide +kernel
theorem dL_law_1239 : decode cL_law 1239 = .ok (.aload_n 3, 1) := by decide +kernel
theorem dL_law_1240 : decode cL_law 1240 = .ok (.invokestatic 147, 3) := by decide +kernel
theorem dL_law_1243 : decode cL_law 1243 = .ok (.istore 6, 2) := by decide +kernel
theorem dL_law_1245 : decode cL_law 1245 = .ok (.aload_n 2, 1) := by decide +kernel
theorem dL_law_1246 : decode cL_law 1246 = .ok (.aload_n 0, 1) := by decide +kernel
theorem dL_law_1247 : decode cL_law 1247 = .ok (.iload 5, 2) := by decide +kernel
theorem dL_law_1249 : decode cL_law 1249 = .ok (.iconst 1, 1) := by decide +kernel
theorem dL_law_1250 : decode cL_law 1250 = .ok (.iadd, 1) := by decide +kernel
theorem dL_law_1251 : decode cL_law 1251 = .ok (.iaload, 1) := by decide +kernel
theorem dL_law_1252 : decode cL_law 1252 = .ok (.invokevirtual 149, 3) := by decide +kernel
theorem dL_law_1255 : decode cL_law 1255 = .ok (.istore 7, 2) := by decide +kernel
theorem dL_law_1257 : decode cL_law 1257 = .ok (.aload_n 2, 1) := by decide +kernel
theorem dL_law_1258 : decode cL_law 1258 = .ok (.invokevirtual 95, 3) := by decide +kernel
theorem dL_law_1261 : decode cL_law 1261 = .ok (.iload 6, 2) := by decide +kernel
theorem dL_law_1263 : decode cL_law 1263 = .ok (.if_icmp .eq 5, 3) := by decide +kernel
theorem dL_law_1266 : decode cL_law 1266 = .ok (.iconst 0, 1) := by decide +kernel
theorem dL_law_1267 : decode cL_law 1267 = .ok (.ireturn, 1) := by decide +kernel
theorem dL_law_1268 : decode cL_law 1268 = .ok (.iload 6, 2) := by decide +kernel
theorem dL_law_1270 : decode cL_law 1270 = .ok (.ifCond .ne 15, 3) := by decide +kernel
theorem dL_law_1273 : decode cL_law 1273 = .ok (.aload_n 3, 1) := by decide +kernel
theorem dL_law_1274 : decode cL_law 1274 = .ok (.iconst 0, 1) := by decide +kernel
theorem dL_law_1275 : decode cL_law 1275 = .ok (.laload, 1) := by decide +kernel
theorem dL_law_1276 : decode cL_law 1276 = .ok (.iload 7, 2) := by decide +kernel
theorem dL_law_1278 : decode cL_law 1278 = .ok (.i2l, 1) := by decide +kernel
theorem dL_law_1279 : decode cL_law 1279 = .ok (.lcmp, 1) := by decide +kernel
theorem dL_law_1280 : decode cL_law 1280 = .ok (.ifCond .eq 5, 3) := by decide +kernel
theorem dL_law_1283 : decode cL_law 1283 = .ok (.iconst 0, 1) := by decide +kernel
theorem dL_law_1284 : decode cL_law 1284 = .ok (.ireturn, 1) := by decide +kernel
theorem dL_law_1285 : decode cL_law 1285 = .ok (.goto 385, 3) := by decide +kernel
theorem dL_law_1288 : decode cL_law 1288 = .ok (.aload_n 1, 1) := by decide +kernel
theorem dL_law_1289 : decode cL_law 1289 = .ok (.aload_n 0, 1) := by decide +kernel
theorem dL_law_1290 : decode cL_law 1290 = .ok (.iload 5, 2) := by decide +kernel
theorem dL_law_1292 : decode cL_law 1292 = .ok (.iconst 1, 1) := by decide +kernel
theorem dL_law_1293 : decode cL_law 1293 = .ok (.iadd, 1) := by decide +kernel
theorem dL_law_1294 : decode cL_law 1294 = .ok (.iaload, 1) := by decide +kernel
theorem dL_law_1295 : decode cL_law 1295 = .ok (.aload_n 0, 1) := by decide +kernel
theorem dL_law_1296 : decode cL_law 1296 = .ok (.iload 5, 2) := by decide +kernel
theorem dL_law_1298 : decode cL_law 1298 = .ok (.iconst 2, 1) := by decide +kernel
theorem dL_law_1299 : decode cL_law 1299 = .ok (.iadd, 1) := by decide +kernel
theorem dL_law_1300 : decode cL_law 1300 = .ok (.iaload, 1) := by decide +kernel
theorem dL_law_1301 : decode cL_law 1301 = .ok (.aload_n 0, 1) := by decide +kernel
theorem dL_law_1302 : decode cL_law 1302 = .ok (.iload 5, 2) := by decide +kernel
theorem dL_law_1304 : decode cL_law 1304 = .ok (.iconst 3, 1) := by decide +kernel
theorem dL_law_1305 : decode cL_law 1305 = .ok (.iadd, 1) := by decide +kernel
theorem dL_law_1306 : decode cL_law 1306 = .ok (.iaload, 1) := by decide +kernel
theorem dL_law_1307 : decode cL_law 1307 = .ok (.aload_n 3, 1) := by decide +kernel
theorem dL_law_1308 : decode cL_law 1308 = .ok (.invokestatic 150, 3) := by decide +kernel
theorem dL_law_1311 : decode cL_law 1311 = .ok (.istore 6, 2) := by decide +kernel
theorem dL_law_1313 : decode cL_law 1313 = .ok (.aload_n 2, 1) := by decide +kernel
theorem dL_law_1314 : decode cL_law 1314 = .ok (.aload_n 0, 1) := by decide +kernel
theorem dL_law_1315 : decode cL_law 1315 = .ok (.iload 5, 2) := by decide +kernel
theorem dL_law_1317 : decode cL_law 1317 = .ok (.iconst 1, 1) := by decide +kernel
theorem dL_law_1318 : decode cL_law 1318 = .ok (.iadd, 1) := by decide +kernel
theorem dL_law_1319 : decode cL_law 1319 = .ok (.iaload, 1) := by decide +kernel
theorem dL_law_1320 : decode cL_law 1320 = .ok (.aload_n 0, 1) := by decide +kernel
theorem dL_law_1321 : decode cL_law 1321 = .ok (.iload 5, 2) := by decide +kernel
theorem dL_law_1323 : decode cL_law 1323 = .ok (.iconst 2, 1) := by decide +kernel
theorem dL_law_1324 : decode cL_law 1324 = .ok (.iadd, 1) := by decide +kernel
theorem dL_law_1325 : decode cL_law 1325 = .ok (.iaload, 1) := by decide +kernel
theorem dL_law_1326 : decode cL_law 1326 = .ok (.aload_n 0, 1) := by decide +kernel
theorem dL_law_1327 : decode cL_law 1327 = .ok (.iload 5, 2) := by decide +kernel
theorem dL_law_1329 : decode cL_law 1329 = .ok (.iconst 3, 1) := by decide +kernel
theorem dL_law_1330 : decode cL_law 1330 = .ok (.iadd, 1) := by decide +kernel
theorem dL_law_1331 : decode cL_law 1331 = .ok (.iaload, 1) := by decide +kernel
theorem dL_law_1332 : decode cL_law 1332 = .ok (.invokevirtual 152, 3) := by decide +kernel
theorem dL_law_1335 : decode cL_law 1335 = .ok (.istore 7, 2) := by decide +kernel
theorem dL_law_1337 : decode cL_law 1337 = .ok (.aload_n 2, 1) := by decide +kernel
theorem dL_law_1338 : decode cL_law 1338 = .ok (.invokevirtual 95, 3) := by decide +kernel
theorem dL_law_1341 : decode cL_law 1341 = .ok (.iload 6, 2) := by decide +kernel
theorem dL_law_1343 : decode cL_law 1343 = .ok (.if_icmp .eq 5, 3) := by decide +kernel
theorem dL_law_1346 : decode cL_law 1346 = .ok (.iconst 0, 1) := by decide +kernel
theorem dL_law_1347 : decode cL_law 1347 = .ok (.ireturn, 1) := by decide +kernel
theorem dL_law_1348 : decode cL_law 1348 = .ok (.iload 6, 2) := by decide +kernel
theorem dL_law_1350 : decode cL_law 1350 = .ok (.ifCond .ne 15, 3) := by decide +kernel
theorem dL_law_1353 : decode cL_law 1353 = .ok (.aload_n 3, 1) := by decide +kernel
theorem dL_law_1354 : decode cL_law 1354 = .ok (.iconst 0, 1) := by decide +kernel
theorem dL_law_1355 : decode cL_law 1355 = .ok (.laload, 1) := by decide +kernel
theorem dL_law_1356 : decode cL_law 1356 = .ok (.iload 7, 2) := by decide +kernel
theorem dL_law_1358 : decode cL_law 1358 = .ok (.i2l, 1) := by decide +kernel
theorem dL_law_1359 : decode cL_law 1359 = .ok (.lcmp, 1) := by decide +kernel
theorem dL_law_1360 : decode cL_law 1360 = .ok (.ifCond .eq 5, 3) := by decide +kernel
theorem dL_law_1363 : decode cL_law 1363 = .ok (.iconst 0, 1) := by decide +kernel
theorem dL_law_1364 : decode cL_law 1364 = .ok (.ireturn, 1) := by decide +kernel
theorem dL_law_1365 : decode cL_law 1365 = .ok (.goto 305, 3) := by decide +kernel
theorem dL_law_1368 : decode cL_law 1368 = .ok (.aload_n 1, 1) := by decide +kernel
theorem dL_law_1369 : decode cL_law 1369 = .ok (.aload_n 0, 1) := by decide +kernel
theorem dL_law_1370 : decode cL_law 1370 = .ok (.iload 5, 2) := by decide +kernel
theorem dL_law_1372 : decode cL_law 1372 = .ok (.iconst 1, 1) := by decide +kernel
theorem dL_law_1373 : decode cL_law 1373 = .ok (.iadd, 1) := by decide +kernel
theorem dL_law_1374 : decode cL_law 1374 = .ok (.iaload, 1) := by decide +kernel
theorem dL_law_1375 : decode cL_law 1375 = .ok (.aload_n 0, 1) := by decide +kernel
theorem dL_law_1376 : decode cL_law 1376 = .ok (.iload 5, 2) := by decide +kernel
theorem dL_law_1378 : decode cL_law 1378 = .ok (.iconst 2, 1) := by decide +kernel
theorem dL_law_1379 : decode cL_law 1379 = .ok (.iadd, 1) := by decide +kernel
theorem dL_law_1380 : decode cL_law 1380 = .ok (.iaload, 1) := by decide +kernel
theorem dL_law_1381 : decode cL_law 1381 = .ok (.aload_n 3, 1) := by decide +kernel
theorem dL_law_1382 : decode cL_law 1382 = .ok (.invokestatic 153, 3) := by decide +kernel
theorem dL_law_1385 : decode cL_law 1385 = .ok (.istore 6, 2) := by decide +kernel
theorem dL_law_1387 : decode cL_law 1387 = .ok (.aload_n 2, 1) := by decide +kernel
theorem dL_law_1388 : decode cL_law 1388 = .ok (.aload_n 0, 1) := by decide +kernel
theorem dL_law_1389 : decode cL_law 1389 = .ok (.iload 5, 2) := by decide +kernel
theorem dL_law_1391 : decode cL_law 1391 = .ok (.iconst 1, 1) := by decide +kernel
theorem dL_law_1392 : decode cL_law 1392 = .ok (.iadd, 1) := by decide +kernel
theorem dL_law_1393 : decode cL_law 1393 = .ok (.iaload, 1) := by decide +kernel
theorem dL_law_1394 : decode cL_law 1394 = .ok (.aload_n 0, 1) := by decide +kernel
theorem dL_law_1395 : decode cL_law 1395 = .ok (.iload 5, 2) := by decide +kernel
theorem dL_law_1397 : decode cL_law 1397 = .ok (.iconst 2, 1) := by decide +kernel
theorem dL_law_1398 : decode cL_law 1398 = .ok (.iadd, 1) := by decide +kernel
theorem dL_law_1399 : decode cL_law 1399 = .ok (.iaload, 1) := by decide +kernel
theorem dL_law_1400 : decode cL_law 1400 = .ok (.invokevirtual 155, 3) := by decide +kernel
theorem dL_law_1403 : decode cL_law 1403 = .ok (.istore 7, 2) := by decide +kernel
theorem dL_law_1405 : decode cL_law 1405 = .ok (.aload_n 2, 1) := by decide +kernel
theorem dL_law_1406 : decode cL_law 1406 = .ok (.invokevirtual 95, 3) := by decide +kernel
theorem dL_law_1409 : decode cL_law 1409 = .ok (.iload 6, 2) := by decide +kernel
theorem dL_law_1411 : decode cL_law 1411 = .ok (.if_icmp .eq 5, 3) := by decide +kernel
theorem dL_law_1414 : decode cL_law 1414 = .ok (.iconst 0, 1) := by decide +kernel
theorem dL_law_1415 : decode cL_law 1415 = .ok (.ireturn, 1) := by decide +kernel
theorem dL_law_1416 : decode cL_law 1416 = .ok (.iload 6, 2) := by decide +kernel
theorem dL_law_1418 : decode cL_law 1418 = .ok (.ifCond .ne 15, 3) := by decide +kernel
theorem dL_law_1421 : decode cL_law 1421 = .ok (.aload_n 3, 1) := by decide +kernel
theorem dL_law_1422 : decode cL_law 1422 = .ok (.iconst 0, 1) := by decide +kernel
theorem dL_law_1423 : decode cL_law 1423 = .ok (.laload, 1) := by decide +kernel
theorem dL_law_1424 : decode cL_law 1424 = .ok (.iload 7, 2) := by decide +kernel
theorem dL_law_1426 : decode cL_law 1426 = .ok (.i2l, 1) := by decide +kernel
theorem dL_law_1427 : decode cL_law 1427 = .ok (.lcmp, 1) := by decide +kernel
theorem dL_law_1428 : decode cL_law 1428 = .ok (.ifCond .eq 5, 3) := by decide +kernel
theorem dL_law_1431 : decode cL_law 1431 = .ok (.iconst 0, 1) := by decide +kernel
theorem dL_law_1432 : decode cL_law 1432 = .ok (.ireturn, 1) := by decide +kernel
theorem dL_law_1433 : decode cL_law 1433 = .ok (.goto 237, 3) := by decide +kernel
theorem dL_law_1436 : decode cL_law 1436 = .ok (.aload_n 1, 1) := by decide +kernel
theorem dL_law_1437 : decode cL_law 1437 = .ok (.aload_n 0, 1) := by decide +kernel
theorem dL_law_1438 : decode cL_law 1438 = .ok (.iload 5, 2) := by decide +kernel
theorem dL_law_1440 : decode cL_law 1440 = .ok (.iconst 1, 1) := by decide +kernel
theorem dL_law_1441 : decode cL_law 1441 = .ok (.iadd, 1) := by decide +kernel
theorem dL_law_1442 : decode cL_law 1442 = .ok (.iaload, 1) := by decide +kernel
theorem dL_law_1443 : decode cL_law 1443 = .ok (.aload_n 0, 1) := by decide +kernel
theorem dL_law_1444 : decode cL_law 1444 = .ok (.iload 5, 2) := by decide +kernel
theorem dL_law_1446 : decode cL_law 1446 = .ok (.iconst 2, 1) := by decide +kernel
theorem dL_law_1447 : decode cL_law 1447 = .ok (.iadd, 1) := by decide +kernel
theorem dL_law_1448 : decode cL_law 1448 = .ok (.iaload, 1) := by decide +kernel
theorem dL_law_1449 : decode cL_law 1449 = .ok (.aload_n 3, 1) := by decide +kernel
theorem dL_law_1450 : decode cL_law 1450 = .ok (.invokestatic 156, 3) := by decide +kernel
theorem dL_law_1453 : decode cL_law 1453 = .ok (.istore 6, 2) := by decide +kernel
theorem dL_law_1455 : decode cL_law 1455 = .ok (.aload_n 2, 1) := by decide +kernel
theorem dL_law_1456 : decode cL_law 1456 = .ok (.aload_n 0, 1) := by decide +kernel
theorem dL_law_1457 : decode cL_law 1457 = .ok (.iload 5, 2) := by decide +kernel
theorem dL_law_1459 : decode cL_law 1459 = .ok (.iconst 1, 1) := by decide +kernel
theorem dL_law_1460 : decode cL_law 1460 = .ok (.iadd, 1) := by decide +kernel
theorem dL_law_1461 : decode cL_law 1461 = .ok (.iaload, 1) := by decide +kernel
theorem dL_law_1462 : decode cL_law 1462 = .ok (.aload_n 0, 1) := by decide +kernel
theorem dL_law_1463 : decode cL_law 1463 = .ok (.iload 5, 2) := by decide +kernel
theorem dL_law_1465 : decode cL_law 1465 = .ok (.iconst 2, 1) := by decide +kernel
theorem dL_law_1466 : decode cL_law 1466 = .ok (.iadd, 1) := by decide +kernel
theorem dL_law_1467 : decode cL_law 1467 = .ok (.iaload, 1) := by decide +kernel
theorem dL_law_1468 : decode cL_law 1468 = .ok (.invokevirtual 158, 3) := by decide +kernel
theorem dL_law_1471 : decode cL_law 1471 = .ok (.istore 7, 2) := by decide +kernel
theorem dL_law_1473 : decode cL_law 1473 = .ok (.aload_n 2, 1) := by decide +kernel
theorem dL_law_1474 : decode cL_law 1474 = .ok (.invokevirtual 95, 3) := by decide +kernel
theorem dL_law_1477 : decode cL_law 1477 = .ok (.iload 6, 2) := by decide +kernel
theorem dL_law_1479 : decode cL_law 1479 = .ok (.if_icmp .eq 5, 3) := by decide +kernel
theorem dL_law_1482 : decode cL_law 1482 = .ok (.iconst 0, 1) := by decide +kernel
theorem dL_law_1483 : decode cL_law 1483 = .ok (.ireturn, 1) := by decide +kernel
theorem dL_law_1484 : decode cL_law 1484 = .ok (.iload 6, 2) := by decide +kernel
theorem dL_law_1486 : decode cL_law 1486 = .ok (.ifCond .ne 15, 3) := by decide +kernel
theorem dL_law_1489 : decode cL_law 1489 = .ok (.aload_n 3, 1) := by decide +kernel
theorem dL_law_1490 : decode cL_law 1490 = .ok (.iconst 0, 1) := by decide +kernel
theorem dL_law_1491 : decode cL_law 1491 = .ok (.laload, 1) := by decide +kernel
theorem dL_law_1492 : decode cL_law 1492 = .ok (.iload 7, 2) := by decide +kernel
theorem dL_law_1494 : decode cL_law 1494 = .ok (.i2l, 1) := by decide +kernel
theorem dL_law_1495 : decode cL_law 1495 = .ok (.lcmp, 1) := by decide +kernel
theorem dL_law_1496 : decode cL_law 1496 = .ok (.ifCond .eq 5, 3) := by decide +kernel
theorem dL_law_1499 : decode cL_law 1499 = .ok (.iconst 0, 1) := by decide +kernel
theorem dL_law_1500 : decode cL_law 1500 = .ok (.ireturn, 1) := by decide +kernel
theorem dL_law_1501 : decode cL_law 1501 = .ok (.goto 169, 3) := by decide +kernel
theorem dL_law_1504 : decode cL_law 1504 = .ok (.aload_n 1, 1) := by decide +kernel
theorem dL_law_1505 : decode cL_law 1505 = .ok (.aload_n 0, 1) := by decide +kernel
theorem dL_law_1506 : decode cL_law 1506 = .ok (.iload 5, 2) := by decide +kernel
theorem dL_law_1508 : decode cL_law 1508 = .ok (.iconst 1, 1) := by decide +kernel
theorem dL_law_1509 : decode cL_law 1509 = .ok (.iadd, 1) := by decide +kernel
theorem dL_law_1510 : decode cL_law 1510 = .ok (.iaload, 1) := by decide +kernel
theorem dL_law_1511 : decode cL_law 1511 = .ok (.aload_n 0, 1) := by decide +kernel
theorem dL_law_1512 : decode cL_law 1512 = .ok (.iload 5, 2) := by decide +kernel
theorem dL_law_1514 : decode cL_law 1514 = .ok (.iconst 2, 1) := by decide +kernel
theorem dL_law_1515 : decode cL_law 1515 = .ok (.iadd, 1) := by decide +kernel
theorem dL_law_1516 : decode cL_law 1516 = .ok (.iaload, 1) := by decide +kernel
theorem dL_law_1517 : decode cL_law 1517 = .ok (.aload_n 3, 1) := by decide +kernel
theorem dL_law_1518 : decode cL_law 1518 = .ok (.invokestatic 159, 3) := by decide +kernel
theorem dL_law_1521 : decode cL_law 1521 = .ok (.istore 6, 2) := by decide +kernel
theorem dL_law_1523 : decode cL_law 1523 = .ok (.aload_n 2, 1) := by decide +kernel
theorem dL_law_1524 : decode cL_law 1524 = .ok (.aload_n 0, 1) := by decide +kernel
theorem dL_law_1525 : decode cL_law 1525 = .ok (.iload 5, 2) := by decide +kernel
theorem dL_law_1527 : decode cL_law 1527 = .ok (.iconst 1, 1) := by decide +kernel
theorem dL_law_1528 : decode cL_law 1528 = .ok (.iadd, 1) := by decide +kernel
theorem dL_law_1529 : decode cL_law 1529 = .ok (.iaload, 1) := by decide +kernel
theorem dL_law_1530 : decode cL_law 1530 = .ok (.aload_n 0, 1) := by decide +kernel
theorem dL_law_1531 : decode cL_law 1531 = .ok (.iload 5, 2) := by decide +kernel
theorem dL_law_1533 : decode cL_law 1533 = .ok (.iconst 2, 1) := by decide +kernel
theorem dL_law_1534 : decode cL_law 1534 = .ok (.iadd, 1) := by decide +kernel
theorem dL_law_1535 : decode cL_law 1535 = .ok (.iaload, 1) := by decide +kernel
theorem dL_law_1536 : decode cL_law 1536 = .ok (.invokevirtual 161, 3) := by decide +kernel
theorem dL_law_1539 : decode cL_law 1539 = .ok (.istore 7, 2) := by decide +kernel
theorem dL_law_1541 : decode cL_law 1541 = .ok (.aload_n 2, 1) := by decide +kernel
theorem dL_law_1542 : decode cL_law 1542 = .ok (.invokevirtual 95, 3) := by decide +kernel
theorem dL_law_1545 : decode cL_law 1545 = .ok (.iload 6, 2) := by decide +kernel
theorem dL_law_1547 : decode cL_law 1547 = .ok (.if_icmp .eq 5, 3) := by decide +kernel
theorem dL_law_1550 : decode cL_law 1550 = .ok (.iconst 0, 1) := by decide +kernel
theorem dL_law_1551 : decode cL_law 1551 = .ok (.ireturn, 1) := by decide +kernel
theorem dL_law_1552 : decode cL_law 1552 = .ok (.iload 6, 2) := by decide +kernel
theorem dL_law_1554 : decode cL_law 1554 = .ok (.ifCond .ne 22, 3) := by decide +kernel
theorem dL_law_1557 : decode cL_law 1557 = .ok (.aload_n 3, 1) := by decide +kernel
theorem dL_law_1558 : decode cL_law 1558 = .ok (.iconst 0, 1) := by decide +kernel
theorem dL_law_1559 : decode cL_law 1559 = .ok (.laload, 1) := by decide +kernel
theorem dL_law_1560 : decode cL_law 1560 = .ok (.iload 7, 2) := by decide +kernel
theorem dL_law_1562 : decode cL_law 1562 = .ok (.ifCond .eq 7, 3) := by decide +kernel
theorem dL_law_1565 : decode cL_law 1565 = .ok (.lconst 1, 1) := by decide +kernel
theorem dL_law_1566 : decode cL_law 1566 = .ok (.goto 4, 3) := by decide +kernel
theorem dL_law_1569 : decode cL_law 1569 = .ok (.lconst 0, 1) := by decide +kernel
theorem dL_law_1570 : decode cL_law 1570 = .ok (.lcmp, 1) := by decide +kernel
theorem dL_law_1571 : decode cL_law 1571 = .ok (.ifCond .eq 5, 3) := by decide +kernel
theorem dL_law_1574 : decode cL_law 1574 = .ok (.iconst 0, 1) := by decide +kernel
theorem dL_law_1575 : decode cL_law 1575 = .ok (.ireturn, 1) := by decide +kernel
theorem dL_law_1576 : decode cL_law 1576 = .ok (.goto 94, 3) := by decide +kernel
theorem dL_law_1579 : decode cL_law 1579 = .ok (.aload_n 1, 1) := by decide +kernel
theorem dL_law_1580 : decode cL_law 1580 = .ok (.aload_n 0, 1) := by decide +kernel
theorem dL_law_1581 : decode cL_law 1581 = .ok (.iload 5, 2) := by decide +kernel
theorem dL_law_1583 : decode cL_law 1583 = .ok (.iconst 1, 1) := by decide +kernel
theorem dL_law_1584 : decode cL_law 1584 = .ok (.iadd, 1) := by decide +kernel
theorem dL_law_1585 : decode cL_law 1585 = .ok (.iaload, 1) := by decide +kernel
theorem dL_law_1586 : decode cL_law 1586 = .ok (.aload 4, 2) := by decide +kernel
theorem dL_law_1588 : decode cL_law 1588 = .ok (.invokestatic 162, 3) := by decide +kernel
theorem dL_law_1591 : decode cL_law 1591 = .ok (.istore 6, 2) := by decide +kernel
theorem dL_law_1593 : decode cL_law 1593 = .ok (.aload_n 2, 1) := by decide +kernel
theorem dL_law_1594 : decode cL_law 1594 = .ok (.aload_n 0, 1) := by decide +kernel
theorem dL_law_1595 : decode cL_law 1595 = .ok (.iload 5, 2) := by decide +kernel
theorem dL_law_1597 : decode cL_law 1597 = .ok (.iconst 1, 1) := by decide +kernel
theorem dL_law_1598 : decode cL_law 1598 = .ok (.iadd, 1) := by decide +kernel
theorem dL_law_1599 : decode cL_law 1599 = .ok (.iaload, 1) := by decide +kernel
theorem dL_law_1600 : decode cL_law 1600 = .ok (.invokevirtual 165, 3) := by decide +kernel
theorem dL_law_1603 : decode cL_law 1603 = .ok (.dstore 7, 2) := by decide +kernel
theorem dL_law_1605 : decode cL_law 1605 = .ok (.aload_n 2, 1) := by decide +kernel
theorem dL_law_1606 : decode cL_law 1606 = .ok (.invokevirtual 95, 3) := by decide +kernel
theorem dL_law_1609 : decode cL_law 1609 = .ok (.iload 6, 2) := by decide +kernel
theorem dL_law_1611 : decode cL_law 1611 = .ok (.if_icmp .eq 5, 3) := by decide +kernel
theorem dL_law_1614 : decode cL_law 1614 = .ok (.iconst 0, 1) := by decide +kernel
theorem dL_law_1615 : decode cL_law 1615 = .ok (.ireturn, 1) := by decide +kernel
theorem dL_law_1616 : decode cL_law 1616 = .ok (.iload 6, 2) := by decide +kernel
theorem dL_law_1618 : decode cL_law 1618 = .ok (.ifCond .ne 35, 3) := by decide +kernel
theorem dL_law_1621 : decode cL_law 1621 = .ok (.aload 4, 2) := by decide +kernel
theorem dL_law_1623 : decode cL_law 1623 = .ok (.iconst 0, 1) := by decide +kernel
theorem dL_law_1624 : decode cL_law 1624 = .ok (.daload, 1) := by decide +kernel
theorem dL_law_1625 : decode cL_law 1625 = .ok (.dload 7, 2) := by decide +kernel
theorem dL_law_1627 : decode cL_law 1627 = .ok (.dcmp .l, 1) := by decide +kernel
theorem dL_law_1628 : decode cL_law 1628 = .ok (.ifCond .eq 25, 3) := by decide +kernel
theorem dL_law_1631 : decode cL_law 1631 = .ok (.aload 4, 2) := by decide +kernel
theorem dL_law_1633 : decode cL_law 1633 = .ok (.iconst 0, 1) := by decide +kernel
theorem dL_law_1634 : decode cL_law 1634 = .ok (.daload, 1) := by decide +kernel
theorem dL_law_1635 : decode cL_law 1635 = .ok (.aload 4, 2) := by decide +kernel
theorem dL_law_1637 : decode cL_law 1637 = .ok (.iconst 0, 1) := by decide +kernel
theorem dL_law_1638 : decode cL_law 1638 = .ok (.daload, 1) := by decide +kernel
theorem dL_law_1639 : decode cL_law 1639 = .ok (.dcmp .l, 1) := by decide +kernel
theorem dL_law_1640 : decode cL_law 1640 = .ok (.ifCond .eq 11, 3) := by decide +kernel
theorem dL_law_1643 : decode cL_law 1643 = .ok (.dload 7, 2) := by decide +kernel
theorem dL_law_1645 : decode cL_law 1645 = .ok (.dload 7, 2) := by decide +kernel
theorem dL_law_1647 : decode cL_law 1647 = .ok (.dcmp .l, 1) := by decide +kernel
theorem dL_law_1648 : decode cL_law 1648 = .ok (.ifCond .ne 5, 3) := by decide +kernel
theorem dL_law_1651 : decode cL_law 1651 = .ok (.iconst 0, 1) := by decide +kernel
theorem dL_law_1652 : decode cL_law 1652 = .ok (.ireturn, 1) := by decide +kernel
theorem dL_law_1653 : decode cL_law 1653 = .ok (.goto 17, 3) := by decide +kernel
theorem dL_law_1656 : decode cL_law 1656 = .ok (.aload_n 1, 1) := by decide +kernel
theorem dL_law_1657 : decode cL_law 1657 = .ok (.invokevirtual 166, 3) := by decide +kernel
theorem dL_law_1660 : decode cL_law 1660 = .ok (.aload_n 2, 1) := by decide +kernel
theorem dL_law_1661 : decode cL_law 1661 = .ok (.invokevirtual 170, 3) := by decide +kernel
theorem dL_law_1664 : decode cL_law 1664 = .ok (.lcmp, 1) := by decide +kernel
theorem dL_law_1665 : decode cL_law 1665 = .ok (.ifCond .eq 5, 3) := by decide +kernel
theorem dL_law_1668 : decode cL_law 1668 = .ok (.iconst 0, 1) := by decide +kernel
theorem dL_law_1669 : decode cL_law 1669 = .ok (.ireturn, 1) := by decide +kernel
theorem dL_law_1670 : decode cL_law 1670 = .ok (.iinc 5 4, 3) := by decide +kernel
theorem dL_law_1673 : decode cL_law 1673 = .ok (.goto (-1645), 3) := by decide +kernel
theorem dL_law_1676 : decode cL_law 1676 = .ok (.iconst 1, 1) := by decide +kernel
theorem dL_law_1677 : decode cL_law 1677 = .ok (.ireturn, 1) := by decide +kernel
abbrev vwCl : List vw_C := [(RX0, TX0, 7), (RX1, TX1, 7)]
/-- the objects of ToneButterflies, kind 0: what each holds, by its address -/
structure wK_O_ToneButterflies where
  f_numbers : Nat → Option Nat
  f_length : Nat → Int32
  f_prime : Nat → Int32
  f_bits : Nat → Int32
  f_unityRoot : Nat → Int32
  f_unityRootInverse : Nat → Int32
  f_lengthInverse : Nat → Int32
/-- the objects of ToneButterfliesModel, kind 1: what each holds, by its address -/
structure wK_O_ToneButterfliesModel where
  f_thrown : Nat → Int32
  f_n : Nat → Int32
  f_p : Nat → Int32
  f_w : Nat → Int32
  f_bits : Nat → Int32
  f_rows : Nat → Option Nat
  f_made : Nat → Option Nat
/-- the arrays of kind 2: what each holds, by its address -/
structure wK_R_I where
  len : Nat → Nat
  row : Nat → Nat → Int32
/-- the pool: the addresses, the kind of each, and the kinds -/
structure wPS where
  L : List Nat
  K : Nat → Nat
  O_ToneButterflies : wK_O_ToneButterflies
  O_ToneButterfliesModel : wK_O_ToneButterfliesModel
  R_I : wK_R_I
/-- the empty pool -/
abbrev wP0 : wPS := { L := [], K := (fun _ => 0), O_ToneButterflies := { f_numbers := (fun _ => none), f_length := (fun _ => 0), f_prime := (fun _ => 0), f_bits := (fun _ => 0), f_unityRoot := (fun _ => 0), f_unityRootInverse := (fun _ => 0), f_lengthInverse := (fun _ => 0) }, O_ToneButterfliesModel := { f_thrown := (fun _ => 0), f_n := (fun _ => 0), f_p := (fun _ => 0), f_w := (fun _ => 0), f_bits := (fun _ => 0), f_rows := (fun _ => none), f_made := (fun _ => none) }, R_I := { len := (fun _ => 0), row := (fun _ _ => 0) } }
/-- the pool's rows by their kinds -/
abbrev wPF (cyI : ClassId) (S : wPS) : Nat → va_E := fun a => if S.K a = 0 then .inr (0, [va_rf (S.O_ToneButterflies.f_numbers a), .int (S.O_ToneButterflies.f_length a), .int (S.O_ToneButterflies.f_prime a), .int (S.O_ToneButterflies.f_bits a), .int (S.O_ToneButterflies.f_unityRoot a), .int (S.O_ToneButterflies.f_unityRootInverse a), .int (S.O_ToneButterflies.f_lengthInverse a)]) else if S.K a = 1 then .inr (1, [.int (S.O_ToneButterfliesModel.f_thrown a), .int (S.O_ToneButterfliesModel.f_n a), .int (S.O_ToneButterfliesModel.f_p a), .int (S.O_ToneButterfliesModel.f_w a), .int (S.O_ToneButterfliesModel.f_bits a), va_rf (S.O_ToneButterfliesModel.f_rows a), va_rf (S.O_ToneButterfliesModel.f_made a)]) else .inl (cyI, S.R_I.len a, .inl (S.R_I.row a))
theorem wAt_O_ToneButterflies (cyI : ClassId) (S : wPS) {a : Nat} (h : S.K a = 0) : wPF cyI S a = .inr (0, [va_rf (S.O_ToneButterflies.f_numbers a), .int (S.O_ToneButterflies.f_length a), .int (S.O_ToneButterflies.f_prime a), .int (S.O_ToneButterflies.f_bits a), .int (S.O_ToneButterflies.f_unityRoot a), .int (S.O_ToneButterflies.f_unityRootInverse a), .int (S.O_ToneButterflies.f_lengthInverse a)]) := by simp [wPF, h]
theorem wGt_O_ToneButterflies (cyI : ClassId) (X : va_W) (S : wPS) {a : Nat} (hL : a ∈ S.L) (h : S.K a = 0) : ∃ k : Nat, (X ++ va_pl S.L (wPF cyI S))[k]? = some (a, wPF cyI S a) ∧ (X ++ va_pl S.L (wPF cyI S))[k]? = some (a, .inr (0, [va_rf (S.O_ToneButterflies.f_numbers a), .int (S.O_ToneButterflies.f_length a), .int (S.O_ToneButterflies.f_prime a), .int (S.O_ToneButterflies.f_bits a), .int (S.O_ToneButterflies.f_unityRoot a), .int (S.O_ToneButterflies.f_unityRootInverse a), .int (S.O_ToneButterflies.f_lengthInverse a)])) := by
  obtain ⟨k, hk⟩ := va_pl_get (X := X) (f := wPF cyI S) hL
  exact ⟨k, hk, hk.trans (congrArg (fun e => some (a, e)) (wAt_O_ToneButterflies cyI S h))⟩
theorem wSt_O_ToneButterflies_f_numbers (cyI : ClassId) (S : wPS) {a : Nat} (h : S.K a = 0) (v : Option Nat) (b : Nat) : va_up (wPF cyI S) a (.inr (0, [va_rf v, .int (S.O_ToneButterflies.f_length a), .int (S.O_ToneButterflies.f_prime a), .int (S.O_ToneButterflies.f_bits a), .int (S.O_ToneButterflies.f_unityRoot a), .int (S.O_ToneButterflies.f_unityRootInverse a), .int (S.O_ToneButterflies.f_lengthInverse a)])) b = wPF cyI { S with O_ToneButterflies := { S.O_ToneButterflies with f_numbers := va_up S.O_ToneButterflies.f_numbers a v } } b := by by_cases hb : b = a <;> first | (simp only [wPF, va_up_ne _ _ hb]; done) | (simp only [wPF, va_up, if_neg hb]; done) | simp [wPF, va_re, va_up, va_rf, hb, h]
theorem wPu_O_ToneButterflies_f_numbers (cyI : ClassId) (X : va_W) (S : wPS) {A : Nat → Prop} {a k : Nat} (hD : va_D A (X ++ va_pl S.L (wPF cyI S))) (hL : a ∈ S.L) (h : S.K a = 0) (hk : (X ++ va_pl S.L (wPF cyI S))[k]? = some (a, wPF cyI S a)) (v : Option Nat) : (X ++ va_pl S.L (wPF cyI S)).set k (a, .inr (0, [va_rf v, .int (S.O_ToneButterflies.f_length a), .int (S.O_ToneButterflies.f_prime a), .int (S.O_ToneButterflies.f_bits a), .int (S.O_ToneButterflies.f_unityRoot a), .int (S.O_ToneButterflies.f_unityRootInverse a), .int (S.O_ToneButterflies.f_lengthInverse a)])) = X ++ va_pl S.L (wPF cyI { S with O_ToneButterflies := { S.O_ToneButterflies with f_numbers := va_up S.O_ToneButterflies.f_numbers a v } }) := by
  rw [va_pl_set hD hL hk]
  exact congrArg (fun l => X ++ l) (va_pl_congr (wSt_O_ToneButterflies_f_numbers cyI S h v))
theorem wSt_O_ToneButterflies_f_length (cyI : ClassId) (S : wPS) {a : Nat} (h : S.K a = 0) (v : Int32) (b : Nat) : va_up (wPF cyI S) a (.inr (0, [va_rf (S.O_ToneButterflies.f_numbers a), .int v, .int (S.O_ToneButterflies.f_prime a), .int (S.O_ToneButterflies.f_bits a), .int (S.O_ToneButterflies.f_unityRoot a), .int (S.O_ToneButterflies.f_unityRootInverse a), .int (S.O_ToneButterflies.f_lengthInverse a)])) b = wPF cyI { S with O_ToneButterflies := { S.O_ToneButterflies with f_length := va_up S.O_ToneButterflies.f_length a v } } b := by by_cases hb : b = a <;> first | (simp only [wPF, va_up_ne _ _ hb]; done) | (simp only [wPF, va_up, if_neg hb]; done) | simp [wPF, va_re, va_up, va_rf, hb, h]
theorem wPu_O_ToneButterflies_f_length (cyI : ClassId) (X : va_W) (S : wPS) {A : Nat → Prop} {a k : Nat} (hD : va_D A (X ++ va_pl S.L (wPF cyI S))) (hL : a ∈ S.L) (h : S.K a = 0) (hk : (X ++ va_pl S.L (wPF cyI S))[k]? = some (a, wPF cyI S a)) (v : Int32) : (X ++ va_pl S.L (wPF cyI S)).set k (a, .inr (0, [va_rf (S.O_ToneButterflies.f_numbers a), .int v, .int (S.O_ToneButterflies.f_prime a), .int (S.O_ToneButterflies.f_bits a), .int (S.O_ToneButterflies.f_unityRoot a), .int (S.O_ToneButterflies.f_unityRootInverse a), .int (S.O_ToneButterflies.f_lengthInverse a)])) = X ++ va_pl S.L (wPF cyI { S with O_ToneButterflies := { S.O_ToneButterflies with f_length := va_up S.O_ToneButterflies.f_length a v } }) := by
  rw [va_pl_set hD hL hk]
  exact congrArg (fun l => X ++ l) (va_pl_congr (wSt_O_ToneButterflies_f_length cyI S h v))
theorem wSt_O_ToneButterflies_f_prime (cyI : ClassId) (S : wPS) {a : Nat} (h : S.K a = 0) (v : Int32) (b : Nat) : va_up (wPF cyI S) a (.inr (0, [va_rf (S.O_ToneButterflies.f_numbers a), .int (S.O_ToneButterflies.f_length a), .int v, .int (S.O_ToneButterflies.f_bits a), .int (S.O_ToneButterflies.f_unityRoot a), .int (S.O_ToneButterflies.f_unityRootInverse a), .int (S.O_ToneButterflies.f_lengthInverse a)])) b = wPF cyI { S with O_ToneButterflies := { S.O_ToneButterflies with f_prime := va_up S.O_ToneButterflies.f_prime a v } } b := by by_cases hb : b = a <;> first | (simp only [wPF, va_up_ne _ _ hb]; done) | (simp only [wPF, va_up, if_neg hb]; done) | simp [wPF, va_re, va_up, va_rf, hb, h]
theorem wPu_O_ToneButterflies_f_prime (cyI : ClassId) (X : va_W) (S : wPS) {A : Nat → Prop} {a k : Nat} (hD : va_D A (X ++ va_pl S.L (wPF cyI S))) (hL : a ∈ S.L) (h : S.K a = 0) (hk : (X ++ va_pl S.L (wPF cyI S))[k]? = some (a, wPF cyI S a)) (v : Int32) : (X ++ va_pl S.L (wPF cyI S)).set k (a, .inr (0, [va_rf (S.O_ToneButterflies.f_numbers a), .int (S.O_ToneButterflies.f_length a), .int v, .int (S.O_ToneButterflies.f_bits a), .int (S.O_ToneButterflies.f_unityRoot a), .int (S.O_ToneButterflies.f_unityRootInverse a), .int (S.O_ToneButterflies.f_lengthInverse a)])) = X ++ va_pl S.L (wPF cyI { S with O_ToneButterflies := { S.O_ToneButterflies with f_prime := va_up S.O_ToneButterflies.f_prime a v } }) := by
  rw [va_pl_set hD hL hk]
  exact congrArg (fun l => X ++ l) (va_pl_congr (wSt_O_ToneButterflies_f_prime cyI S h v))
theorem wSt_O_ToneButterflies_f_bits (cyI : ClassId) (S : wPS) {a : Nat} (h : S.K a = 0) (v : Int32) (b : Nat) : va_up (wPF cyI S) a (.inr (0, [va_rf (S.O_ToneButterflies.f_numbers a), .int (S.O_ToneButterflies.f_length a), .int (S.O_ToneButterflies.f_prime a), .int v, .int (S.O_ToneButterflies.f_unityRoot a), .int (S.O_ToneButterflies.f_unityRootInverse a), .int (S.O_ToneButterflies.f_lengthInverse a)])) b = wPF cyI { S with O_ToneButterflies := { S.O_ToneButterflies with f_bits := va_up S.O_ToneButterflies.f_bits a v } } b := by by_cases hb : b = a <;> first | (simp only [wPF, va_up_ne _ _ hb]; done) | (simp only [wPF, va_up, if_neg hb]; done) | simp [wPF, va_re, va_up, va_rf, hb, h]
theorem wPu_O_ToneButterflies_f_bits (cyI : ClassId) (X : va_W) (S : wPS) {A : Nat → Prop} {a k : Nat} (hD : va_D A (X ++ va_pl S.L (wPF cyI S))) (hL : a ∈ S.L) (h : S.K a = 0) (hk : (X ++ va_pl S.L (wPF cyI S))[k]? = some (a, wPF cyI S a)) (v : Int32) : (X ++ va_pl S.L (wPF cyI S)).set k (a, .inr (0, [va_rf (S.O_ToneButterflies.f_numbers a), .int (S.O_ToneButterflies.f_length a), .int (S.O_ToneButterflies.f_prime a), .int v, .int (S.O_ToneButterflies.f_unityRoot a), .int (S.O_ToneButterflies.f_unityRootInverse a), .int (S.O_ToneButterflies.f_lengthInverse a)])) = X ++ va_pl S.L (wPF cyI { S with O_ToneButterflies := { S.O_ToneButterflies with f_bits := va_up S.O_ToneButterflies.f_bits a v } }) := by
  rw [va_pl_set hD hL hk]
  exact congrArg (fun l => X ++ l) (va_pl_congr (wSt_O_ToneButterflies_f_bits cyI S h v))
theorem wSt_O_ToneButterflies_f_unityRoot (cyI : ClassId) (S : wPS) {a : Nat} (h : S.K a = 0) (v : Int32) (b : Nat) : va_up (wPF cyI S) a (.inr (0, [va_rf (S.O_ToneButterflies.f_numbers a), .int (S.O_ToneButterflies.f_length a), .int (S.O_ToneButterflies.f_prime a), .int (S.O_ToneButterflies.f_bits a), .int v, .int (S.O_ToneButterflies.f_unityRootInverse a), .int (S.O_ToneButterflies.f_lengthInverse a)])) b = wPF cyI { S with O_ToneButterflies := { S.O_ToneButterflies with f_unityRoot := va_up S.O_ToneButterflies.f_unityRoot a v } } b := by by_cases hb : b = a <;> first | (simp only [wPF, va_up_ne _ _ hb]; done) | (simp only [wPF, va_up, if_neg hb]; done) | simp [wPF, va_re, va_up, va_rf, hb, h]
theorem wPu_O_ToneButterflies_f_unityRoot (cyI : ClassId) (X : va_W) (S : wPS) {A : Nat → Prop} {a k : Nat} (hD : va_D A (X ++ va_pl S.L (wPF cyI S))) (hL : a ∈ S.L) (h : S.K a = 0) (hk : (X ++ va_pl S.L (wPF cyI S))[k]? = some (a, wPF cyI S a)) (v : Int32) : (X ++ va_pl S.L (wPF cyI S)).set k (a, .inr (0, [va_rf (S.O_ToneButterflies.f_numbers a), .int (S.O_ToneButterflies.f_length a), .int (S.O_ToneButterflies.f_prime a), .int (S.O_ToneButterflies.f_bits a), .int v, .int (S.O_ToneButterflies.f_unityRootInverse a), .int (S.O_ToneButterflies.f_lengthInverse a)])) = X ++ va_pl S.L (wPF cyI { S with O_ToneButterflies := { S.O_ToneButterflies with f_unityRoot := va_up S.O_ToneButterflies.f_unityRoot a v } }) := by
  rw [va_pl_set hD hL hk]
  exact congrArg (fun l => X ++ l) (va_pl_congr (wSt_O_ToneButterflies_f_unityRoot cyI S h v))
theorem wSt_O_ToneButterflies_f_unityRootInverse (cyI : ClassId) (S : wPS) {a : Nat} (h : S.K a = 0) (v : Int32) (b : Nat) : va_up (wPF cyI S) a (.inr (0, [va_rf (S.O_ToneButterflies.f_numbers a), .int (S.O_ToneButterflies.f_length a), .int (S.O_ToneButterflies.f_prime a), .int (S.O_ToneButterflies.f_bits a), .int (S.O_ToneButterflies.f_unityRoot a), .int v, .int (S.O_ToneButterflies.f_lengthInverse a)])) b = wPF cyI { S with O_ToneButterflies := { S.O_ToneButterflies with f_unityRootInverse := va_up S.O_ToneButterflies.f_unityRootInverse a v } } b := by by_cases hb : b = a <;> first | (simp only [wPF, va_up_ne _ _ hb]; done) | (simp only [wPF, va_up, if_neg hb]; done) | simp [wPF, va_re, va_up, va_rf, hb, h]
theorem wPu_O_ToneButterflies_f_unityRootInverse (cyI : ClassId) (X : va_W) (S : wPS) {A : Nat → Prop} {a k : Nat} (hD : va_D A (X ++ va_pl S.L (wPF cyI S))) (hL : a ∈ S.L) (h : S.K a = 0) (hk : (X ++ va_pl S.L (wPF cyI S))[k]? = some (a, wPF cyI S a)) (v : Int32) : (X ++ va_pl S.L (wPF cyI S)).set k (a, .inr (0, [va_rf (S.O_ToneButterflies.f_numbers a), .int (S.O_ToneButterflies.f_length a), .int (S.O_ToneButterflies.f_prime a), .int (S.O_ToneButterflies.f_bits a), .int (S.O_ToneButterflies.f_unityRoot a), .int v, .int (S.O_ToneButterflies.f_lengthInverse a)])) = X ++ va_pl S.L (wPF cyI { S with O_ToneButterflies := { S.O_ToneButterflies with f_unityRootInverse := va_up S.O_ToneButterflies.f_unityRootInverse a v } }) := by
  rw [va_pl_set hD hL hk]
  exact congrArg (fun l => X ++ l) (va_pl_congr (wSt_O_ToneButterflies_f_unityRootInverse cyI S h v))
theorem wSt_O_ToneButterflies_f_lengthInverse (cyI : ClassId) (S : wPS) {a : Nat} (h : S.K a = 0) (v : Int32) (b : Nat) : va_up (wPF cyI S) a (.inr (0, [va_rf (S.O_ToneButterflies.f_numbers a), .int (S.O_ToneButterflies.f_length a), .int (S.O_ToneButterflies.f_prime a), .int (S.O_ToneButterflies.f_bits a), .int (S.O_ToneButterflies.f_unityRoot a), .int (S.O_ToneButterflies.f_unityRootInverse a), .int v])) b = wPF cyI { S with O_ToneButterflies := { S.O_ToneButterflies with f_lengthInverse := va_up S.O_ToneButterflies.f_lengthInverse a v } } b := by by_cases hb : b = a <;> first | (simp only [wPF, va_up_ne _ _ hb]; done) | (simp only [wPF, va_up, if_neg hb]; done) | simp [wPF, va_re, va_up, va_rf, hb, h]
theorem wPu_O_ToneButterflies_f_lengthInverse (cyI : ClassId) (X : va_W) (S : wPS) {A : Nat → Prop} {a k : Nat} (hD : va_D A (X ++ va_pl S.L (wPF cyI S))) (hL : a ∈ S.L) (h : S.K a = 0) (hk : (X ++ va_pl S.L (wPF cyI S))[k]? = some (a, wPF cyI S a)) (v : Int32) : (X ++ va_pl S.L (wPF cyI S)).set k (a, .inr (0, [va_rf (S.O_ToneButterflies.f_numbers a), .int (S.O_ToneButterflies.f_length a), .int (S.O_ToneButterflies.f_prime a), .int (S.O_ToneButterflies.f_bits a), .int (S.O_ToneButterflies.f_unityRoot a), .int (S.O_ToneButterflies.f_unityRootInverse a), .int v])) = X ++ va_pl S.L (wPF cyI { S with O_ToneButterflies := { S.O_ToneButterflies with f_lengthInverse := va_up S.O_ToneButterflies.f_lengthInverse a v } }) := by
  rw [va_pl_set hD hL hk]
  exact congrArg (fun l => X ++ l) (va_pl_congr (wSt_O_ToneButterflies_f_lengthInverse cyI S h v))
theorem wNw_O_ToneButterflies (cyI : ClassId) (S : wPS) (a b : Nat) : va_up (wPF cyI S) a (.inr (0, [.null, .int 0, .int 0, .int 0, .int 0, .int 0, .int 0])) b = wPF cyI { S with L := S.L ++ [a], K := va_up S.K a 0, O_ToneButterflies := { f_numbers := va_up S.O_ToneButterflies.f_numbers a none, f_length := va_up S.O_ToneButterflies.f_length a 0, f_prime := va_up S.O_ToneButterflies.f_prime a 0, f_bits := va_up S.O_ToneButterflies.f_bits a 0, f_unityRoot := va_up S.O_ToneButterflies.f_unityRoot a 0, f_unityRootInverse := va_up S.O_ToneButterflies.f_unityRootInverse a 0, f_lengthInverse := va_up S.O_ToneButterflies.f_lengthInverse a 0 } } b := by by_cases hb : b = a <;> first | (simp only [wPF, va_up_ne _ _ hb]; done) | (simp only [wPF, va_up, if_neg hb]; done) | simp [wPF, va_re, va_up, va_rf, hb]
theorem wPn_O_ToneButterflies (cyI : ClassId) (X : va_W) (S : wPS) {a : Nat} (ha : a ∉ S.L) : (X ++ va_pl S.L (wPF cyI S)) ++ [(a, .inr (0, [.null, .int 0, .int 0, .int 0, .int 0, .int 0, .int 0]))] = X ++ va_pl (S.L ++ [a]) (wPF cyI { S with L := S.L ++ [a], K := va_up S.K a 0, O_ToneButterflies := { f_numbers := va_up S.O_ToneButterflies.f_numbers a none, f_length := va_up S.O_ToneButterflies.f_length a 0, f_prime := va_up S.O_ToneButterflies.f_prime a 0, f_bits := va_up S.O_ToneButterflies.f_bits a 0, f_unityRoot := va_up S.O_ToneButterflies.f_unityRoot a 0, f_unityRootInverse := va_up S.O_ToneButterflies.f_unityRootInverse a 0, f_lengthInverse := va_up S.O_ToneButterflies.f_lengthInverse a 0 } }) := by
  rw [List.append_assoc, va_pl_push ha]
  exact congrArg (fun l => X ++ l) (va_pl_congr (wNw_O_ToneButterflies cyI S a))
theorem wAt_O_ToneButterfliesModel (cyI : ClassId) (S : wPS) {a : Nat} (h : S.K a = 1) : wPF cyI S a = .inr (1, [.int (S.O_ToneButterfliesModel.f_thrown a), .int (S.O_ToneButterfliesModel.f_n a), .int (S.O_ToneButterfliesModel.f_p a), .int (S.O_ToneButterfliesModel.f_w a), .int (S.O_ToneButterfliesModel.f_bits a), va_rf (S.O_ToneButterfliesModel.f_rows a), va_rf (S.O_ToneButterfliesModel.f_made a)]) := by simp [wPF, h]
theorem wGt_O_ToneButterfliesModel (cyI : ClassId) (X : va_W) (S : wPS) {a : Nat} (hL : a ∈ S.L) (h : S.K a = 1) : ∃ k : Nat, (X ++ va_pl S.L (wPF cyI S))[k]? = some (a, wPF cyI S a) ∧ (X ++ va_pl S.L (wPF cyI S))[k]? = some (a, .inr (1, [.int (S.O_ToneButterfliesModel.f_thrown a), .int (S.O_ToneButterfliesModel.f_n a), .int (S.O_ToneButterfliesModel.f_p a), .int (S.O_ToneButterfliesModel.f_w a), .int (S.O_ToneButterfliesModel.f_bits a), va_rf (S.O_ToneButterfliesModel.f_rows a), va_rf (S.O_ToneButterfliesModel.f_made a)])) := by
  obtain ⟨k, hk⟩ := va_pl_get (X := X) (f := wPF cyI S) hL
  exact ⟨k, hk, hk.trans (congrArg (fun e => some (a, e)) (wAt_O_ToneButterfliesModel cyI S h))⟩
theorem wSt_O_ToneButterfliesModel_f_thrown (cyI : ClassId) (S : wPS) {a : Nat} (h : S.K a = 1) (v : Int32) (b : Nat) : va_up (wPF cyI S) a (.inr (1, [.int v, .int (S.O_ToneButterfliesModel.f_n a), .int (S.O_ToneButterfliesModel.f_p a), .int (S.O_ToneButterfliesModel.f_w a), .int (S.O_ToneButterfliesModel.f_bits a), va_rf (S.O_ToneButterfliesModel.f_rows a), va_rf (S.O_ToneButterfliesModel.f_made a)])) b = wPF cyI { S with O_ToneButterfliesModel := { S.O_ToneButterfliesModel with f_thrown := va_up S.O_ToneButterfliesModel.f_thrown a v } } b := by by_cases hb : b = a <;> first | (simp only [wPF, va_up_ne _ _ hb]; done) | (simp only [wPF, va_up, if_neg hb]; done) | simp [wPF, va_re, va_up, va_rf, hb, h]
theorem wPu_O_ToneButterfliesModel_f_thrown (cyI : ClassId) (X : va_W) (S : wPS) {A : Nat → Prop} {a k : Nat} (hD : va_D A (X ++ va_pl S.L (wPF cyI S))) (hL : a ∈ S.L) (h : S.K a = 1) (hk : (X ++ va_pl S.L (wPF cyI S))[k]? = some (a, wPF cyI S a)) (v : Int32) : (X ++ va_pl S.L (wPF cyI S)).set k (a, .inr (1, [.int v, .int (S.O_ToneButterfliesModel.f_n a), .int (S.O_ToneButterfliesModel.f_p a), .int (S.O_ToneButterfliesModel.f_w a), .int (S.O_ToneButterfliesModel.f_bits a), va_rf (S.O_ToneButterfliesModel.f_rows a), va_rf (S.O_ToneButterfliesModel.f_made a)])) = X ++ va_pl S.L (wPF cyI { S with O_ToneButterfliesModel := { S.O_ToneButterfliesModel with f_thrown := va_up S.O_ToneButterfliesModel.f_thrown a v } }) := by
  rw [va_pl_set hD hL hk]
  exact congrArg (fun l => X ++ l) (va_pl_congr (wSt_O_ToneButterfliesModel_f_thrown cyI S h v))
theorem wSt_O_ToneButterfliesModel_f_n (cyI : ClassId) (S : wPS) {a : Nat} (h : S.K a = 1) (v : Int32) (b : Nat) : va_up (wPF cyI S) a (.inr (1, [.int (S.O_ToneButterfliesModel.f_thrown a), .int v, .int (S.O_ToneButterfliesModel.f_p a), .int (S.O_ToneButterfliesModel.f_w a), .int (S.O_ToneButterfliesModel.f_bits a), va_rf (S.O_ToneButterfliesModel.f_rows a), va_rf (S.O_ToneButterfliesModel.f_made a)])) b = wPF cyI { S with O_ToneButterfliesModel := { S.O_ToneButterfliesModel with f_n := va_up S.O_ToneButterfliesModel.f_n a v } } b := by by_cases hb : b = a <;> first | (simp only [wPF, va_up_ne _ _ hb]; done) | (simp only [wPF, va_up, if_neg hb]; done) | simp [wPF, va_re, va_up, va_rf, hb, h]
theorem wPu_O_ToneButterfliesModel_f_n (cyI : ClassId) (X : va_W) (S : wPS) {A : Nat → Prop} {a k : Nat} (hD : va_D A (X ++ va_pl S.L (wPF cyI S))) (hL : a ∈ S.L) (h : S.K a = 1) (hk : (X ++ va_pl S.L (wPF cyI S))[k]? = some (a, wPF cyI S a)) (v : Int32) : (X ++ va_pl S.L (wPF cyI S)).set k (a, .inr (1, [.int (S.O_ToneButterfliesModel.f_thrown a), .int v, .int (S.O_ToneButterfliesModel.f_p a), .int (S.O_ToneButterfliesModel.f_w a), .int (S.O_ToneButterfliesModel.f_bits a), va_rf (S.O_ToneButterfliesModel.f_rows a), va_rf (S.O_ToneButterfliesModel.f_made a)])) = X ++ va_pl S.L (wPF cyI { S with O_ToneButterfliesModel := { S.O_ToneButterfliesModel with f_n := va_up S.O_ToneButterfliesModel.f_n a v } }) := by
  rw [va_pl_set hD hL hk]
  exact congrArg (fun l => X ++ l) (va_pl_congr (wSt_O_ToneButterfliesModel_f_n cyI S h v))
theorem wSt_O_ToneButterfliesModel_f_p (cyI : ClassId) (S : wPS) {a : Nat} (h : S.K a = 1) (v : Int32) (b : Nat) : va_up (wPF cyI S) a (.inr (1, [.int (S.O_ToneButterfliesModel.f_thrown a), .int (S.O_ToneButterfliesModel.f_n a), .int v, .int (S.O_ToneButterfliesModel.f_w a), .int (S.O_ToneButterfliesModel.f_bits a), va_rf (S.O_ToneButterfliesModel.f_rows a), va_rf (S.O_ToneButterfliesModel.f_made a)])) b = wPF cyI { S with O_ToneButterfliesModel := { S.O_ToneButterfliesModel with f_p := va_up S.O_ToneButterfliesModel.f_p a v } } b := by by_cases hb : b = a <;> first | (simp only [wPF, va_up_ne _ _ hb]; done) | (simp only [wPF, va_up, if_neg hb]; done) | simp [wPF, va_re, va_up, va_rf, hb, h]
theorem wPu_O_ToneButterfliesModel_f_p (cyI : ClassId) (X : va_W) (S : wPS) {A : Nat → Prop} {a k : Nat} (hD : va_D A (X ++ va_pl S.L (wPF cyI S))) (hL : a ∈ S.L) (h : S.K a = 1) (hk : (X ++ va_pl S.L (wPF cyI S))[k]? = some (a, wPF cyI S a)) (v : Int32) : (X ++ va_pl S.L (wPF cyI S)).set k (a, .inr (1, [.int (S.O_ToneButterfliesModel.f_thrown a), .int (S.O_ToneButterfliesModel.f_n a), .int v, .int (S.O_ToneButterfliesModel.f_w a), .int (S.O_ToneButterfliesModel.f_bits a), va_rf (S.O_ToneButterfliesModel.f_rows a), va_rf (S.O_ToneButterfliesModel.f_made a)])) = X ++ va_pl S.L (wPF cyI { S with O_ToneButterfliesModel := { S.O_ToneButterfliesModel with f_p := va_up S.O_ToneButterfliesModel.f_p a v } }) := by
  rw [va_pl_set hD hL hk]
  exact congrArg (fun l => X ++ l) (va_pl_congr (wSt_O_ToneButterfliesModel_f_p cyI S h v))
theorem wSt_O_ToneButterfliesModel_f_w (cyI : ClassId) (S : wPS) {a : Nat} (h : S.K a = 1) (v : Int32) (b : Nat) : va_up (wPF cyI S) a (.inr (1, [.int (S.O_ToneButterfliesModel.f_thrown a), .int (S.O_ToneButterfliesModel.f_n a), .int (S.O_ToneButterfliesModel.f_p a), .int v, .int (S.O_ToneButterfliesModel.f_bits a), va_rf (S.O_ToneButterfliesModel.f_rows a), va_rf (S.O_ToneButterfliesModel.f_made a)])) b = wPF cyI { S with O_ToneButterfliesModel := { S.O_ToneButterfliesModel with f_w := va_up S.O_ToneButterfliesModel.f_w a v } } b := by by_cases hb : b = a <;> first | (simp only [wPF, va_up_ne _ _ hb]; done) | (simp only [wPF, va_up, if_neg hb]; done) | simp [wPF, va_re, va_up, va_rf, hb, h]
theorem wPu_O_ToneButterfliesModel_f_w (cyI : ClassId) (X : va_W) (S : wPS) {A : Nat → Prop} {a k : Nat} (hD : va_D A (X ++ va_pl S.L (wPF cyI S))) (hL : a ∈ S.L) (h : S.K a = 1) (hk : (X ++ va_pl S.L (wPF cyI S))[k]? = some (a, wPF cyI S a)) (v : Int32) : (X ++ va_pl S.L (wPF cyI S)).set k (a, .inr (1, [.int (S.O_ToneButterfliesModel.f_thrown a), .int (S.O_ToneButterfliesModel.f_n a), .int (S.O_ToneButterfliesModel.f_p a), .int v, .int (S.O_ToneButterfliesModel.f_bits a), va_rf (S.O_ToneButterfliesModel.f_rows a), va_rf (S.O_ToneButterfliesModel.f_made a)])) = X ++ va_pl S.L (wPF cyI { S with O_ToneButterfliesModel := { S.O_ToneButterfliesModel with f_w := va_up S.O_ToneButterfliesModel.f_w a v } }) := by
  rw [va_pl_set hD hL hk]
  exact congrArg (fun l => X ++ l) (va_pl_congr (wSt_O_ToneButterfliesModel_f_w cyI S h v))
theorem wSt_O_ToneButterfliesModel_f_bits (cyI : ClassId) (S : wPS) {a : Nat} (h : S.K a = 1) (v : Int32) (b : Nat) : va_up (wPF cyI S) a (.inr (1, [.int (S.O_ToneButterfliesModel.f_thrown a), .int (S.O_ToneButterfliesModel.f_n a), .int (S.O_ToneButterfliesModel.f_p a), .int (S.O_ToneButterfliesModel.f_w a), .int v, va_rf (S.O_ToneButterfliesModel.f_rows a), va_rf (S.O_ToneButterfliesModel.f_made a)])) b = wPF cyI { S with O_ToneButterfliesModel := { S.O_ToneButterfliesModel with f_bits := va_up S.O_ToneButterfliesModel.f_bits a v } } b := by by_cases hb : b = a <;> first | (simp only [wPF, va_up_ne _ _ hb]; done) | (simp only [wPF, va_up, if_neg hb]; done) | simp [wPF, va_re, va_up, va_rf, hb, h]
theorem wPu_O_ToneButterfliesModel_f_bits (cyI : ClassId) (X : va_W) (S : wPS) {A : Nat → Prop} {a k : Nat} (hD : va_D A (X ++ va_pl S.L (wPF cyI S))) (hL : a ∈ S.L) (h : S.K a = 1) (hk : (X ++ va_pl S.L (wPF cyI S))[k]? = some (a, wPF cyI S a)) (v : Int32) : (X ++ va_pl S.L (wPF cyI S)).set k (a, .inr (1, [.int (S.O_ToneButterfliesModel.f_thrown a), .int (S.O_ToneButterfliesModel.f_n a), .int (S.O_ToneButterfliesModel.f_p a), .int (S.O_ToneButterfliesModel.f_w a), .int v, va_rf (S.O_ToneButterfliesModel.f_rows a), va_rf (S.O_ToneButterfliesModel.f_made a)])) = X ++ va_pl S.L (wPF cyI { S with O_ToneButterfliesModel := { S.O_ToneButterfliesModel with f_bits := va_up S.O_ToneButterfliesModel.f_bits a v } }) := by
  rw [va_pl_set hD hL hk]
  exact congrArg (fun l => X ++ l) (va_pl_congr (wSt_O_ToneButterfliesModel_f_bits cyI S h v))
theorem wSt_O_ToneButterfliesModel_f_rows (cyI : ClassId) (S : wPS) {a : Nat} (h : S.K a = 1) (v : Option Nat) (b : Nat) : va_up (wPF cyI S) a (.inr (1, [.int (S.O_ToneButterfliesModel.f_thrown a), .int (S.O_ToneButterfliesModel.f_n a), .int (S.O_ToneButterfliesModel.f_p a), .int (S.O_ToneButterfliesModel.f_w a), .int (S.O_ToneButterfliesModel.f_bits a), va_rf v, va_rf (S.O_ToneButterfliesModel.f_made a)])) b = wPF cyI { S with O_ToneButterfliesModel := { S.O_ToneButterfliesModel with f_rows := va_up S.O_ToneButterfliesModel.f_rows a v } } b := by by_cases hb : b = a <;> first | (simp only [wPF, va_up_ne _ _ hb]; done) | (simp only [wPF, va_up, if_neg hb]; done) | simp [wPF, va_re, va_up, va_rf, hb, h]
theorem wPu_O_ToneButterfliesModel_f_rows (cyI : ClassId) (X : va_W) (S : wPS) {A : Nat → Prop} {a k : Nat} (hD : va_D A (X ++ va_pl S.L (wPF cyI S))) (hL : a ∈ S.L) (h : S.K a = 1) (hk : (X ++ va_pl S.L (wPF cyI S))[k]? = some (a, wPF cyI S a)) (v : Option Nat) : (X ++ va_pl S.L (wPF cyI S)).set k (a, .inr (1, [.int (S.O_ToneButterfliesModel.f_thrown a), .int (S.O_ToneButterfliesModel.f_n a), .int (S.O_ToneButterfliesModel.f_p a), .int (S.O_ToneButterfliesModel.f_w a), .int (S.O_ToneButterfliesModel.f_bits a), va_rf v, va_rf (S.O_ToneButterfliesModel.f_made a)])) = X ++ va_pl S.L (wPF cyI { S with O_ToneButterfliesModel := { S.O_ToneButterfliesModel with f_rows := va_up S.O_ToneButterfliesModel.f_rows a v } }) := by
  rw [va_pl_set hD hL hk]
  exact congrArg (fun l => X ++ l) (va_pl_congr (wSt_O_ToneButterfliesModel_f_rows cyI S h v))
theorem wSt_O_ToneButterfliesModel_f_made (cyI : ClassId) (S : wPS) {a : Nat} (h : S.K a = 1) (v : Option Nat) (b : Nat) : va_up (wPF cyI S) a (.inr (1, [.int (S.O_ToneButterfliesModel.f_thrown a), .int (S.O_ToneButterfliesModel.f_n a), .int (S.O_ToneButterfliesModel.f_p a), .int (S.O_ToneButterfliesModel.f_w a), .int (S.O_ToneButterfliesModel.f_bits a), va_rf (S.O_ToneButterfliesModel.f_rows a), va_rf v])) b = wPF cyI { S with O_ToneButterfliesModel := { S.O_ToneButterfliesModel with f_made := va_up S.O_ToneButterfliesModel.f_made a v } } b := by by_cases hb : b = a <;> first | (simp only [wPF, va_up_ne _ _ hb]; done) | (simp only [wPF, va_up, if_neg hb]; done) | simp [wPF, va_re, va_up, va_rf, hb, h]
theorem wPu_O_ToneButterfliesModel_f_made (cyI : ClassId) (X : va_W) (S : wPS) {A : Nat → Prop} {a k : Nat} (hD : va_D A (X ++ va_pl S.L (wPF cyI S))) (hL : a ∈ S.L) (h : S.K a = 1) (hk : (X ++ va_pl S.L (wPF cyI S))[k]? = some (a, wPF cyI S a)) (v : Option Nat) : (X ++ va_pl S.L (wPF cyI S)).set k (a, .inr (1, [.int (S.O_ToneButterfliesModel.f_thrown a), .int (S.O_ToneButterfliesModel.f_n a), .int (S.O_ToneButterfliesModel.f_p a), .int (S.O_ToneButterfliesModel.f_w a), .int (S.O_ToneButterfliesModel.f_bits a), va_rf (S.O_ToneButterfliesModel.f_rows a), va_rf v])) = X ++ va_pl S.L (wPF cyI { S with O_ToneButterfliesModel := { S.O_ToneButterfliesModel with f_made := va_up S.O_ToneButterfliesModel.f_made a v } }) := by
  rw [va_pl_set hD hL hk]
  exact congrArg (fun l => X ++ l) (va_pl_congr (wSt_O_ToneButterfliesModel_f_made cyI S h v))
theorem wNw_O_ToneButterfliesModel (cyI : ClassId) (S : wPS) (a b : Nat) : va_up (wPF cyI S) a (.inr (1, [.int 0, .int 0, .int 0, .int 0, .int 0, .null, .null])) b = wPF cyI { S with L := S.L ++ [a], K := va_up S.K a 1, O_ToneButterfliesModel := { f_thrown := va_up S.O_ToneButterfliesModel.f_thrown a 0, f_n := va_up S.O_ToneButterfliesModel.f_n a 0, f_p := va_up S.O_ToneButterfliesModel.f_p a 0, f_w := va_up S.O_ToneButterfliesModel.f_w a 0, f_bits := va_up S.O_ToneButterfliesModel.f_bits a 0, f_rows := va_up S.O_ToneButterfliesModel.f_rows a none, f_made := va_up S.O_ToneButterfliesModel.f_made a none } } b := by by_cases hb : b = a <;> first | (simp only [wPF, va_up_ne _ _ hb]; done) | (simp only [wPF, va_up, if_neg hb]; done) | simp [wPF, va_re, va_up, va_rf, hb]
theorem wPn_O_ToneButterfliesModel (cyI : ClassId) (X : va_W) (S : wPS) {a : Nat} (ha : a ∉ S.L) : (X ++ va_pl S.L (wPF cyI S)) ++ [(a, .inr (1, [.int 0, .int 0, .int 0, .int 0, .int 0, .null, .null]))] = X ++ va_pl (S.L ++ [a]) (wPF cyI { S with L := S.L ++ [a], K := va_up S.K a 1, O_ToneButterfliesModel := { f_thrown := va_up S.O_ToneButterfliesModel.f_thrown a 0, f_n := va_up S.O_ToneButterfliesModel.f_n a 0, f_p := va_up S.O_ToneButterfliesModel.f_p a 0, f_w := va_up S.O_ToneButterfliesModel.f_w a 0, f_bits := va_up S.O_ToneButterfliesModel.f_bits a 0, f_rows := va_up S.O_ToneButterfliesModel.f_rows a none, f_made := va_up S.O_ToneButterfliesModel.f_made a none } }) := by
  rw [List.append_assoc, va_pl_push ha]
  exact congrArg (fun l => X ++ l) (va_pl_congr (wNw_O_ToneButterfliesModel cyI S a))
theorem wAt_R_I (cyI : ClassId) (S : wPS) {a : Nat} (h : S.K a = 2) : wPF cyI S a = .inl (cyI, S.R_I.len a, .inl (S.R_I.row a)) := by simp [wPF, h]
theorem wGt_R_I (cyI : ClassId) (X : va_W) (S : wPS) {a : Nat} (hL : a ∈ S.L) (h : S.K a = 2) : ∃ k : Nat, (X ++ va_pl S.L (wPF cyI S))[k]? = some (a, wPF cyI S a) ∧ (X ++ va_pl S.L (wPF cyI S))[k]? = some (a, .inl (cyI, S.R_I.len a, .inl (S.R_I.row a))) := by
  obtain ⟨k, hk⟩ := va_pl_get (X := X) (f := wPF cyI S) hL
  exact ⟨k, hk, hk.trans (congrArg (fun e => some (a, e)) (wAt_R_I cyI S h))⟩
theorem wSt_R_I_row (cyI : ClassId) (S : wPS) {a : Nat} (h : S.K a = 2) (v : Nat → Int32) (b : Nat) : va_up (wPF cyI S) a (.inl (cyI, S.R_I.len a, .inl v)) b = wPF cyI { S with R_I := { S.R_I with row := va_up S.R_I.row a v } } b := by by_cases hb : b = a <;> first | (simp only [wPF, va_up_ne _ _ hb]; done) | (simp only [wPF, va_up, if_neg hb]; done) | simp [wPF, va_re, va_up, va_rf, hb, h]
theorem wPu_R_I_row (cyI : ClassId) (X : va_W) (S : wPS) {A : Nat → Prop} {a k : Nat} (hD : va_D A (X ++ va_pl S.L (wPF cyI S))) (hL : a ∈ S.L) (h : S.K a = 2) (hk : (X ++ va_pl S.L (wPF cyI S))[k]? = some (a, wPF cyI S a)) (v : Nat → Int32) : (X ++ va_pl S.L (wPF cyI S)).set k (a, .inl (cyI, S.R_I.len a, .inl v)) = X ++ va_pl S.L (wPF cyI { S with R_I := { S.R_I with row := va_up S.R_I.row a v } }) := by
  rw [va_pl_set hD hL hk]
  exact congrArg (fun l => X ++ l) (va_pl_congr (wSt_R_I_row cyI S h v))
theorem wNw_R_I (cyI : ClassId) (S : wPS) (a : Nat) (z : Nat) (f : Nat → Int32) (b : Nat) : va_up (wPF cyI S) a (.inl (cyI, z, .inl f)) b = wPF cyI { S with L := S.L ++ [a], K := va_up S.K a 2, R_I := { len := va_up S.R_I.len a z, row := va_up S.R_I.row a f } } b := by by_cases hb : b = a <;> first | (simp only [wPF, va_up_ne _ _ hb]; done) | (simp only [wPF, va_up, if_neg hb]; done) | simp [wPF, va_re, va_up, va_rf, hb]
/-! ===== END printed: names ===== -/
