section
-- ===== PART A: goes FIRST, ahead of the names: the tables' words, and 'selects' of the private methods out of them =====
/-- a private method of a class that the tables say can be made, by its rows of tables_1 -/
def lw_okq (q : MethodName × Nat) : Prop := (q.1.cls ≠ "java/lang/invoke/MethodHandle" ∧ q.1.cls ≠ "java/lang/invoke/VarHandle") ∧ Cond.instantiable q.1.cls q.2 ∈ tables_1 ∧ Cond.privateMethod q.1 ∈ tables_1 ∧ Cond.instanceMethod q.1 ∈ tables_1
theorem lw_p0 : lw_okq (⟨"ToneButterflies", "takeRing", "(II)V"⟩, 7) := ⟨⟨by decide +kernel, by decide +kernel⟩, List.mem_of_getElem? (i := 10) (by decide +kernel), List.mem_of_getElem? (i := 18) (by decide +kernel), List.mem_of_getElem? (i := 19) (by decide +kernel)⟩
theorem lw_p1 : lw_okq (⟨"ToneButterflies", "smallestRoot", "()I"⟩, 7) := ⟨⟨by decide +kernel, by decide +kernel⟩, List.mem_of_getElem? (i := 10) (by decide +kernel), List.mem_of_getElem? (i := 22) (by decide +kernel), List.mem_of_getElem? (i := 23) (by decide +kernel)⟩
theorem lw_p2 : lw_okq (⟨"ToneButterflies", "powerOf", "(II)I"⟩, 7) := ⟨⟨by decide +kernel, by decide +kernel⟩, List.mem_of_getElem? (i := 10) (by decide +kernel), List.mem_of_getElem? (i := 26) (by decide +kernel), List.mem_of_getElem? (i := 27) (by decide +kernel)⟩
theorem lw_p3 : lw_okq (⟨"ToneButterflies", "reduced", "(I)I"⟩, 7) := ⟨⟨by decide +kernel, by decide +kernel⟩, List.mem_of_getElem? (i := 10) (by decide +kernel), List.mem_of_getElem? (i := 30) (by decide +kernel), List.mem_of_getElem? (i := 31) (by decide +kernel)⟩
theorem lw_p4 : lw_okq (⟨"ToneButterflies", "inverseOf", "(I)I"⟩, 7) := ⟨⟨by decide +kernel, by decide +kernel⟩, List.mem_of_getElem? (i := 10) (by decide +kernel), List.mem_of_getElem? (i := 37) (by decide +kernel), List.mem_of_getElem? (i := 38) (by decide +kernel)⟩
theorem lw_p5 : lw_okq (⟨"ToneButterflies", "requireInvertible", "(I)V"⟩, 7) := ⟨⟨by decide +kernel, by decide +kernel⟩, List.mem_of_getElem? (i := 10) (by decide +kernel), List.mem_of_getElem? (i := 68) (by decide +kernel), List.mem_of_getElem? (i := 69) (by decide +kernel)⟩
theorem lw_p6 : lw_okq (⟨"java/lang/Throwable", "fillInStackTrace", "(I)Ljava/lang/Throwable;"⟩, 6) := ⟨⟨by decide +kernel, by decide +kernel⟩, List.mem_of_getElem? (i := 109) (by decide +kernel), List.mem_of_getElem? (i := 107) (by decide +kernel), List.mem_of_getElem? (i := 108) (by decide +kernel)⟩
theorem lw_p7 : lw_okq (⟨"ToneButterflies", "requireRow", "(I)V"⟩, 7) := ⟨⟨by decide +kernel, by decide +kernel⟩, List.mem_of_getElem? (i := 10) (by decide +kernel), List.mem_of_getElem? (i := 152) (by decide +kernel), List.mem_of_getElem? (i := 153) (by decide +kernel)⟩
theorem lw_p8 : lw_okq (⟨"ToneButterflies", "copyRow", "(II)I"⟩, 7) := ⟨⟨by decide +kernel, by decide +kernel⟩, List.mem_of_getElem? (i := 10) (by decide +kernel), List.mem_of_getElem? (i := 172) (by decide +kernel), List.mem_of_getElem? (i := 173) (by decide +kernel)⟩
theorem lw_p9 : lw_okq (⟨"ToneButterflies", "read", "(II)I"⟩, 7) := ⟨⟨by decide +kernel, by decide +kernel⟩, List.mem_of_getElem? (i := 10) (by decide +kernel), List.mem_of_getElem? (i := 176) (by decide +kernel), List.mem_of_getElem? (i := 177) (by decide +kernel)⟩
theorem lw_p10 : lw_okq (⟨"ToneButterflies", "write", "(III)V"⟩, 7) := ⟨⟨by decide +kernel, by decide +kernel⟩, List.mem_of_getElem? (i := 10) (by decide +kernel), List.mem_of_getElem? (i := 180) (by decide +kernel), List.mem_of_getElem? (i := 181) (by decide +kernel)⟩
theorem lw_p11 : lw_okq (⟨"ToneButterflies", "scratchTurnedBack", "(I)V"⟩, 7) := ⟨⟨by decide +kernel, by decide +kernel⟩, List.mem_of_getElem? (i := 10) (by decide +kernel), List.mem_of_getElem? (i := 188) (by decide +kernel), List.mem_of_getElem? (i := 189) (by decide +kernel)⟩
theorem lw_p12 : lw_okq (⟨"ToneButterflies", "scratchValues", "(III)V"⟩, 7) := ⟨⟨by decide +kernel, by decide +kernel⟩, List.mem_of_getElem? (i := 10) (by decide +kernel), List.mem_of_getElem? (i := 192) (by decide +kernel), List.mem_of_getElem? (i := 193) (by decide +kernel)⟩
theorem lw_p13 : lw_okq (⟨"ToneButterflies", "valueAt", "(II)I"⟩, 7) := ⟨⟨by decide +kernel, by decide +kernel⟩, List.mem_of_getElem? (i := 10) (by decide +kernel), List.mem_of_getElem? (i := 196) (by decide +kernel), List.mem_of_getElem? (i := 197) (by decide +kernel)⟩
theorem lw_p14 : lw_okq (⟨"ToneButterflies", "scratchTones", "(I)V"⟩, 7) := ⟨⟨by decide +kernel, by decide +kernel⟩, List.mem_of_getElem? (i := 10) (by decide +kernel), List.mem_of_getElem? (i := 200) (by decide +kernel), List.mem_of_getElem? (i := 201) (by decide +kernel)⟩
theorem lw_p15 : lw_okq (⟨"ToneButterflies", "mirrored", "(I)I"⟩, 7) := ⟨⟨by decide +kernel, by decide +kernel⟩, List.mem_of_getElem? (i := 10) (by decide +kernel), List.mem_of_getElem? (i := 208) (by decide +kernel), List.mem_of_getElem? (i := 209) (by decide +kernel)⟩
def lw_privs_1 : List (MethodName × Nat) := [(⟨"ToneButterflies", "takeRing", "(II)V"⟩, 7), (⟨"ToneButterflies", "smallestRoot", "()I"⟩, 7), (⟨"ToneButterflies", "powerOf", "(II)I"⟩, 7), (⟨"ToneButterflies", "reduced", "(I)I"⟩, 7), (⟨"ToneButterflies", "inverseOf", "(I)I"⟩, 7), (⟨"ToneButterflies", "requireInvertible", "(I)V"⟩, 7), (⟨"java/lang/Throwable", "fillInStackTrace", "(I)Ljava/lang/Throwable;"⟩, 6), (⟨"ToneButterflies", "requireRow", "(I)V"⟩, 7), (⟨"ToneButterflies", "copyRow", "(II)I"⟩, 7), (⟨"ToneButterflies", "read", "(II)I"⟩, 7), (⟨"ToneButterflies", "write", "(III)V"⟩, 7), (⟨"ToneButterflies", "scratchTurnedBack", "(I)V"⟩, 7), (⟨"ToneButterflies", "scratchValues", "(III)V"⟩, 7), (⟨"ToneButterflies", "valueAt", "(II)I"⟩, 7), (⟨"ToneButterflies", "scratchTones", "(I)V"⟩, 7), (⟨"ToneButterflies", "mirrored", "(I)I"⟩, 7)]
theorem lw_r1 : ∀ q ∈ lw_privs_1, lw_okq q := List.forall_mem_cons.mpr ⟨lw_p0, List.forall_mem_cons.mpr ⟨lw_p1, List.forall_mem_cons.mpr ⟨lw_p2, List.forall_mem_cons.mpr ⟨lw_p3, List.forall_mem_cons.mpr ⟨lw_p4, List.forall_mem_cons.mpr ⟨lw_p5, List.forall_mem_cons.mpr ⟨lw_p6, List.forall_mem_cons.mpr ⟨lw_p7, List.forall_mem_cons.mpr ⟨lw_p8, List.forall_mem_cons.mpr ⟨lw_p9, List.forall_mem_cons.mpr ⟨lw_p10, List.forall_mem_cons.mpr ⟨lw_p11, List.forall_mem_cons.mpr ⟨lw_p12, List.forall_mem_cons.mpr ⟨lw_p13, List.forall_mem_cons.mpr ⟨lw_p14, List.forall_mem_cons.mpr ⟨lw_p15, fun _ h => absurd h List.not_mem_nil⟩⟩⟩⟩⟩⟩⟩⟩⟩⟩⟩⟩⟩⟩⟩⟩
theorem lw_p16 : lw_okq (⟨"ToneButterflies", "wrapped", "(I)I"⟩, 7) := ⟨⟨by decide +kernel, by decide +kernel⟩, List.mem_of_getElem? (i := 10) (by decide +kernel), List.mem_of_getElem? (i := 217) (by decide +kernel), List.mem_of_getElem? (i := 218) (by decide +kernel)⟩
theorem lw_p17 : lw_okq (⟨"ToneButterflies", "requirePlace", "(I)V"⟩, 7) := ⟨⟨by decide +kernel, by decide +kernel⟩, List.mem_of_getElem? (i := 10) (by decide +kernel), List.mem_of_getElem? (i := 225) (by decide +kernel), List.mem_of_getElem? (i := 226) (by decide +kernel)⟩
theorem lw_p18 : lw_okq (⟨"ToneButterflies", "requireNumber", "(I)V"⟩, 7) := ⟨⟨by decide +kernel, by decide +kernel⟩, List.mem_of_getElem? (i := 10) (by decide +kernel), List.mem_of_getElem? (i := 234) (by decide +kernel), List.mem_of_getElem? (i := 235) (by decide +kernel)⟩
theorem lw_p19 : lw_okq (⟨"ToneButterflies", "told", "(II)I"⟩, 7) := ⟨⟨by decide +kernel, by decide +kernel⟩, List.mem_of_getElem? (i := 10) (by decide +kernel), List.mem_of_getElem? (i := 244) (by decide +kernel), List.mem_of_getElem? (i := 245) (by decide +kernel)⟩
theorem lw_p20 : lw_okq (⟨"ToneButterflies", "plainSum", "(I)I"⟩, 7) := ⟨⟨by decide +kernel, by decide +kernel⟩, List.mem_of_getElem? (i := 10) (by decide +kernel), List.mem_of_getElem? (i := 248) (by decide +kernel), List.mem_of_getElem? (i := 249) (by decide +kernel)⟩
theorem lw_p21 : lw_okq (⟨"ToneButterflies", "nonZeros", "(I)I"⟩, 7) := ⟨⟨by decide +kernel, by decide +kernel⟩, List.mem_of_getElem? (i := 10) (by decide +kernel), List.mem_of_getElem? (i := 252) (by decide +kernel), List.mem_of_getElem? (i := 253) (by decide +kernel)⟩
theorem lw_p22 : lw_okq (⟨"ToneButterflies", "lastNonZero", "(I)I"⟩, 7) := ⟨⟨by decide +kernel, by decide +kernel⟩, List.mem_of_getElem? (i := 10) (by decide +kernel), List.mem_of_getElem? (i := 256) (by decide +kernel), List.mem_of_getElem? (i := 257) (by decide +kernel)⟩
theorem lw_p23 : lw_okq (⟨"ToneButterflies", "period", "(I)I"⟩, 7) := ⟨⟨by decide +kernel, by decide +kernel⟩, List.mem_of_getElem? (i := 10) (by decide +kernel), List.mem_of_getElem? (i := 260) (by decide +kernel), List.mem_of_getElem? (i := 261) (by decide +kernel)⟩
theorem lw_p24 : lw_okq (⟨"ToneButterflies", "isWhenMoved", "(III)Z"⟩, 7) := ⟨⟨by decide +kernel, by decide +kernel⟩, List.mem_of_getElem? (i := 10) (by decide +kernel), List.mem_of_getElem? (i := 264) (by decide +kernel), List.mem_of_getElem? (i := 265) (by decide +kernel)⟩
theorem lw_p25 : lw_okq (⟨"ToneButterflies", "greatestNumber", "(I)I"⟩, 7) := ⟨⟨by decide +kernel, by decide +kernel⟩, List.mem_of_getElem? (i := 10) (by decide +kernel), List.mem_of_getElem? (i := 268) (by decide +kernel), List.mem_of_getElem? (i := 269) (by decide +kernel)⟩
theorem lw_p26 : lw_okq (⟨"ToneButterflies", "counted", "(I)I"⟩, 7) := ⟨⟨by decide +kernel, by decide +kernel⟩, List.mem_of_getElem? (i := 10) (by decide +kernel), List.mem_of_getElem? (i := 280) (by decide +kernel), List.mem_of_getElem? (i := 281) (by decide +kernel)⟩
theorem lw_p27 : lw_okq (⟨"ToneButterflies", "foldedAt", "(III)I"⟩, 7) := ⟨⟨by decide +kernel, by decide +kernel⟩, List.mem_of_getElem? (i := 10) (by decide +kernel), List.mem_of_getElem? (i := 288) (by decide +kernel), List.mem_of_getElem? (i := 289) (by decide +kernel)⟩
theorem lw_p28 : lw_okq (⟨"ToneButterflies", "digestRow", "(JI)J"⟩, 7) := ⟨⟨by decide +kernel, by decide +kernel⟩, List.mem_of_getElem? (i := 10) (by decide +kernel), List.mem_of_getElem? (i := 306) (by decide +kernel), List.mem_of_getElem? (i := 307) (by decide +kernel)⟩
theorem lw_p29 : lw_okq (⟨"ToneButterflies", "butterfly", "(IIII)V"⟩, 7) := ⟨⟨by decide +kernel, by decide +kernel⟩, List.mem_of_getElem? (i := 10) (by decide +kernel), List.mem_of_getElem? (i := 411) (by decide +kernel), List.mem_of_getElem? (i := 412) (by decide +kernel)⟩
theorem lw_p30 : lw_okq (⟨"ToneButterflies", "joined", "(III)I"⟩, 7) := ⟨⟨by decide +kernel, by decide +kernel⟩, List.mem_of_getElem? (i := 10) (by decide +kernel), List.mem_of_getElem? (i := 428) (by decide +kernel), List.mem_of_getElem? (i := 429) (by decide +kernel)⟩
def lw_privs_2 : List (MethodName × Nat) := [(⟨"ToneButterflies", "wrapped", "(I)I"⟩, 7), (⟨"ToneButterflies", "requirePlace", "(I)V"⟩, 7), (⟨"ToneButterflies", "requireNumber", "(I)V"⟩, 7), (⟨"ToneButterflies", "told", "(II)I"⟩, 7), (⟨"ToneButterflies", "plainSum", "(I)I"⟩, 7), (⟨"ToneButterflies", "nonZeros", "(I)I"⟩, 7), (⟨"ToneButterflies", "lastNonZero", "(I)I"⟩, 7), (⟨"ToneButterflies", "period", "(I)I"⟩, 7), (⟨"ToneButterflies", "isWhenMoved", "(III)Z"⟩, 7), (⟨"ToneButterflies", "greatestNumber", "(I)I"⟩, 7), (⟨"ToneButterflies", "counted", "(I)I"⟩, 7), (⟨"ToneButterflies", "foldedAt", "(III)I"⟩, 7), (⟨"ToneButterflies", "digestRow", "(JI)J"⟩, 7), (⟨"ToneButterflies", "butterfly", "(IIII)V"⟩, 7), (⟨"ToneButterflies", "joined", "(III)I"⟩, 7)]
theorem lw_r2 : ∀ q ∈ lw_privs_2, lw_okq q := List.forall_mem_cons.mpr ⟨lw_p16, List.forall_mem_cons.mpr ⟨lw_p17, List.forall_mem_cons.mpr ⟨lw_p18, List.forall_mem_cons.mpr ⟨lw_p19, List.forall_mem_cons.mpr ⟨lw_p20, List.forall_mem_cons.mpr ⟨lw_p21, List.forall_mem_cons.mpr ⟨lw_p22, List.forall_mem_cons.mpr ⟨lw_p23, List.forall_mem_cons.mpr ⟨lw_p24, List.forall_mem_cons.mpr ⟨lw_p25, List.forall_mem_cons.mpr ⟨lw_p26, List.forall_mem_cons.mpr ⟨lw_p27, List.forall_mem_cons.mpr ⟨lw_p28, List.forall_mem_cons.mpr ⟨lw_p29, List.forall_mem_cons.mpr ⟨lw_p30, fun _ h => absurd h List.not_mem_nil⟩⟩⟩⟩⟩⟩⟩⟩⟩⟩⟩⟩⟩⟩⟩
def lw_privs : List (MethodName × Nat) := lw_privs_1 ++ (lw_privs_2)
def lw_tbl : List Cond := k2_sels lw_privs ++ tables_1
theorem lw_privs_ok : ∀ q ∈ lw_privs, lw_okq q := by
  show ∀ q ∈ lw_privs_1 ++ (lw_privs_2), lw_okq q
  exact List.forall_mem_append.mpr ⟨lw_r1, lw_r2⟩
/-- the streams that the claim lets the run draw from -/
abbrev lw_cs : List Choice := [Jvm.Choice.named "NaN.bits"]
theorem lw_bits : nanBits ∈ lw_cs := by first | decide | exact List.mem_cons_self | simp [lw_cs, nanBits]
end
section
/-! ===== the printed names speak of va_AOA and don't define it: the word of the tables on arrays of arrays, kept ===== -/
def va_AOA (ty : FieldType) (U : State) : Prop := (Cond.arrayOver (.array ty)).before #[] U = true
theorem va_AOA.use {ty : FieldType} {args : Array Value} {U : State} (h : va_AOA ty U) : (Cond.arrayOver (.array ty)).before args U = true := over_moved (Vm.Alike.refl U.vm) h
theorem va_AOA.of {ty : FieldType} {args : Array Value} {U : State} (h : (Cond.arrayOver (.array ty)).before args U = true) : va_AOA ty U := over_moved (Vm.Alike.refl U.vm) h
theorem va_AOA.moved {ty : FieldType} {u U : State} (hvm : u.vm.Alike U.vm) (h : va_AOA ty u) : va_AOA ty U := over_moved hvm h
end
section
/-! ===== BEGIN words of one list among another's, by their places ===== -/
theorem goodIn_r {big : List Cond} (ws : List Cond) (ps : List Nat) (hp : ws = ps.filterMap (fun i => big[i]?)) (h : ws.all goodWord = true) : GoodIn big ws := by
  intro w hw
  have h1 := List.all_eq_true.mp h w hw
  rw [hp] at hw
  obtain ⟨i, -, hi⟩ := List.mem_filterMap.mp hw
  have hm : w ∈ big := by first | exact List.mem_of_getElem? hi | exact List.getElem?_mem hi
  exact ⟨hm, good_of_word h1⟩
theorem goodIn_app {big a b : List Cond} (ha : GoodIn big a) (hb : GoodIn big b) : GoodIn big (a ++ b) := fun w h => (List.mem_append.mp h).elim (ha w) (hb w)
theorem goodIn_ca {big a b : List Cond} {c : Cond} (ha : GoodIn big (c :: a)) (hb : GoodIn big b) : GoodIn big (c :: (a ++ b)) := fun w h => (List.mem_cons.mp h).elim (fun e => ha w (List.mem_cons.mpr (Or.inl e))) (fun h => (List.mem_append.mp h).elim (fun h => ha w (List.mem_cons.mpr (Or.inr h))) (hb w))
theorem goodIn_sub {big ws : List Cond} (hm : ∀ w ∈ ws, w ∈ big) (h : ws.all goodWord = true) : GoodIn big ws := fun w hw => ⟨hm w hw, good_of_word (List.all_eq_true.mp h w hw)⟩
/-! ===== END ===== -/

/-! ===== BEGIN new T[n][m]: the outer array a place, the inner ones among the pooled ===== -/
/-- f, but v at every address of l -/
def vr_up {α : Type} (f : Nat → α) (l : List Nat) (v : α) : Nat → α := fun a => if a ∈ l then v else f a
theorem vr_up_in {α : Type} {f : Nat → α} {l : List Nat} {v : α} {a : Nat} (h : a ∈ l) : vr_up f l v a = v := if_pos h
theorem vr_up_ne {α : Type} {f : Nat → α} {l : List Nat} {v : α} {a : Nat} (h : a ∉ l) : vr_up f l v a = f a := if_neg h
theorem vr_rows {L l : List Nat} {f : Nat → va_E} {e : va_E} (h : ∀ a, a ∈ l → a ∉ L) : va_pl L f ++ l.map (fun a => (a, e)) = va_pl (L ++ l) (vr_up f l e) := by
  unfold va_pl
  rw [List.map_append]
  congr 1
  · apply List.map_congr_left
    intro a ha
    rw [vr_up_ne (fun q => h a q ha)]
  · apply List.map_congr_left
    intro a ha
    rw [vr_up_in ha]
theorem vr_lay {X rows : va_W} {x : Nat × va_E} {pl : va_W} {D : va_G} {cl : List vw_C} {H : Heap} (hP : va_P D cl (((X ++ pl) ++ [x]) ++ rows) H) : va_P D cl ((X ++ [x]) ++ (pl ++ rows)) H := by
  rw [List.append_assoc (X ++ pl)] at hP
  have h := va_P.swap hP
  rw [← List.append_assoc X] at h
  have h2 := va_P.swap h
  rw [List.append_assoc (X ++ [x])] at h2
  exact h2
theorem vr_layD {X rows : va_W} {x : Nat × va_E} {pl : va_W} {A : Nat → Prop} (hD : va_D A (((X ++ pl) ++ [x]) ++ rows)) : va_D A ((X ++ [x]) ++ (pl ++ rows)) := by
  rw [List.append_assoc (X ++ pl)] at hD
  have h := va_D.swap hD
  rw [← List.append_assoc X] at h
  have h2 := va_D.swap h
  rw [List.append_assoc (X ++ [x])] at h2
  exact h2
theorem vr_outer (c : ClassId) (N h0 : Nat) : ∀ i : Nat, Jvm.Free.Multi.outerC c N h0 i = arrV c N (fun j => va_rf (if j < i then some (h0 + 1 + j) else none))
  | 0 => by
    show ({ cls := c, slots := Array.replicate N .null, vm := .none } : Cell) = _
    rw [arrV_new]
    refine congrArg (arrV c N) (funext fun j => ?_)
    simp [va_rf]
  | i + 1 => by
    show (Jvm.Free.Multi.outerC c N h0 i).setSlot i (.ref (h0 + 1 + i)) = _
    rw [vr_outer c N h0 i, arrV_store]
    refine congrArg (arrV c N) (funext fun j => ?_)
    by_cases e : j = i
    · subst e
      simp [updV, va_rf]
    · by_cases h : j < i
      · simp [updV, e, h, Nat.lt_succ_of_lt h]
      · simp [updV, e, h, show ¬ j < i + 1 by omega]
section VGM
variable {p : Program} {l : Launch} {e : Env} {R : Room} {s : State} {m : MethodId} {args : Array Value} {below : List Frame} {meth : Method} {c : Code} {H : Heap} {locs : List Loc} {cells slots : Nat} {Q : State → Prop}
variable {cc : ByteArray} {pc : Nat} {ls : Array Slot} {rest : List Value} {D : va_G} {cl : List vw_C} {A : Nat → Prop} {a : Nat} {tys : List (ClassId × FieldType)} {ws : va_W} {H0 : Heap}
theorem va_mna {X : va_W} {L : List Nat} {f : Nat → va_E} {cc : ByteArray} (hexec : p.tables.exec = Jvm.exec) (hb : c.code = cc) {own : String} {index : Nat} {ty : FieldType} {cy : ClassId} (hown : s.vm.findClass own = some m.cls) (hclink : (Cond.classLink own index ("[" ++ (FieldType.array ty).toString)).before args s = true) (hover : va_AOA ty s) (harr : (Cond.arrayClass ty).before args s = true) (hcy : s.vm.findClass (FieldType.array ty).toString = some cy)
    (hK : va_K D cl tys s) (hP : va_P D cl (X ++ va_pl L f) H) (hD : va_D A (X ++ va_pl L f)) (hS : va_S A H0 H locs) (hA : ∀ q, H0.size ≤ q → A q) {n k : Int32} {N' K' : Nat} {z : vp_A} (hn : ¬ n < 0) (hk : ¬ k < 0) (hN : n.toNatClampNeg = N') (hM : k.toNatClampNeg = K')
    (hb1 : N' * 4 ≤ 536870912) (hb2 : K' * componentBytes ty ≤ 536870912) (hb3 : K' ≤ 536870912) (hdf : fits ty (defaultValue ty) = true) (hdd : (defaultValue ty).isDefault = true) (hcells : cells + (1 + N') ≤ R.cells) (hslots : slots + (N' + N' * K') ≤ R.slots) (hz : ∀ c : ClassId, Jvm.Free.Multi.innerC c K' (defaultValue ty) = vp_cell c z) (hdg : decode cc pc = .ok (.multianewarray index 2, 4))
    (kk : ∀ (q : Nat) (r : Nat → Nat) (cA : ClassId) (H1 : Heap), (∀ i j : Nat, i < N' → j < N' → r i = r j → i = j) → (∀ i : Nat, i < N' → r i ∉ L) → va_K D cl (tys ++ [(cA, .array ty)]) s →
      va_P D cl ((X ++ [(q, .inl (cA, N', .inr (.inr (.inr (.inr (fun i => if i < N' then some (r i) else none))))))]) ++ va_pl (L ++ (List.range N').map r) (vr_up f ((List.range N').map r) (.inl (cy, z)))) H1 → va_D A ((X ++ [(q, .inl (cA, N', .inr (.inr (.inr (.inr (fun i => if i < N' then some (r i) else none))))))]) ++ va_pl (L ++ (List.range N').map r) (vr_up f ((List.range N').map r) (.inl (cy, z)))) → va_S A H0 H1 locs →
      W p l e R s m args below meth c H1 locs (cells + 1 + N') (slots + N' + N' * K') Q (F0 m (pc + 4) ls (.ref q :: rest))) : W p l e R s m args below meth c H locs cells slots Q (F0 m pc ls (.int k :: .int n :: rest)) := by
  subst hN
  subst hM
  intro T hT Xs
  obtain ⟨vm₁, cA, comp, -, fA, fC, hO, -, X', step⟩ := Xs.multianewarray2F hexec hown hclink (va_AOA.use hover) harr (g := F0 m pc ls (.int k :: .int n :: rest)) rfl (by rw [hb]; exact hdg) rfl hn hk hb1 hb2 hb3 hdf hdd hcells hslots
  have ec : some cy = some comp := hcy.symm.trans fC
  cases ec
  generalize hF : Jvm.Free.Multi.fill (T.setVm vm₁) cA cy n.toNatClampNeg k.toNatClampNeg (defaultValue ty) n.toNatClampNeg = F at X' step
  have hTh : (T.setVm vm₁).heap = H := hT
  obtain ⟨f1, f2, -, -⟩ := Jvm.Free.Multi.fill_facts (T.setVm vm₁) cA cy n.toNatClampNeg k.toNatClampNeg (defaultValue ty) n.toNatClampNeg
  rw [hF, hTh] at f1 f2
  have hold : ∀ x : Nat, x < H.size → F.heap[x]? = H[x]? := fun x hx => by
    have := Jvm.Free.Multi.fill_old (T.setVm vm₁) cA cy n.toNatClampNeg k.toNatClampNeg (defaultValue ty) (a := x) (by rw [hTh]; exact hx) n.toNatClampNeg
    rw [hF, hTh] at this
    exact this
  have hrow : ∀ j : Nat, j < n.toNatClampNeg → F.heap[H.size + 1 + j]? = some (vp_cell cy z) := fun j hj => by
    have := Jvm.Free.Multi.fill_inner (T.setVm vm₁) cA cy n.toNatClampNeg k.toNatClampNeg (defaultValue ty) n.toNatClampNeg j hj
    rw [hF, hTh, hz] at this
    exact this
  have hout : Jvm.Free.Multi.outerC cA n.toNatClampNeg H.size n.toNatClampNeg = vp_cell cA (n.toNatClampNeg, .inr (.inr (.inr (.inr (fun i => if i < n.toNatClampNeg then some (H.size + 1 + i) else none))))) := by
    rw [vp_cell_q]
    exact vr_outer cA n.toNatClampNeg H.size n.toNatClampNeg
  rw [hout] at f2
  have hlt : ∀ a, a ∈ L → a < H.size := fun a ha => by
    obtain ⟨k9, hk9⟩ := va_pl_get (X := X) (f := f) ha
    exact (hP k9 _ hk9).lt
  have hnl : ∀ i : Nat, i < n.toNatClampNeg → H.size + 1 + i ∉ L := fun i _ h => by
    have := hlt _ h
    omega
  have hnm : ∀ a, a ∈ (List.range n.toNatClampNeg).map (fun i => H.size + 1 + i) → a ∉ L := fun a ha h => by
    obtain ⟨i, -, rfl⟩ := List.mem_map.mp ha
    have := hlt _ h
    omega
  have hP0 : va_P D cl (X ++ va_pl L f) F.heap := hP.kept (fun k9 x hx => hold x.1 ((hP k9 x hx).lt))
  have hP1 : va_P D cl ((X ++ va_pl L f) ++ [(H.size, .inl (cA, n.toNatClampNeg, .inr (.inr (.inr (.inr (fun i => if i < n.toNatClampNeg then some (H.size + 1 + i) else none))))))]) F.heap := hP0.app (fun k9 x hx => by
    have h0 : k9 < 1 := (List.getElem?_eq_some_iff.mp hx).1
    rw [show k9 = 0 by omega] at hx
    cases hx
    exact f2)
  have hP2 : va_P D cl (((X ++ va_pl L f) ++ [(H.size, .inl (cA, n.toNatClampNeg, .inr (.inr (.inr (.inr (fun i => if i < n.toNatClampNeg then some (H.size + 1 + i) else none))))))]) ++ ((List.range n.toNatClampNeg).map (fun i => H.size + 1 + i)).map (fun a => (a, .inl (cy, z)))) F.heap := hP1.app (fun k9 x hx => by
    obtain ⟨a, ha, rfl⟩ := List.mem_map.mp (List.mem_of_getElem? hx)
    obtain ⟨i, hi, rfl⟩ := List.mem_map.mp ha
    exact hrow i (List.mem_range.mp hi))
  have hD2 : va_D A (((X ++ va_pl L f) ++ [(H.size, .inl (cA, n.toNatClampNeg, .inr (.inr (.inr (.inr (fun i => if i < n.toNatClampNeg then some (H.size + 1 + i) else none))))))]) ++ ((List.range n.toNatClampNeg).map (fun i => H.size + 1 + i)).map (fun a => (a, .inl (cy, z)))) := by
    have hD1 := hD.push (e := .inl (cA, n.toNatClampNeg, .inr (.inr (.inr (.inr (fun i => if i < n.toNatClampNeg then some (H.size + 1 + i) else none)))))) hP rfl (hA _ hS.1)
    generalize hW1 : (X ++ va_pl L f) ++ [(H.size, .inl (cA, n.toNatClampNeg, .inr (.inr (.inr (.inr (fun i => if i < n.toNatClampNeg then some (H.size + 1 + i) else none))))))] = W1 at hD1 hP1 ⊢
    have hle : ∀ (k9 : Nat) (x : Nat × va_E), W1[k9]? = some x → x.1 ≤ H.size := fun k9 x hx => by
      rw [← hW1] at hx
      by_cases hl : k9 < (X ++ va_pl L f).length
      · rw [List.getElem?_append_left hl] at hx
        exact Nat.le_of_lt ((hP k9 x hx).lt)
      · rw [List.getElem?_append_right (by omega)] at hx
        have h0 : k9 - (X ++ va_pl L f).length < 1 := (List.getElem?_eq_some_iff.mp hx).1
        rw [show k9 - (X ++ va_pl L f).length = 0 by omega] at hx
        cases hx
        exact Nat.le_refl _
    have hr : ∀ (k9 : Nat) (x : Nat × va_E), (((List.range n.toNatClampNeg).map (fun i => H.size + 1 + i)).map (fun a => ((a, .inl (cy, z)) : Nat × va_E)))[k9]? = some x → x.1 = H.size + 1 + k9 := fun k9 x hx => by
      rw [List.getElem?_map, List.getElem?_map] at hx
      by_cases h9 : k9 < n.toNatClampNeg
      · rw [List.getElem?_range h9] at hx
        cases hx
        rfl
      · have hn0 : (List.range n.toNatClampNeg)[k9]? = none := List.getElem?_eq_none (by rw [List.length_range]; omega)
        rw [hn0] at hx
        cases hx
    refine ⟨fun i j x y hi hj hxy => ?_, fun k9 x hx => ?_⟩
    · by_cases h1 : i < W1.length <;> by_cases h2 : j < W1.length
      · rw [List.getElem?_append_left h1] at hi
        rw [List.getElem?_append_left h2] at hj
        exact hD1.1 i j x y hi hj hxy
      · rw [List.getElem?_append_left h1] at hi
        rw [List.getElem?_append_right (by omega)] at hj
        have := hle _ _ hi
        have := hr _ _ hj
        omega
      · rw [List.getElem?_append_right (by omega)] at hi
        rw [List.getElem?_append_left h2] at hj
        have := hle _ _ hj
        have := hr _ _ hi
        omega
      · rw [List.getElem?_append_right (by omega)] at hi hj
        have := hr _ _ hi
        have := hr _ _ hj
        omega
    · by_cases h1 : k9 < W1.length
      · rw [List.getElem?_append_left h1] at hx
        exact hD1.2 k9 x hx
      · rw [List.getElem?_append_right (by omega)] at hx
        have := hr _ _ hx
        exact hA _ (by have := hS.1; omega)
  have hAr : ArrOfT s cA (.array ty) := fun N9 z9 => by
    obtain ⟨-, k9, hk9, cm9, hkk9⟩ := (hO 0 0 0).1
    exact ⟨(fun q hq => by cases hq), k9, hk9, cm9, hkk9⟩
  have hK2 : va_K D cl (tys ++ [(cA, .array ty)]) s := ⟨hK.1, fun k9 x hx => by
    by_cases hl : k9 < tys.length
    · rw [List.getElem?_append_left hl] at hx
      exact hK.2 k9 x hx
    · rw [List.getElem?_append_right (by omega)] at hx
      have h0 : k9 - tys.length < 1 := (List.getElem?_eq_some_iff.mp hx).1
      rw [show k9 - tys.length = 0 by omega] at hx
      cases hx
      exact ⟨hAr, fA⟩⟩
  obtain ⟨t, a1, b1⟩ := kk H.size (fun i => H.size + 1 + i) cA F.heap (fun i j _ _ h => by have h9 : H.size + 1 + i = H.size + 1 + j := h; omega) hnl hK2 (by rw [← vr_rows hnm]; exact vr_lay hP2) (by rw [← vr_rows hnm]; exact vr_layD hD2) ⟨by rw [f1]; have := hS.1; omega, fun x h1 h2 => (hold x (Nat.lt_of_lt_of_le h1 hS.1)).trans (hS.2.1 x h1 h2), hS.2.2⟩ F rfl X'
  refine ⟨t, step t ?_, b1⟩
  have e : T.heap.size = H.size := by rw [hT]
  rw [e]
  exact a1
end VGM
/-! ===== END ===== -/

/-! ===== BEGIN exceptions that leave a method, and their catching by the caller (launches without stack traces) ===== -/
section VXA
/-! The laws vx_back, vx_callV, vx_callS, vx_callSW, vx_throw0, vx_throwS follow proofs of the library, with one case more: JvmDerived/Free/Laws.lean (Back.of_free), Shelf42/LK1.lean (callV, callS), Shelf/KitTraced.lean (throwNew0V, throwNewS). -/
/-- where a method has thrown q: the class by its name, the cell, what was written, the world -/
def vx_T (XC : String → State → State → Prop) (st : State) (q : Addr) (t : State) (mc ms : Nat) (free : Addr → Prop) : Prop :=
  ∃ (E : String) (ce : Cell) (L : List Loc), XC E st t ∧ t.heap[q]? = some ce ∧ ce.vm = .none ∧ st.vm.findClass E = some ce.cls ∧ st.WarmedH t.vm ∧ st.sameButNew ({ t with vm := st.vm } : State) L mc ms ∧ ∀ z ∈ L, free z.base
def vx_Q (Qc : Array Value → State → Outcome → State → Prop) (XC : String → State → State → Prop) (mc ms : Nat) (free : Addr → Prop) : Array Value → State → Outcome → State → Prop := fun a st o t =>
  (Qc a st o t ∧ ∃ L, FrameEnd st o t L mc ms ∧ ∀ q ∈ L, free q.base) ∨ ∃ q, o = .threw q ∧ vx_T XC st q t mc ms free
/-- a callee that returns or throws -/
def vx_Met (l : Launch) (y : MethodName) (ws : List Cond) (rm : Room) (Pc : Array Value → State → Prop) (Qc : Array Value → State → Outcome → State → Prop) (XC : String → State → State → Prop) (mc ms : Nat) (free : Addr → Prop) : Prop :=
  MetFree l y (headSpec ws rm) Pc (fun _ _ _ _ _ => True) (vx_Q Qc XC mc ms free)
def vx_Post (XC : String → State → State → Prop) (mc ms : Nat) (free : Addr → Prop) : Pt → Array Value → Addr → Pt → Prop := fun A a q B =>
  ∃ (g : JFrame) (mk : MethodId) (t : State) (L : List Loc) (E : String) (ce : Cell), B.U.heap = t.heap ∧ B.U.vm = t.vm ∧ XC E (A.U.calling g mk a) t ∧ t.heap[q]? = some ce ∧ ce.vm = .none ∧ A.U.vm.findClass E = some ce.cls ∧ B.locs = A.locs ++ L ∧ (∀ z ∈ L, free z.base) ∧ B.cells = A.cells + mc ∧ B.slots = A.slots + ms
def vx_Back (l : Launch) (R : Room) (p : Program) (e : Env) (below : List Frame) (s : State) (sargs : Array Value) (y : MethodName) (len W9 : Nat)
    (Pre : Pt → Array Value → Prop) (Post : Pt → Array Value → Option Value → Pt → Prop) (PostX : Pt → Array Value → Addr → Pt → Prop) : Prop :=
  ∀ (m : MethodId) (meth : Method) (c : Code) (A : Pt) (g : JFrame) (ig : Instr) (mk : MethodId) (a : Array Value),
    Stand p l e R s m sargs below meth c A.U A.locs A.cells A.slots → g.method = m → g.locals.size = c.maxLocals → decode c.code g.pc = .ok (ig, len) →
    2 * g.monitorRoom + (g.stack.map fun v => v.category).sum ≤ W9 → A.U.methodNamed? y = some mk → Pre A a →
    (∃ (v : Option Value) (B : Pt), Stand p l e R s m sargs below meth c B.U B.locs B.cells B.slots ∧ Post A a v B ∧
      Steps p.tables e below (doInvoke e (A.U.setTop g) [] mk a).1 (B.U.setTop { g with pc := g.pc + len, stack := v.toList ++ g.stack })) ∨
    (∃ (q : Addr) (B : Pt), Stand p l e R s m sargs below meth c B.U B.locs B.cells B.slots ∧ PostX A a q B ∧
      Steps p.tables e below (doInvoke e (A.U.setTop g) [] mk a).1 ((B.U.setTop g).pushFrame (.throwing q)))
section Payer
variable {l : Launch} {R : Room} {p : Program} {e : Env} {below : List Frame} {s : State} {sargs : Array Value} {y : MethodName} {len W9 : Nat}
theorem vx_back {ws : List Cond} {rm : Room} {Pc : Array Value → State → Prop} {Qc : Array Value → State → Outcome → State → Prop} {XC : String → State → State → Prop} {mc ms : Nat} {free : Addr → Prop} {bytes : ByteArray} {maxL : Nat} {ret : Option FieldType}
    (hM : vx_Met l y ws rm Pc Qc XC mc ms free) (hblind : FrameBlind Pc) (hrc : rm.cells = mc) (hrs : rm.slots = ms)
    (hframes : rm.frames + 1 ≤ R.frames) (hlocals : W9 + (maxL + 11) + rm.locals ≤ R.locals)
    (hws : ∀ w ∈ ws, ∀ a' U, s.WarmedH U.vm → w.before a' U = true) (hcode : Cond.code y bytes maxL ret ∈ ws) (hinit : ∀ a' U, s.WarmedH U.vm → (Cond.initialized y.cls).before a' U = true) :
    vx_Back l R p e below s sargs y len W9 (PreOf R mc ms Pc) (PostOf Qc mc ms free) (vx_Post XC mc ms free) := by
  intro m meth c A g ig mk a X hg hsize hdg hW hn hp
  have h1 : (headSpec ws rm).pre.before a A.U = true := atoms_intro fun w hw => hws w hw _ _ X.warmed
  have h2 : (Cond.code y bytes maxL ret).before a A.U = true := hws _ hcode _ _ X.warmed
  have h3 : (Cond.initialized y.cls).before a A.U = true := hinit _ _ X.warmed
  have h4 : A.cells + (headSpec ws rm).room.cells ≤ R.cells := by rw [show (headSpec ws rm).room.cells = mc from hrc]; exact hp.1
  have h5 : A.slots + (headSpec ws rm).room.slots ≤ R.slots := by rw [show (headSpec ws rm).room.slots = ms from hrs]; exact hp.2.1
  have hPc : Pc a (A.U.calling g mk a) := hblind _ _ _ _ hp.2.2
  obtain ⟨U, Ls, c0, s0⟩ := A
  dsimp only [Pt.U, Pt.locs, Pt.cells, Pt.slots] at h1 h2 h3 h4 h5 X hn hPc ⊢
  obtain ⟨methY, cY, hmY, hcY, -, hlY, -, -, -, -⟩ := Cond.code_spec hn h2
  obtain ⟨kY, hkY, -⟩ := className_of_methodNamed hn
  have hinitY : kY.init = .initialized := Cond.initialized_spec (findClass_of_methodNamed hn) hkY h3
  have h : At U g.method c below := by rw [hg]; exact X.here
  have hlocals9 : W9 + (maxL + 11) + (headSpec ws rm).room.locals ≤ R.locals := hlocals
  have happ : (headSpec ws rm).appliesLoose y e.platform (U.calling g mk a) = true :=
    Spec.appliesLoose_calling (g := g) h hdg hn hkY hinitY
      (X.room_calling (g := g) (R' := (headSpec ws rm).room) hsize hmY hcY hframes (by rw [hlY]; omega) h4 h5) h1
  obtain ⟨mid, hmid⟩ := h.above
  have hfr : (U.setTop g).frames = (.java g :: mid) ++ below := by rw [State.frames_setTop' g h.top, hmid]; rfl
  obtain ⟨o, s₂, hsteps, -, hend, hq⟩ := Steps.callFree hM p X.admits X.cas X.clock (acts := []) hfr happ hPc trivial
  have hq' : vx_Q Qc XC mc ms free a (U.calling g mk a) o s₂ := hq
  rw [State.frames_setTop' g h.top] at hend
  obtain ⟨g₀, hg0⟩ := Option.isSome_iff_exists.mp h.top
  obtain ⟨r, hr⟩ := State.topJava?_eq_some.mp hg0
  have hr' : (({ U with heap := s₂.heap, slotsUsed := s₂.slotsUsed } : State).setVm s₂.vm).frames = .java g₀ :: r := hr
  rcases hq' with ⟨hqc, L, hfe, hL⟩ | ⟨q, rfl, E, ce, L, hx, hce, hcv, hcl, hW₂, hsm, hL⟩
  · obtain ⟨⟨v, rfl⟩, hW₂, e2, q2, q3, q4, q5, q6⟩ := id hfe
    have e3 : s₂ = ({ (U.calling g mk a).setFrames s₂.frames with heap := s₂.heap, slotsUsed := s₂.slotsUsed } : State).setVm s₂.vm := by
      have : s₂ = ({ s₂ with vm := (U.calling g mk a).vm } : State).setVm s₂.vm := rfl
      rw [e2] at this
      exact this
    obtain ⟨c₂, i₂, len₂, hc₂, hd₂, hf₂⟩ := hend
    have hW' : U.WarmedH s₂.vm := hW₂
    have hcc : c₂ = c := by
      have h1 : s₂.code? g.method = U.code? g.method := by
        rw [State.code?_eq, State.code?_eq, hW'.alike.method?]
      exact Option.some.inj (hc₂.symm.trans (h1.trans h.code))
    subst hcc
    have hlen : len₂ = len := by rw [hdg] at hd₂; cases hd₂; rfl
    subst hlen
    have hs₂ : s₂ = (({ U with heap := s₂.heap, slotsUsed := s₂.slotsUsed } : State).setVm s₂.vm).setTop { g with pc := g.pc + len₂, stack := v.toList ++ g.stack } := by
      refine e3.trans ?_
      rw [hf₂, State.calling_eq h.top, State.setFrames_setFrames, State.setTop_of_frames _ hr', hr]
      rfl
    have hsame : U.sameButNew ({ U with heap := s₂.heap, slotsUsed := s₂.slotsUsed } : State) L mc ms := by
      refine ⟨?_, q2, q3, q4, q5, q6⟩
      obtain ⟨t, ht, -⟩ := State.frames_cons hr
      show ({ U with heap := s₂.heap, slotsUsed := s₂.slotsUsed } : State) = { U.setFrames U.frames with heap := s₂.heap, slotsUsed := s₂.slotsUsed }
      rw [State.setFrames_self ht]
    subst hg
    refine Or.inl ⟨v, ⟨(({ U with heap := s₂.heap, slotsUsed := s₂.slotsUsed } : State).setVm s₂.vm), Ls ++ L, c0 + mc, s0 + ms⟩,
      ⟨X.admits, X.cas, X.clock, X.frames, X.room, X.hears, X.method, X.code, (X.here.setHeapUsed s₂.heap s₂.slotsUsed).setVm hW'.alike, X.tail, State.WarmedH.trans X.warmed hW', X.limits, X.bytes, X.same.trans (hsame.setVm s.vm)⟩,
      ⟨g, mk, s₂, L, rfl, rfl, hqc, rfl, hL, rfl, rfl⟩, ?_⟩
    show Steps p.tables e below _ ((({ U with heap := s₂.heap, slotsUsed := s₂.slotsUsed } : State).setVm s₂.vm).setTop { g with pc := g.pc + len₂, stack := v.toList ++ g.stack })
    rw [← hs₂]
    exact hsteps
  · obtain ⟨e2, q2, q3, q4, q5, q6⟩ := id hsm
    have e3 : s₂ = ({ (U.calling g mk a).setFrames s₂.frames with heap := s₂.heap, slotsUsed := s₂.slotsUsed } : State).setVm s₂.vm := by
      have : s₂ = ({ s₂ with vm := (U.calling g mk a).vm } : State).setVm s₂.vm := rfl
      rw [e2] at this
      exact this
    have hf₂ : s₂.frames = .throwing q :: .java g :: U.frames.tail := hend
    have hW' : U.WarmedH s₂.vm := hW₂
    have hs₂ : s₂ = ((({ U with heap := s₂.heap, slotsUsed := s₂.slotsUsed } : State).setVm s₂.vm).setTop g).pushFrame (.throwing q) := by
      refine e3.trans ?_
      rw [hf₂, State.calling_eq h.top, State.setFrames_setFrames, State.pushFrame, State.frames_setTop _ hr', State.setTop_of_frames _ hr', State.setFrames_setFrames, hr]
      rfl
    have hsame : U.sameButNew ({ U with heap := s₂.heap, slotsUsed := s₂.slotsUsed } : State) L mc ms := by
      refine ⟨?_, q2, q3, q4, q5, q6⟩
      obtain ⟨t, ht, -⟩ := State.frames_cons hr
      show ({ U with heap := s₂.heap, slotsUsed := s₂.slotsUsed } : State) = { U.setFrames U.frames with heap := s₂.heap, slotsUsed := s₂.slotsUsed }
      rw [State.setFrames_self ht]
    subst hg
    refine Or.inr ⟨q, ⟨(({ U with heap := s₂.heap, slotsUsed := s₂.slotsUsed } : State).setVm s₂.vm), Ls ++ L, c0 + mc, s0 + ms⟩,
      ⟨X.admits, X.cas, X.clock, X.frames, X.room, X.hears, X.method, X.code, (X.here.setHeapUsed s₂.heap s₂.slotsUsed).setVm hW'.alike, X.tail, State.WarmedH.trans X.warmed hW', X.limits, X.bytes, X.same.trans (hsame.setVm s.vm)⟩,
      ⟨g, mk, s₂, L, E, ce, rfl, rfl, hx, hce, hcv, hcl, rfl, hL, rfl, rfl⟩, ?_⟩
    show Steps p.tables e below _ (((({ U with heap := s₂.heap, slotsUsed := s₂.slotsUsed } : State).setVm s₂.vm).setTop g).pushFrame (.throwing q))
    rw [← hs₂]
    exact hsteps
end Payer
section Calls
variable {p : Program} {l : Launch} {e : Env} {R : Room} {s : State} {m : MethodId} {args : Array Value} {below : List Frame} {meth : Method} {c : Code} {T : State} {locs : List Loc} {cells slots : Nat}
theorem vx_callV (X : Stand p l e R s m args below meth c T locs cells slots) (hexec : p.tables.exec = Jvm.exec) {own C : String} {index : Nat} {y : MethodName} {bytes : ByteArray} {maxL : Nat} {ret : Option FieldType}
    (hown : s.vm.findClass own = some m.cls) (hlink : (Cond.methodLink own index y).before args s = true) (hinst : (Cond.instanceMethod y).before args s = true) (hsel : (Cond.selects C y y).before args s = true)
    (hcode : (Cond.code y bytes maxL ret).before args s = true) (hy : y.cls ≠ "java/lang/invoke/MethodHandle" ∧ y.cls ≠ "java/lang/invoke/VarHandle")
    {W9 : Nat} {Pre : Pt → Array Value → Prop} {Post : Pt → Array Value → Option Value → Pt → Prop} {PostX : Pt → Array Value → Addr → Pt → Prop} (hK : vx_Back l R p e below s args y 3 W9 Pre Post PostX)
    {b : Addr} {cellB : Cell} (hcell : T.heap[b]? = some cellB) (hobj : cellB.vm.isStatics = false) (hcls : s.vm.findClass C = some cellB.cls)
    {g : JFrame} (hg : g.method = m) (hsize : g.locals.size = c.maxLocals) {argsL rest : List Value} (hlen : ∀ sig, parseMethodDescriptor y.desc = some sig → argsL.length = sig.parameters.length)
    (hstack : g.stack = argsL.reverse ++ .ref b :: rest) (hW : 2 * g.monitorRoom + (rest.map fun v => v.category).sum ≤ W9) (hdg : decode c.code g.pc = .ok (.invokevirtual index, 3))
    (hpre : ∀ vm₁, s.WarmedH vm₁ → Pre ⟨T.setVm vm₁, locs, cells, slots⟩ (Value.ref b :: argsL).toArray) :
    (∃ (v : Option Value) (vm₁ : Vm) (B : Pt), s.WarmedH vm₁ ∧ Stand p l e R s m args below meth c B.U B.locs B.cells B.slots ∧ Post ⟨T.setVm vm₁, locs, cells, slots⟩ (Value.ref b :: argsL).toArray v B ∧
      ∀ target, Steps p.tables e below (B.U.setTop { g with pc := g.pc + 3, stack := v.toList ++ rest }) target → Steps p.tables e below (T.setTop g) target) ∨
    (∃ (q : Addr) (vm₁ : Vm) (B : Pt), s.WarmedH vm₁ ∧ Stand p l e R s m args below meth c B.U B.locs B.cells B.slots ∧ PostX ⟨T.setVm vm₁, locs, cells, slots⟩ (Value.ref b :: argsL).toArray q B ∧
      Steps p.tables e below (T.setTop g) ((B.U.setTop { g with stack := rest }).pushFrame (.throwing q))) := by
  obtain ⟨mk, methM, hnamed, hmethM, hstM, habM⟩ := Cond.instanceMethod_spec hinst
  obtain ⟨methM', cM, hmethM', -, -, -, -, -, -, hsigM⟩ := Cond.code_spec hnamed hcode
  cases hmethM.symm.trans hmethM'
  obtain ⟨c2, r2, m2, q1, q2, q3, q4, kP, hkP, hkPi⟩ := Cond.selects_spec hsel
  cases hcls.symm.trans q1
  cases (State.methodFound?_of_named hnamed hy).symm.trans q2
  cases hnamed.symm.trans q3
  have hselP : selectMethod e.platform s.vm cellB.cls mk = .method mk := by rw [Launch.admits_selectMethod X.admits]; exact q4
  obtain ⟨vm₁, X₁, hstep₁⟩ := X.invokevirtual hexec hown hlink hnamed hmethM hstM hkP hkPi hy (a := b) (cell := cellB) hcell
    (fun z h => by rw [h] at hobj; cases hobj) hselP hmethM habM hkP hkPi (g := g) hg (argsL := argsL) (rest := rest) (hlen _ hsigM) hstack hdg
  rcases hK m meth c ⟨T.setVm vm₁, locs, cells, slots⟩ { g with stack := rest } (.invokevirtual index) mk (Value.ref b :: argsL).toArray X₁ hg hsize hdg hW (X₁.named hnamed) (hpre vm₁ X₁.warmed) with ⟨v, B, X', hpost, hsteps⟩ | ⟨q, B, X', hpost, hsteps⟩
  · exact Or.inl ⟨v, vm₁, B, X₁.warmed, X', hpost, fun target h => hstep₁ _ fun acts => by rw [doInvoke_state]; exact hsteps.trans h⟩
  · exact Or.inr ⟨q, vm₁, B, X₁.warmed, X', hpost, hstep₁ _ fun acts => by rw [doInvoke_state]; exact hsteps⟩
theorem vx_callS (X : Stand p l e R s m args below meth c T locs cells slots) (hexec : p.tables.exec = Jvm.exec) {own : String} {index : Nat} {y : MethodName} {bytes : ByteArray} {maxL : Nat} {ret : Option FieldType}
    (hown : s.vm.findClass own = some m.cls) (hlink : (Cond.methodLink own index y).before args s = true) (hstat : (Cond.static y).before args s = true) (hinit : (Cond.initialized y.cls).before args s = true)
    (hcode : (Cond.code y bytes maxL ret).before args s = true) (hy : y.cls ≠ "java/lang/invoke/MethodHandle" ∧ y.cls ≠ "java/lang/invoke/VarHandle")
    {W9 : Nat} {Pre : Pt → Array Value → Prop} {Post : Pt → Array Value → Option Value → Pt → Prop} {PostX : Pt → Array Value → Addr → Pt → Prop} (hK : vx_Back l R p e below s args y 3 W9 Pre Post PostX)
    {g : JFrame} (hg : g.method = m) (hsize : g.locals.size = c.maxLocals) {argsL rest : List Value} (hlen : ∀ sig, parseMethodDescriptor y.desc = some sig → argsL.length = sig.parameters.length)
    (hstack : g.stack = argsL.reverse ++ rest) (hW : 2 * g.monitorRoom + (rest.map fun v => v.category).sum ≤ W9) (hdg : decode c.code g.pc = .ok (.invokestatic index, 3))
    (hpre : ∀ vm₁, s.WarmedH vm₁ → Pre ⟨T.setVm vm₁, locs, cells, slots⟩ argsL.toArray) :
    (∃ (v : Option Value) (vm₁ : Vm) (B : Pt), s.WarmedH vm₁ ∧ Stand p l e R s m args below meth c B.U B.locs B.cells B.slots ∧ Post ⟨T.setVm vm₁, locs, cells, slots⟩ argsL.toArray v B ∧
      ∀ target, Steps p.tables e below (B.U.setTop { g with pc := g.pc + 3, stack := v.toList ++ rest }) target → Steps p.tables e below (T.setTop g) target) ∨
    (∃ (q : Addr) (vm₁ : Vm) (B : Pt), s.WarmedH vm₁ ∧ Stand p l e R s m args below meth c B.U B.locs B.cells B.slots ∧ PostX ⟨T.setVm vm₁, locs, cells, slots⟩ argsL.toArray q B ∧
      Steps p.tables e below (T.setTop g) ((B.U.setTop { g with stack := rest }).pushFrame (.throwing q))) := by
  obtain ⟨mk, hnamed⟩ := Cond.code_named hcode
  obtain ⟨methM, cM, hmethM, -, -, -, -, -, -, hsigM⟩ := Cond.code_spec hnamed hcode
  have hstatic : methM.isStatic = true := Cond.static_spec hnamed hmethM hstat
  obtain ⟨kP, hkP, -⟩ := className_of_methodNamed hnamed
  have hinitP : kP.init = .initialized := Cond.initialized_spec (findClass_of_methodNamed hnamed) hkP hinit
  obtain ⟨vm₁, X₁, hstep₁⟩ := X.invokestatic hexec hown hlink hnamed hmethM hstatic hkP hinitP hy (g := g) hg (argsL := argsL) (rest := rest) (hlen _ hsigM) hstack hdg
  rcases hK m meth c ⟨T.setVm vm₁, locs, cells, slots⟩ { g with stack := rest } (.invokestatic index) mk argsL.toArray X₁ hg hsize hdg hW (X₁.named hnamed) (hpre vm₁ X₁.warmed) with ⟨v, B, X', hpost, hsteps⟩ | ⟨q, B, X', hpost, hsteps⟩
  · exact Or.inl ⟨v, vm₁, B, X₁.warmed, X', hpost, fun target h => hstep₁ _ fun acts => by rw [doInvoke_state]; exact hsteps.trans h⟩
  · exact Or.inr ⟨q, vm₁, B, X₁.warmed, X', hpost, hstep₁ _ fun acts => by rw [doInvoke_state]; exact hsteps⟩
end Calls
theorem vx_cls {s : State} {T : State} {vm₁ : Vm} {E : String} {k : ClassId} (hW : s.WarmedH vm₁) (h : (T.setVm vm₁).vm.findClass E = some k) : s.vm.findClass E = some k := by
  have h1 : vm₁.findClass E = some k := h
  rw [hW.alike.findClass] at h1
  exact h1
/-- the method's frame g, with q thrown over it -/
def vx_W (p : Program) (l : Launch) (e : Env) (R : Room) (s : State) (m : MethodId) (args : Array Value) (below : List Frame) (meth : Method) (c : Code) (H : Heap) (locs : List Loc) (cells slots : Nat) (Q : State → Prop) (g : JFrame) (q : Addr) : Prop :=
  ∀ T : State, T.heap = H → Stand p l e R s m args below meth c T locs cells slots → ∃ t, Steps p.tables e below ((T.setTop g).pushFrame (.throwing q)) t ∧ Q t
def vx_Run (p : Program) (l : Launch) (e : Env) (R : Room) (s : State) (m : MethodId) (args : Array Value) (below : List Frame) (meth : Method) (c : Code) (H : Heap) (locs : List Loc) (cells slots mc ms : Nat) (g : JFrame) (rest : List Value) (Qa : State → Outcome → State → Prop) (XC : String → State → State → Prop) (free : Addr → Prop) : Prop :=
  ∀ T : State, T.heap = H → Stand p l e R s m args below meth c T locs cells slots →
    (∃ (v : Option Value) (st₀ t T' : State) (L : List Loc), st₀.heap = H ∧ Stand p l e R s m args below meth c T' (locs ++ L) (cells + mc) (slots + ms) ∧ (∀ q ∈ L, free q.base) ∧ T'.heap = t.heap ∧ T'.vm = t.vm ∧ Qa st₀ (.returned v) t ∧
      Goes p e below T g T' { g with pc := g.pc + 3, stack := v.toList ++ rest }) ∨
    (∃ (q : Addr) (st₀ t T' : State) (L : List Loc) (E : String) (ce : Cell), st₀.heap = H ∧ Stand p l e R s m args below meth c T' (locs ++ L) (cells + mc) (slots + ms) ∧ (∀ z ∈ L, free z.base) ∧ T'.heap = t.heap ∧ T'.vm = t.vm ∧ XC E st₀ t ∧ t.heap[q]? = some ce ∧ ce.vm = .none ∧ s.vm.findClass E = some ce.cls ∧
      Steps p.tables e below (T.setTop g) ((T'.setTop { g with stack := rest }).pushFrame (.throwing q)))
def vx_X {S : Type} (px : S → Prop) (B : String → S → State → Prop) (A : Nat → Prop) : String → State → State → Prop := fun E st t => ∃ u : S, px u ∧ B E u t ∧ va_F A st t
section Runs
variable {p : Program} {l : Launch} {e : Env} {R : Room} {s : State} {m : MethodId} {args : Array Value} {below : List Frame} {meth : Method} {c : Code} {H : Heap} {locs : List Loc} {cells slots : Nat}
variable {y : MethodName} {bytes cc : ByteArray} {maxL nL mc ms n index : Nat} {ret : Option FieldType} {ws : List Cond} {rm : Room} {Pc : Array Value → State → Prop} {Qc : Array Value → State → Outcome → State → Prop} {XC : String → State → State → Prop} {free : Addr → Prop} {Ts : List Cond} {own C : String} {b : Addr} {As rest : List Value} {g : JFrame}
theorem vx_callBack (cb : CallB R s args own index y bytes maxL ret ws rm mc ms n) (hM : vx_Met l y ws rm Pc Qc XC mc ms free) (hbl : FrameBlind Pc) : vx_Back l R p e below s args y 3 8 (PreOf R mc ms Pc) (PostOf Qc mc ms free) (vx_Post XC mc ms free) := by
  obtain ⟨hrc, hrs, hfr, hlo, hws, hcw, -, hini, -⟩ := cb
  exact vx_back (bytes := bytes) (maxL := maxL) (ret := ret) hM hbl hrc hrs hfr hlo hws hcw (fun a' U hW => word_at hW (Or.inl (by first | rfl | simp [Cond.onTables, Cond.keeps, Cond.steady])) hini)
theorem vx_runV (S : CallFix p m c cc nL s args Ts own) (hM : vx_Met l y ws rm Pc Qc XC mc ms free) (cw : CallW R s args own C index y bytes maxL ret ws rm mc ms n) (hp : PreV s H C b Pc As)
    (hg : g.method = m) (hn : As.length = n) (hsize : g.locals.size = nL) (hstack : g.stack = As.reverse ++ .ref b :: rest) (hW : 2 * g.monitorRoom + (rest.map fun v => v.category).sum ≤ 8) (hdg : decode cc g.pc = .ok (.invokevirtual index, 3)) (hf : cells + mc ≤ R.cells ∧ slots + ms ≤ R.slots) :
    vx_Run p l e R s m args below meth c H locs cells slots mc ms g rest (Qc (Value.ref b :: As).toArray) XC free := by
  have hK : vx_Back l R p e below s args y 3 8 (PreOf R mc ms Pc) (PostOf Qc mc ms free) (vx_Post XC mc ms free) := vx_callBack cw.1 hM hp.1
  obtain ⟨⟨-, -, -, -, -, -, hcode, -, hy, hlen, hl⟩, hin, hse⟩ := cw
  obtain ⟨hx, hb, hml, ho, -⟩ := S
  obtain ⟨-, ⟨cellB, hcB, hoB, hclB⟩, hPc⟩ := hp
  intro T hT X
  rcases vx_callV X hx (C := C) (bytes := bytes) (maxL := maxL) (ret := ret) ho hl hin hse hcode hy hK (by rw [hT]; exact hcB) hoB hclB hg (hsize.trans hml.symm) (argsL := As) (rest := rest) (fun sig h => hn.trans (hlen sig h)) hstack hW (by rw [hb]; exact hdg)
    (fun vm₁ hW₁ => ⟨hf.1, hf.2, hPc (T.setVm vm₁) hT hW₁⟩) with ⟨v, vm₁, ⟨U', l2, c2, s2⟩, hW₁, X', ⟨g', mk, t, L, e1, e2, hq, h1, hL, h2, h3⟩, st⟩ | ⟨q, vm₁, ⟨U', l2, c2, s2⟩, hW₁, X', ⟨g', mk, t, L, E, ce, e1, e2, hq, hce, hcv, hcl, h1, hL, h2, h3⟩, st⟩
  · dsimp only [Pt.U, Pt.locs, Pt.cells, Pt.slots] at X' e1 e2 h1 h2 h3 st
    subst h1; subst h2; subst h3
    exact Or.inl ⟨v, (T.setVm vm₁).calling g' mk (Value.ref b :: As).toArray, t, U', L, hT, X', hL, e1, e2, hq, st⟩
  · dsimp only [Pt.U, Pt.locs, Pt.cells, Pt.slots] at X' e1 e2 h1 h2 h3 st hcl
    subst h1; subst h2; subst h3
    exact Or.inr ⟨q, (T.setVm vm₁).calling g' mk (Value.ref b :: As).toArray, t, U', L, E, ce, hT, X', hL, e1, e2, hq, hce, hcv, vx_cls hW₁ hcl, st⟩
theorem vx_runS (S : CallFix p m c cc nL s args Ts own) (hM : vx_Met l y ws rm Pc Qc XC mc ms free) (cw : CallB R s args own index y bytes maxL ret ws rm mc ms n ∧ (Cond.static y).before args s = true) (hp : PreS s H Pc As)
    (hg : g.method = m) (hn : As.length = n) (hsize : g.locals.size = nL) (hstack : g.stack = As.reverse ++ rest) (hW : 2 * g.monitorRoom + (rest.map fun v => v.category).sum ≤ 8) (hdg : decode cc g.pc = .ok (.invokestatic index, 3)) (hf : cells + mc ≤ R.cells ∧ slots + ms ≤ R.slots) :
    vx_Run p l e R s m args below meth c H locs cells slots mc ms g rest (Qc As.toArray) XC free := by
  have hK : vx_Back l R p e below s args y 3 8 (PreOf R mc ms Pc) (PostOf Qc mc ms free) (vx_Post XC mc ms free) := vx_callBack cw.1 hM hp.1
  obtain ⟨⟨-, -, -, -, -, -, hcode, hini, hy, hlen, hl⟩, hstt⟩ := cw
  obtain ⟨hx, hb, hml, ho, -⟩ := S
  intro T hT X
  rcases vx_callS X hx (bytes := bytes) (maxL := maxL) (ret := ret) ho hl hstt hini hcode hy hK hg (hsize.trans hml.symm) (argsL := As) (rest := rest) (fun sig h => hn.trans (hlen sig h)) hstack hW (by rw [hb]; exact hdg)
    (fun vm₁ hW₁ => ⟨hf.1, hf.2, hp.2 (T.setVm vm₁) hT hW₁⟩) with ⟨v, vm₁, ⟨U', l2, c2, s2⟩, hW₁, X', ⟨g', mk, t, L, e1, e2, hq, h1, hL, h2, h3⟩, st⟩ | ⟨q, vm₁, ⟨U', l2, c2, s2⟩, hW₁, X', ⟨g', mk, t, L, E, ce, e1, e2, hq, hce, hcv, hcl, h1, hL, h2, h3⟩, st⟩
  · dsimp only [Pt.U, Pt.locs, Pt.cells, Pt.slots] at X' e1 e2 h1 h2 h3 st
    subst h1; subst h2; subst h3
    exact Or.inl ⟨v, (T.setVm vm₁).calling g' mk As.toArray, t, U', L, hT, X', hL, e1, e2, hq, st⟩
  · dsimp only [Pt.U, Pt.locs, Pt.cells, Pt.slots] at X' e1 e2 h1 h2 h3 st hcl
    subst h1; subst h2; subst h3
    exact Or.inr ⟨q, (T.setVm vm₁).calling g' mk As.toArray, t, U', L, E, ce, hT, X', hL, e1, e2, hq, hce, hcv, vx_cls hW₁ hcl, st⟩
end Runs
section Rows
variable {p : Program} {l : Launch} {e : Env} {R : Room} {s : State} {m : MethodId} {args : Array Value} {below : List Frame} {meth : Method} {c : Code} {H : Heap} {locs : List Loc} {cells slots : Nat} {Q : State → Prop}
variable {mc ms : Nat} {free : Addr → Prop} {A0 A1 : Nat → Prop} {H0 : Heap} {a : Array Value} {pc : Nat} {ls : Array Slot} {st0 rest : List Value}
theorem vx_keep {st₀ t T' : State} {L : List Loc} (h0 : st₀.heap = H) (e1 : T'.heap = t.heap) (hS : va_S A0 H0 H locs) (hA : ∀ q, q < H.size → A1 q → A0 q) (hf : ∀ q, free q → A0 q) (hL : ∀ q ∈ L, free q.base) (hF : va_F A1 st₀ t) :
    H.size ≤ T'.heap.size ∧ (∀ q : Nat, q < H.size → ¬ A1 q → T'.heap[q]? = H[q]?) ∧ va_S A0 H0 T'.heap (locs ++ L) := by
  obtain ⟨hz, hk⟩ := hF
  rw [h0] at hz hk
  exact ⟨by rw [e1]; exact hz, fun q h1 h2 => by rw [e1]; exact hk q h1 h2,
    ⟨Nat.le_trans hS.1 (by rw [e1]; exact hz), fun q h1 h2 => by rw [e1, hk q (Nat.lt_of_lt_of_le h1 hS.1) (fun z => h2 (hA q (Nat.lt_of_lt_of_le h1 hS.1) z))]; exact hS.2.1 q h1 h2, fun q hq => by
      rcases List.mem_append.mp hq with h | h
      · exact hS.2.2 q h
      · exact hf _ (hL q h)⟩⟩
theorem vx_calli {S SX : Type} {post : Int32 → S → Prop} {px : SX → Prop} {B : S → State → Prop} {BX : String → SX → State → Prop} {AX : Nat → Prop} (hr : vx_Run p l e R s m args below meth c H locs cells slots mc ms (F0 m pc ls st0) rest (va_Qi post B A1 a) (vx_X px BX AX) free) (hS : va_S A0 H0 H locs) (hA : ∀ q, q < H.size → A1 q → A0 q) (hf : ∀ q, free q → A0 q) (hAX : ∀ q, q < H.size → AX q → A0 q)
    (kx : ∀ (E : String) (ce : Cell) (q9 : Addr) (u : SX) (t : State) (H1 : Heap) (locs1 : List Loc), t.heap = H1 → s.vm.Alike t.vm → px u → BX E u t → H.size ≤ H1.size → (∀ q : Nat, q < H.size → ¬ AX q → H1[q]? = H[q]?) → va_S A0 H0 H1 locs1 → H1[q9]? = some ce → ce.vm = .none → s.vm.findClass E = some ce.cls → vx_W p l e R s m args below meth c H1 locs1 (cells + mc) (slots + ms) Q (F0 m pc ls rest) q9)
    (kk : ∀ (r : Int32) (u : S) (t : State) (H1 : Heap) (locs1 : List Loc), t.heap = H1 → s.vm.Alike t.vm → post r u → B u t → H.size ≤ H1.size → (∀ q : Nat, q < H.size → ¬ A1 q → H1[q]? = H[q]?) → va_S A0 H0 H1 locs1 → W p l e R s m args below meth c H1 locs1 (cells + mc) (slots + ms) Q (F0 m (pc + 3) ls (.int r :: rest))) : W p l e R s m args below meth c H locs cells slots Q (F0 m pc ls st0) := by
  intro T hT X
  rcases hr T hT X with ⟨v, st₀, t, T', L, h0, X', hL, e1, e2, ⟨⟨r, u, hv, hp, hb⟩, hF⟩, st⟩ | ⟨q, st₀, t, T', L, E, ce, h0, X', hL, e1, e2, ⟨u, hp, hb, hF⟩, hce, hcv, hcl, st⟩
  · cases hv
    obtain ⟨k1, k2, k3⟩ := vx_keep h0 e1 hS hA hf hL hF
    obtain ⟨t2, a1, b1⟩ := kk r u t T'.heap (locs ++ L) e1.symm (by rw [← e2]; exact X'.warmed.alike) hp hb k1 k2 k3 T' rfl X'
    exact ⟨t2, st t2 a1, b1⟩
  · obtain ⟨k1, k2, k3⟩ := vx_keep h0 e1 hS hAX hf hL hF
    obtain ⟨t2, a1, b1⟩ := kx E ce q u t T'.heap (locs ++ L) e1.symm (by rw [← e2]; exact X'.warmed.alike) hp hb k1 k2 k3 (by rw [e1]; exact hce) hcv hcl T' rfl X'
    exact ⟨t2, st.trans a1, b1⟩
theorem vx_calll {S SX : Type} {post : Int64 → S → Prop} {px : SX → Prop} {B : S → State → Prop} {BX : String → SX → State → Prop} {AX : Nat → Prop} (hr : vx_Run p l e R s m args below meth c H locs cells slots mc ms (F0 m pc ls st0) rest (va_Ql post B A1 a) (vx_X px BX AX) free) (hS : va_S A0 H0 H locs) (hA : ∀ q, q < H.size → A1 q → A0 q) (hf : ∀ q, free q → A0 q) (hAX : ∀ q, q < H.size → AX q → A0 q)
    (kx : ∀ (E : String) (ce : Cell) (q9 : Addr) (u : SX) (t : State) (H1 : Heap) (locs1 : List Loc), t.heap = H1 → s.vm.Alike t.vm → px u → BX E u t → H.size ≤ H1.size → (∀ q : Nat, q < H.size → ¬ AX q → H1[q]? = H[q]?) → va_S A0 H0 H1 locs1 → H1[q9]? = some ce → ce.vm = .none → s.vm.findClass E = some ce.cls → vx_W p l e R s m args below meth c H1 locs1 (cells + mc) (slots + ms) Q (F0 m pc ls rest) q9)
    (kk : ∀ (r : Int64) (u : S) (t : State) (H1 : Heap) (locs1 : List Loc), t.heap = H1 → s.vm.Alike t.vm → post r u → B u t → H.size ≤ H1.size → (∀ q : Nat, q < H.size → ¬ A1 q → H1[q]? = H[q]?) → va_S A0 H0 H1 locs1 → W p l e R s m args below meth c H1 locs1 (cells + mc) (slots + ms) Q (F0 m (pc + 3) ls (.long r :: rest))) : W p l e R s m args below meth c H locs cells slots Q (F0 m pc ls st0) := by
  intro T hT X
  rcases hr T hT X with ⟨v, st₀, t, T', L, h0, X', hL, e1, e2, ⟨⟨r, u, hv, hp, hb⟩, hF⟩, st⟩ | ⟨q, st₀, t, T', L, E, ce, h0, X', hL, e1, e2, ⟨u, hp, hb, hF⟩, hce, hcv, hcl, st⟩
  · cases hv
    obtain ⟨k1, k2, k3⟩ := vx_keep h0 e1 hS hA hf hL hF
    obtain ⟨t2, a1, b1⟩ := kk r u t T'.heap (locs ++ L) e1.symm (by rw [← e2]; exact X'.warmed.alike) hp hb k1 k2 k3 T' rfl X'
    exact ⟨t2, st t2 a1, b1⟩
  · obtain ⟨k1, k2, k3⟩ := vx_keep h0 e1 hS hAX hf hL hF
    obtain ⟨t2, a1, b1⟩ := kx E ce q u t T'.heap (locs ++ L) e1.symm (by rw [← e2]; exact X'.warmed.alike) hp hb k1 k2 k3 (by rw [e1]; exact hce) hcv hcl T' rfl X'
    exact ⟨t2, st.trans a1, b1⟩
theorem vx_callf {S SX : Type} {post : UInt32 → S → Prop} {px : SX → Prop} {B : S → State → Prop} {BX : String → SX → State → Prop} {AX : Nat → Prop} (hr : vx_Run p l e R s m args below meth c H locs cells slots mc ms (F0 m pc ls st0) rest (va_Qf post B A1 a) (vx_X px BX AX) free) (hS : va_S A0 H0 H locs) (hA : ∀ q, q < H.size → A1 q → A0 q) (hf : ∀ q, free q → A0 q) (hAX : ∀ q, q < H.size → AX q → A0 q)
    (kx : ∀ (E : String) (ce : Cell) (q9 : Addr) (u : SX) (t : State) (H1 : Heap) (locs1 : List Loc), t.heap = H1 → s.vm.Alike t.vm → px u → BX E u t → H.size ≤ H1.size → (∀ q : Nat, q < H.size → ¬ AX q → H1[q]? = H[q]?) → va_S A0 H0 H1 locs1 → H1[q9]? = some ce → ce.vm = .none → s.vm.findClass E = some ce.cls → vx_W p l e R s m args below meth c H1 locs1 (cells + mc) (slots + ms) Q (F0 m pc ls rest) q9)
    (kk : ∀ (r : UInt32) (u : S) (t : State) (H1 : Heap) (locs1 : List Loc), t.heap = H1 → s.vm.Alike t.vm → post r u → B u t → H.size ≤ H1.size → (∀ q : Nat, q < H.size → ¬ A1 q → H1[q]? = H[q]?) → va_S A0 H0 H1 locs1 → W p l e R s m args below meth c H1 locs1 (cells + mc) (slots + ms) Q (F0 m (pc + 3) ls (.float r :: rest))) : W p l e R s m args below meth c H locs cells slots Q (F0 m pc ls st0) := by
  intro T hT X
  rcases hr T hT X with ⟨v, st₀, t, T', L, h0, X', hL, e1, e2, ⟨⟨r, u, hv, hp, hb⟩, hF⟩, st⟩ | ⟨q, st₀, t, T', L, E, ce, h0, X', hL, e1, e2, ⟨u, hp, hb, hF⟩, hce, hcv, hcl, st⟩
  · cases hv
    obtain ⟨k1, k2, k3⟩ := vx_keep h0 e1 hS hA hf hL hF
    obtain ⟨t2, a1, b1⟩ := kk r u t T'.heap (locs ++ L) e1.symm (by rw [← e2]; exact X'.warmed.alike) hp hb k1 k2 k3 T' rfl X'
    exact ⟨t2, st t2 a1, b1⟩
  · obtain ⟨k1, k2, k3⟩ := vx_keep h0 e1 hS hAX hf hL hF
    obtain ⟨t2, a1, b1⟩ := kx E ce q u t T'.heap (locs ++ L) e1.symm (by rw [← e2]; exact X'.warmed.alike) hp hb k1 k2 k3 (by rw [e1]; exact hce) hcv hcl T' rfl X'
    exact ⟨t2, st.trans a1, b1⟩
theorem vx_calld {S SX : Type} {post : UInt64 → S → Prop} {px : SX → Prop} {B : S → State → Prop} {BX : String → SX → State → Prop} {AX : Nat → Prop} (hr : vx_Run p l e R s m args below meth c H locs cells slots mc ms (F0 m pc ls st0) rest (va_Qd post B A1 a) (vx_X px BX AX) free) (hS : va_S A0 H0 H locs) (hA : ∀ q, q < H.size → A1 q → A0 q) (hf : ∀ q, free q → A0 q) (hAX : ∀ q, q < H.size → AX q → A0 q)
    (kx : ∀ (E : String) (ce : Cell) (q9 : Addr) (u : SX) (t : State) (H1 : Heap) (locs1 : List Loc), t.heap = H1 → s.vm.Alike t.vm → px u → BX E u t → H.size ≤ H1.size → (∀ q : Nat, q < H.size → ¬ AX q → H1[q]? = H[q]?) → va_S A0 H0 H1 locs1 → H1[q9]? = some ce → ce.vm = .none → s.vm.findClass E = some ce.cls → vx_W p l e R s m args below meth c H1 locs1 (cells + mc) (slots + ms) Q (F0 m pc ls rest) q9)
    (kk : ∀ (r : UInt64) (u : S) (t : State) (H1 : Heap) (locs1 : List Loc), t.heap = H1 → s.vm.Alike t.vm → post r u → B u t → H.size ≤ H1.size → (∀ q : Nat, q < H.size → ¬ A1 q → H1[q]? = H[q]?) → va_S A0 H0 H1 locs1 → W p l e R s m args below meth c H1 locs1 (cells + mc) (slots + ms) Q (F0 m (pc + 3) ls (.double r :: rest))) : W p l e R s m args below meth c H locs cells slots Q (F0 m pc ls st0) := by
  intro T hT X
  rcases hr T hT X with ⟨v, st₀, t, T', L, h0, X', hL, e1, e2, ⟨⟨r, u, hv, hp, hb⟩, hF⟩, st⟩ | ⟨q, st₀, t, T', L, E, ce, h0, X', hL, e1, e2, ⟨u, hp, hb, hF⟩, hce, hcv, hcl, st⟩
  · cases hv
    obtain ⟨k1, k2, k3⟩ := vx_keep h0 e1 hS hA hf hL hF
    obtain ⟨t2, a1, b1⟩ := kk r u t T'.heap (locs ++ L) e1.symm (by rw [← e2]; exact X'.warmed.alike) hp hb k1 k2 k3 T' rfl X'
    exact ⟨t2, st t2 a1, b1⟩
  · obtain ⟨k1, k2, k3⟩ := vx_keep h0 e1 hS hAX hf hL hF
    obtain ⟨t2, a1, b1⟩ := kx E ce q u t T'.heap (locs ++ L) e1.symm (by rw [← e2]; exact X'.warmed.alike) hp hb k1 k2 k3 (by rw [e1]; exact hce) hcv hcl T' rfl X'
    exact ⟨t2, st.trans a1, b1⟩
theorem vx_callv {S SX : Type} {post : S → Prop} {px : SX → Prop} {B : S → State → Prop} {BX : String → SX → State → Prop} {AX : Nat → Prop} (hr : vx_Run p l e R s m args below meth c H locs cells slots mc ms (F0 m pc ls st0) rest (va_Qv post B A1 a) (vx_X px BX AX) free) (hS : va_S A0 H0 H locs) (hA : ∀ q, q < H.size → A1 q → A0 q) (hf : ∀ q, free q → A0 q) (hAX : ∀ q, q < H.size → AX q → A0 q)
    (kx : ∀ (E : String) (ce : Cell) (q9 : Addr) (u : SX) (t : State) (H1 : Heap) (locs1 : List Loc), t.heap = H1 → s.vm.Alike t.vm → px u → BX E u t → H.size ≤ H1.size → (∀ q : Nat, q < H.size → ¬ AX q → H1[q]? = H[q]?) → va_S A0 H0 H1 locs1 → H1[q9]? = some ce → ce.vm = .none → s.vm.findClass E = some ce.cls → vx_W p l e R s m args below meth c H1 locs1 (cells + mc) (slots + ms) Q (F0 m pc ls rest) q9)
    (kk : ∀ (u : S) (t : State) (H1 : Heap) (locs1 : List Loc), t.heap = H1 → s.vm.Alike t.vm → post u → B u t → H.size ≤ H1.size → (∀ q : Nat, q < H.size → ¬ A1 q → H1[q]? = H[q]?) → va_S A0 H0 H1 locs1 → W p l e R s m args below meth c H1 locs1 (cells + mc) (slots + ms) Q (F0 m (pc + 3) ls (rest))) : W p l e R s m args below meth c H locs cells slots Q (F0 m pc ls st0) := by
  intro T hT X
  rcases hr T hT X with ⟨v, st₀, t, T', L, h0, X', hL, e1, e2, ⟨⟨u, hv, hp, hb⟩, hF⟩, st⟩ | ⟨q, st₀, t, T', L, E, ce, h0, X', hL, e1, e2, ⟨u, hp, hb, hF⟩, hce, hcv, hcl, st⟩
  · cases hv
    obtain ⟨k1, k2, k3⟩ := vx_keep h0 e1 hS hA hf hL hF
    obtain ⟨t2, a1, b1⟩ := kk u t T'.heap (locs ++ L) e1.symm (by rw [← e2]; exact X'.warmed.alike) hp hb k1 k2 k3 T' rfl X'
    exact ⟨t2, st t2 a1, b1⟩
  · obtain ⟨k1, k2, k3⟩ := vx_keep h0 e1 hS hAX hf hL hF
    obtain ⟨t2, a1, b1⟩ := kx E ce q u t T'.heap (locs ++ L) e1.symm (by rw [← e2]; exact X'.warmed.alike) hp hb k1 k2 k3 (by rw [e1]; exact hce) hcv hcl T' rfl X'
    exact ⟨t2, st.trans a1, b1⟩
/-- caught by the row x of this method's table; the rows ahead don't take it -/
theorem vx_catch {own name : String} {E : String} {ce : Cell} {q : Addr} (hown : s.vm.findClass own = some m.cls) (pre : List ExceptionTableEntry) (x : ExceptionTableEntry) (suf : List ExceptionTableEntry) (hsplit : c.exceptionTable.toList = pre ++ x :: suf)
    (hpass : ∀ z ∈ pre, covers z pc = false ∨ (z.catchType ≠ 0 ∧ ∃ nm : String, (Cond.classLink own z.catchType nm).before args s = true ∧ va_Nc E nm s)) (hx : covers x pc = true) (h0 : x.catchType ≠ 0)
    (hlink : (Cond.classLink own x.catchType name).before args s = true) (hcast : (Cond.castable E name).before args s = true) (hcell : H[q]? = some ce) (hv : ce.vm = .none) (hcl : s.vm.findClass E = some ce.cls)
    (kk : W p l e R s m args below meth c H locs cells slots Q (F0 m x.handlerPc ls [.ref q])) : vx_W p l e R s m args below meth c H locs cells slots Q (F0 m pc ls rest) q := by
  intro T hT X
  have hpl : e.platform.magicAccessors = ({} : Platform).magicAccessors := by rw [X.admits.platform]
  obtain ⟨c3, c4, hc3, hc4, hasg⟩ := Cond.castable_spec hcast
  cases Option.some.inj (hc3.symm.trans hcl)
  obtain ⟨c5, hc5, hcl5⟩ := Cond.classLink_spec hown hlink e.platform hpl
  cases Option.some.inj (hc4.symm.trans hc5)
  obtain ⟨vm', X', st⟩ := X.thenCaughtThrough q (g := F0 m pc ls rest) rfl (Steps.refl _) (by rw [hT]; exact hcell) (by rw [hv]; rfl) (by obtain ⟨k9, h9, -⟩ := Vm.findClass_spec hcl; exact ⟨k9, h9⟩) pre x suf hsplit
    (fun z hz => by
      rcases hpass z hz with h | ⟨hz0, nm, hl1, hn1⟩
      · exact Or.inl h
      · obtain ⟨c6, hc6, hcl6⟩ := Cond.classLink_spec hown hl1 e.platform hpl
        obtain ⟨a8, b8, h1, h2, h3⟩ := hn1
        cases Option.some.inj (h1.symm.trans hcl)
        cases Option.some.inj (h2.symm.trans hc6)
        exact Or.inr ⟨hz0, _, hcl6, h3⟩) hx (Or.inr ⟨h0, c4, hcl5, hasg⟩)
  obtain ⟨t, a1, b1⟩ := kk (T.setVm vm') hT X'
  exact ⟨t, st.trans a1, b1⟩
end Rows
section Ends
variable {p : Program} {l : Launch} {e : Env} {R : Room} {s : State} {m : MethodId} {args : Array Value} {below : List Frame} {meth : Method} {c : Code} {H : Heap} {locs : List Loc} {cells slots : Nat} {Q : State → Prop}
variable {mc ms : Nat} {free : Addr → Prop} {A0 A1 : Nat → Prop} {H0 : Heap} {a : Array Value} {ls : Array Slot} {st0 rest : List Value}
variable {Qc : Array Value → State → Outcome → State → Prop} {XC : String → State → State → Prop}
/-- what a body that may throw owes at its end -/
def vx_MQ (below : List Frame) (Qc : Array Value → State → Outcome → State → Prop) (XC : String → State → State → Prop) (a : Array Value) (s : State) (mc ms : Nat) (free : Addr → Prop) : State → Prop := fun t =>
  ∃ o, t.status = .running ∧ Ended t below o ∧ vx_Q Qc XC mc ms free a s o t
theorem vx_ret {g : JFrame} {mc ms : Nat} (k : W p l e R s m args below meth c H locs cells slots (MQ below Qc args s mc ms free) g) : W p l e R s m args below meth c H locs cells slots (vx_MQ below Qc XC args s mc ms free) g := by
  intro T hT X
  obtain ⟨t, a1, o, b1, b2, b3, b4⟩ := k T hT X
  exact ⟨t, a1, o, b1, b2, Or.inl ⟨b3, b4⟩⟩
/-- not caught here: it goes on to the caller -/
theorem vx_widen {g : JFrame} {q : Addr} {k n : Nat} (h1 : cells ≤ k) (h2 : slots ≤ n) (kk : vx_W p l e R s m args below meth c H locs k n Q g q) : vx_W p l e R s m args below meth c H locs cells slots Q g q := fun T hT X => kk T hT (stand_widen X h1 h2)
theorem vx_out {pc : Nat} {E : String} {ce : Cell} {q : Addr} {mc ms : Nat} (hout : ∀ x ∈ c.exceptionTable.toList, covers x pc = false) (hlocks : meth.locks = false) (hcell : H[q]? = some ce) (hv : ce.vm = .none) (hcl : s.vm.findClass E = some ce.cls)
    (hx : ∀ t : State, t.heap = H → s.vm.Alike t.vm → XC E s t) (hf : ∀ z ∈ locs, free z.base) (hc : cells ≤ mc) (hs : slots ≤ ms) :
    vx_W p l e R s m args below meth c H locs cells slots (vx_MQ below Qc XC args s mc ms free) (F0 m pc ls rest) q := by
  intro T hT X
  obtain ⟨st1, hrun, hend, hW, hsm⟩ := X.leaveThrown q (g := F0 m pc ls rest) rfl rfl rfl hout hlocks
  have hcell9 : (T.setFrames (.throwing q :: below)).heap[q]? = some ce := by
    show T.heap[q]? = some ce
    rw [hT]; exact hcell
  exact ⟨_, st1, .threw q, hrun, hend, Or.inr ⟨q, rfl, E, ce, locs, hx _ hT hW.alike, hcell9, hv, hcl, hW, hsm.mono hc hs, hf⟩⟩
theorem vx_frame {U : State} {k n : Nat} (h : s.sameButNew ({ U with vm := s.vm } : State) locs k n) : s.heap.size ≤ U.heap.size ∧ ∀ q : Nat, q < s.heap.size → (∀ z ∈ locs, z.base ≠ q) → U.heap[q]? = s.heap[q]? := by
  obtain ⟨-, h2, -, -, -, h6⟩ := h
  refine ⟨h2, fun q hq hz => ?_⟩
  obtain ⟨c9, e1, e2, e3, e4⟩ := h6 q _ (Array.getElem?_eq_getElem hq)
  have hs : c9.slots = (s.heap[q]).slots := Array.ext_getElem? fun i => e4 i fun hm => hz _ hm rfl
  have h9 : c9 = s.heap[q] := by
    rw [hs] at e2
    exact e2
  have e5 : U.heap[q]? = some c9 := e1
  rw [e5, h9, Array.getElem?_eq_getElem hq]
/-- the words of a throw but the four that speak of the heap -/
def vx_no (w : Cond) : Bool := decide (w ≠ .isRef (.static Bundle.tN "UNASSIGNED_STACK" Bundle.steD)) && decide (w ≠ .isRef (.static Bundle.tN "SUPPRESSED_SENTINEL" Bundle.listD)) && decide (w ≠ .laysStatic Bundle.tN "UNASSIGNED_STACK" Bundle.steD) && decide (w ≠ .laysStatic Bundle.tN "SUPPRESSED_SENTINEL" Bundle.listD)
def vx_at0 (own : String) (ic : Nat) (X : String) (names : List String) : List Cond := (Bundle.ownAtoms0 own ic X names).filter vx_no
def vx_atS (own : String) (ic : Nat) (X : String) (names : List String) : List Cond := (Bundle.ownAtoms own ic X names).filter vx_no
/-- a word that the tables alone decide, or a good one -/
def vx_ot (w : Cond) : Bool := w.onTables || goodWord w
theorem vx_ot_at {args a' : Array Value} {s U : State} {w : Cond} (hW : s.WarmedH U.vm) (hvm : s.vm = U.vm) (hg : vx_ot w = true) (h : w.before args s = true) : w.before a' U = true := by
  simp only [vx_ot, Bool.or_eq_true] at hg
  rcases hg with hg | hg
  · exact va_tabs hg hvm h
  · exact word_at hW (good_of_word hg) h
/-- a list's words: the good ones out of the method's own list, the others by premises of their own -/
theorem vx_hat {args : Array Value} {s : State} {L B : List Cond} (h1 : ∀ w ∈ L.filter goodWord, w.before args s = true) (h2 : ∀ w ∈ L.filter (fun w => !goodWord w), w ∈ B) (h3 : ∀ w ∈ B, w.before args s = true) : ∀ w ∈ L, w.before args s = true := by
  intro w hw
  by_cases g : goodWord w = true
  · exact h1 w (List.mem_filter.mpr ⟨hw, g⟩)
  · refine h3 w (h2 w (List.mem_filter.mpr ⟨hw, ?_⟩))
    show (!goodWord w) = true
    cases hgw : goodWord w
    · rfl
    · exact absurd hgw g
theorem vx_c {args : Array Value} {s : State} {w : Cond} {B : List Cond} (h : w.before args s = true) (t : ∀ w ∈ B, w.before args s = true) : ∀ w' ∈ w :: B, w'.before args s = true := fun w' h' => (List.mem_cons.mp h').elim (fun e => by rw [e]; exact h) (t w')
theorem vx_n {args : Array Value} {s : State} : ∀ w ∈ ([] : List Cond), w.before args s = true := fun _ h => nomatch h
theorem vx_own {args : Array Value} {s : State} {L : List Cond} (h1 : ∀ w ∈ L.filter vx_no, w.before args s = true)
    (hU : (Cond.isRef (.static Bundle.tN "UNASSIGNED_STACK" Bundle.steD)).before args s = true) (hN : (Cond.isRef (.static Bundle.tN "SUPPRESSED_SENTINEL" Bundle.listD)).before args s = true)
    (lU : (Cond.laysStatic Bundle.tN "UNASSIGNED_STACK" Bundle.steD).before args s = true) (lN : (Cond.laysStatic Bundle.tN "SUPPRESSED_SENTINEL" Bundle.listD).before args s = true) : ∀ w ∈ L, w.before args s = true := by
  intro w hw
  by_cases e1 : w = .isRef (.static Bundle.tN "UNASSIGNED_STACK" Bundle.steD)
  · rw [e1]; exact hU
  · by_cases e2 : w = .isRef (.static Bundle.tN "SUPPRESSED_SENTINEL" Bundle.listD)
    · rw [e2]; exact hN
    · by_cases e3 : w = .laysStatic Bundle.tN "UNASSIGNED_STACK" Bundle.steD
      · rw [e3]; exact lU
      · by_cases e4 : w = .laysStatic Bundle.tN "SUPPRESSED_SENTINEL" Bundle.listD
        · rw [e4]; exact lN
        · exact h1 w (List.mem_filter.mpr ⟨hw, by unfold vx_no; rw [decide_eq_true e1, decide_eq_true e2, decide_eq_true e3, decide_eq_true e4]; rfl⟩)
/-- where a static field lies, its class's statics cell in H -/
def vx_L (C n d : String) (A : Nat → Prop) (U : State) (H : Heap) : Prop := ∃ (c : ClassId) (k : Class) (i : Nat) (f : Field) (a : Nat) (cell : Cell), U.vm.findClass C = some c ∧ U.fieldFound? C n d = some (c, k, i, f) ∧ f.isStatic = true ∧ k.statics = some a ∧ H[a]? = some cell ∧ cell.vm.isStatics = true ∧ cell.cls = c ∧ f.slot < cell.slots.size ∧ k.staticTypes[f.slot]? = some f.type ∧ ¬ A a
theorem vx_L.moved {C n d : String} {A : Nat → Prop} {u U : State} {H : Heap} (hvm : u.vm.Alike U.vm) (h : vx_L C n d A u H) : vx_L C n d A U H := by
  obtain ⟨c, k, i, f, a, cell, h1, h2, h3, h4, h5, h6, h7, h8, h9, h10⟩ := h
  obtain ⟨k', hi', he⟩ := State.fieldFound?_setVm hvm h2
  exact ⟨c, k', i, f, a, cell, by rw [hvm.findClass]; exact h1, hi', h3, by rw [he]; exact h4, h5, h6, h7, h8, by rw [he]; exact h9, h10⟩
theorem vx_L.kept {C n d : String} {A : Nat → Prop} {U : State} {H H1 : Heap} (h : vx_L C n d A U H) (hq : ∀ a : Nat, a < H.size → ¬ A a → H1[a]? = H[a]?) : vx_L C n d A U H1 := by
  obtain ⟨c, k, i, f, a, cell, h1, h2, h3, h4, h5, h6, h7, h8, h9, h10⟩ := h
  exact ⟨c, k, i, f, a, cell, h1, h2, h3, h4, by rw [hq a (Array.getElem?_eq_some_iff.mp h5).1 h10]; exact h5, h6, h7, h8, h9, h10⟩
theorem vx_L.narrow {C n d : String} {A B : Nat → Prop} {U : State} {H : Heap} (h : vx_L C n d A U H) (hAB : ∀ q, B q → A q) : vx_L C n d B U H := by
  obtain ⟨c, k, i, f, a, cell, h1, h2, h3, h4, h5, h6, h7, h8, h9, h10⟩ := h
  exact ⟨c, k, i, f, a, cell, h1, h2, h3, h4, h5, h6, h7, h8, h9, fun z => h10 (hAB _ z)⟩
theorem vx_L.word {C n d : String} {A : Nat → Prop} {s : State} {args : Array Value} (h : vx_L C n d A s s.heap) : (Cond.laysStatic C n d).before args s = true := by
  obtain ⟨c, k, i, f, a, cell, h1, h2, h3, h4, h5, h6, h7, h8, h9, -⟩ := h
  show (Cond.laysStatic C n d).holds args s none s [] = true
  exact Cond.laysStatic_of h1 h2 h3 h4 h5 h6 h7 h8 h9
/-- .. and what it holds: null or some reference -/
def vx_Zq (C n d : String) (A : Nat → Prop) (U : State) (H : Heap) : Prop := va_Zq C n d A U H ∧ vx_L C n d A U H
theorem vx_Zq.moved {C n d : String} {A : Nat → Prop} {u U : State} {H : Heap} (hvm : u.vm.Alike U.vm) (h : vx_Zq C n d A u H) : vx_Zq C n d A U H := ⟨va_Zq.moved hvm h.1, vx_L.moved hvm h.2⟩
theorem vx_Zq.kept {C n d : String} {A : Nat → Prop} {U : State} {H H1 : Heap} (h : vx_Zq C n d A U H) (hq : ∀ a : Nat, a < H.size → ¬ A a → H1[a]? = H[a]?) : vx_Zq C n d A U H1 := ⟨va_Zq.kept h.1 hq, vx_L.kept h.2 hq⟩
theorem vx_Zq.narrow {C n d : String} {A B : Nat → Prop} {U : State} {H : Heap} (h : vx_Zq C n d A U H) (hAB : ∀ q, B q → A q) : vx_Zq C n d B U H := ⟨va_Zq.narrow h.1 hAB, vx_L.narrow h.2 hAB⟩
theorem vx_Zqof {args : Array Value} {s : State} {C n d : String} {A : Nat → Prop} (hl : (Cond.laysStatic C n d).before args s = true) (hini : (Cond.initialized C).before args s = true) (h : (Cond.isRef (.static C n d)).before args s = true) (hA : ∀ a : Nat, a < s.heap.size → ¬ A a) : vx_Zq C n d A s s.heap := by
  refine ⟨va_Zqof hl hini h hA, ?_⟩
  obtain ⟨c, k, i, f, a, cell, h1, h2, h3, h4, h5, h6, h7, h8, h9⟩ := Cond.laysStatic_spec hl
  exact ⟨c, k, i, f, a, cell, h1, h2, h3, h4, h5, h6, h7, h8, h9, hA a (Array.getElem?_eq_some_iff.mp h5).1⟩
theorem vx_isRef {C n d : String} {v : Value} {A : Nat → Prop} {s : State} {args : Array Value} (h : va_Z C n d v A s s.heap) (hv : v.isRef = true) : (Cond.isRef (.static C n d)).before args s = true := by
  obtain ⟨cf, kf, fi, f, a, cell, h1, h2, h3, h4, h5, h6, h7, -⟩ := h
  have he : (Term.static C n d).eval args s none [] s = some v := by
    simp [Term.eval, State.fieldNamed?, h1, h2, h4, h5, h6, h7]
  simp only [Cond.before, Cond.holds, Cond.value, he]
  cases v <;> simp_all [Value.isRef]
theorem vx_isRefq {C n d : String} {A : Nat → Prop} {s : State} {args : Array Value} (h : va_Zq C n d A s s.heap) : (Cond.isRef (.static C n d)).before args s = true := by
  rcases h with h | ⟨t, h⟩
  · exact vx_isRef h rfl
  · exact vx_isRef h rfl
/-- the same frame, seen from here: as if the method were called anew in this heap -/
theorem vx_rebase {T : State} (X : Stand p l e R s m args below meth c T locs cells slots) {R' : Room} (hf : R'.frames ≤ R.frames) (hl : R'.locals ≤ R.locals) (hc : cells + R'.cells ≤ R.cells) (hs : slots + R'.slots ≤ R.slots) :
    Stand p l e R' ((T.setVm s.vm).setFrames (.invoking m args :: below)) m args below meth c T [] 0 0 := by
  have htop : (T.setVm s.vm).topJava?.isSome := X.here.top
  have hF : ((T.setVm s.vm).setFrames (.invoking m args :: below)).frames = .invoking m args :: below := State.frames_setFrames _ (State.cur_lt_of_top htop)
  obtain ⟨g₀, hg0⟩ := Option.isSome_iff_exists.mp htop
  obtain ⟨r, hr⟩ := State.topJava?_eq_some.mp hg0
  have hl9 : e.platform.stackLimits (T.setVm s.vm).me = e.platform.stackLimits s.me := X.limits
  have hb9 : (T.setVm s.vm).me.stackBytes = s.me.stackBytes := X.bytes
  refine ⟨X.admits, X.cas, X.clock, hF, ?_, X.hears, X.method, X.code, X.here, X.tail, X.warmed, ?_, ?_, ?_⟩
  · have h := X.room
    have hU : ((T.setVm s.vm).setFrames (.invoking m args :: below)).localsInUse = s.localsInUse := by
      rw [State.localsInUse_invoking hF (meth := meth) (c := c) X.method X.code, State.localsInUse_invoking X.frames X.method X.code]
    simp only [State.hasRoom, Bool.and_eq_true, decide_eq_true_eq] at h ⊢
    obtain ⟨⟨⟨⟨h1, h2, h3, h4, h5, h6⟩, h7⟩, h8⟩, h9⟩ := h
    rw [X.frames, List.length_cons] at h2 h3
    have q1 := X.heapSize
    have q2 := X.used
    simp only [hF, hU, List.length_cons, State.stackLimits_setFrames, State.stackBytes_setFrames, hl9, hb9]
    refine ⟨⟨⟨⟨by omega, by omega, by omega, by omega, by omega, h6⟩, ?_⟩, ?_⟩, X.book⟩
    · show T.heap.size + R'.cells ≤ e.platform.maxCells
      omega
    · show T.slotsUsed + R'.slots ≤ e.platform.maxSlots
      omega
  · rw [State.stackLimits_setFrames]; rfl
  · rw [State.stackBytes_setFrames]; rfl
  · refine ⟨?_, Nat.le_refl _, Nat.le_refl _, ?_, ?_, fun a c9 h9 => ⟨c9, h9, rfl, rfl, fun _ _ => rfl⟩⟩
    · obtain ⟨t, ht, -⟩ := State.frames_cons hr
      show T.setVm s.vm = { ((T.setVm s.vm).setFrames (.invoking m args :: below)).setFrames (T.setVm s.vm).frames with heap := T.heap, slotsUsed := T.slotsUsed }
      rw [State.setFrames_setFrames, State.setFrames_self ht]
      rfl
    · show T.slotsUsed = T.slotsUsed + ((T.heap.toList.drop T.heap.size).map (·.slots.size)).sum
      rw [List.drop_eq_nil_of_le (Nat.le_of_eq Array.length_toList)]
      rfl
    · show ((T.heap.toList.drop T.heap.size).map (·.slots.size)).sum ≤ 0
      rw [List.drop_eq_nil_of_le (Nat.le_of_eq Array.length_toList)]
      exact Nat.le_refl _
/-- 'throw new E()': new; dup; invokespecial; athrow -/
theorem vx_throw0 {cc : ByteArray} {pc : Nat} (hexec : p.tables.exec = Jvm.exec) (hb : c.code = cc) (hl : l.stackTraces = false) {own cls : String} {names : List String} {ik ic mc ms : Nat} {A : Nat → Prop}
    (hown : s.vm.findClass own = some m.cls) (hcls : Bundle.fit cls = true) (hnames : ∀ n ∈ names, Bundle.fit n = true)
    (hk : (Cond.classLink own ik cls).before args s = true) (hini : (Cond.initialized cls).before args s = true) (hat : ∀ w ∈ vx_at0 own ic cls names, w.before args s = true)
    (hgood : ∀ w ∈ Cond.classLink own ik cls :: Cond.initialized cls :: vx_at0 own ic cls names, vx_ot w = true)
    (hU : vx_Zq Bundle.tN "UNASSIGNED_STACK" Bundle.steD A s s.heap) (hN : vx_Zq Bundle.tN "SUPPRESSED_SENTINEL" Bundle.listD A s s.heap) (hS : va_S A s.heap H locs) (hsize : ls.size = c.maxLocals)
    (d0 : decode cc pc = .ok (.new ik, 3)) (d3 : decode cc (pc + 3) = .ok (.dup, 1)) (d4 : decode cc (pc + 4) = .ok (.invokespecial ic, 3)) (d7 : decode cc (pc + 7) = .ok (.athrow, 1))
    (hout : ∀ x ∈ c.exceptionTable.toList, covers x (pc + 7) = false)
    (hRframes : names.length + 3 < R.frames) (hRlocals : (rest.map fun v => v.category).sum + (13 * (names.length + 1) + 42) ≤ R.locals) (hRcells : cells + 1 ≤ R.cells) (hRslots : slots + 6 ≤ R.slots) (hlocks : meth.locks = false)
    (hx : ∀ t : State, s.vm.Alike t.vm → H.size ≤ t.heap.size → (∀ q : Nat, q < H.size → t.heap[q]? = H[q]?) → XC cls s t)
    (hf : ∀ z ∈ locs, free z.base) (hc : cells + 1 ≤ mc) (hs : slots + 6 ≤ ms) :
    W p l e R s m args below meth c H locs cells slots (vx_MQ below Qc XC args s mc ms free) (F0 m pc ls rest) := by
  intro T hT X
  have htr : e.platform.stackTraces = false := (show e.platform.stackTraces = l.stackTraces by rw [X.admits.platform]).trans hl
  have Y := vx_rebase X (R' := { frames := R.frames, locals := R.locals, cells := 1, slots := 6 }) (Nat.le_refl _) (Nat.le_refl _) hRcells hRslots
  obtain ⟨s', hA⟩ : ∃ z, z = (T.setVm s.vm).setFrames (.invoking m args :: below) := ⟨_, rfl⟩
  rw [← hA] at Y
  have hvm : s'.vm = s.vm := by rw [hA]; rfl
  have hhp : s'.heap = H := by rw [hA]; exact hT
  have hW0 : s.WarmedH s'.vm := by rw [hvm]; exact State.WarmedH.refl s
  have hat' : ∀ w ∈ vx_at0 own ic cls names, w.before args s' = true := fun w hw => vx_ot_at hW0 hvm.symm (hgood w (List.mem_cons_of_mem _ (List.mem_cons_of_mem _ hw))) (hat w hw)
  have hk' : (Cond.classLink own ik cls).before args s' = true := vx_ot_at hW0 hvm.symm (hgood _ List.mem_cons_self) hk
  have hini' : (Cond.initialized cls).before args s' = true := vx_ot_at hW0 hvm.symm (hgood _ (List.mem_cons_of_mem _ List.mem_cons_self)) hini
  have hU' : vx_Zq Bundle.tN "UNASSIGNED_STACK" Bundle.steD A s' s'.heap := by rw [hhp]; exact vx_Zq.moved hW0.alike (hU.kept hS.2.1)
  have hN' : vx_Zq Bundle.tN "SUPPRESSED_SENTINEL" Bundle.listD A s' s'.heap := by rw [hhp]; exact vx_Zq.moved hW0.alike (hN.kept hS.2.1)
  have h : ∀ w ∈ Bundle.ownAtoms0 own ic cls names, w.before args s' = true := vx_own hat' (vx_isRefq hU'.1) (vx_isRefq hN'.1) hU'.2.word hN'.2.word
  have hown' : s'.vm.findClass own = some m.cls := by rw [hvm]; exact hown
  have hins : (Cond.instantiable cls 6).before args s' = true := h _ (by simp [Bundle.ownAtoms0])
  obtain ⟨vm₁, cX, kX, hfX, hkX, -, -, X₁, st1⟩ := Y.newCold hexec (own := own) (C := cls) (index := ik) (n := 6) hown' hk' hins hini'
    (g := F0 m pc ls rest) rfl (by rw [hb]; exact d0) (Nat.le_refl _) (Nat.le_refl _)
  generalize hT1 : (T.setVm vm₁).pushCell { cls := cX, slots := kX.instanceTypes.map defaultValue, vm := .none } = T1 at X₁ st1
  have hcat : (Value.ref T.heap.size).category = 1 := rfl
  have hcellA : T1.heap[T.heap.size]? = some (freshCell cX kX) := by rw [← hT1]; exact State.heap_pushCell_size _ _
  have d3' : decode c.code (pc + 3) = .ok (.dup, 1) := by rw [hb]; exact d3
  obtain ⟨U, hsteps, hrun, hend, hW, hsame, ce, hce, hO⟩ := X₁.ctorThrow0 hexec htr (own := own) (cls := cls) (names := names) (ic := ic) hown' hcls hnames h (fun x hx => nomatch hx) hfX hkX hcellA (by rw [hhp, hT]; exact Nat.le_refl _)
    (g := { method := m, pc := pc + 4, locals := ls, stack := .ref T.heap.size :: .ref T.heap.size :: rest, locked := none }) rfl hsize rfl rfl (rest := rest) rfl
    (by rw [hb]; exact d4) (by rw [hb]; exact d7) hout hRframes (by simp only [List.map_cons, List.sum_cons, hcat]; omega) hlocks
  obtain ⟨f1, f2⟩ := vx_frame hsame
  rw [hhp] at f1 f2
  have hWs : s.WarmedH U.vm := State.WarmedH.trans hW0 hW
  have hcl : s.vm.findClass cls = some ce.cls := by
    have h9 := hO.cls
    rw [hvm] at h9
    exact h9
  have hall : s.sameButNew ({ U with vm := s.vm } : State) locs mc ms := by
    subst hA
    obtain ⟨e1, e2⟩ := hsame
    rw [State.setFrames_setFrames] at e1
    have h2 : (T.setVm s.vm).sameButNew ({ U with vm := s.vm } : State) [] (0 + 1) (0 + 6) := ⟨e1, e2⟩
    have h3 := X.same.trans h2
    rw [List.append_nil] at h3
    exact h3.mono hc hs
  refine ⟨U, ?_, .threw T.heap.size, hrun, hend, Or.inr ⟨T.heap.size, rfl, cls, ce, locs, hx U hWs.alike f1 (fun q hq => f2 q hq (fun z hz => nomatch hz)), hce, hO.vm, hcl, hWs, hall, hf⟩⟩
  refine st1 _ ?_
  show Steps p.tables e below (T1.setTop { method := m, pc := pc + 3, locals := ls, stack := .ref T.heap.size :: rest, locked := none }) _
  jvm_step X₁.here [X₁.here.top, hexec, d3', Value.category]
  exact hsteps
/-- 'throw new E("text")': new; dup; ldc; invokespecial; athrow -/
theorem vx_throwS {cc : ByteArray} {pc : Nat} (hexec : p.tables.exec = Jvm.exec) (hb : c.code = cc) (hl : l.stackTraces = false) {own cls text : String} {names : List String} {ik is ic mc ms sa : Nat} {A : Nat → Prop}
    (hown : s.vm.findClass own = some m.cls) (hcls : Bundle.fit cls = true) (hnames : ∀ n ∈ names, Bundle.fit n = true)
    (hk : (Cond.classLink own ik cls).before args s = true) (hini : (Cond.initialized cls).before args s = true) (hstr : vk_R own is text sa s) (hat : ∀ w ∈ vx_atS own ic cls names, w.before args s = true)
    (hgood : ∀ w ∈ Cond.classLink own ik cls :: Cond.initialized cls :: vx_atS own ic cls names, vx_ot w = true)
    (hU : vx_Zq Bundle.tN "UNASSIGNED_STACK" Bundle.steD A s s.heap) (hN : vx_Zq Bundle.tN "SUPPRESSED_SENTINEL" Bundle.listD A s s.heap) (hS : va_S A s.heap H locs) (hsize : ls.size = c.maxLocals)
    (d0 : decode cc pc = .ok (.new ik, 3)) (d3 : decode cc (pc + 3) = .ok (.dup, 1)) (d4 : decode cc (pc + 4) = .ok (.ldc is, 2)) (d6 : decode cc (pc + 6) = .ok (.invokespecial ic, 3)) (d9 : decode cc (pc + 9) = .ok (.athrow, 1))
    (hout : ∀ x ∈ c.exceptionTable.toList, covers x (pc + 9) = false)
    (hRframes : names.length + 3 < R.frames) (hRlocals : (rest.map fun v => v.category).sum + (13 * (names.length + 1) + 43) ≤ R.locals) (hRcells : cells + 1 ≤ R.cells) (hRslots : slots + 6 ≤ R.slots) (hlocks : meth.locks = false)
    (hx : ∀ t : State, s.vm.Alike t.vm → H.size ≤ t.heap.size → (∀ q : Nat, q < H.size → t.heap[q]? = H[q]?) → XC cls s t)
    (hf : ∀ z ∈ locs, free z.base) (hc : cells + 1 ≤ mc) (hs : slots + 6 ≤ ms) :
    W p l e R s m args below meth c H locs cells slots (vx_MQ below Qc XC args s mc ms free) (F0 m pc ls rest) := by
  intro T hT X
  have htr : e.platform.stackTraces = false := (show e.platform.stackTraces = l.stackTraces by rw [X.admits.platform]).trans hl
  have Y := vx_rebase X (R' := { frames := R.frames, locals := R.locals, cells := 1, slots := 6 }) (Nat.le_refl _) (Nat.le_refl _) hRcells hRslots
  obtain ⟨s', hA⟩ : ∃ z, z = (T.setVm s.vm).setFrames (.invoking m args :: below) := ⟨_, rfl⟩
  rw [← hA] at Y
  have hvm : s'.vm = s.vm := by rw [hA]; rfl
  have hhp : s'.heap = H := by rw [hA]; exact hT
  have hW0 : s.WarmedH s'.vm := by rw [hvm]; exact State.WarmedH.refl s
  have hat' : ∀ w ∈ vx_atS own ic cls names, w.before args s' = true := fun w hw => vx_ot_at hW0 hvm.symm (hgood w (List.mem_cons_of_mem _ (List.mem_cons_of_mem _ hw))) (hat w hw)
  have hk' : (Cond.classLink own ik cls).before args s' = true := vx_ot_at hW0 hvm.symm (hgood _ List.mem_cons_self) hk
  have hini' : (Cond.initialized cls).before args s' = true := vx_ot_at hW0 hvm.symm (hgood _ (List.mem_cons_of_mem _ List.mem_cons_self)) hini
  have hU' : vx_Zq Bundle.tN "UNASSIGNED_STACK" Bundle.steD A s' s'.heap := by rw [hhp]; exact vx_Zq.moved hW0.alike (hU.kept hS.2.1)
  have hN' : vx_Zq Bundle.tN "SUPPRESSED_SENTINEL" Bundle.listD A s' s'.heap := by rw [hhp]; exact vx_Zq.moved hW0.alike (hN.kept hS.2.1)
  have h : ∀ w ∈ Bundle.ownAtoms own ic cls names, w.before args s' = true := vx_own hat' (vx_isRefq hU'.1) (vx_isRefq hN'.1) hU'.2.word hN'.2.word
  have hown' : s'.vm.findClass own = some m.cls := by rw [hvm]; exact hown
  have hins : (Cond.instantiable cls 6).before args s' = true := h _ (by simp [Bundle.ownAtoms])
  obtain ⟨vm₁, cX, kX, hfX, hkX, -, -, X₁, st1⟩ := Y.newCold hexec (own := own) (C := cls) (index := ik) (n := 6) hown' hk' hins hini'
    (g := F0 m pc ls rest) rfl (by rw [hb]; exact d0) (Nat.le_refl _) (Nat.le_refl _)
  generalize hT1 : (T.setVm vm₁).pushCell { cls := cX, slots := kX.instanceTypes.map defaultValue, vm := .none } = T1 at X₁ st1
  have hcat : (Value.ref T.heap.size).category = 1 := rfl
  have hcellA : T1.heap[T.heap.size]? = some (freshCell cX kX) := by rw [← hT1]; exact State.heap_pushCell_size _ _
  have d3' : decode c.code (pc + 3) = .ok (.dup, 1) := by rw [hb]; exact d3
  have d4' : decode c.code (pc + 4) = .ok (.ldc is, 2) := by rw [hb]; exact d4
  have hstr' : vk_R own is text sa s' := vk_R.warm hW0 hstr
  obtain ⟨U, hsteps, hrun, hend, hW, hsame, ce, hce, hO⟩ := X₁.ctorThrowS hexec htr (own := own) (cls := cls) (names := names) (ic := ic) hown' hcls hnames h (fun x hx => nomatch hx) hfX hkX hcellA (by rw [hhp, hT]; exact Nat.le_refl _) (msg := .ref sa) rfl
    (g := { method := m, pc := pc + 6, locals := ls, stack := .ref sa :: .ref T.heap.size :: .ref T.heap.size :: rest, locked := none }) rfl hsize rfl rfl (rest := rest) rfl
    (by rw [hb]; exact d6) (by rw [hb]; exact d9) hout hRframes (by simp only [List.map_cons, List.sum_cons, hcat]; omega) hlocks
  obtain ⟨f1, f2⟩ := vx_frame hsame
  rw [hhp] at f1 f2
  have hWs : s.WarmedH U.vm := State.WarmedH.trans hW0 hW
  have hcl : s.vm.findClass cls = some ce.cls := by
    have h9 := hO.cls
    rw [hvm] at h9
    exact h9
  have hall : s.sameButNew ({ U with vm := s.vm } : State) locs mc ms := by
    subst hA
    obtain ⟨e1, e2⟩ := hsame
    rw [State.setFrames_setFrames] at e1
    have h2 : (T.setVm s.vm).sameButNew ({ U with vm := s.vm } : State) [] (0 + 1) (0 + 6) := ⟨e1, e2⟩
    have h3 := X.same.trans h2
    rw [List.append_nil] at h3
    exact h3.mono hc hs
  refine ⟨U, ?_, .threw T.heap.size, hrun, hend, Or.inr ⟨T.heap.size, rfl, cls, ce, locs, hx U hWs.alike f1 (fun q hq => f2 q hq (fun z hz => nomatch hz)), hce, hO.vm, hcl, hWs, hall, hf⟩⟩
  refine st1 _ ?_
  show Steps p.tables e below (T1.setTop { method := m, pc := pc + 3, locals := ls, stack := .ref T.heap.size :: rest, locked := none }) _
  jvm_step X₁.here [X₁.here.top, hexec, d3', Value.category]
  exact X₁.ldcString hexec (own := own) (text := text) (index := is) (a := sa) hown' hstr'.1 hstr'.2
    (g := { method := m, pc := pc + 4, locals := ls, stack := .ref T.heap.size :: .ref T.heap.size :: rest, locked := none }) rfl d4' _ hsteps
/-- 'throw new E("text")', the text by a wide index -/
theorem vx_throwSW {cc : ByteArray} {pc : Nat} (hexec : p.tables.exec = Jvm.exec) (hb : c.code = cc) (hl : l.stackTraces = false) {own cls text : String} {names : List String} {ik is ic mc ms sa : Nat} {A : Nat → Prop}
    (hown : s.vm.findClass own = some m.cls) (hcls : Bundle.fit cls = true) (hnames : ∀ n ∈ names, Bundle.fit n = true)
    (hk : (Cond.classLink own ik cls).before args s = true) (hini : (Cond.initialized cls).before args s = true) (hstr : vk_R own is text sa s) (hat : ∀ w ∈ vx_atS own ic cls names, w.before args s = true)
    (hgood : ∀ w ∈ Cond.classLink own ik cls :: Cond.initialized cls :: vx_atS own ic cls names, vx_ot w = true)
    (hU : vx_Zq Bundle.tN "UNASSIGNED_STACK" Bundle.steD A s s.heap) (hN : vx_Zq Bundle.tN "SUPPRESSED_SENTINEL" Bundle.listD A s s.heap) (hS : va_S A s.heap H locs) (hsize : ls.size = c.maxLocals)
    (d0 : decode cc pc = .ok (.new ik, 3)) (d3 : decode cc (pc + 3) = .ok (.dup, 1)) (d4 : decode cc (pc + 4) = .ok (.ldc_w is, 3)) (d7 : decode cc (pc + 7) = .ok (.invokespecial ic, 3)) (d10 : decode cc (pc + 10) = .ok (.athrow, 1))
    (hout : ∀ x ∈ c.exceptionTable.toList, covers x (pc + 10) = false)
    (hRframes : names.length + 3 < R.frames) (hRlocals : (rest.map fun v => v.category).sum + (13 * (names.length + 1) + 43) ≤ R.locals) (hRcells : cells + 1 ≤ R.cells) (hRslots : slots + 6 ≤ R.slots) (hlocks : meth.locks = false)
    (hx : ∀ t : State, s.vm.Alike t.vm → H.size ≤ t.heap.size → (∀ q : Nat, q < H.size → t.heap[q]? = H[q]?) → XC cls s t)
    (hf : ∀ z ∈ locs, free z.base) (hc : cells + 1 ≤ mc) (hs : slots + 6 ≤ ms) :
    W p l e R s m args below meth c H locs cells slots (vx_MQ below Qc XC args s mc ms free) (F0 m pc ls rest) := by
  intro T hT X
  have htr : e.platform.stackTraces = false := (show e.platform.stackTraces = l.stackTraces by rw [X.admits.platform]).trans hl
  have Y := vx_rebase X (R' := { frames := R.frames, locals := R.locals, cells := 1, slots := 6 }) (Nat.le_refl _) (Nat.le_refl _) hRcells hRslots
  obtain ⟨s', hA⟩ : ∃ z, z = (T.setVm s.vm).setFrames (.invoking m args :: below) := ⟨_, rfl⟩
  rw [← hA] at Y
  have hvm : s'.vm = s.vm := by rw [hA]; rfl
  have hhp : s'.heap = H := by rw [hA]; exact hT
  have hW0 : s.WarmedH s'.vm := by rw [hvm]; exact State.WarmedH.refl s
  have hat' : ∀ w ∈ vx_atS own ic cls names, w.before args s' = true := fun w hw => vx_ot_at hW0 hvm.symm (hgood w (List.mem_cons_of_mem _ (List.mem_cons_of_mem _ hw))) (hat w hw)
  have hk' : (Cond.classLink own ik cls).before args s' = true := vx_ot_at hW0 hvm.symm (hgood _ List.mem_cons_self) hk
  have hini' : (Cond.initialized cls).before args s' = true := vx_ot_at hW0 hvm.symm (hgood _ (List.mem_cons_of_mem _ List.mem_cons_self)) hini
  have hU' : vx_Zq Bundle.tN "UNASSIGNED_STACK" Bundle.steD A s' s'.heap := by rw [hhp]; exact vx_Zq.moved hW0.alike (hU.kept hS.2.1)
  have hN' : vx_Zq Bundle.tN "SUPPRESSED_SENTINEL" Bundle.listD A s' s'.heap := by rw [hhp]; exact vx_Zq.moved hW0.alike (hN.kept hS.2.1)
  have h : ∀ w ∈ Bundle.ownAtoms own ic cls names, w.before args s' = true := vx_own hat' (vx_isRefq hU'.1) (vx_isRefq hN'.1) hU'.2.word hN'.2.word
  have hown' : s'.vm.findClass own = some m.cls := by rw [hvm]; exact hown
  have hins : (Cond.instantiable cls 6).before args s' = true := h _ (by simp [Bundle.ownAtoms])
  obtain ⟨vm₁, cX, kX, hfX, hkX, -, -, X₁, st1⟩ := Y.newCold hexec (own := own) (C := cls) (index := ik) (n := 6) hown' hk' hins hini'
    (g := F0 m pc ls rest) rfl (by rw [hb]; exact d0) (Nat.le_refl _) (Nat.le_refl _)
  generalize hT1 : (T.setVm vm₁).pushCell { cls := cX, slots := kX.instanceTypes.map defaultValue, vm := .none } = T1 at X₁ st1
  have hcat : (Value.ref T.heap.size).category = 1 := rfl
  have hcellA : T1.heap[T.heap.size]? = some (freshCell cX kX) := by rw [← hT1]; exact State.heap_pushCell_size _ _
  have d3' : decode c.code (pc + 3) = .ok (.dup, 1) := by rw [hb]; exact d3
  have d4' : decode c.code (pc + 4) = .ok (.ldc_w is, 3) := by rw [hb]; exact d4
  have hstr' : vk_R own is text sa s' := vk_R.warm hW0 hstr
  obtain ⟨U, hsteps, hrun, hend, hW, hsame, ce, hce, hO⟩ := X₁.ctorThrowS hexec htr (own := own) (cls := cls) (names := names) (ic := ic) hown' hcls hnames h (fun x hx => nomatch hx) hfX hkX hcellA (by rw [hhp, hT]; exact Nat.le_refl _) (msg := .ref sa) rfl
    (g := { method := m, pc := pc + 7, locals := ls, stack := .ref sa :: .ref T.heap.size :: .ref T.heap.size :: rest, locked := none }) rfl hsize rfl rfl (rest := rest) rfl
    (by rw [hb]; exact d7) (by rw [hb]; exact d10) hout hRframes (by simp only [List.map_cons, List.sum_cons, hcat]; omega) hlocks
  obtain ⟨f1, f2⟩ := vx_frame hsame
  rw [hhp] at f1 f2
  have hWs : s.WarmedH U.vm := State.WarmedH.trans hW0 hW
  have hcl : s.vm.findClass cls = some ce.cls := by
    have h9 := hO.cls
    rw [hvm] at h9
    exact h9
  have hall : s.sameButNew ({ U with vm := s.vm } : State) locs mc ms := by
    subst hA
    obtain ⟨e1, e2⟩ := hsame
    rw [State.setFrames_setFrames] at e1
    have h2 : (T.setVm s.vm).sameButNew ({ U with vm := s.vm } : State) [] (0 + 1) (0 + 6) := ⟨e1, e2⟩
    have h3 := X.same.trans h2
    rw [List.append_nil] at h3
    exact h3.mono hc hs
  refine ⟨U, ?_, .threw T.heap.size, hrun, hend, Or.inr ⟨T.heap.size, rfl, cls, ce, locs, hx U hWs.alike f1 (fun q hq => f2 q hq (fun z hz => nomatch hz)), hce, hO.vm, hcl, hWs, hall, hf⟩⟩
  refine st1 _ ?_
  show Steps p.tables e below (T1.setTop { method := m, pc := pc + 3, locals := ls, stack := .ref T.heap.size :: rest, locked := none }) _
  jvm_step X₁.here [X₁.here.top, hexec, d3', Value.category]
  exact X₁.ldcStringW hexec (own := own) (text := text) (index := is) (a := sa) hown' hstr'.1 hstr'.2
    (g := { method := m, pc := pc + 4, locals := ls, stack := .ref T.heap.size :: .ref T.heap.size :: rest, locked := none }) rfl d4' _ hsteps
end Ends
section Bodies
variable {l : Launch}
theorem vx_ofW {y : MethodName} {ws ws' : List Cond} {rm : Room} {Pc : Array Value → State → Prop} {Qc : Array Value → State → Outcome → State → Prop} {XC : String → State → State → Prop} {mc ms : Nat} {free : Addr → Prop} {cc : ByteArray} {maxL : Nat} {ret : Option FieldType}
    (hy : plainName y.cls = true) (hw : ws = Cond.code y cc maxL ret :: ws')
    (body : ∀ p e s m args below meth c s₁, BodyLoose p l y (headSpec ws rm) cc maxL ret e s m args below meth c s₁ → c.maxLocals = maxL → (∀ x ∈ c.exceptionTable.toList, False) → Pc args s →
      W p l e (headSpec ws rm).room s m args below meth c s.heap [] 0 0 (vx_MQ below Qc XC args s mc ms free) (entryFrame m args maxL)) : vx_Met l y ws rm Pc Qc XC mc ms free := by
  refine MetFree.of_bodyS (code := cc) (maxLocals := maxL) (ret := ret) hy ?_ ?_
  · intro args s m h hn
    obtain ⟨meth, c, h1, h2, h3, h4, h5, h6, -, -⟩ := Cond.code_spec hn (atoms_spec (ws := ws) h _ (by rw [hw]; exact List.mem_cons_self))
    exact ⟨meth, c, h1, h2, h3, h4, h5, h6⟩
  · intro p e s m args below meth c s₁ B hml hP _
    have hh0 : s₁.heap = s.heap := by rw [B.state]; rfl
    have ht : ∀ x ∈ c.exceptionTable.toList, False := by
      obtain ⟨meth9, c9, h1, h2, -, -, -, -, h7, -⟩ := Cond.code_spec B.named (atoms_spec (ws := ws) B.pre _ (by rw [hw]; exact List.mem_cons_self))
      cases Option.some.inj (h1.symm.trans B.method)
      cases Option.some.inj (h2.symm.trans (Stand.of_body B).code)
      intro x hx
      rw [Array.isEmpty_iff.mp h7] at hx
      cases hx
    obtain ⟨t, a1, o, b1, b2, b3⟩ := body p e s m args below meth c s₁ B hml ht hP s₁ hh0 (Stand.of_body B)
    exact ⟨t, o, a1, b1, b2, b3⟩
/-- the table of a body with handlers -/
theorem vx_table {p : Program} {x y : MethodName} {S : Spec} {cc bytes : ByteArray} {maxL maxL' : Nat} {ret ret' : Option FieldType} {e : Env} {s s₁ : State} {m : MethodId} {args : Array Value} {below : List Frame} {meth : Method} {c : Code} {hh : List (Nat × Nat × Nat × Nat)}
    (B : BodyLoose p l y S cc maxL ret e s m args below meth c s₁) (h : (Cond.codeWith y bytes maxL' ret' hh).before args s = true) : c.exceptionTable.toList = tableOf hh := by
  obtain ⟨m9, meth9, c9, hn9, h1, h2, -, -, h6, -⟩ := Cond.codeWith_spec h
  cases Option.some.inj (hn9.symm.trans B.named)
  cases Option.some.inj (h1.symm.trans B.method)
  cases Option.some.inj (h2.symm.trans (Stand.of_body B).code)
  rw [← h6, table_eq]
end Bodies
end VXA
/-! ===== END ===== -/
/-! ===== BEGIN a static call of a method with an exception table ===== -/
section VXS
variable {p : Program} {l : Launch} {e : Env} {R : Room} {s : State} {m : MethodId} {args : Array Value} {below : List Frame} {meth : Method} {c : Code} {T : State} {H : Heap} {locs : List Loc} {cells slots : Nat}
abbrev vx_CSW (R : Room) (s : State) (args : Array Value) (own : String) (index : Nat) (y : MethodName) (bytes : ByteArray) (maxL : Nat) (ret : Option FieldType) (hh : List (Nat × Nat × Nat × Nat)) (ws : List Cond) (rm : Room) (mc ms n : Nat) : Prop :=
  (rm.cells = mc ∧ rm.slots = ms ∧ rm.frames + 1 ≤ R.frames ∧ 8 + (maxL + 11) + rm.locals ≤ R.locals ∧ (∀ w ∈ ws, ∀ (a' : Array Value) (U : State), s.WarmedH U.vm → w.before a' U = true) ∧ Cond.codeWith y bytes maxL ret hh ∈ ws) ∧
  (Cond.codeWith y bytes maxL ret hh).before args s = true ∧ (Cond.initialized y.cls).before args s = true ∧ (y.cls ≠ "java/lang/invoke/MethodHandle" ∧ y.cls ≠ "java/lang/invoke/VarHandle") ∧
  (∀ sig, parseMethodDescriptor y.desc = some sig → n = sig.parameters.length) ∧ (Cond.methodLink own index y).before args s = true ∧ (Cond.static y).before args s = true
theorem vx_cwSW {own : String} {index maxL mc ms : Nat} {y : MethodName} {bytes : ByteArray} {ret : Option FieldType} {hh : List (Nat × Nat × Nat × Nat)} {Ts ws ws' : List Cond} {rm : Room} (n : Nat) (ht : ∀ w ∈ Ts, w.before args s = true) (hT : GoodIn Ts (va_wsS own index y ws)) (hw : ws = Cond.codeWith y bytes maxL ret hh :: ws') (hrc : rm.cells = mc) (hrs : rm.slots = ms)
    (hd : y.cls ≠ "java/lang/invoke/MethodHandle" ∧ y.cls ≠ "java/lang/invoke/VarHandle" ∧ (parseMethodDescriptor y.desc).map (fun d => d.parameters.length) = some n) (hR : rm.frames + 1 ≤ R.frames ∧ 8 + (maxL + 11) + rm.locals ≤ R.locals) :
    vx_CSW R s args own index y bytes maxL ret hh ws rm mc ms n := by
  have ok : ∀ w ∈ va_wsS own index y ws, w.before args s = true := fun w h => ht w (hT w h).1
  have hG : GoodIn Ts ws := fun w h => hT w (by unfold va_wsS; exact List.mem_append_right _ h)
  have hc : Cond.codeWith y bytes maxL ret hh ∈ ws := by rw [hw]; exact List.mem_cons_self
  refine ⟨⟨hrc, hrs, hR.1, hR.2, pay_in ht hG, hc⟩, ht _ (hG _ hc).1, ok _ (by simp [va_wsS]), ⟨hd.1, hd.2.1⟩, fun sig h => ?_, ok _ (by simp [va_wsS]), ok _ (by simp [va_wsS])⟩
  have h2 := hd.2.2
  rw [h] at h2
  exact (Option.some.inj h2).symm
theorem vx_callSW (X : Stand p l e R s m args below meth c T locs cells slots) (hexec : p.tables.exec = Jvm.exec) {own : String} {index : Nat} {y : MethodName} {bytes : ByteArray} {maxL : Nat} {ret : Option FieldType} {hh : List (Nat × Nat × Nat × Nat)}
    (hown : s.vm.findClass own = some m.cls) (hlink : (Cond.methodLink own index y).before args s = true) (hstat : (Cond.static y).before args s = true) (hinit : (Cond.initialized y.cls).before args s = true)
    (hcode : (Cond.codeWith y bytes maxL ret hh).before args s = true) (hy : y.cls ≠ "java/lang/invoke/MethodHandle" ∧ y.cls ≠ "java/lang/invoke/VarHandle")
    {W9 : Nat} {Pre : Pt → Array Value → Prop} {Post : Pt → Array Value → Option Value → Pt → Prop} (hK : Back l R p e below s args y 3 W9 Pre Post)
    {g : JFrame} (hg : g.method = m) (hsize : g.locals.size = c.maxLocals) {argsL rest : List Value} (hlen : ∀ sig, parseMethodDescriptor y.desc = some sig → argsL.length = sig.parameters.length)
    (hstack : g.stack = argsL.reverse ++ rest) (hW : 2 * g.monitorRoom + (rest.map fun v => v.category).sum ≤ W9) (hdg : decode c.code g.pc = .ok (.invokestatic index, 3))
    (hpre : ∀ vm₁, s.WarmedH vm₁ → Pre ⟨T.setVm vm₁, locs, cells, slots⟩ argsL.toArray) :
    ∃ (v : Option Value) (vm₁ : Vm) (B : Pt), s.WarmedH vm₁ ∧ Stand p l e R s m args below meth c B.U B.locs B.cells B.slots ∧ Post ⟨T.setVm vm₁, locs, cells, slots⟩ argsL.toArray v B ∧
      ∀ target, Steps p.tables e below (B.U.setTop { g with pc := g.pc + 3, stack := v.toList ++ rest }) target → Steps p.tables e below (T.setTop g) target := by
  obtain ⟨mk, methM, cM, hnamed, hmethM, -, -, -, -, -, -, hsigM⟩ := Cond.codeWith_spec hcode
  have hstatic : methM.isStatic = true := Cond.static_spec hnamed hmethM hstat
  obtain ⟨kP, hkP, -⟩ := className_of_methodNamed hnamed
  have hinitP : kP.init = .initialized := Cond.initialized_spec (findClass_of_methodNamed hnamed) hkP hinit
  obtain ⟨vm₁, X₁, hstep₁⟩ := X.invokestatic hexec hown hlink hnamed hmethM hstatic hkP hinitP hy (g := g) hg (argsL := argsL) (rest := rest) (hlen _ hsigM) hstack hdg
  obtain ⟨v, B, X', hpost, hsteps⟩ := hK m meth c ⟨T.setVm vm₁, locs, cells, slots⟩ { g with stack := rest } (.invokestatic index) mk argsL.toArray X₁ hg hsize hdg hW (X₁.named hnamed) (hpre vm₁ X₁.warmed)
  exact ⟨v, vm₁, B, X₁.warmed, X', hpost, fun target h => hstep₁ _ fun acts => by rw [doInvoke_state]; exact hsteps.trans h⟩
theorem vx_runSW {y : MethodName} {bytes cc : ByteArray} {maxL nL mc ms n index : Nat} {ret : Option FieldType} {hh : List (Nat × Nat × Nat × Nat)} {ws : List Cond} {rm : Room} {Pc : Array Value → State → Prop} {Qc : Array Value → State → Outcome → State → Prop} {free : Addr → Prop} {Ts : List Cond} {own : String} {As rest : List Value} {g : JFrame}
    (S : CallFix p m c cc nL s args Ts own) (hM : Met l y ws rm Pc Qc mc ms free) (cw : vx_CSW R s args own index y bytes maxL ret hh ws rm mc ms n) (hp : PreS s H Pc As)
    (hg : g.method = m) (hn : As.length = n) (hsize : g.locals.size = nL) (hstack : g.stack = As.reverse ++ rest) (hW : 2 * g.monitorRoom + (rest.map fun v => v.category).sum ≤ 8) (hdg : decode cc g.pc = .ok (.invokestatic index, 3)) (hf : cells + mc ≤ R.cells ∧ slots + ms ≤ R.slots) :
    va_Run p l e R s m args below meth c H locs cells slots mc ms g rest (Qc As.toArray) (free) := by
  obtain ⟨⟨hrc, hrs, hfr, hlo, hws, hcw⟩, hcode, hini, hy, hlen, hl, hstt⟩ := cw
  have hK : Back l R p e below s args y 3 8 (PreOf R mc ms Pc) (PostOf Qc mc ms free) := va_backW (hh := hh) (bytes := bytes) (maxL := maxL) (ret := ret) hM hp.1 hrc hrs hfr hlo hws hcw (fun a' U hW => word_at hW (Or.inl (by first | rfl | simp [Cond.onTables, Cond.keeps, Cond.steady])) hini)
  obtain ⟨hx, hb, hml, ho, -⟩ := S
  intro T hT X
  obtain ⟨v, vm₁, ⟨U', l2, c2, s2⟩, hW₁, X', ⟨g', mk, t, L, e1, e2, hq, h1, hL, h2, h3⟩, st⟩ := vx_callSW X hx (hh := hh) (bytes := bytes) (maxL := maxL) (ret := ret) ho hl hstt hini hcode hy hK hg (hsize.trans hml.symm) (argsL := As) (rest := rest) (fun sig h => hn.trans (hlen sig h)) hstack hW (by rw [hb]; exact hdg)
    (fun vm₁ hW₁ => ⟨hf.1, hf.2, hp.2 (T.setVm vm₁) hT hW₁⟩)
  dsimp only [Pt.U, Pt.locs, Pt.cells, Pt.slots] at X' e1 e2 h1 h2 h3 st
  subst h1; subst h2; subst h3
  exact ⟨v, (T.setVm vm₁).calling g' mk As.toArray, t, U', L, hT, X', hL, e1, e2, hq, st⟩
/-- not caught here, past rows that name other classes: it goes on to the caller -/
theorem vx_outP {p : Program} {l : Launch} {e : Env} {R : Room} {s : State} {m : MethodId} {args : Array Value} {below : List Frame} {meth : Method} {c : Code} {H : Heap} {locs : List Loc} {cells slots : Nat} {free : Addr → Prop} {ls : Array Slot} {rest : List Value} {Qc : Array Value → State → Outcome → State → Prop} {XC : String → State → State → Prop}
    {pc : Nat} {own E : String} {ce : Cell} {q : Addr} {mc ms : Nat} (hown : s.vm.findClass own = some m.cls) (hlocks : meth.locks = false)
    (hpass : ∀ z ∈ c.exceptionTable.toList, covers z pc = false ∨ (z.catchType ≠ 0 ∧ ∃ nm : String, (Cond.classLink own z.catchType nm).before args s = true ∧ va_Nc E nm s)) (hcell : H[q]? = some ce) (hv : ce.vm = .none) (hcl : s.vm.findClass E = some ce.cls)
    (hx : ∀ t : State, t.heap = H → s.vm.Alike t.vm → XC E s t) (hf : ∀ z ∈ locs, free z.base) (hc : cells ≤ mc) (hs : slots ≤ ms) :
    vx_W p l e R s m args below meth c H locs cells slots (vx_MQ below Qc XC args s mc ms free) (F0 m pc ls rest) q := by
  intro T hT X
  have hpl : e.platform.magicAccessors = ({} : Platform).magicAccessors := by rw [X.admits.platform]
  obtain ⟨vm', hW', X', st⟩ := X.outThrough hlocks q (g := F0 m pc ls rest) rfl rfl rfl (cell := ce) (by rw [hT]; exact hcell) (by rw [hv]; rfl)
    (by obtain ⟨k9, h9, -⟩ := Vm.findClass_spec hcl; exact ⟨k9, h9⟩) (fun z hz => by
      rcases hpass z hz with h | ⟨hz0, nm, hl1, hn1⟩
      · exact Or.inl h
      · obtain ⟨c6, hc6, hcl6⟩ := Cond.classLink_spec hown hl1 e.platform hpl
        obtain ⟨a8, b8, h1, h2, h3⟩ := hn1
        cases Option.some.inj (h1.symm.trans hcl)
        cases Option.some.inj (h2.symm.trans hc6)
        exact Or.inr ⟨hz0, _, hcl6, h3⟩)
  obtain ⟨g₀, hfr⟩ := X'.frames_eq
  have hcell9 : ((T.setVm vm').setFrames (.throwing q :: below)).heap[q]? = some ce := by
    show T.heap[q]? = some ce
    rw [hT]; exact hcell
  have hend : Ended ((T.setVm vm').setFrames (.throwing q :: below)) below (.threw q) := State.frames_setFrames _ (State.cur_lt_of_frames hfr)
  refine ⟨(T.setVm vm').setFrames (.throwing q :: below), ?_, .threw q, X'.here.running, hend, Or.inr ⟨q, rfl, E, ce, locs, hx _ hT (X'.ends _).1.alike, hcell9, hv, hcl, (X'.ends _).1, (X'.ends _).2.mono hc hs, hf⟩⟩
  rw [X.pushThrowing_eq]
  exact st
/-- a thing of a world lies in the heap -/
theorem vx_lt {D : va_G} {cl : List vw_C} {ws : va_W} {H1 : Heap} (h : va_P D cl ws H1) {k : Nat} {q : Nat × va_E} (hk : ws[k]? = some q) : q.1 < H1.size := (h k q hk).lt
end VXS
/-! ===== END ===== -/
/-! ===== BEGIN methods with a table of their own: called by a name, returning or throwing ===== -/
section VXH
/-! vx_backW, vx_callVX, vx_callSX, vx_callVW, vx_runVW, vx_runVX, vx_runSX, vx_ofWH follow the same proofs as their sisters above (Free/Laws.lean, Shelf42/LK1.lean); vx_outP calls Shelf42/NT130.lean (outThrough). -/
section
variable {l : Launch} {R : Room} {p : Program} {e : Env} {below : List Frame} {s : State} {sargs : Array Value} {y : MethodName} {len W9 : Nat}
theorem vx_backW {ws : List Cond} {rm : Room} {Pc : Array Value → State → Prop} {Qc : Array Value → State → Outcome → State → Prop} {XC : String → State → State → Prop} {mc ms : Nat} {free : Addr → Prop} {bytes : ByteArray} {maxL : Nat} {ret : Option FieldType} {hh : List (Nat × Nat × Nat × Nat)}
    (hM : vx_Met l y ws rm Pc Qc XC mc ms free) (hblind : FrameBlind Pc) (hrc : rm.cells = mc) (hrs : rm.slots = ms)
    (hframes : rm.frames + 1 ≤ R.frames) (hlocals : W9 + (maxL + 11) + rm.locals ≤ R.locals)
    (hws : ∀ w ∈ ws, ∀ a' U, s.WarmedH U.vm → w.before a' U = true) (hcode : Cond.codeWith y bytes maxL ret hh ∈ ws) (hinit : ∀ a' U, s.WarmedH U.vm → (Cond.initialized y.cls).before a' U = true) :
    vx_Back l R p e below s sargs y len W9 (PreOf R mc ms Pc) (PostOf Qc mc ms free) (vx_Post XC mc ms free) := by
  intro m meth c A g ig mk a X hg hsize hdg hW hn hp
  have h1 : (headSpec ws rm).pre.before a A.U = true := atoms_intro fun w hw => hws w hw _ _ X.warmed
  have h2 : (Cond.codeWith y bytes maxL ret hh).before a A.U = true := hws _ hcode _ _ X.warmed
  have h3 : (Cond.initialized y.cls).before a A.U = true := hinit _ _ X.warmed
  have h4 : A.cells + (headSpec ws rm).room.cells ≤ R.cells := by rw [show (headSpec ws rm).room.cells = mc from hrc]; exact hp.1
  have h5 : A.slots + (headSpec ws rm).room.slots ≤ R.slots := by rw [show (headSpec ws rm).room.slots = ms from hrs]; exact hp.2.1
  have hPc : Pc a (A.U.calling g mk a) := hblind _ _ _ _ hp.2.2
  obtain ⟨U, Ls, c0, s0⟩ := A
  dsimp only [Pt.U, Pt.locs, Pt.cells, Pt.slots] at h1 h2 h3 h4 h5 X hn hPc ⊢
  obtain ⟨m9, methY, cY, hn9, hmY, hcY, -, hlY, -⟩ := Cond.codeWith_spec h2
  cases Option.some.inj (hn9.symm.trans hn)
  obtain ⟨kY, hkY, -⟩ := className_of_methodNamed hn
  have hinitY : kY.init = .initialized := Cond.initialized_spec (findClass_of_methodNamed hn) hkY h3
  have h : At U g.method c below := by rw [hg]; exact X.here
  have hlocals9 : W9 + (maxL + 11) + (headSpec ws rm).room.locals ≤ R.locals := hlocals
  have happ : (headSpec ws rm).appliesLoose y e.platform (U.calling g mk a) = true :=
    Spec.appliesLoose_calling (g := g) h hdg hn hkY hinitY
      (X.room_calling (g := g) (R' := (headSpec ws rm).room) hsize hmY hcY hframes (by rw [hlY]; omega) h4 h5) h1
  obtain ⟨mid, hmid⟩ := h.above
  have hfr : (U.setTop g).frames = (.java g :: mid) ++ below := by rw [State.frames_setTop' g h.top, hmid]; rfl
  obtain ⟨o, s₂, hsteps, -, hend, hq⟩ := Steps.callFree hM p X.admits X.cas X.clock (acts := []) hfr happ hPc trivial
  have hq' : vx_Q Qc XC mc ms free a (U.calling g mk a) o s₂ := hq
  rw [State.frames_setTop' g h.top] at hend
  obtain ⟨g₀, hg0⟩ := Option.isSome_iff_exists.mp h.top
  obtain ⟨r, hr⟩ := State.topJava?_eq_some.mp hg0
  have hr' : (({ U with heap := s₂.heap, slotsUsed := s₂.slotsUsed } : State).setVm s₂.vm).frames = .java g₀ :: r := hr
  rcases hq' with ⟨hqc, L, hfe, hL⟩ | ⟨q, rfl, E, ce, L, hx, hce, hcv, hcl, hW₂, hsm, hL⟩
  · obtain ⟨⟨v, rfl⟩, hW₂, e2, q2, q3, q4, q5, q6⟩ := id hfe
    have e3 : s₂ = ({ (U.calling g mk a).setFrames s₂.frames with heap := s₂.heap, slotsUsed := s₂.slotsUsed } : State).setVm s₂.vm := by
      have : s₂ = ({ s₂ with vm := (U.calling g mk a).vm } : State).setVm s₂.vm := rfl
      rw [e2] at this
      exact this
    obtain ⟨c₂, i₂, len₂, hc₂, hd₂, hf₂⟩ := hend
    have hW' : U.WarmedH s₂.vm := hW₂
    have hcc : c₂ = c := by
      have h1 : s₂.code? g.method = U.code? g.method := by
        rw [State.code?_eq, State.code?_eq, hW'.alike.method?]
      exact Option.some.inj (hc₂.symm.trans (h1.trans h.code))
    subst hcc
    have hlen : len₂ = len := by rw [hdg] at hd₂; cases hd₂; rfl
    subst hlen
    have hs₂ : s₂ = (({ U with heap := s₂.heap, slotsUsed := s₂.slotsUsed } : State).setVm s₂.vm).setTop { g with pc := g.pc + len₂, stack := v.toList ++ g.stack } := by
      refine e3.trans ?_
      rw [hf₂, State.calling_eq h.top, State.setFrames_setFrames, State.setTop_of_frames _ hr', hr]
      rfl
    have hsame : U.sameButNew ({ U with heap := s₂.heap, slotsUsed := s₂.slotsUsed } : State) L mc ms := by
      refine ⟨?_, q2, q3, q4, q5, q6⟩
      obtain ⟨t, ht, -⟩ := State.frames_cons hr
      show ({ U with heap := s₂.heap, slotsUsed := s₂.slotsUsed } : State) = { U.setFrames U.frames with heap := s₂.heap, slotsUsed := s₂.slotsUsed }
      rw [State.setFrames_self ht]
    subst hg
    refine Or.inl ⟨v, ⟨(({ U with heap := s₂.heap, slotsUsed := s₂.slotsUsed } : State).setVm s₂.vm), Ls ++ L, c0 + mc, s0 + ms⟩,
      ⟨X.admits, X.cas, X.clock, X.frames, X.room, X.hears, X.method, X.code, (X.here.setHeapUsed s₂.heap s₂.slotsUsed).setVm hW'.alike, X.tail, State.WarmedH.trans X.warmed hW', X.limits, X.bytes, X.same.trans (hsame.setVm s.vm)⟩,
      ⟨g, mk, s₂, L, rfl, rfl, hqc, rfl, hL, rfl, rfl⟩, ?_⟩
    show Steps p.tables e below _ ((({ U with heap := s₂.heap, slotsUsed := s₂.slotsUsed } : State).setVm s₂.vm).setTop { g with pc := g.pc + len₂, stack := v.toList ++ g.stack })
    rw [← hs₂]
    exact hsteps
  · obtain ⟨e2, q2, q3, q4, q5, q6⟩ := id hsm
    have e3 : s₂ = ({ (U.calling g mk a).setFrames s₂.frames with heap := s₂.heap, slotsUsed := s₂.slotsUsed } : State).setVm s₂.vm := by
      have : s₂ = ({ s₂ with vm := (U.calling g mk a).vm } : State).setVm s₂.vm := rfl
      rw [e2] at this
      exact this
    have hf₂ : s₂.frames = .throwing q :: .java g :: U.frames.tail := hend
    have hW' : U.WarmedH s₂.vm := hW₂
    have hs₂ : s₂ = ((({ U with heap := s₂.heap, slotsUsed := s₂.slotsUsed } : State).setVm s₂.vm).setTop g).pushFrame (.throwing q) := by
      refine e3.trans ?_
      rw [hf₂, State.calling_eq h.top, State.setFrames_setFrames, State.pushFrame, State.frames_setTop _ hr', State.setTop_of_frames _ hr', State.setFrames_setFrames, hr]
      rfl
    have hsame : U.sameButNew ({ U with heap := s₂.heap, slotsUsed := s₂.slotsUsed } : State) L mc ms := by
      refine ⟨?_, q2, q3, q4, q5, q6⟩
      obtain ⟨t, ht, -⟩ := State.frames_cons hr
      show ({ U with heap := s₂.heap, slotsUsed := s₂.slotsUsed } : State) = { U.setFrames U.frames with heap := s₂.heap, slotsUsed := s₂.slotsUsed }
      rw [State.setFrames_self ht]
    subst hg
    refine Or.inr ⟨q, ⟨(({ U with heap := s₂.heap, slotsUsed := s₂.slotsUsed } : State).setVm s₂.vm), Ls ++ L, c0 + mc, s0 + ms⟩,
      ⟨X.admits, X.cas, X.clock, X.frames, X.room, X.hears, X.method, X.code, (X.here.setHeapUsed s₂.heap s₂.slotsUsed).setVm hW'.alike, X.tail, State.WarmedH.trans X.warmed hW', X.limits, X.bytes, X.same.trans (hsame.setVm s.vm)⟩,
      ⟨g, mk, s₂, L, E, ce, rfl, rfl, hx, hce, hcv, hcl, rfl, hL, rfl, rfl⟩, ?_⟩
    show Steps p.tables e below _ (((({ U with heap := s₂.heap, slotsUsed := s₂.slotsUsed } : State).setVm s₂.vm).setTop g).pushFrame (.throwing q))
    rw [← hs₂]
    exact hsteps
end
variable {p : Program} {l : Launch} {e : Env} {R : Room} {s : State} {m : MethodId} {args : Array Value} {below : List Frame} {meth : Method} {c : Code} {T : State} {H : Heap} {locs : List Loc} {cells slots : Nat}
theorem vx_callVX (X : Stand p l e R s m args below meth c T locs cells slots) (hexec : p.tables.exec = Jvm.exec) {own C : String} {index : Nat} {y : MethodName} {bytes : ByteArray} {maxL : Nat} {ret : Option FieldType} {hh : List (Nat × Nat × Nat × Nat)}
    (hown : s.vm.findClass own = some m.cls) (hlink : (Cond.methodLink own index y).before args s = true) (hinst : (Cond.instanceMethod y).before args s = true) (hsel : (Cond.selects C y y).before args s = true)
    (hcode : (Cond.codeWith y bytes maxL ret hh).before args s = true) (hy : y.cls ≠ "java/lang/invoke/MethodHandle" ∧ y.cls ≠ "java/lang/invoke/VarHandle")
    {W9 : Nat} {Pre : Pt → Array Value → Prop} {Post : Pt → Array Value → Option Value → Pt → Prop} {PostX : Pt → Array Value → Addr → Pt → Prop} (hK : vx_Back l R p e below s args y 3 W9 Pre Post PostX)
    {b : Addr} {cellB : Cell} (hcell : T.heap[b]? = some cellB) (hobj : cellB.vm.isStatics = false) (hcls : s.vm.findClass C = some cellB.cls)
    {g : JFrame} (hg : g.method = m) (hsize : g.locals.size = c.maxLocals) {argsL rest : List Value} (hlen : ∀ sig, parseMethodDescriptor y.desc = some sig → argsL.length = sig.parameters.length)
    (hstack : g.stack = argsL.reverse ++ .ref b :: rest) (hW : 2 * g.monitorRoom + (rest.map fun v => v.category).sum ≤ W9) (hdg : decode c.code g.pc = .ok (.invokevirtual index, 3))
    (hpre : ∀ vm₁, s.WarmedH vm₁ → Pre ⟨T.setVm vm₁, locs, cells, slots⟩ (Value.ref b :: argsL).toArray) :
    (∃ (v : Option Value) (vm₁ : Vm) (B : Pt), s.WarmedH vm₁ ∧ Stand p l e R s m args below meth c B.U B.locs B.cells B.slots ∧ Post ⟨T.setVm vm₁, locs, cells, slots⟩ (Value.ref b :: argsL).toArray v B ∧
      ∀ target, Steps p.tables e below (B.U.setTop { g with pc := g.pc + 3, stack := v.toList ++ rest }) target → Steps p.tables e below (T.setTop g) target) ∨
    (∃ (q : Addr) (vm₁ : Vm) (B : Pt), s.WarmedH vm₁ ∧ Stand p l e R s m args below meth c B.U B.locs B.cells B.slots ∧ PostX ⟨T.setVm vm₁, locs, cells, slots⟩ (Value.ref b :: argsL).toArray q B ∧
      Steps p.tables e below (T.setTop g) ((B.U.setTop { g with stack := rest }).pushFrame (.throwing q))) := by
  obtain ⟨mk, methM, hnamed, hmethM, hstM, habM⟩ := Cond.instanceMethod_spec hinst
  obtain ⟨m8, methM', cM, hn8, hmethM', -, -, -, -, -, -, hsigM⟩ := Cond.codeWith_spec hcode
  cases Option.some.inj (hn8.symm.trans hnamed)
  cases hmethM.symm.trans hmethM'
  obtain ⟨c2, r2, m2, q1, q2, q3, q4, kP, hkP, hkPi⟩ := Cond.selects_spec hsel
  cases hcls.symm.trans q1
  cases (State.methodFound?_of_named hnamed hy).symm.trans q2
  cases hnamed.symm.trans q3
  have hselP : selectMethod e.platform s.vm cellB.cls mk = .method mk := by rw [Launch.admits_selectMethod X.admits]; exact q4
  obtain ⟨vm₁, X₁, hstep₁⟩ := X.invokevirtual hexec hown hlink hnamed hmethM hstM hkP hkPi hy (a := b) (cell := cellB) hcell
    (fun z h => by rw [h] at hobj; cases hobj) hselP hmethM habM hkP hkPi (g := g) hg (argsL := argsL) (rest := rest) (hlen _ hsigM) hstack hdg
  rcases hK m meth c ⟨T.setVm vm₁, locs, cells, slots⟩ { g with stack := rest } (.invokevirtual index) mk (Value.ref b :: argsL).toArray X₁ hg hsize hdg hW (X₁.named hnamed) (hpre vm₁ X₁.warmed) with ⟨v, B, X', hpost, hsteps⟩ | ⟨q, B, X', hpost, hsteps⟩
  · exact Or.inl ⟨v, vm₁, B, X₁.warmed, X', hpost, fun target h => hstep₁ _ fun acts => by rw [doInvoke_state]; exact hsteps.trans h⟩
  · exact Or.inr ⟨q, vm₁, B, X₁.warmed, X', hpost, hstep₁ _ fun acts => by rw [doInvoke_state]; exact hsteps⟩
theorem vx_callSX (X : Stand p l e R s m args below meth c T locs cells slots) (hexec : p.tables.exec = Jvm.exec) {own : String} {index : Nat} {y : MethodName} {bytes : ByteArray} {maxL : Nat} {ret : Option FieldType} {hh : List (Nat × Nat × Nat × Nat)}
    (hown : s.vm.findClass own = some m.cls) (hlink : (Cond.methodLink own index y).before args s = true) (hstat : (Cond.static y).before args s = true) (hinit : (Cond.initialized y.cls).before args s = true)
    (hcode : (Cond.codeWith y bytes maxL ret hh).before args s = true) (hy : y.cls ≠ "java/lang/invoke/MethodHandle" ∧ y.cls ≠ "java/lang/invoke/VarHandle")
    {W9 : Nat} {Pre : Pt → Array Value → Prop} {Post : Pt → Array Value → Option Value → Pt → Prop} {PostX : Pt → Array Value → Addr → Pt → Prop} (hK : vx_Back l R p e below s args y 3 W9 Pre Post PostX)
    {g : JFrame} (hg : g.method = m) (hsize : g.locals.size = c.maxLocals) {argsL rest : List Value} (hlen : ∀ sig, parseMethodDescriptor y.desc = some sig → argsL.length = sig.parameters.length)
    (hstack : g.stack = argsL.reverse ++ rest) (hW : 2 * g.monitorRoom + (rest.map fun v => v.category).sum ≤ W9) (hdg : decode c.code g.pc = .ok (.invokestatic index, 3))
    (hpre : ∀ vm₁, s.WarmedH vm₁ → Pre ⟨T.setVm vm₁, locs, cells, slots⟩ argsL.toArray) :
    (∃ (v : Option Value) (vm₁ : Vm) (B : Pt), s.WarmedH vm₁ ∧ Stand p l e R s m args below meth c B.U B.locs B.cells B.slots ∧ Post ⟨T.setVm vm₁, locs, cells, slots⟩ argsL.toArray v B ∧
      ∀ target, Steps p.tables e below (B.U.setTop { g with pc := g.pc + 3, stack := v.toList ++ rest }) target → Steps p.tables e below (T.setTop g) target) ∨
    (∃ (q : Addr) (vm₁ : Vm) (B : Pt), s.WarmedH vm₁ ∧ Stand p l e R s m args below meth c B.U B.locs B.cells B.slots ∧ PostX ⟨T.setVm vm₁, locs, cells, slots⟩ argsL.toArray q B ∧
      Steps p.tables e below (T.setTop g) ((B.U.setTop { g with stack := rest }).pushFrame (.throwing q))) := by
  obtain ⟨mk, methM, cM, hnamed, hmethM, -, -, -, -, -, -, hsigM⟩ := Cond.codeWith_spec hcode
  have hstatic : methM.isStatic = true := Cond.static_spec hnamed hmethM hstat
  obtain ⟨kP, hkP, -⟩ := className_of_methodNamed hnamed
  have hinitP : kP.init = .initialized := Cond.initialized_spec (findClass_of_methodNamed hnamed) hkP hinit
  obtain ⟨vm₁, X₁, hstep₁⟩ := X.invokestatic hexec hown hlink hnamed hmethM hstatic hkP hinitP hy (g := g) hg (argsL := argsL) (rest := rest) (hlen _ hsigM) hstack hdg
  rcases hK m meth c ⟨T.setVm vm₁, locs, cells, slots⟩ { g with stack := rest } (.invokestatic index) mk argsL.toArray X₁ hg hsize hdg hW (X₁.named hnamed) (hpre vm₁ X₁.warmed) with ⟨v, B, X', hpost, hsteps⟩ | ⟨q, B, X', hpost, hsteps⟩
  · exact Or.inl ⟨v, vm₁, B, X₁.warmed, X', hpost, fun target h => hstep₁ _ fun acts => by rw [doInvoke_state]; exact hsteps.trans h⟩
  · exact Or.inr ⟨q, vm₁, B, X₁.warmed, X', hpost, hstep₁ _ fun acts => by rw [doInvoke_state]; exact hsteps⟩
theorem vx_callVW (X : Stand p l e R s m args below meth c T locs cells slots) (hexec : p.tables.exec = Jvm.exec) {own C : String} {index : Nat} {y : MethodName} {bytes : ByteArray} {maxL : Nat} {ret : Option FieldType} {hh : List (Nat × Nat × Nat × Nat)}
    (hown : s.vm.findClass own = some m.cls) (hlink : (Cond.methodLink own index y).before args s = true) (hinst : (Cond.instanceMethod y).before args s = true) (hsel : (Cond.selects C y y).before args s = true)
    (hcode : (Cond.codeWith y bytes maxL ret hh).before args s = true) (hy : y.cls ≠ "java/lang/invoke/MethodHandle" ∧ y.cls ≠ "java/lang/invoke/VarHandle")
    {W9 : Nat} {Pre : Pt → Array Value → Prop} {Post : Pt → Array Value → Option Value → Pt → Prop} (hK : Back l R p e below s args y 3 W9 Pre Post)
    {b : Addr} {cellB : Cell} (hcell : T.heap[b]? = some cellB) (hobj : cellB.vm.isStatics = false) (hcls : s.vm.findClass C = some cellB.cls)
    {g : JFrame} (hg : g.method = m) (hsize : g.locals.size = c.maxLocals) {argsL rest : List Value} (hlen : ∀ sig, parseMethodDescriptor y.desc = some sig → argsL.length = sig.parameters.length)
    (hstack : g.stack = argsL.reverse ++ .ref b :: rest) (hW : 2 * g.monitorRoom + (rest.map fun v => v.category).sum ≤ W9) (hdg : decode c.code g.pc = .ok (.invokevirtual index, 3))
    (hpre : ∀ vm₁, s.WarmedH vm₁ → Pre ⟨T.setVm vm₁, locs, cells, slots⟩ (Value.ref b :: argsL).toArray) :
    ∃ (v : Option Value) (vm₁ : Vm) (B : Pt), s.WarmedH vm₁ ∧ Stand p l e R s m args below meth c B.U B.locs B.cells B.slots ∧ Post ⟨T.setVm vm₁, locs, cells, slots⟩ (Value.ref b :: argsL).toArray v B ∧
      ∀ target, Steps p.tables e below (B.U.setTop { g with pc := g.pc + 3, stack := v.toList ++ rest }) target → Steps p.tables e below (T.setTop g) target := by
  obtain ⟨mk, methM, hnamed, hmethM, hstM, habM⟩ := Cond.instanceMethod_spec hinst
  obtain ⟨m8, methM', cM, hn8, hmethM', -, -, -, -, -, -, hsigM⟩ := Cond.codeWith_spec hcode
  cases Option.some.inj (hn8.symm.trans hnamed)
  cases hmethM.symm.trans hmethM'
  obtain ⟨c2, r2, m2, q1, q2, q3, q4, kP, hkP, hkPi⟩ := Cond.selects_spec hsel
  cases hcls.symm.trans q1
  cases (State.methodFound?_of_named hnamed hy).symm.trans q2
  cases hnamed.symm.trans q3
  have hselP : selectMethod e.platform s.vm cellB.cls mk = .method mk := by rw [Launch.admits_selectMethod X.admits]; exact q4
  obtain ⟨vm₁, X₁, hstep₁⟩ := X.invokevirtual hexec hown hlink hnamed hmethM hstM hkP hkPi hy (a := b) (cell := cellB) hcell
    (fun z h => by rw [h] at hobj; cases hobj) hselP hmethM habM hkP hkPi (g := g) hg (argsL := argsL) (rest := rest) (hlen _ hsigM) hstack hdg
  obtain ⟨v, B, X', hpost, hsteps⟩ := hK m meth c ⟨T.setVm vm₁, locs, cells, slots⟩ { g with stack := rest } (.invokevirtual index) mk (Value.ref b :: argsL).toArray X₁ hg hsize hdg hW (X₁.named hnamed) (hpre vm₁ X₁.warmed)
  exact ⟨v, vm₁, B, X₁.warmed, X', hpost, fun target h => hstep₁ _ fun acts => by rw [doInvoke_state]; exact hsteps.trans h⟩
abbrev vx_CVW (R : Room) (s : State) (args : Array Value) (own C : String) (index : Nat) (y : MethodName) (bytes : ByteArray) (maxL : Nat) (ret : Option FieldType) (hh : List (Nat × Nat × Nat × Nat)) (ws : List Cond) (rm : Room) (mc ms n : Nat) : Prop :=
  (rm.cells = mc ∧ rm.slots = ms ∧ rm.frames + 1 ≤ R.frames ∧ 8 + (maxL + 11) + rm.locals ≤ R.locals ∧ (∀ w ∈ ws, ∀ (a' : Array Value) (U : State), s.WarmedH U.vm → w.before a' U = true) ∧ Cond.codeWith y bytes maxL ret hh ∈ ws) ∧
  (Cond.codeWith y bytes maxL ret hh).before args s = true ∧ (Cond.initialized y.cls).before args s = true ∧ (y.cls ≠ "java/lang/invoke/MethodHandle" ∧ y.cls ≠ "java/lang/invoke/VarHandle") ∧
  (∀ sig, parseMethodDescriptor y.desc = some sig → n = sig.parameters.length) ∧ (Cond.methodLink own index y).before args s = true ∧ (Cond.instanceMethod y).before args s = true ∧ (Cond.selects C y y).before args s = true
theorem vx_cwVW {own C : String} {index maxL mc ms : Nat} {y : MethodName} {bytes : ByteArray} {ret : Option FieldType} {hh : List (Nat × Nat × Nat × Nat)} {Ts ws ws' : List Cond} {rm : Room} (n : Nat) (ht : ∀ w ∈ Ts, w.before args s = true) (hT : GoodIn Ts (wsV own index C y ws)) (hw : ws = Cond.codeWith y bytes maxL ret hh :: ws') (hrc : rm.cells = mc) (hrs : rm.slots = ms)
    (hd : y.cls = C ∧ y.cls ≠ "java/lang/invoke/MethodHandle" ∧ y.cls ≠ "java/lang/invoke/VarHandle" ∧ (parseMethodDescriptor y.desc).map (fun d => d.parameters.length) = some n) (hR : rm.frames + 1 ≤ R.frames ∧ 8 + (maxL + 11) + rm.locals ≤ R.locals) :
    vx_CVW R s args own C index y bytes maxL ret hh ws rm mc ms n := by
  obtain ⟨hC, hd⟩ := hd
  subst hC
  have ok : ∀ w ∈ wsV own index y.cls y ws, w.before args s = true := fun w h => ht w (hT w h).1
  have hG : GoodIn Ts ws := fun w h => hT w (by unfold wsV; exact List.mem_append_right _ h)
  have hc : Cond.codeWith y bytes maxL ret hh ∈ ws := by rw [hw]; exact List.mem_cons_self
  refine ⟨⟨hrc, hrs, hR.1, hR.2, pay_in ht hG, hc⟩, ht _ (hG _ hc).1, ok _ (by simp [wsV]), ⟨hd.1, hd.2.1⟩, fun sig h => ?_, ok _ (by simp [wsV]), ok _ (by simp [wsV]), ok _ (by simp [wsV])⟩
  have h2 := hd.2.2
  rw [h] at h2
  exact (Option.some.inj h2).symm
theorem vx_runVW {y : MethodName} {bytes cc : ByteArray} {maxL nL mc ms n index : Nat} {ret : Option FieldType} {hh : List (Nat × Nat × Nat × Nat)} {ws : List Cond} {rm : Room} {Pc : Array Value → State → Prop} {Qc : Array Value → State → Outcome → State → Prop} {free : Addr → Prop} {Ts : List Cond} {own C : String} {b : Addr} {As rest : List Value} {g : JFrame}
    (S : CallFix p m c cc nL s args Ts own) (hM : Met l y ws rm Pc Qc mc ms free) (cw : vx_CVW R s args own C index y bytes maxL ret hh ws rm mc ms n) (hp : PreV s H C b Pc As)
    (hg : g.method = m) (hn : As.length = n) (hsize : g.locals.size = nL) (hstack : g.stack = As.reverse ++ .ref b :: rest) (hW : 2 * g.monitorRoom + (rest.map fun v => v.category).sum ≤ 8) (hdg : decode cc g.pc = .ok (.invokevirtual index, 3)) (hf : cells + mc ≤ R.cells ∧ slots + ms ≤ R.slots) :
    va_Run p l e R s m args below meth c H locs cells slots mc ms g rest (Qc (Value.ref b :: As).toArray) free := by
  obtain ⟨⟨hrc, hrs, hfr, hlo, hws, hcw⟩, hcode, hini, hy, hlen, hl, hin, hse⟩ := cw
  have hK : Back l R p e below s args y 3 8 (PreOf R mc ms Pc) (PostOf Qc mc ms free) := va_backW (hh := hh) (bytes := bytes) (maxL := maxL) (ret := ret) hM hp.1 hrc hrs hfr hlo hws hcw (fun a' U hW => word_at hW (Or.inl (by first | rfl | simp [Cond.onTables, Cond.keeps, Cond.steady])) hini)
  obtain ⟨hx, hb, hml, ho, -⟩ := S
  obtain ⟨-, ⟨cellB, hcB, hoB, hclB⟩, hPc⟩ := hp
  intro T hT X
  obtain ⟨v, vm₁, ⟨U', l2, c2, s2⟩, hW₁, X', ⟨g', mk, t, L, e1, e2, hq, h1, hL, h2, h3⟩, st⟩ := vx_callVW X hx (C := C) (hh := hh) (bytes := bytes) (maxL := maxL) (ret := ret) ho hl hin hse hcode hy hK (by rw [hT]; exact hcB) hoB hclB hg (hsize.trans hml.symm) (argsL := As) (rest := rest) (fun sig h => hn.trans (hlen sig h)) hstack hW (by rw [hb]; exact hdg)
    (fun vm₁ hW₁ => ⟨hf.1, hf.2, hPc (T.setVm vm₁) hT hW₁⟩)
  dsimp only [Pt.U, Pt.locs, Pt.cells, Pt.slots] at X' e1 e2 h1 h2 h3 st
  subst h1; subst h2; subst h3
  exact ⟨v, (T.setVm vm₁).calling g' mk (Value.ref b :: As).toArray, t, U', L, hT, X', hL, e1, e2, hq, st⟩
section
variable {y : MethodName} {bytes cc : ByteArray} {maxL nL mc ms n index : Nat} {ret : Option FieldType} {ws : List Cond} {rm : Room} {Pc : Array Value → State → Prop} {Qc : Array Value → State → Outcome → State → Prop} {XC : String → State → State → Prop} {free : Addr → Prop} {Ts : List Cond} {own C : String} {b : Addr} {As rest : List Value} {g : JFrame}
theorem vx_runVX {hh : List (Nat × Nat × Nat × Nat)} (S : CallFix p m c cc nL s args Ts own) (hM : vx_Met l y ws rm Pc Qc XC mc ms free) (cw : vx_CVW R s args own C index y bytes maxL ret hh ws rm mc ms n) (hp : PreV s H C b Pc As)
    (hg : g.method = m) (hn : As.length = n) (hsize : g.locals.size = nL) (hstack : g.stack = As.reverse ++ .ref b :: rest) (hW : 2 * g.monitorRoom + (rest.map fun v => v.category).sum ≤ 8) (hdg : decode cc g.pc = .ok (.invokevirtual index, 3)) (hf : cells + mc ≤ R.cells ∧ slots + ms ≤ R.slots) :
    vx_Run p l e R s m args below meth c H locs cells slots mc ms g rest (Qc (Value.ref b :: As).toArray) XC free := by
  obtain ⟨⟨hrc, hrs, hfr, hlo, hws, hcw⟩, hcode, hini, hy, hlen, hl, hin, hse⟩ := cw
  have hK : vx_Back l R p e below s args y 3 8 (PreOf R mc ms Pc) (PostOf Qc mc ms free) (vx_Post XC mc ms free) := vx_backW (hh := hh) (bytes := bytes) (maxL := maxL) (ret := ret) hM hp.1 hrc hrs hfr hlo hws hcw (fun a' U hW => word_at hW (Or.inl (by first | rfl | simp [Cond.onTables, Cond.keeps, Cond.steady])) hini)
  obtain ⟨hx, hb, hml, ho, -⟩ := S
  obtain ⟨-, ⟨cellB, hcB, hoB, hclB⟩, hPc⟩ := hp
  intro T hT X
  rcases vx_callVX X hx (C := C) (hh := hh) (bytes := bytes) (maxL := maxL) (ret := ret) ho hl hin hse hcode hy hK (by rw [hT]; exact hcB) hoB hclB hg (hsize.trans hml.symm) (argsL := As) (rest := rest) (fun sig h => hn.trans (hlen sig h)) hstack hW (by rw [hb]; exact hdg)
    (fun vm₁ hW₁ => ⟨hf.1, hf.2, hPc (T.setVm vm₁) hT hW₁⟩) with ⟨v, vm₁, ⟨U', l2, c2, s2⟩, hW₁, X', ⟨g', mk, t, L, e1, e2, hq, h1, hL, h2, h3⟩, st⟩ | ⟨q, vm₁, ⟨U', l2, c2, s2⟩, hW₁, X', ⟨g', mk, t, L, E, ce, e1, e2, hq, hce, hcv, hcl, h1, hL, h2, h3⟩, st⟩
  · dsimp only [Pt.U, Pt.locs, Pt.cells, Pt.slots] at X' e1 e2 h1 h2 h3 st
    subst h1; subst h2; subst h3
    exact Or.inl ⟨v, (T.setVm vm₁).calling g' mk (Value.ref b :: As).toArray, t, U', L, hT, X', hL, e1, e2, hq, st⟩
  · dsimp only [Pt.U, Pt.locs, Pt.cells, Pt.slots] at X' e1 e2 h1 h2 h3 st hcl
    subst h1; subst h2; subst h3
    exact Or.inr ⟨q, (T.setVm vm₁).calling g' mk (Value.ref b :: As).toArray, t, U', L, E, ce, hT, X', hL, e1, e2, hq, hce, hcv, vx_cls hW₁ hcl, st⟩
theorem vx_runSX {hh : List (Nat × Nat × Nat × Nat)} (S : CallFix p m c cc nL s args Ts own) (hM : vx_Met l y ws rm Pc Qc XC mc ms free) (cw : vx_CSW R s args own index y bytes maxL ret hh ws rm mc ms n) (hp : PreS s H Pc As)
    (hg : g.method = m) (hn : As.length = n) (hsize : g.locals.size = nL) (hstack : g.stack = As.reverse ++ rest) (hW : 2 * g.monitorRoom + (rest.map fun v => v.category).sum ≤ 8) (hdg : decode cc g.pc = .ok (.invokestatic index, 3)) (hf : cells + mc ≤ R.cells ∧ slots + ms ≤ R.slots) :
    vx_Run p l e R s m args below meth c H locs cells slots mc ms g rest (Qc As.toArray) XC free := by
  obtain ⟨⟨hrc, hrs, hfr, hlo, hws, hcw⟩, hcode, hini, hy, hlen, hl, hstt⟩ := cw
  have hK : vx_Back l R p e below s args y 3 8 (PreOf R mc ms Pc) (PostOf Qc mc ms free) (vx_Post XC mc ms free) := vx_backW (hh := hh) (bytes := bytes) (maxL := maxL) (ret := ret) hM hp.1 hrc hrs hfr hlo hws hcw (fun a' U hW => word_at hW (Or.inl (by first | rfl | simp [Cond.onTables, Cond.keeps, Cond.steady])) hini)
  obtain ⟨hx, hb, hml, ho, -⟩ := S
  intro T hT X
  rcases vx_callSX X hx (hh := hh) (bytes := bytes) (maxL := maxL) (ret := ret) ho hl hstt hini hcode hy hK hg (hsize.trans hml.symm) (argsL := As) (rest := rest) (fun sig h => hn.trans (hlen sig h)) hstack hW (by rw [hb]; exact hdg)
    (fun vm₁ hW₁ => ⟨hf.1, hf.2, hp.2 (T.setVm vm₁) hT hW₁⟩) with ⟨v, vm₁, ⟨U', l2, c2, s2⟩, hW₁, X', ⟨g', mk, t, L, e1, e2, hq, h1, hL, h2, h3⟩, st⟩ | ⟨q, vm₁, ⟨U', l2, c2, s2⟩, hW₁, X', ⟨g', mk, t, L, E, ce, e1, e2, hq, hce, hcv, hcl, h1, hL, h2, h3⟩, st⟩
  · dsimp only [Pt.U, Pt.locs, Pt.cells, Pt.slots] at X' e1 e2 h1 h2 h3 st
    subst h1; subst h2; subst h3
    exact Or.inl ⟨v, (T.setVm vm₁).calling g' mk As.toArray, t, U', L, hT, X', hL, e1, e2, hq, st⟩
  · dsimp only [Pt.U, Pt.locs, Pt.cells, Pt.slots] at X' e1 e2 h1 h2 h3 st hcl
    subst h1; subst h2; subst h3
    exact Or.inr ⟨q, (T.setVm vm₁).calling g' mk As.toArray, t, U', L, E, ce, hT, X', hL, e1, e2, hq, hce, hcv, vx_cls hW₁ hcl, st⟩
end
end VXH
theorem vx_ofWH {l : Launch} {y : MethodName} {ws ws' : List Cond} {rm : Room} {Pc : Array Value → State → Prop} {Qc : Array Value → State → Outcome → State → Prop} {XC : String → State → State → Prop} {mc ms : Nat} {free : Addr → Prop} {cc : ByteArray} {maxL : Nat} {ret : Option FieldType} {hh : List (Nat × Nat × Nat × Nat)}
    (hy : plainName y.cls = true) (hw : ws = Cond.codeWith y cc maxL ret hh :: ws')
    (body : ∀ p e s m args below meth c s₁, BodyLoose p l y (headSpec ws rm) cc maxL ret e s m args below meth c s₁ → c.maxLocals = maxL → Pc args s →
      W p l e (headSpec ws rm).room s m args below meth c s.heap [] 0 0 (vx_MQ below Qc XC args s mc ms free) (entryFrame m args maxL)) : vx_Met l y ws rm Pc Qc XC mc ms free := by
  refine MetFree.of_bodyS (code := cc) (maxLocals := maxL) (ret := ret) hy ?_ ?_
  · intro args s m h hn
    obtain ⟨m9, meth, c, hn9, h1, h2, h3, h4, -, h5, h6, -⟩ := Cond.codeWith_spec (atoms_spec (ws := ws) h _ (by rw [hw]; exact List.mem_cons_self))
    cases hn.symm.trans hn9
    exact ⟨meth, c, h1, h2, h3, h4, h5, h6⟩
  · intro p e s m args below meth c s₁ B hml hP _
    have hh0 : s₁.heap = s.heap := by rw [B.state]; rfl
    obtain ⟨t, a1, o, b1, b2, b3⟩ := body p e s m args below meth c s₁ B hml hP s₁ hh0 (Stand.of_body B)
    exact ⟨t, o, a1, b1, b2, b3⟩
/-! ===== END ===== -/
end
section
/-! ===== a layer over the kit: a walk that hides the heap, the written places and the locals' array; numbers as Int ===== -/
def iI (z : Int) : Int32 := Int32.ofInt z
abbrev iV (z : Int) : Value := .int (iI z)
abbrev nV (n : Nat) : Value := .int (iI (n : Int))
def bI (b : Bool) : Int := if b then 1 else 0
abbrev bV (b : Bool) : Value := .int (iI (bI b))
def fN (A : Nat → Nat) : Nat → Int32 := fun j => iI (A j : Int)
theorem iI_add (a b : Int) : iI a + iI b = iI (a + b) := (Int32.ofInt_add a b).symm
theorem iI_sub (a b : Int) : iI a - iI b = iI (a - b) := (Int32.ofInt_sub a b).symm
theorem iI_mul (a b : Int) : iI a * iI b = iI (a * b) := (Int32.ofInt_mul a b).symm
theorem iI_ti {z : Int} (h : -2147483648 ≤ z ∧ z < 2147483648) : (iI z).toInt = z := Int32.toInt_ofInt_of_le (by omega) (by omega)
theorem iI_lt {a b : Int} (ha : -2147483648 ≤ a ∧ a < 2147483648) (hb : -2147483648 ≤ b ∧ b < 2147483648) : iI a < iI b ↔ a < b := by
  rw [Int32.lt_iff_toInt_lt, iI_ti ha, iI_ti hb]
theorem iI_le {a b : Int} (ha : -2147483648 ≤ a ∧ a < 2147483648) (hb : -2147483648 ≤ b ∧ b < 2147483648) : iI a ≤ iI b ↔ a ≤ b := by
  rw [Int32.le_iff_toInt_le, iI_ti ha, iI_ti hb]
theorem iI_eq {a b : Int} (ha : -2147483648 ≤ a ∧ a < 2147483648) (hb : -2147483648 ≤ b ∧ b < 2147483648) : iI a = iI b ↔ a = b := by
  rw [← Int32.toInt_inj, iI_ti ha, iI_ti hb]
theorem iI_of (x : Int32) : x = iI x.toInt := (Int32.ofInt_toInt x).symm
theorem iI_nI (n : Nat) : iI (n : Int) = nI n := Int32.ofInt_eq_ofNat
theorem iI_rg (x : Int32) : -2147483648 ≤ x.toInt ∧ x.toInt < 2147483648 := by
  have h1 := Int32.minValue_le_toInt x
  have h2 := Int32.toInt_lt x
  have e : Int32.minValue.toInt = -2147483648 := by decide
  omega
theorem iI_0 : (0 : Int32) = iI 0 := rfl
theorem iI_in {j N : Nat} (h : j < N) (hN : N < 2147483648) : vp_in (iI (j : Int)) N := by rw [iI_nI]; exact vp_in_nI h hN
theorem iI_cl {j : Nat} (h : j < 2147483648) : (iI (j : Int)).toNatClampNeg = j := by rw [iI_nI]; exact nI_clamp h
theorem fN_upd (A : Nat → Nat) (j v : Nat) : upd (fN A) j (iI (v : Int)) = fN (va_up A j v) := by
  funext i
  unfold upd fN va_up
  by_cases h : i = j
  · simp [h]
  · simp [h]
theorem iI_tdiv {a b : Int} (ha : -2147483648 ≤ a ∧ a < 2147483648) (hb : 0 < b ∧ b < 2147483648) : iI a / iI b = iI (a.tdiv b) := by
  refine (iI_of _).trans (congrArg iI ?_)
  rw [Int32.toInt_div_of_ne_right _ _ (by rw [Ne, ← Int32.toInt_inj, iI_ti (by omega)]; have : (-1 : Int32).toInt = -1 := by decide
                                          omega), iI_ti ha, iI_ti (by omega)]
theorem iI_tmod {a b : Int} (ha : -2147483648 ≤ a ∧ a < 2147483648) (hb : 0 < b ∧ b < 2147483648) : iI a - iI a / iI b * iI b = iI (a.tmod b) := by
  rw [iI_tdiv ha hb, iI_mul, iI_sub]
  congr 1
  rw [Int.tmod_def, Int.mul_comm]
theorem iI_n0 {b : Int} (hb : 0 < b ∧ b < 2147483648) : ¬ iI b = 0 := by
  rw [iI_0, iI_eq (by omega) (by omega)]; omega

abbrev Fx : Type := Program × Launch × Env × Room × State × MethodId × Array Value × List Frame × Method × Code × (State → Prop) × va_G × List vw_C × List (ClassId × FieldType) × (Nat → Prop) × Nat
def xw : Fx → Nat → Nat → va_W → Nat → List (Nat × Value) → List Value → Prop
  | (p, l, e, R, s, m, args, below, meth, c, Q, D, cl, _, A, nL), k, n, w, pc, lv, st => ∀ (H : Heap) (locs : List Loc) (ls : Array Slot), va_P D cl w H → va_D A w → va_S A s.heap H locs → lv_has ls nL lv → W p l e R s m args below meth c H locs k n Q (F0 m pc ls st)
def xc : Fx → Launch → Room → va_G → List vw_C → List (ClassId × FieldType) → Nat → ByteArray → String → List Cond → Prop
  | (p, l, _, R, s, m, args, _, _, c, _, D, cl, tys, A, nL), l', R', D', cl', tys', nL', cc, own, Ts => l = l' ∧ R = R' ∧ D = D' ∧ cl = cl' ∧ tys = tys' ∧ nL = nL' ∧ p.tables.exec = Jvm.exec ∧ c.code = cc ∧ c.maxLocals = nL ∧ s.vm.findClass own = some m.cls ∧ (∀ w ∈ Ts, w.before args s = true) ∧ va_K D cl tys s ∧ (∀ q : Nat, s.heap.size ≤ q → A q)
/-- the class and the frame of a contract: what a call finds, what it leaves -/
def ctP (D : va_G) (cl : List vw_C) (tys : List (ClassId × FieldType)) (av : List Value) (w0 : va_W) (sz : Nat) : Array Value → State → Prop := va_Pc av (fun U => U.heap.size = sz ∧ va_P D cl w0 U.heap ∧ va_K D cl tys U ∧ va_D (fun _ => True) w0)
def ctQ (D : va_G) (cl : List vw_C) (w0 : va_W) (sz : Nat) (Post : Option Value → va_W → Prop) : Array Value → State → Outcome → State → Prop := fun _ st oc t => (∃ (v : Option Value) (w1 : va_W), oc = .returned v ∧ Post v w1 ∧ va_P D cl w1 t.heap ∧ va_D (va_A w0 sz) w1) ∧ va_F (va_A w0 sz) st t
/-- a CONTRACT: called with the values av over the world w0, y returns v and leaves w1 with Post v w1; nothing else of the heap is changed -/
def CT (l : Launch) (y : MethodName) (ws : List Cond) (rm : Room) (D : va_G) (cl : List vw_C) (tys : List (ClassId × FieldType)) (av : List Value) (w0 : va_W) (Post : Option Value → va_W → Prop) (mc ms : Nat) : Prop :=
  ∀ sz : Nat, Met l y ws rm (ctP D cl tys av w0 sz) (ctQ D cl w0 sz Post) mc ms (va_A w0 sz)
theorem CT.mono {l : Launch} {y : MethodName} {ws : List Cond} {rm : Room} {D : va_G} {cl : List vw_C} {tys : List (ClassId × FieldType)} {av av' : List Value} {w0 : va_W} {Post : Option Value → va_W → Prop} {mc ms : Nat} (h : CT l y ws rm D cl tys av w0 Post mc ms) (e : av = av') : CT l y ws rm D cl tys av' w0 Post mc ms := e ▸ h
/-- what a frame owes at its end -/
def xr : Fx → va_W → (Option Value → va_W → Prop) → Option FieldType → Nat → Nat → Prop
  | (_, _, _, _, s, _, args, below, meth, _, Q, D, cl, _, A, _), w0, Post, ret, mc, ms => meth.sig.returnType = ret ∧ meth.locks = false ∧ A = va_A w0 s.heap.size ∧ Q = MQ below (ctQ D cl w0 s.heap.size Post) args s mc ms (va_A w0 s.heap.size)
def xi : Fx → Prop
  | (_, _, _, _, _, _, _, _, meth, _, _, _, _, _, _, _) => meth.name = "<init>"
set_option maxHeartbeats 4000000 in
theorem ct_blind {D : va_G} {cl : List vw_C} {tys : List (ClassId × FieldType)} {av : List Value} {w0 : va_W} {sz : Nat} : FrameBlind (ctP D cl tys av w0 sz) := fun a U g mk q => by
  obtain ⟨q0, q1, qP, qK, qD⟩ := q
  exact ⟨q0, q1, qP, va_K.moved (u := U) (U := U.calling g mk a) (Vm.Alike.refl U.vm) qK, qD⟩
set_option maxHeartbeats 4000000 in
theorem ct_ofI {l : Launch} {y : MethodName} {ws ws' : List Cond} {rm : Room} {D : va_G} {cl : List vw_C} {tys : List (ClassId × FieldType)} {av : List Value} {w0 : va_W} {Post : Option Value → va_W → Prop} {mc ms : Nat} {cc : ByteArray} {maxL : Nat} {ret : Option FieldType}
    (hy : plainFor y = true) (hw : ws = Cond.code y cc maxL ret :: ws') (hlen : (lg_sl av).length ≤ maxL)
    (body : ∀ φ : Fx, xc φ l rm D cl tys maxL cc y.cls ws → xr φ w0 Post ret mc ms → (y.name = "<init>" → xi φ) → xw φ 0 0 w0 0 (lv_args 0 av) []) : CT l y ws rm D cl tys av w0 Post mc ms := by
  intro sz
  refine va_MetF (cc := cc) (maxL := maxL) (ret := ret) hy hw ?_
  intro p e s m args below meth c s₁ B hml hv
  obtain ⟨rfl, hsz, hP, hK, hD0⟩ := hv
  have hx := B.exec
  have hb := B.bytes
  have hr := B.returns
  have hts := atoms_spec (ws := ws) B.pre
  have hown : s.vm.findClass y.cls = some m.cls := findClass_of_methodNamed B.named
  have hlocks := B.notSynchronized
  subst hsz
  rw [lg_entry_eq]
  have hin : y.name = "<init>" → meth.name = "<init>" := fun h => (name_of_methodNamed B.named B.method).1.trans h
  exact body (p, l, e, rm, s, m, av.toArray, below, meth, c, MQ below (ctQ D cl w0 s.heap.size Post) av.toArray s mc ms (va_A w0 s.heap.size), D, cl, tys, va_A w0 s.heap.size, maxL)
    ⟨rfl, rfl, rfl, rfl, rfl, rfl, hx, hb, hml, hown, hts, hK, fun q h => Or.inr h⟩ ⟨hr, hlocks, rfl, rfl⟩ hin s.heap [] _ hP hD0.self va_S.rf (lv_entry av hlen)
theorem ct_of {l : Launch} {y : MethodName} {ws ws' : List Cond} {rm : Room} {D : va_G} {cl : List vw_C} {tys : List (ClassId × FieldType)} {av : List Value} {w0 : va_W} {Post : Option Value → va_W → Prop} {mc ms : Nat} {cc : ByteArray} {maxL : Nat} {ret : Option FieldType}
    (hy : plainFor y = true) (hw : ws = Cond.code y cc maxL ret :: ws') (hlen : (lg_sl av).length ≤ maxL)
    (body : ∀ φ : Fx, xc φ l rm D cl tys maxL cc y.cls ws → xr φ w0 Post ret mc ms → xw φ 0 0 w0 0 (lv_args 0 av) []) : CT l y ws rm D cl tys av w0 Post mc ms :=
  ct_ofI hy hw hlen (fun φ C r _ => body φ C r)
section XW
variable {φ : Fx} {l : Launch} {D : va_G} {cl : List vw_C} {tys : List (ClassId × FieldType)} {R : Room} {cc : ByteArray} {own : String} {Ts : List Cond} {nL k n : Nat} {w : va_W} {pc : Nat} {lv : List (Nat × Value)} {st rest : List Value}
theorem xw_lv {lv' : List (Nat × Value)} (ks : List Nat) (hl : lv_pick lv ks = lv') (kk : xw φ k n w pc lv' st) : xw φ k n w pc lv st := by
  obtain ⟨p, l, e, R, s, m, args, below, meth, c, Q, D, cl, tys, A, nL⟩ := φ
  exact fun H locs ls hP hD hS h => kk H locs ls hP hD hS (lv_sub h ks hl)
theorem xw_wd {k' n' : Nat} (h1 : k ≤ k') (h2 : n ≤ n') (kk : xw φ k' n' w pc lv st) : xw φ k n w pc lv st := by
  obtain ⟨p, l, e, R, s, m, args, below, meth, c, Q, D, cl, tys, A, nL⟩ := φ
  exact fun H locs ls hP hD hS h => W.widen h1 h2 (kk H locs ls hP hD hS h)

theorem xw_iload (C : xc φ l R D cl tys nL cc own Ts) {i : Nat} {x : Int32} (q : Nat) (d : decode cc pc = .ok (.iload i, 2)) (hl : lv[q]? = some (i, .int x)) (kk : xw φ k n w (pc + 2) lv (.int x :: st)) : xw φ k n w pc lv (st) := by
  obtain ⟨p, l, e, R, s, m, args, below, meth, c, Q, D, cl, tys, A, nL⟩ := φ
  obtain ⟨rfl, rfl, rfl, rfl, rfl, rfl, hx, hb, hml, hown, hts, hK, hA⟩ := C
  intro H locs ls hP hD hS h
  exact lv_iload hx hb d (lv_at h q hl) (kk H locs ls hP hD hS h)
theorem xw_iload_n (C : xc φ l R D cl tys nL cc own Ts) {i : Fin 4} {x : Int32} (q : Nat) (d : decode cc pc = .ok (.iload_n i, 1)) (hl : lv[q]? = some ((i : Nat), .int x)) (kk : xw φ k n w (pc + 1) lv (.int x :: st)) : xw φ k n w pc lv (st) := by
  obtain ⟨p, l, e, R, s, m, args, below, meth, c, Q, D, cl, tys, A, nL⟩ := φ
  obtain ⟨rfl, rfl, rfl, rfl, rfl, rfl, hx, hb, hml, hown, hts, hK, hA⟩ := C
  intro H locs ls hP hD hS h
  exact lv_iload_n hx hb d rfl (lv_at h q hl) (kk H locs ls hP hD hS h)
theorem xw_istore (C : xc φ l R D cl tys nL cc own Ts) {i : Nat} {x : Int32} {lv' : List (Nat × Value)} (ks : List Nat) (d : decode cc pc = .ok (.istore i, 2)) (hn : i < nL) (hl : lv_pick ((i, Value.int x) :: lv.filter (fun q => !(q.1 == i) && !(q.1 + 1 == i && q.2.category == 2))) ks = lv') (kk : xw φ k n w (pc + 2) lv' st) : xw φ k n w pc lv (.int x :: st) := by
  obtain ⟨p, l, e, R, s, m, args, below, meth, c, Q, D, cl, tys, A, nL⟩ := φ
  obtain ⟨rfl, rfl, rfl, rfl, rfl, rfl, hx, hb, hml, hown, hts, hK, hA⟩ := C
  intro H locs ls hP hD hS h
  exact lv_istore hx hb d h hn rfl (fun ls2 h2 => kk H locs ls2 hP hD hS (lv_sub h2 ks hl))
theorem xw_istore_n (C : xc φ l R D cl tys nL cc own Ts) {j : Fin 4} {i : Nat} {x : Int32} {lv' : List (Nat × Value)} (ks : List Nat) (d : decode cc pc = .ok (.istore_n j, 1)) (hi : (j : Nat) = i) (hn : i < nL) (hl : lv_pick ((i, Value.int x) :: lv.filter (fun q => !(q.1 == i) && !(q.1 + 1 == i && q.2.category == 2))) ks = lv') (kk : xw φ k n w (pc + 1) lv' st) : xw φ k n w pc lv (.int x :: st) := by
  obtain ⟨p, l, e, R, s, m, args, below, meth, c, Q, D, cl, tys, A, nL⟩ := φ
  obtain ⟨rfl, rfl, rfl, rfl, rfl, rfl, hx, hb, hml, hown, hts, hK, hA⟩ := C
  intro H locs ls hP hD hS h
  exact lv_istore_n hx hb d hi h hn rfl (fun ls2 h2 => kk H locs ls2 hP hD hS (lv_sub h2 ks hl))
theorem xw_lload (C : xc φ l R D cl tys nL cc own Ts) {i : Nat} {x : Int64} (q : Nat) (d : decode cc pc = .ok (.lload i, 2)) (hl : lv[q]? = some (i, .long x)) (kk : xw φ k n w (pc + 2) lv (.long x :: st)) : xw φ k n w pc lv (st) := by
  obtain ⟨p, l, e, R, s, m, args, below, meth, c, Q, D, cl, tys, A, nL⟩ := φ
  obtain ⟨rfl, rfl, rfl, rfl, rfl, rfl, hx, hb, hml, hown, hts, hK, hA⟩ := C
  intro H locs ls hP hD hS h
  exact lv_lload hx hb d (lv_at h q hl) (kk H locs ls hP hD hS h)
theorem xw_lload_n (C : xc φ l R D cl tys nL cc own Ts) {i : Fin 4} {x : Int64} (q : Nat) (d : decode cc pc = .ok (.lload_n i, 1)) (hl : lv[q]? = some ((i : Nat), .long x)) (kk : xw φ k n w (pc + 1) lv (.long x :: st)) : xw φ k n w pc lv (st) := by
  obtain ⟨p, l, e, R, s, m, args, below, meth, c, Q, D, cl, tys, A, nL⟩ := φ
  obtain ⟨rfl, rfl, rfl, rfl, rfl, rfl, hx, hb, hml, hown, hts, hK, hA⟩ := C
  intro H locs ls hP hD hS h
  exact lv_lload_n hx hb d rfl (lv_at h q hl) (kk H locs ls hP hD hS h)
theorem xw_lstore (C : xc φ l R D cl tys nL cc own Ts) {i : Nat} {x : Int64} {lv' : List (Nat × Value)} (ks : List Nat) (d : decode cc pc = .ok (.lstore i, 2)) (hn : i + 1 < nL) (hl : lv_pick ((i, Value.long x) :: lv.filter (fun q => !(q.1 == i) && (!(q.1 == i + 1) && !(q.1 + 1 == i && q.2.category == 2)))) ks = lv') (kk : xw φ k n w (pc + 2) lv' st) : xw φ k n w pc lv (.long x :: st) := by
  obtain ⟨p, l, e, R, s, m, args, below, meth, c, Q, D, cl, tys, A, nL⟩ := φ
  obtain ⟨rfl, rfl, rfl, rfl, rfl, rfl, hx, hb, hml, hown, hts, hK, hA⟩ := C
  intro H locs ls hP hD hS h
  exact lv_lstore hx hb d h hn rfl (fun ls2 h2 => kk H locs ls2 hP hD hS (lv_sub h2 ks hl))
theorem xw_lstore_n (C : xc φ l R D cl tys nL cc own Ts) {j : Fin 4} {i : Nat} {x : Int64} {lv' : List (Nat × Value)} (ks : List Nat) (d : decode cc pc = .ok (.lstore_n j, 1)) (hi : (j : Nat) = i) (hn : i + 1 < nL) (hl : lv_pick ((i, Value.long x) :: lv.filter (fun q => !(q.1 == i) && (!(q.1 == i + 1) && !(q.1 + 1 == i && q.2.category == 2)))) ks = lv') (kk : xw φ k n w (pc + 1) lv' st) : xw φ k n w pc lv (.long x :: st) := by
  obtain ⟨p, l, e, R, s, m, args, below, meth, c, Q, D, cl, tys, A, nL⟩ := φ
  obtain ⟨rfl, rfl, rfl, rfl, rfl, rfl, hx, hb, hml, hown, hts, hK, hA⟩ := C
  intro H locs ls hP hD hS h
  exact lv_lstore_n hx hb d hi h hn rfl (fun ls2 h2 => kk H locs ls2 hP hD hS (lv_sub h2 ks hl))
theorem xw_dload (C : xc φ l R D cl tys nL cc own Ts) {i : Nat} {x : UInt64} (q : Nat) (d : decode cc pc = .ok (.dload i, 2)) (hl : lv[q]? = some (i, .double x)) (kk : xw φ k n w (pc + 2) lv (.double x :: st)) : xw φ k n w pc lv (st) := by
  obtain ⟨p, l, e, R, s, m, args, below, meth, c, Q, D, cl, tys, A, nL⟩ := φ
  obtain ⟨rfl, rfl, rfl, rfl, rfl, rfl, hx, hb, hml, hown, hts, hK, hA⟩ := C
  intro H locs ls hP hD hS h
  exact lv_dload hx hb d (lv_at h q hl) (kk H locs ls hP hD hS h)
theorem xw_dload_n (C : xc φ l R D cl tys nL cc own Ts) {i : Fin 4} {x : UInt64} (q : Nat) (d : decode cc pc = .ok (.dload_n i, 1)) (hl : lv[q]? = some ((i : Nat), .double x)) (kk : xw φ k n w (pc + 1) lv (.double x :: st)) : xw φ k n w pc lv (st) := by
  obtain ⟨p, l, e, R, s, m, args, below, meth, c, Q, D, cl, tys, A, nL⟩ := φ
  obtain ⟨rfl, rfl, rfl, rfl, rfl, rfl, hx, hb, hml, hown, hts, hK, hA⟩ := C
  intro H locs ls hP hD hS h
  exact lv_dload_n hx hb d rfl (lv_at h q hl) (kk H locs ls hP hD hS h)
theorem xw_dstore (C : xc φ l R D cl tys nL cc own Ts) {i : Nat} {x : UInt64} {lv' : List (Nat × Value)} (ks : List Nat) (d : decode cc pc = .ok (.dstore i, 2)) (hn : i + 1 < nL) (hl : lv_pick ((i, Value.double x) :: lv.filter (fun q => !(q.1 == i) && (!(q.1 == i + 1) && !(q.1 + 1 == i && q.2.category == 2)))) ks = lv') (kk : xw φ k n w (pc + 2) lv' st) : xw φ k n w pc lv (.double x :: st) := by
  obtain ⟨p, l, e, R, s, m, args, below, meth, c, Q, D, cl, tys, A, nL⟩ := φ
  obtain ⟨rfl, rfl, rfl, rfl, rfl, rfl, hx, hb, hml, hown, hts, hK, hA⟩ := C
  intro H locs ls hP hD hS h
  exact lv_dstore hx hb d h hn rfl (fun ls2 h2 => kk H locs ls2 hP hD hS (lv_sub h2 ks hl))
theorem xw_dstore_n (C : xc φ l R D cl tys nL cc own Ts) {j : Fin 4} {i : Nat} {x : UInt64} {lv' : List (Nat × Value)} (ks : List Nat) (d : decode cc pc = .ok (.dstore_n j, 1)) (hi : (j : Nat) = i) (hn : i + 1 < nL) (hl : lv_pick ((i, Value.double x) :: lv.filter (fun q => !(q.1 == i) && (!(q.1 == i + 1) && !(q.1 + 1 == i && q.2.category == 2)))) ks = lv') (kk : xw φ k n w (pc + 1) lv' st) : xw φ k n w pc lv (.double x :: st) := by
  obtain ⟨p, l, e, R, s, m, args, below, meth, c, Q, D, cl, tys, A, nL⟩ := φ
  obtain ⟨rfl, rfl, rfl, rfl, rfl, rfl, hx, hb, hml, hown, hts, hK, hA⟩ := C
  intro H locs ls hP hD hS h
  exact lv_dstore_n hx hb d hi h hn rfl (fun ls2 h2 => kk H locs ls2 hP hD hS (lv_sub h2 ks hl))
theorem xw_aload (C : xc φ l R D cl tys nL cc own Ts) {i : Nat} {x : Nat} (q : Nat) (d : decode cc pc = .ok (.aload i, 2)) (hl : lv[q]? = some (i, .ref x)) (kk : xw φ k n w (pc + 2) lv (.ref x :: st)) : xw φ k n w pc lv (st) := by
  obtain ⟨p, l, e, R, s, m, args, below, meth, c, Q, D, cl, tys, A, nL⟩ := φ
  obtain ⟨rfl, rfl, rfl, rfl, rfl, rfl, hx, hb, hml, hown, hts, hK, hA⟩ := C
  intro H locs ls hP hD hS h
  exact lv_aload hx hb d (lv_at h q hl) (kk H locs ls hP hD hS h)
theorem xw_aload_n (C : xc φ l R D cl tys nL cc own Ts) {i : Fin 4} {x : Nat} (q : Nat) (d : decode cc pc = .ok (.aload_n i, 1)) (hl : lv[q]? = some ((i : Nat), .ref x)) (kk : xw φ k n w (pc + 1) lv (.ref x :: st)) : xw φ k n w pc lv (st) := by
  obtain ⟨p, l, e, R, s, m, args, below, meth, c, Q, D, cl, tys, A, nL⟩ := φ
  obtain ⟨rfl, rfl, rfl, rfl, rfl, rfl, hx, hb, hml, hown, hts, hK, hA⟩ := C
  intro H locs ls hP hD hS h
  exact lv_aload_n hx hb d rfl (lv_at h q hl) (kk H locs ls hP hD hS h)
theorem xw_astore (C : xc φ l R D cl tys nL cc own Ts) {i : Nat} {x : Nat} {lv' : List (Nat × Value)} (ks : List Nat) (d : decode cc pc = .ok (.astore i, 2)) (hn : i < nL) (hl : lv_pick ((i, Value.ref x) :: lv.filter (fun q => !(q.1 == i) && !(q.1 + 1 == i && q.2.category == 2))) ks = lv') (kk : xw φ k n w (pc + 2) lv' st) : xw φ k n w pc lv (.ref x :: st) := by
  obtain ⟨p, l, e, R, s, m, args, below, meth, c, Q, D, cl, tys, A, nL⟩ := φ
  obtain ⟨rfl, rfl, rfl, rfl, rfl, rfl, hx, hb, hml, hown, hts, hK, hA⟩ := C
  intro H locs ls hP hD hS h
  exact lv_astore hx hb d h hn rfl (fun ls2 h2 => kk H locs ls2 hP hD hS (lv_sub h2 ks hl))
theorem xw_astore_n (C : xc φ l R D cl tys nL cc own Ts) {j : Fin 4} {i : Nat} {x : Nat} {lv' : List (Nat × Value)} (ks : List Nat) (d : decode cc pc = .ok (.astore_n j, 1)) (hi : (j : Nat) = i) (hn : i < nL) (hl : lv_pick ((i, Value.ref x) :: lv.filter (fun q => !(q.1 == i) && !(q.1 + 1 == i && q.2.category == 2))) ks = lv') (kk : xw φ k n w (pc + 1) lv' st) : xw φ k n w pc lv (.ref x :: st) := by
  obtain ⟨p, l, e, R, s, m, args, below, meth, c, Q, D, cl, tys, A, nL⟩ := φ
  obtain ⟨rfl, rfl, rfl, rfl, rfl, rfl, hx, hb, hml, hown, hts, hK, hA⟩ := C
  intro H locs ls hP hD hS h
  exact lv_astore_n hx hb d hi h hn rfl (fun ls2 h2 => kk H locs ls2 hP hD hS (lv_sub h2 ks hl))
theorem xw_iconst (C : xc φ l R D cl tys nL cc own Ts) {z : Int} (d : decode cc pc = .ok (.iconst z, 1)) (kk : xw φ k n w (pc + 1) lv (iV z :: st)) : xw φ k n w pc lv (st) := by
  obtain ⟨p, l, e, R, s, m, args, below, meth, c, Q, D, cl, tys, A, nL⟩ := φ
  obtain ⟨rfl, rfl, rfl, rfl, rfl, rfl, hx, hb, hml, hown, hts, hK, hA⟩ := C
  intro H locs ls hP hD hS h
  exact lv_iconst hx hb d rfl (kk H locs ls hP hD hS h)
theorem xw_bipush (C : xc φ l R D cl tys nL cc own Ts) {z : Int} (d : decode cc pc = .ok (.bipush z, 2)) (hv : (Int8.ofInt z).toInt32 = iI z) (kk : xw φ k n w (pc + 2) lv (iV z :: st)) : xw φ k n w pc lv (st) := by
  obtain ⟨p, l, e, R, s, m, args, below, meth, c, Q, D, cl, tys, A, nL⟩ := φ
  obtain ⟨rfl, rfl, rfl, rfl, rfl, rfl, hx, hb, hml, hown, hts, hK, hA⟩ := C
  intro H locs ls hP hD hS h
  exact lv_bipush hx hb d hv (kk H locs ls hP hD hS h)
theorem xw_sipush (C : xc φ l R D cl tys nL cc own Ts) {z : Int} (d : decode cc pc = .ok (.sipush z, 3)) (hv : (Int16.ofInt z).toInt32 = iI z) (kk : xw φ k n w (pc + 3) lv (iV z :: st)) : xw φ k n w pc lv (st) := by
  obtain ⟨p, l, e, R, s, m, args, below, meth, c, Q, D, cl, tys, A, nL⟩ := φ
  obtain ⟨rfl, rfl, rfl, rfl, rfl, rfl, hx, hb, hml, hown, hts, hK, hA⟩ := C
  intro H locs ls hP hD hS h
  exact lv_sipush hx hb d hv (kk H locs ls hP hD hS h)
theorem xw_pop (C : xc φ l R D cl tys nL cc own Ts) {v : Value} (d : decode cc pc = .ok (.pop, 1)) (hv : v.category = 1) (kk : xw φ k n w (pc + 1) lv (st)) : xw φ k n w pc lv (v :: st) := by
  obtain ⟨p, l, e, R, s, m, args, below, meth, c, Q, D, cl, tys, A, nL⟩ := φ
  obtain ⟨rfl, rfl, rfl, rfl, rfl, rfl, hx, hb, hml, hown, hts, hK, hA⟩ := C
  intro H locs ls hP hD hS h
  exact lv_pop hx hb d hv (kk H locs ls hP hD hS h)
theorem xw_dup (C : xc φ l R D cl tys nL cc own Ts) {v : Value} (d : decode cc pc = .ok (.dup, 1)) (hv : v.category = 1) (kk : xw φ k n w (pc + 1) lv (v :: v :: st)) : xw φ k n w pc lv (v :: st) := by
  obtain ⟨p, l, e, R, s, m, args, below, meth, c, Q, D, cl, tys, A, nL⟩ := φ
  obtain ⟨rfl, rfl, rfl, rfl, rfl, rfl, hx, hb, hml, hown, hts, hK, hA⟩ := C
  intro H locs ls hP hD hS h
  exact lv_dup hx hb d hv (kk H locs ls hP hD hS h)
theorem xw_iadd (C : xc φ l R D cl tys nL cc own Ts) {a b : Int} (d : decode cc pc = .ok (.iadd, 1)) (kk : xw φ k n w (pc + 1) lv (iV (a + b) :: st)) : xw φ k n w pc lv (iV b :: iV a :: st) := by
  obtain ⟨p, l, e, R, s, m, args, below, meth, c, Q, D, cl, tys, A, nL⟩ := φ
  obtain ⟨rfl, rfl, rfl, rfl, rfl, rfl, hx, hb, hml, hown, hts, hK, hA⟩ := C
  intro H locs ls hP hD hS h
  refine lv_iadd hx hb d ?_
  rw [iI_add]
  exact kk H locs ls hP hD hS h
theorem xw_isub (C : xc φ l R D cl tys nL cc own Ts) {a b : Int} (d : decode cc pc = .ok (.isub, 1)) (kk : xw φ k n w (pc + 1) lv (iV (a - b) :: st)) : xw φ k n w pc lv (iV b :: iV a :: st) := by
  obtain ⟨p, l, e, R, s, m, args, below, meth, c, Q, D, cl, tys, A, nL⟩ := φ
  obtain ⟨rfl, rfl, rfl, rfl, rfl, rfl, hx, hb, hml, hown, hts, hK, hA⟩ := C
  intro H locs ls hP hD hS h
  refine lv_isub hx hb d ?_
  rw [iI_sub]
  exact kk H locs ls hP hD hS h
theorem xw_imul (C : xc φ l R D cl tys nL cc own Ts) {a b : Int} (d : decode cc pc = .ok (.imul, 1)) (kk : xw φ k n w (pc + 1) lv (iV (a * b) :: st)) : xw φ k n w pc lv (iV b :: iV a :: st) := by
  obtain ⟨p, l, e, R, s, m, args, below, meth, c, Q, D, cl, tys, A, nL⟩ := φ
  obtain ⟨rfl, rfl, rfl, rfl, rfl, rfl, hx, hb, hml, hown, hts, hK, hA⟩ := C
  intro H locs ls hP hD hS h
  refine lv_imul hx hb d ?_
  rw [iI_mul]
  exact kk H locs ls hP hD hS h
theorem xw_iadd_N (C : xc φ l R D cl tys nL cc own Ts) {a b : Nat} (d : decode cc pc = .ok (.iadd, 1)) (kk : xw φ k n w (pc + 1) lv (nV (a + b) :: st)) : xw φ k n w pc lv (nV b :: nV a :: st) := by
  obtain ⟨p, l, e, R, s, m, args, below, meth, c, Q, D, cl, tys, A, nL⟩ := φ
  obtain ⟨rfl, rfl, rfl, rfl, rfl, rfl, hx, hb, hml, hown, hts, hK, hA⟩ := C
  intro H locs ls hP hD hS h
  refine lv_iadd hx hb d ?_
  rw [iI_add, ← Int.natCast_add]
  exact kk H locs ls hP hD hS h
theorem xw_imul_N (C : xc φ l R D cl tys nL cc own Ts) {a b : Nat} (d : decode cc pc = .ok (.imul, 1)) (kk : xw φ k n w (pc + 1) lv (nV (a * b) :: st)) : xw φ k n w pc lv (nV b :: nV a :: st) := by
  obtain ⟨p, l, e, R, s, m, args, below, meth, c, Q, D, cl, tys, A, nL⟩ := φ
  obtain ⟨rfl, rfl, rfl, rfl, rfl, rfl, hx, hb, hml, hown, hts, hK, hA⟩ := C
  intro H locs ls hP hD hS h
  refine lv_imul hx hb d ?_
  rw [iI_mul, ← Int.natCast_mul]
  exact kk H locs ls hP hD hS h
theorem xw_isub_N (C : xc φ l R D cl tys nL cc own Ts) {a b : Nat} (d : decode cc pc = .ok (.isub, 1)) (hba : b ≤ a) (kk : xw φ k n w (pc + 1) lv (nV (a - b) :: st)) : xw φ k n w pc lv (nV b :: nV a :: st) := by
  obtain ⟨p, l, e, R, s, m, args, below, meth, c, Q, D, cl, tys, A, nL⟩ := φ
  obtain ⟨rfl, rfl, rfl, rfl, rfl, rfl, hx, hb, hml, hown, hts, hK, hA⟩ := C
  intro H locs ls hP hD hS h
  refine lv_isub hx hb d ?_
  rw [iI_sub, ← Int.ofNat_sub hba]
  exact kk H locs ls hP hD hS h
theorem xw_idiv (C : xc φ l R D cl tys nL cc own Ts) {a b : Int} (d : decode cc pc = .ok (.idiv, 1)) (ha : -2147483648 ≤ a ∧ a < 2147483648) (hbb : 0 < b ∧ b < 2147483648) (kk : xw φ k n w (pc + 1) lv (iV (a.tdiv b) :: st)) : xw φ k n w pc lv (iV b :: iV a :: st) := by
  obtain ⟨p, l, e, R, s, m, args, below, meth, c, Q, D, cl, tys, A, nL⟩ := φ
  obtain ⟨rfl, rfl, rfl, rfl, rfl, rfl, hx, hb, hml, hown, hts, hK, hA⟩ := C
  intro H locs ls hP hD hS h
  refine lv_idiv hx hb d (iI_n0 hbb) ?_
  rw [iI_tdiv ha hbb]
  exact kk H locs ls hP hD hS h
theorem xw_irem (C : xc φ l R D cl tys nL cc own Ts) {a b : Int} (d : decode cc pc = .ok (.irem, 1)) (ha : -2147483648 ≤ a ∧ a < 2147483648) (hbb : 0 < b ∧ b < 2147483648) (kk : xw φ k n w (pc + 1) lv (iV (a.tmod b) :: st)) : xw φ k n w pc lv (iV b :: iV a :: st) := by
  obtain ⟨p, l, e, R, s, m, args, below, meth, c, Q, D, cl, tys, A, nL⟩ := φ
  obtain ⟨rfl, rfl, rfl, rfl, rfl, rfl, hx, hb, hml, hown, hts, hK, hA⟩ := C
  intro H locs ls hP hD hS h
  refine lv_irem hx hb d (iI_n0 hbb) ?_
  rw [iI_tmod ha hbb]
  exact kk H locs ls hP hD hS h
theorem xw_idiv_N (C : xc φ l R D cl tys nL cc own Ts) {a b : Nat} (d : decode cc pc = .ok (.idiv, 1)) (ha : a < 2147483648) (hbb : 0 < b ∧ b < 2147483648) (kk : xw φ k n w (pc + 1) lv (nV (a / b) :: st)) : xw φ k n w pc lv (nV b :: nV a :: st) := by
  obtain ⟨p, l, e, R, s, m, args, below, meth, c, Q, D, cl, tys, A, nL⟩ := φ
  obtain ⟨rfl, rfl, rfl, rfl, rfl, rfl, hx, hb, hml, hown, hts, hK, hA⟩ := C
  intro H locs ls hP hD hS h
  refine lv_idiv hx hb d (iI_n0 (by omega)) ?_
  rw [iI_tdiv (by omega) (by omega), ← Int.ofNat_tdiv]
  exact kk H locs ls hP hD hS h
theorem xw_irem_N (C : xc φ l R D cl tys nL cc own Ts) {a b : Nat} (d : decode cc pc = .ok (.irem, 1)) (ha : a < 2147483648) (hbb : 0 < b ∧ b < 2147483648) (kk : xw φ k n w (pc + 1) lv (nV (a % b) :: st)) : xw φ k n w pc lv (nV b :: nV a :: st) := by
  obtain ⟨p, l, e, R, s, m, args, below, meth, c, Q, D, cl, tys, A, nL⟩ := φ
  obtain ⟨rfl, rfl, rfl, rfl, rfl, rfl, hx, hb, hml, hown, hts, hK, hA⟩ := C
  intro H locs ls hP hD hS h
  refine lv_irem hx hb d (iI_n0 (by omega)) ?_
  rw [iI_tmod (by omega) (by omega), ← Int.ofNat_tmod]
  exact kk H locs ls hP hD hS h
theorem xw_ixor (C : xc φ l R D cl tys nL cc own Ts) {x y r : Int32} (d : decode cc pc = .ok (.ixor, 1)) (hr : x ^^^ y = r) (kk : xw φ k n w (pc + 1) lv (.int r :: st)) : xw φ k n w pc lv (.int y :: .int x :: st) := by
  obtain ⟨p, l, e, R, s, m, args, below, meth, c, Q, D, cl, tys, A, nL⟩ := φ
  obtain ⟨rfl, rfl, rfl, rfl, rfl, rfl, hx, hb, hml, hown, hts, hK, hA⟩ := C
  intro H locs ls hP hD hS h
  refine lv_ixor hx hb d ?_
  rw [hr]
  exact kk H locs ls hP hD hS h
theorem xw_iand (C : xc φ l R D cl tys nL cc own Ts) {x y r : Int32} (d : decode cc pc = .ok (.iand, 1)) (hr : x &&& y = r) (kk : xw φ k n w (pc + 1) lv (.int r :: st)) : xw φ k n w pc lv (.int y :: .int x :: st) := by
  obtain ⟨p, l, e, R, s, m, args, below, meth, c, Q, D, cl, tys, A, nL⟩ := φ
  obtain ⟨rfl, rfl, rfl, rfl, rfl, rfl, hx, hb, hml, hown, hts, hK, hA⟩ := C
  intro H locs ls hP hD hS h
  refine lv_iand hx hb d ?_
  rw [hr]
  exact kk H locs ls hP hD hS h
theorem xw_ior (C : xc φ l R D cl tys nL cc own Ts) {x y r : Int32} (d : decode cc pc = .ok (.ior, 1)) (hr : x ||| y = r) (kk : xw φ k n w (pc + 1) lv (.int r :: st)) : xw φ k n w pc lv (.int y :: .int x :: st) := by
  obtain ⟨p, l, e, R, s, m, args, below, meth, c, Q, D, cl, tys, A, nL⟩ := φ
  obtain ⟨rfl, rfl, rfl, rfl, rfl, rfl, hx, hb, hml, hown, hts, hK, hA⟩ := C
  intro H locs ls hP hD hS h
  refine lv_ior hx hb d ?_
  rw [hr]
  exact kk H locs ls hP hD hS h
theorem xw_ishl (C : xc φ l R D cl tys nL cc own Ts) {x y r : Int32} (d : decode cc pc = .ok (.ishl, 1)) (hr : x <<< (y &&& 31) = r) (kk : xw φ k n w (pc + 1) lv (.int r :: st)) : xw φ k n w pc lv (.int y :: .int x :: st) := by
  obtain ⟨p, l, e, R, s, m, args, below, meth, c, Q, D, cl, tys, A, nL⟩ := φ
  obtain ⟨rfl, rfl, rfl, rfl, rfl, rfl, hx, hb, hml, hown, hts, hK, hA⟩ := C
  intro H locs ls hP hD hS h
  refine lv_ishl hx hb d ?_
  rw [hr]
  exact kk H locs ls hP hD hS h
theorem xw_ishr (C : xc φ l R D cl tys nL cc own Ts) {x y r : Int32} (d : decode cc pc = .ok (.ishr, 1)) (hr : x >>> (y &&& 31) = r) (kk : xw φ k n w (pc + 1) lv (.int r :: st)) : xw φ k n w pc lv (.int y :: .int x :: st) := by
  obtain ⟨p, l, e, R, s, m, args, below, meth, c, Q, D, cl, tys, A, nL⟩ := φ
  obtain ⟨rfl, rfl, rfl, rfl, rfl, rfl, hx, hb, hml, hown, hts, hK, hA⟩ := C
  intro H locs ls hP hD hS h
  refine lv_ishr hx hb d ?_
  rw [hr]
  exact kk H locs ls hP hD hS h
theorem xw_iinc (C : xc φ l R D cl tys nL cc own Ts) {i : Nat} {z : Int} {a : Int} {lv' : List (Nat × Value)} (q : Nat) (ks : List Nat) (d : decode cc pc = .ok (.iinc i z, 3)) (hq : lv[q]? = some (i, iV a)) (hn : i < nL) (hl : lv_pick ((i, iV (a + z)) :: lv.filter (fun q => !(q.1 == i) && !(q.1 + 1 == i && q.2.category == 2))) ks = lv') (kk : xw φ k n w (pc + 3) lv' st) : xw φ k n w pc lv st := by
  obtain ⟨p, l, e, R, s, m, args, below, meth, c, Q, D, cl, tys, A, nL⟩ := φ
  obtain ⟨rfl, rfl, rfl, rfl, rfl, rfl, hx, hb, hml, hown, hts, hK, hA⟩ := C
  intro H locs ls hP hD hS h
  refine lv_iinc hx hb d h hq ?_ hn rfl (fun ls2 h2 => kk H locs ls2 hP hD hS (lv_sub h2 ks hl))
  exact iI_add a z
theorem xw_iinc_N (C : xc φ l R D cl tys nL cc own Ts) {i : Nat} {z : Int} {a b : Nat} {lv' : List (Nat × Value)} (q : Nat) (ks : List Nat) (d : decode cc pc = .ok (.iinc i z, 3)) (hq : lv[q]? = some (i, nV a)) (hn : i < nL) (hz : (a : Int) + z = (b : Int)) (hl : lv_pick ((i, nV b) :: lv.filter (fun q => !(q.1 == i) && !(q.1 + 1 == i && q.2.category == 2))) ks = lv') (kk : xw φ k n w (pc + 3) lv' st) : xw φ k n w pc lv st := by
  obtain ⟨p, l, e, R, s, m, args, below, meth, c, Q, D, cl, tys, A, nL⟩ := φ
  obtain ⟨rfl, rfl, rfl, rfl, rfl, rfl, hx, hb, hml, hown, hts, hK, hA⟩ := C
  intro H locs ls hP hD hS h
  exact lv_iinc hx hb d h hq ((iI_add _ _).trans (congrArg iI hz)) hn rfl (fun ls2 h2 => kk H locs ls2 hP hD hS (lv_sub h2 ks hl))
theorem xw_goto (C : xc φ l R D cl tys nL cc own Ts) {off : Int} {tgt : Nat} (d : decode cc pc = .ok (.goto off, 3)) (ht : (pc : Int) + off = (tgt : Int)) (kk : xw φ k n w tgt lv (st)) : xw φ k n w pc lv (st) := by
  obtain ⟨p, l, e, R, s, m, args, below, meth, c, Q, D, cl, tys, A, nL⟩ := φ
  obtain ⟨rfl, rfl, rfl, rfl, rfl, rfl, hx, hb, hml, hown, hts, hK, hA⟩ := C
  intro H locs ls hP hD hS h
  exact lv_goto hx hb d ht (kk H locs ls hP hD hS h)
theorem xw_icmp_eq (C : xc φ l R D cl tys nL cc own Ts) {a b : Int} {off : Int} {tgt : Nat} (d : decode cc pc = .ok (.if_icmp .eq off, 3)) (ht : (pc : Int) + off = (tgt : Int)) (ha : -2147483648 ≤ a ∧ a < 2147483648) (hb2 : -2147483648 ≤ b ∧ b < 2147483648) (kt : a = b → xw φ k n w tgt lv st) (kf : ¬ a = b → xw φ k n w (pc + 3) lv st) : xw φ k n w pc lv (iV b :: iV a :: st) := by
  obtain ⟨p, l, e, R, s, m, args, below, meth, c, Q, D, cl, tys, A, nL⟩ := φ
  obtain ⟨rfl, rfl, rfl, rfl, rfl, rfl, hx, hb, hml, hown, hts, hK, hA⟩ := C
  intro H locs ls hP hD hS h
  exact lv_icmp_eq hx hb d ht (fun z1 => kt ((iI_eq ha hb2).mp z1) H locs ls hP hD hS h) (fun z1 => kf (fun z => z1 ((iI_eq ha hb2).mpr z)) H locs ls hP hD hS h)
theorem xw_if_eq (C : xc φ l R D cl tys nL cc own Ts) {a : Int} {off : Int} {tgt : Nat} (d : decode cc pc = .ok (.ifCond .eq off, 3)) (ht : (pc : Int) + off = (tgt : Int)) (ha : -2147483648 ≤ a ∧ a < 2147483648) (kt : a = 0 → xw φ k n w tgt lv st) (kf : ¬ a = 0 → xw φ k n w (pc + 3) lv st) : xw φ k n w pc lv (iV a :: st) := by
  obtain ⟨p, l, e, R, s, m, args, below, meth, c, Q, D, cl, tys, A, nL⟩ := φ
  obtain ⟨rfl, rfl, rfl, rfl, rfl, rfl, hx, hb, hml, hown, hts, hK, hA⟩ := C
  intro H locs ls hP hD hS h
  exact lv_if_eq hx hb d ht (fun z1 => kt ((iI_eq (b := 0) ha (by omega)).mp z1) H locs ls hP hD hS h) (fun z1 => kf (fun z => z1 ((iI_eq (b := 0) ha (by omega)).mpr z)) H locs ls hP hD hS h)
theorem xw_icmp_eq_N (C : xc φ l R D cl tys nL cc own Ts) {a b : Nat} {off : Int} {tgt : Nat} (d : decode cc pc = .ok (.if_icmp .eq off, 3)) (ht : (pc : Int) + off = (tgt : Int)) (ha : a < 2147483648) (hb2 : b < 2147483648) (kt : a = b → xw φ k n w tgt lv st) (kf : ¬ a = b → xw φ k n w (pc + 3) lv st) : xw φ k n w pc lv (nV b :: nV a :: st) := by
  obtain ⟨p, l, e, R, s, m, args, below, meth, c, Q, D, cl, tys, A, nL⟩ := φ
  obtain ⟨rfl, rfl, rfl, rfl, rfl, rfl, hx, hb, hml, hown, hts, hK, hA⟩ := C
  intro H locs ls hP hD hS h
  exact lv_icmp_eq hx hb d ht (fun z1 => kt (by have z := (iI_eq (by omega) (by omega)).mp z1; omega) H locs ls hP hD hS h) (fun z1 => kf (fun z => z1 ((iI_eq (by omega) (by omega)).mpr (by omega))) H locs ls hP hD hS h)
theorem xw_if_eq_N (C : xc φ l R D cl tys nL cc own Ts) {a : Nat} {off : Int} {tgt : Nat} (d : decode cc pc = .ok (.ifCond .eq off, 3)) (ht : (pc : Int) + off = (tgt : Int)) (ha : a < 2147483648) (kt : a = 0 → xw φ k n w tgt lv st) (kf : ¬ a = 0 → xw φ k n w (pc + 3) lv st) : xw φ k n w pc lv (nV a :: st) := by
  obtain ⟨p, l, e, R, s, m, args, below, meth, c, Q, D, cl, tys, A, nL⟩ := φ
  obtain ⟨rfl, rfl, rfl, rfl, rfl, rfl, hx, hb, hml, hown, hts, hK, hA⟩ := C
  intro H locs ls hP hD hS h
  exact lv_if_eq hx hb d ht (fun z1 => kt (by have z := (iI_eq (b := 0) (by omega) (by omega)).mp z1; omega) H locs ls hP hD hS h) (fun z1 => kf (fun z => z1 ((iI_eq (b := 0) (by omega) (by omega)).mpr (by omega))) H locs ls hP hD hS h)
theorem xw_icmp_ne (C : xc φ l R D cl tys nL cc own Ts) {a b : Int} {off : Int} {tgt : Nat} (d : decode cc pc = .ok (.if_icmp .ne off, 3)) (ht : (pc : Int) + off = (tgt : Int)) (ha : -2147483648 ≤ a ∧ a < 2147483648) (hb2 : -2147483648 ≤ b ∧ b < 2147483648) (kt : ¬ a = b → xw φ k n w tgt lv st) (kf : a = b → xw φ k n w (pc + 3) lv st) : xw φ k n w pc lv (iV b :: iV a :: st) := by
  obtain ⟨p, l, e, R, s, m, args, below, meth, c, Q, D, cl, tys, A, nL⟩ := φ
  obtain ⟨rfl, rfl, rfl, rfl, rfl, rfl, hx, hb, hml, hown, hts, hK, hA⟩ := C
  intro H locs ls hP hD hS h
  exact lv_icmp_ne hx hb d ht (fun z1 => kt (fun z => z1 ((iI_eq ha hb2).mpr z)) H locs ls hP hD hS h) (fun z1 => kf ((iI_eq ha hb2).mp z1) H locs ls hP hD hS h)
theorem xw_if_ne (C : xc φ l R D cl tys nL cc own Ts) {a : Int} {off : Int} {tgt : Nat} (d : decode cc pc = .ok (.ifCond .ne off, 3)) (ht : (pc : Int) + off = (tgt : Int)) (ha : -2147483648 ≤ a ∧ a < 2147483648) (kt : ¬ a = 0 → xw φ k n w tgt lv st) (kf : a = 0 → xw φ k n w (pc + 3) lv st) : xw φ k n w pc lv (iV a :: st) := by
  obtain ⟨p, l, e, R, s, m, args, below, meth, c, Q, D, cl, tys, A, nL⟩ := φ
  obtain ⟨rfl, rfl, rfl, rfl, rfl, rfl, hx, hb, hml, hown, hts, hK, hA⟩ := C
  intro H locs ls hP hD hS h
  exact lv_if_ne hx hb d ht (fun z1 => kt (fun z => z1 ((iI_eq (b := 0) ha (by omega)).mpr z)) H locs ls hP hD hS h) (fun z1 => kf ((iI_eq (b := 0) ha (by omega)).mp z1) H locs ls hP hD hS h)
theorem xw_icmp_ne_N (C : xc φ l R D cl tys nL cc own Ts) {a b : Nat} {off : Int} {tgt : Nat} (d : decode cc pc = .ok (.if_icmp .ne off, 3)) (ht : (pc : Int) + off = (tgt : Int)) (ha : a < 2147483648) (hb2 : b < 2147483648) (kt : ¬ a = b → xw φ k n w tgt lv st) (kf : a = b → xw φ k n w (pc + 3) lv st) : xw φ k n w pc lv (nV b :: nV a :: st) := by
  obtain ⟨p, l, e, R, s, m, args, below, meth, c, Q, D, cl, tys, A, nL⟩ := φ
  obtain ⟨rfl, rfl, rfl, rfl, rfl, rfl, hx, hb, hml, hown, hts, hK, hA⟩ := C
  intro H locs ls hP hD hS h
  exact lv_icmp_ne hx hb d ht (fun z1 => kt (fun z => z1 ((iI_eq (by omega) (by omega)).mpr (by omega))) H locs ls hP hD hS h) (fun z1 => kf (by have z := (iI_eq (by omega) (by omega)).mp z1; omega) H locs ls hP hD hS h)
theorem xw_if_ne_N (C : xc φ l R D cl tys nL cc own Ts) {a : Nat} {off : Int} {tgt : Nat} (d : decode cc pc = .ok (.ifCond .ne off, 3)) (ht : (pc : Int) + off = (tgt : Int)) (ha : a < 2147483648) (kt : ¬ a = 0 → xw φ k n w tgt lv st) (kf : a = 0 → xw φ k n w (pc + 3) lv st) : xw φ k n w pc lv (nV a :: st) := by
  obtain ⟨p, l, e, R, s, m, args, below, meth, c, Q, D, cl, tys, A, nL⟩ := φ
  obtain ⟨rfl, rfl, rfl, rfl, rfl, rfl, hx, hb, hml, hown, hts, hK, hA⟩ := C
  intro H locs ls hP hD hS h
  exact lv_if_ne hx hb d ht (fun z1 => kt (fun z => z1 ((iI_eq (b := 0) (by omega) (by omega)).mpr (by omega))) H locs ls hP hD hS h) (fun z1 => kf (by have z := (iI_eq (b := 0) (by omega) (by omega)).mp z1; omega) H locs ls hP hD hS h)
theorem xw_icmp_lt (C : xc φ l R D cl tys nL cc own Ts) {a b : Int} {off : Int} {tgt : Nat} (d : decode cc pc = .ok (.if_icmp .lt off, 3)) (ht : (pc : Int) + off = (tgt : Int)) (ha : -2147483648 ≤ a ∧ a < 2147483648) (hb2 : -2147483648 ≤ b ∧ b < 2147483648) (kt : a < b → xw φ k n w tgt lv st) (kf : ¬ a < b → xw φ k n w (pc + 3) lv st) : xw φ k n w pc lv (iV b :: iV a :: st) := by
  obtain ⟨p, l, e, R, s, m, args, below, meth, c, Q, D, cl, tys, A, nL⟩ := φ
  obtain ⟨rfl, rfl, rfl, rfl, rfl, rfl, hx, hb, hml, hown, hts, hK, hA⟩ := C
  intro H locs ls hP hD hS h
  exact lv_icmp_lt hx hb d ht (fun z1 => kt ((iI_lt ha hb2).mp z1) H locs ls hP hD hS h) (fun z1 => kf (fun z => z1 ((iI_lt ha hb2).mpr z)) H locs ls hP hD hS h)
theorem xw_if_lt (C : xc φ l R D cl tys nL cc own Ts) {a : Int} {off : Int} {tgt : Nat} (d : decode cc pc = .ok (.ifCond .lt off, 3)) (ht : (pc : Int) + off = (tgt : Int)) (ha : -2147483648 ≤ a ∧ a < 2147483648) (kt : a < 0 → xw φ k n w tgt lv st) (kf : ¬ a < 0 → xw φ k n w (pc + 3) lv st) : xw φ k n w pc lv (iV a :: st) := by
  obtain ⟨p, l, e, R, s, m, args, below, meth, c, Q, D, cl, tys, A, nL⟩ := φ
  obtain ⟨rfl, rfl, rfl, rfl, rfl, rfl, hx, hb, hml, hown, hts, hK, hA⟩ := C
  intro H locs ls hP hD hS h
  exact lv_if_lt hx hb d ht (fun z1 => kt ((iI_lt (b := 0) ha (by omega)).mp z1) H locs ls hP hD hS h) (fun z1 => kf (fun z => z1 ((iI_lt (b := 0) ha (by omega)).mpr z)) H locs ls hP hD hS h)
theorem xw_icmp_lt_N (C : xc φ l R D cl tys nL cc own Ts) {a b : Nat} {off : Int} {tgt : Nat} (d : decode cc pc = .ok (.if_icmp .lt off, 3)) (ht : (pc : Int) + off = (tgt : Int)) (ha : a < 2147483648) (hb2 : b < 2147483648) (kt : a < b → xw φ k n w tgt lv st) (kf : ¬ a < b → xw φ k n w (pc + 3) lv st) : xw φ k n w pc lv (nV b :: nV a :: st) := by
  obtain ⟨p, l, e, R, s, m, args, below, meth, c, Q, D, cl, tys, A, nL⟩ := φ
  obtain ⟨rfl, rfl, rfl, rfl, rfl, rfl, hx, hb, hml, hown, hts, hK, hA⟩ := C
  intro H locs ls hP hD hS h
  exact lv_icmp_lt hx hb d ht (fun z1 => kt (by have z := (iI_lt (by omega) (by omega)).mp z1; omega) H locs ls hP hD hS h) (fun z1 => kf (fun z => z1 ((iI_lt (by omega) (by omega)).mpr (by omega))) H locs ls hP hD hS h)
theorem xw_if_lt_N (C : xc φ l R D cl tys nL cc own Ts) {a : Nat} {off : Int} {tgt : Nat} (d : decode cc pc = .ok (.ifCond .lt off, 3)) (ht : (pc : Int) + off = (tgt : Int)) (ha : a < 2147483648) (kt : a < 0 → xw φ k n w tgt lv st) (kf : ¬ a < 0 → xw φ k n w (pc + 3) lv st) : xw φ k n w pc lv (nV a :: st) := by
  obtain ⟨p, l, e, R, s, m, args, below, meth, c, Q, D, cl, tys, A, nL⟩ := φ
  obtain ⟨rfl, rfl, rfl, rfl, rfl, rfl, hx, hb, hml, hown, hts, hK, hA⟩ := C
  intro H locs ls hP hD hS h
  exact lv_if_lt hx hb d ht (fun z1 => kt (by have z := (iI_lt (b := 0) (by omega) (by omega)).mp z1; omega) H locs ls hP hD hS h) (fun z1 => kf (fun z => z1 ((iI_lt (b := 0) (by omega) (by omega)).mpr (by omega))) H locs ls hP hD hS h)
theorem xw_icmp_ge (C : xc φ l R D cl tys nL cc own Ts) {a b : Int} {off : Int} {tgt : Nat} (d : decode cc pc = .ok (.if_icmp .ge off, 3)) (ht : (pc : Int) + off = (tgt : Int)) (ha : -2147483648 ≤ a ∧ a < 2147483648) (hb2 : -2147483648 ≤ b ∧ b < 2147483648) (kt : b ≤ a → xw φ k n w tgt lv st) (kf : ¬ b ≤ a → xw φ k n w (pc + 3) lv st) : xw φ k n w pc lv (iV b :: iV a :: st) := by
  obtain ⟨p, l, e, R, s, m, args, below, meth, c, Q, D, cl, tys, A, nL⟩ := φ
  obtain ⟨rfl, rfl, rfl, rfl, rfl, rfl, hx, hb, hml, hown, hts, hK, hA⟩ := C
  intro H locs ls hP hD hS h
  exact lv_icmp_ge hx hb d ht (fun z1 => kt ((iI_le hb2 ha).mp z1) H locs ls hP hD hS h) (fun z1 => kf (fun z => z1 ((iI_le hb2 ha).mpr z)) H locs ls hP hD hS h)
theorem xw_if_ge (C : xc φ l R D cl tys nL cc own Ts) {a : Int} {off : Int} {tgt : Nat} (d : decode cc pc = .ok (.ifCond .ge off, 3)) (ht : (pc : Int) + off = (tgt : Int)) (ha : -2147483648 ≤ a ∧ a < 2147483648) (kt : 0 ≤ a → xw φ k n w tgt lv st) (kf : ¬ 0 ≤ a → xw φ k n w (pc + 3) lv st) : xw φ k n w pc lv (iV a :: st) := by
  obtain ⟨p, l, e, R, s, m, args, below, meth, c, Q, D, cl, tys, A, nL⟩ := φ
  obtain ⟨rfl, rfl, rfl, rfl, rfl, rfl, hx, hb, hml, hown, hts, hK, hA⟩ := C
  intro H locs ls hP hD hS h
  exact lv_if_ge hx hb d ht (fun z1 => kt ((iI_le (a := 0) (by omega) ha).mp z1) H locs ls hP hD hS h) (fun z1 => kf (fun z => z1 ((iI_le (a := 0) (by omega) ha).mpr z)) H locs ls hP hD hS h)
theorem xw_icmp_ge_N (C : xc φ l R D cl tys nL cc own Ts) {a b : Nat} {off : Int} {tgt : Nat} (d : decode cc pc = .ok (.if_icmp .ge off, 3)) (ht : (pc : Int) + off = (tgt : Int)) (ha : a < 2147483648) (hb2 : b < 2147483648) (kt : b ≤ a → xw φ k n w tgt lv st) (kf : ¬ b ≤ a → xw φ k n w (pc + 3) lv st) : xw φ k n w pc lv (nV b :: nV a :: st) := by
  obtain ⟨p, l, e, R, s, m, args, below, meth, c, Q, D, cl, tys, A, nL⟩ := φ
  obtain ⟨rfl, rfl, rfl, rfl, rfl, rfl, hx, hb, hml, hown, hts, hK, hA⟩ := C
  intro H locs ls hP hD hS h
  exact lv_icmp_ge hx hb d ht (fun z1 => kt (by have z := (iI_le (by omega) (by omega)).mp z1; omega) H locs ls hP hD hS h) (fun z1 => kf (fun z => z1 ((iI_le (by omega) (by omega)).mpr (by omega))) H locs ls hP hD hS h)
theorem xw_if_ge_N (C : xc φ l R D cl tys nL cc own Ts) {a : Nat} {off : Int} {tgt : Nat} (d : decode cc pc = .ok (.ifCond .ge off, 3)) (ht : (pc : Int) + off = (tgt : Int)) (ha : a < 2147483648) (kt : 0 ≤ a → xw φ k n w tgt lv st) (kf : ¬ 0 ≤ a → xw φ k n w (pc + 3) lv st) : xw φ k n w pc lv (nV a :: st) := by
  obtain ⟨p, l, e, R, s, m, args, below, meth, c, Q, D, cl, tys, A, nL⟩ := φ
  obtain ⟨rfl, rfl, rfl, rfl, rfl, rfl, hx, hb, hml, hown, hts, hK, hA⟩ := C
  intro H locs ls hP hD hS h
  exact lv_if_ge hx hb d ht (fun z1 => kt (by have z := (iI_le (a := 0) (by omega) (by omega)).mp z1; omega) H locs ls hP hD hS h) (fun z1 => kf (fun z => z1 ((iI_le (a := 0) (by omega) (by omega)).mpr (by omega))) H locs ls hP hD hS h)
theorem xw_icmp_gt (C : xc φ l R D cl tys nL cc own Ts) {a b : Int} {off : Int} {tgt : Nat} (d : decode cc pc = .ok (.if_icmp .gt off, 3)) (ht : (pc : Int) + off = (tgt : Int)) (ha : -2147483648 ≤ a ∧ a < 2147483648) (hb2 : -2147483648 ≤ b ∧ b < 2147483648) (kt : b < a → xw φ k n w tgt lv st) (kf : ¬ b < a → xw φ k n w (pc + 3) lv st) : xw φ k n w pc lv (iV b :: iV a :: st) := by
  obtain ⟨p, l, e, R, s, m, args, below, meth, c, Q, D, cl, tys, A, nL⟩ := φ
  obtain ⟨rfl, rfl, rfl, rfl, rfl, rfl, hx, hb, hml, hown, hts, hK, hA⟩ := C
  intro H locs ls hP hD hS h
  exact lv_icmp_gt hx hb d ht (fun z1 => kt ((iI_lt hb2 ha).mp z1) H locs ls hP hD hS h) (fun z1 => kf (fun z => z1 ((iI_lt hb2 ha).mpr z)) H locs ls hP hD hS h)
theorem xw_if_gt (C : xc φ l R D cl tys nL cc own Ts) {a : Int} {off : Int} {tgt : Nat} (d : decode cc pc = .ok (.ifCond .gt off, 3)) (ht : (pc : Int) + off = (tgt : Int)) (ha : -2147483648 ≤ a ∧ a < 2147483648) (kt : 0 < a → xw φ k n w tgt lv st) (kf : ¬ 0 < a → xw φ k n w (pc + 3) lv st) : xw φ k n w pc lv (iV a :: st) := by
  obtain ⟨p, l, e, R, s, m, args, below, meth, c, Q, D, cl, tys, A, nL⟩ := φ
  obtain ⟨rfl, rfl, rfl, rfl, rfl, rfl, hx, hb, hml, hown, hts, hK, hA⟩ := C
  intro H locs ls hP hD hS h
  exact lv_if_gt hx hb d ht (fun z1 => kt ((iI_lt (a := 0) (by omega) ha).mp z1) H locs ls hP hD hS h) (fun z1 => kf (fun z => z1 ((iI_lt (a := 0) (by omega) ha).mpr z)) H locs ls hP hD hS h)
theorem xw_icmp_gt_N (C : xc φ l R D cl tys nL cc own Ts) {a b : Nat} {off : Int} {tgt : Nat} (d : decode cc pc = .ok (.if_icmp .gt off, 3)) (ht : (pc : Int) + off = (tgt : Int)) (ha : a < 2147483648) (hb2 : b < 2147483648) (kt : b < a → xw φ k n w tgt lv st) (kf : ¬ b < a → xw φ k n w (pc + 3) lv st) : xw φ k n w pc lv (nV b :: nV a :: st) := by
  obtain ⟨p, l, e, R, s, m, args, below, meth, c, Q, D, cl, tys, A, nL⟩ := φ
  obtain ⟨rfl, rfl, rfl, rfl, rfl, rfl, hx, hb, hml, hown, hts, hK, hA⟩ := C
  intro H locs ls hP hD hS h
  exact lv_icmp_gt hx hb d ht (fun z1 => kt (by have z := (iI_lt (by omega) (by omega)).mp z1; omega) H locs ls hP hD hS h) (fun z1 => kf (fun z => z1 ((iI_lt (by omega) (by omega)).mpr (by omega))) H locs ls hP hD hS h)
theorem xw_if_gt_N (C : xc φ l R D cl tys nL cc own Ts) {a : Nat} {off : Int} {tgt : Nat} (d : decode cc pc = .ok (.ifCond .gt off, 3)) (ht : (pc : Int) + off = (tgt : Int)) (ha : a < 2147483648) (kt : 0 < a → xw φ k n w tgt lv st) (kf : ¬ 0 < a → xw φ k n w (pc + 3) lv st) : xw φ k n w pc lv (nV a :: st) := by
  obtain ⟨p, l, e, R, s, m, args, below, meth, c, Q, D, cl, tys, A, nL⟩ := φ
  obtain ⟨rfl, rfl, rfl, rfl, rfl, rfl, hx, hb, hml, hown, hts, hK, hA⟩ := C
  intro H locs ls hP hD hS h
  exact lv_if_gt hx hb d ht (fun z1 => kt (by have z := (iI_lt (a := 0) (by omega) (by omega)).mp z1; omega) H locs ls hP hD hS h) (fun z1 => kf (fun z => z1 ((iI_lt (a := 0) (by omega) (by omega)).mpr (by omega))) H locs ls hP hD hS h)
theorem xw_icmp_le (C : xc φ l R D cl tys nL cc own Ts) {a b : Int} {off : Int} {tgt : Nat} (d : decode cc pc = .ok (.if_icmp .le off, 3)) (ht : (pc : Int) + off = (tgt : Int)) (ha : -2147483648 ≤ a ∧ a < 2147483648) (hb2 : -2147483648 ≤ b ∧ b < 2147483648) (kt : a ≤ b → xw φ k n w tgt lv st) (kf : ¬ a ≤ b → xw φ k n w (pc + 3) lv st) : xw φ k n w pc lv (iV b :: iV a :: st) := by
  obtain ⟨p, l, e, R, s, m, args, below, meth, c, Q, D, cl, tys, A, nL⟩ := φ
  obtain ⟨rfl, rfl, rfl, rfl, rfl, rfl, hx, hb, hml, hown, hts, hK, hA⟩ := C
  intro H locs ls hP hD hS h
  exact lv_icmp_le hx hb d ht (fun z1 => kt ((iI_le ha hb2).mp z1) H locs ls hP hD hS h) (fun z1 => kf (fun z => z1 ((iI_le ha hb2).mpr z)) H locs ls hP hD hS h)
theorem xw_if_le (C : xc φ l R D cl tys nL cc own Ts) {a : Int} {off : Int} {tgt : Nat} (d : decode cc pc = .ok (.ifCond .le off, 3)) (ht : (pc : Int) + off = (tgt : Int)) (ha : -2147483648 ≤ a ∧ a < 2147483648) (kt : a ≤ 0 → xw φ k n w tgt lv st) (kf : ¬ a ≤ 0 → xw φ k n w (pc + 3) lv st) : xw φ k n w pc lv (iV a :: st) := by
  obtain ⟨p, l, e, R, s, m, args, below, meth, c, Q, D, cl, tys, A, nL⟩ := φ
  obtain ⟨rfl, rfl, rfl, rfl, rfl, rfl, hx, hb, hml, hown, hts, hK, hA⟩ := C
  intro H locs ls hP hD hS h
  exact lv_if_le hx hb d ht (fun z1 => kt ((iI_le (b := 0) ha (by omega)).mp z1) H locs ls hP hD hS h) (fun z1 => kf (fun z => z1 ((iI_le (b := 0) ha (by omega)).mpr z)) H locs ls hP hD hS h)
theorem xw_icmp_le_N (C : xc φ l R D cl tys nL cc own Ts) {a b : Nat} {off : Int} {tgt : Nat} (d : decode cc pc = .ok (.if_icmp .le off, 3)) (ht : (pc : Int) + off = (tgt : Int)) (ha : a < 2147483648) (hb2 : b < 2147483648) (kt : a ≤ b → xw φ k n w tgt lv st) (kf : ¬ a ≤ b → xw φ k n w (pc + 3) lv st) : xw φ k n w pc lv (nV b :: nV a :: st) := by
  obtain ⟨p, l, e, R, s, m, args, below, meth, c, Q, D, cl, tys, A, nL⟩ := φ
  obtain ⟨rfl, rfl, rfl, rfl, rfl, rfl, hx, hb, hml, hown, hts, hK, hA⟩ := C
  intro H locs ls hP hD hS h
  exact lv_icmp_le hx hb d ht (fun z1 => kt (by have z := (iI_le (by omega) (by omega)).mp z1; omega) H locs ls hP hD hS h) (fun z1 => kf (fun z => z1 ((iI_le (by omega) (by omega)).mpr (by omega))) H locs ls hP hD hS h)
theorem xw_if_le_N (C : xc φ l R D cl tys nL cc own Ts) {a : Nat} {off : Int} {tgt : Nat} (d : decode cc pc = .ok (.ifCond .le off, 3)) (ht : (pc : Int) + off = (tgt : Int)) (ha : a < 2147483648) (kt : a ≤ 0 → xw φ k n w tgt lv st) (kf : ¬ a ≤ 0 → xw φ k n w (pc + 3) lv st) : xw φ k n w pc lv (nV a :: st) := by
  obtain ⟨p, l, e, R, s, m, args, below, meth, c, Q, D, cl, tys, A, nL⟩ := φ
  obtain ⟨rfl, rfl, rfl, rfl, rfl, rfl, hx, hb, hml, hown, hts, hK, hA⟩ := C
  intro H locs ls hP hD hS h
  exact lv_if_le hx hb d ht (fun z1 => kt (by have z := (iI_le (b := 0) (by omega) (by omega)).mp z1; omega) H locs ls hP hD hS h) (fun z1 => kf (fun z => z1 ((iI_le (b := 0) (by omega) (by omega)).mpr (by omega))) H locs ls hP hD hS h)
theorem xw_if_eq_B (C : xc φ l R D cl tys nL cc own Ts) {b : Bool} {off : Int} {tgt : Nat} (d : decode cc pc = .ok (.ifCond .eq off, 3)) (ht : (pc : Int) + off = (tgt : Int))  (kt : b = false → xw φ k n w tgt lv st) (kf : b = true → xw φ k n w (pc + 3) lv st) : xw φ k n w pc lv (bV b :: st) := by
  obtain ⟨p, l, e, R, s, m, args, below, meth, c, Q, D, cl, tys, A, nL⟩ := φ
  obtain ⟨rfl, rfl, rfl, rfl, rfl, rfl, hx, hb, hml, hown, hts, hK, hA⟩ := C
  intro H locs ls hP hD hS h
  cases b
  · exact lv_if_eq hx hb d ht (fun _ => kt rfl H locs ls hP hD hS h) (fun z1 => absurd rfl z1)
  · exact lv_if_eq hx hb d ht (fun z1 => absurd z1 (by decide)) (fun _ => kf rfl H locs ls hP hD hS h)
theorem xw_if_ne_B (C : xc φ l R D cl tys nL cc own Ts) {b : Bool} {off : Int} {tgt : Nat} (d : decode cc pc = .ok (.ifCond .ne off, 3)) (ht : (pc : Int) + off = (tgt : Int))  (kt : b = true → xw φ k n w tgt lv st) (kf : b = false → xw φ k n w (pc + 3) lv st) : xw φ k n w pc lv (bV b :: st) := by
  obtain ⟨p, l, e, R, s, m, args, below, meth, c, Q, D, cl, tys, A, nL⟩ := φ
  obtain ⟨rfl, rfl, rfl, rfl, rfl, rfl, hx, hb, hml, hown, hts, hK, hA⟩ := C
  intro H locs ls hP hD hS h
  cases b
  · exact lv_if_ne hx hb d ht (fun z1 => absurd rfl z1) (fun _ => kf rfl H locs ls hP hD hS h)
  · exact lv_if_ne hx hb d ht (fun _ => kt rfl H locs ls hP hD hS h) (fun z1 => absurd z1 (by decide))
/-- another writing of the stack, of the world, of the locals -/
theorem xw_st {st' : List Value} (e : st = st') (kk : xw φ k n w pc lv st') : xw φ k n w pc lv st := e ▸ kk
theorem xw_wo {w' : va_W} (e : w = w') (kk : xw φ k n w' pc lv st) : xw φ k n w pc lv st := e ▸ kk
theorem xw_le {lv' : List (Nat × Value)} (e : lv = lv') (kk : xw φ k n w pc lv' st) : xw φ k n w pc lv st := e ▸ kk
theorem xw_get (C : xc φ l R D cl tys nL cc own Ts) {ref Cn : String} {T : u_T} {N ci index a : Nat} {fs : List Value} {v : Value} (hin : ∀ w ∈ u_ws Cn T N, w ∈ Ts) (q0 f : Nat) (he : w[q0]? = some (a, .inr (ci, fs))) (hc : cl[ci]? = some (Cn, T, N)) (hf : f < N) (hlink : Cond.fieldLink own index ref (T f).2.1 (T f).2.2.1 ∈ Ts) (href : (T f).1 = ref) (hv : fs[f]? = some v) (d : decode cc pc = .ok (.getfield index, 3)) (kk : xw φ k n w (pc + 3) lv (v :: st)) : xw φ k n w pc lv (.ref a :: st) := by
  obtain ⟨p, l, e, R, s, m, args, below, meth, c, Q, D, cl, tys, A, nL⟩ := φ
  obtain ⟨rfl, rfl, rfl, rfl, rfl, rfl, hx, hb, hml, hown, hts, hK, hA⟩ := C
  intro H locs ls hP hD hS h
  exact va_get hx hb hts hin hown hK hP q0 he hc f hf (hts _ hlink) (fun x h9 => href ▸ h9) hv d (kk H locs ls hP hD hS h)
theorem xw_put (C : xc φ l R D cl tys nL cc own Ts) {ref Cn : String} {T : u_T} {N ci index a : Nat} {fs : List Value} {v : Value} {w' : va_W} (hin : ∀ w ∈ u_ws Cn T N, w ∈ Ts) (ty0 : Nat → FieldType) (hty : ∀ k, k < N → parseFieldDescriptor (T k).2.2.1 = some (ty0 k)) (hnm : ∀ a, a < N → ∀ b, b < N → a ≠ b → (T a).2.1 ≠ (T b).2.1) (q0 f : Nat) (he : w[q0]? = some (a, .inr (ci, fs))) (hc : cl[ci]? = some (Cn, T, N)) (hf : f < N) (hlink : Cond.fieldLink own index ref (T f).2.1 (T f).2.2.1 ∈ Ts) (href : (T f).1 = ref) (hfin : (T f).2.2.2 = false) (hn : narrow (ty0 f) v = v) (hfit : fits (ty0 f) v = true) (hl : f < fs.length) (hw : w.set q0 (a, .inr (ci, fs.set f v)) = w') (d : decode cc pc = .ok (.putfield index, 3)) (kk : xw φ k n w' (pc + 3) lv st) : xw φ k n w pc lv (v :: .ref a :: st) := by
  obtain ⟨p, l, e, R, s, m, args, below, meth, c, Q, D, cl, tys, A, nL⟩ := φ
  obtain ⟨rfl, rfl, rfl, rfl, rfl, rfl, hx, hb, hml, hown, hts, hK, hA⟩ := C
  intro H locs ls hP hD hS h
  exact va_put hx hb hts hin ty0 hty hnm hown hK hP hD hS q0 he hc f hf (hts _ hlink) (fun x h9 => href ▸ h9) hfin (hty f hf) hn hfit hl d (fun H1 locs1 hP hD hS => kk H1 locs1 ls (hw ▸ hP) (hw ▸ hD) hS h)
theorem xw_putF (C : xc φ l R D cl tys nL cc own Ts) (I : xi φ) {Cn : String} {T : u_T} {N ci index a : Nat} {fs : List Value} {v : Value} {w' : va_W} (hin : ∀ w ∈ u_ws Cn T N, w ∈ Ts) (ty0 : Nat → FieldType) (hty : ∀ k, k < N → parseFieldDescriptor (T k).2.2.1 = some (ty0 k)) (hnm : ∀ a, a < N → ∀ b, b < N → a ≠ b → (T a).2.1 ≠ (T b).2.1) (q0 f : Nat) (he : w[q0]? = some (a, .inr (ci, fs))) (hc : cl[ci]? = some (Cn, T, N)) (hf : f < N) (hlink : Cond.fieldLink own index (T f).1 (T f).2.1 (T f).2.2.1 ∈ Ts) (hfin : (T f).2.2.2 = true) (hdecl : (T f).1 = own) (hn : narrow (ty0 f) v = v) (hfit : fits (ty0 f) v = true) (hl : f < fs.length) (hw : w.set q0 (a, .inr (ci, fs.set f v)) = w') (d : decode cc pc = .ok (.putfield index, 3)) (kk : xw φ k n w' (pc + 3) lv st) : xw φ k n w pc lv (v :: .ref a :: st) := by
  obtain ⟨p, l, e, R, s, m, args, below, meth, c, Q, D, cl, tys, A, nL⟩ := φ
  obtain ⟨rfl, rfl, rfl, rfl, rfl, rfl, hx, hb, hml, hown, hts, hK, hA⟩ := C
  intro H locs ls hP hD hS h
  exact va_putF hx hb hts hin ty0 hty hnm hown hK hP hD hS q0 he hc f hf (hts _ hlink) (fun x h9 => h9) hfin I hdecl (hty f hf) hn hfit hl d (fun H1 locs1 hP hD hS => kk H1 locs1 ls (hw ▸ hP) (hw ▸ hD) hS h)
theorem xw_iald (C : xc φ l R D cl tys nL cc own Ts) {a N : Nat} {cA : ClassId} {B : Nat → Nat} {i : Int} (q0 t0 j : Nat) (ha : w[q0]? = some (a, .inl (cA, N, .inl (fN B)))) (ht : tys[t0]? = some (cA, .int)) (hi : i = (j : Int)) (hj : j < N) (hN : N < 2147483648) (d : decode cc pc = .ok (.iaload, 1)) (kk : xw φ k n w (pc + 1) lv (nV (B j) :: st)) : xw φ k n w pc lv (iV i :: .ref a :: st) := by
  obtain ⟨p, l, e, R, s, m, args, below, meth, c, Q, D, cl, tys, A, nL⟩ := φ
  obtain ⟨rfl, rfl, rfl, rfl, rfl, rfl, hx, hb, hml, hown, hts, hK, hA⟩ := C
  intro H locs ls hP hD hS h
  subst hi
  refine va_iald hx hb hK hP q0 t0 ha ht (iI_in hj hN) d ?_
  rw [iI_cl (by omega)]
  exact kk H locs ls hP hD hS h
theorem xw_iast (C : xc φ l R D cl tys nL cc own Ts) {a N : Nat} {cA : ClassId} {B : Nat → Nat} {i x : Int} {w' : va_W} (q0 t0 j v : Nat) (ha : w[q0]? = some (a, .inl (cA, N, .inl (fN B)))) (ht : tys[t0]? = some (cA, .int)) (hi : i = (j : Int)) (hv : x = (v : Int)) (hj : j < N) (hN : N < 2147483648) (hw : w.set q0 (a, .inl (cA, N, .inl (fN (va_up B j v)))) = w') (d : decode cc pc = .ok (.iastore, 1)) (kk : xw φ k n w' (pc + 1) lv st) : xw φ k n w pc lv (iV x :: iV i :: .ref a :: st) := by
  obtain ⟨p, l, e, R, s, m, args, below, meth, c, Q, D, cl, tys, A, nL⟩ := φ
  obtain ⟨rfl, rfl, rfl, rfl, rfl, rfl, hx, hb, hml, hown, hts, hK, hA⟩ := C
  intro H locs ls hP hD hS h
  subst hi; subst hv
  refine va_iast hx hb hK hP hD hS q0 t0 ha ht (iI_in hj hN) d (fun H1 locs1 hP hD hS => ?_)
  rw [iI_cl (by omega), fN_upd, hw] at hP hD
  exact kk H1 locs1 ls hP hD hS h
theorem xw_alen (C : xc φ l R D cl tys nL cc own Ts) {a : Nat} {cA : ClassId} {x : vp_A} {ty : FieldType} (q0 t0 : Nat) (ha : w[q0]? = some (a, .inl (cA, x))) (ht : tys[t0]? = some (cA, ty)) (d : decode cc pc = .ok (.arraylength, 1)) (kk : xw φ k n w (pc + 1) lv (nV x.1 :: st)) : xw φ k n w pc lv (.ref a :: st) := by
  obtain ⟨p, l, e, R, s, m, args, below, meth, c, Q, D, cl, tys, A, nL⟩ := φ
  obtain ⟨rfl, rfl, rfl, rfl, rfl, rfl, hx, hb, hml, hown, hts, hK, hA⟩ := C
  intro H locs ls hP hD hS h
  exact va_alen hx hb hK hP q0 t0 ha ht (iI_nI x.1).symm d (kk H locs ls hP hD hS h)
theorem xw_iret (C : xc φ l R D cl tys nL cc own Ts) {w0 : va_W} {Post : Option Value → va_W → Prop} {mc ms : Nat} {x : Int32} (r : xr φ w0 Post (some .int) mc ms) (hk : k ≤ mc) (hn : n ≤ ms) (d : decode cc pc = .ok (.ireturn, 1)) (hp : Post (some (.int x)) w) : xw φ k n w pc lv [.int x] := by
  obtain ⟨p, l, e, R, s, m, args, below, meth, c, Q, D, cl, tys, A, nL⟩ := φ
  obtain ⟨rfl, rfl, rfl, rfl, rfl, rfl, hx, hb, hml, hown, hts, hK, hA⟩ := C
  intro H locs ls hP hD hS h
  obtain ⟨hr, hlocks, rfl, rfl⟩ := r
  exact W.widen hk hn (W.iret hx hb hr (fun t ht hW => ⟨⟨_, _, rfl, hp, by rw [ht]; exact hP, hD⟩, hS.F ht⟩) hS.2.2 d hlocks)
theorem xw_bret (C : xc φ l R D cl tys nL cc own Ts) {w0 : va_W} {Post : Option Value → va_W → Prop} {mc ms : Nat} {b : Bool} (r : xr φ w0 Post (some .boolean) mc ms) (hk : k ≤ mc) (hn : n ≤ ms) (d : decode cc pc = .ok (.ireturn, 1)) (hp : Post (some (bV b)) w) : xw φ k n w pc lv [bV b] := by
  obtain ⟨p, l, e, R, s, m, args, below, meth, c, Q, D, cl, tys, A, nL⟩ := φ
  obtain ⟨rfl, rfl, rfl, rfl, rfl, rfl, hx, hb, hml, hown, hts, hK, hA⟩ := C
  intro H locs ls hP hD hS h
  obtain ⟨hr, hlocks, rfl, rfl⟩ := r
  exact W.widen hk hn (W.zret hx hb hr (by cases b <;> rfl) (fun t ht hW => ⟨⟨_, _, rfl, hp, by rw [ht]; exact hP, hD⟩, hS.F ht⟩) hS.2.2 d hlocks)
theorem xw_vret (C : xc φ l R D cl tys nL cc own Ts) {w0 : va_W} {Post : Option Value → va_W → Prop} {mc ms : Nat} (r : xr φ w0 Post none mc ms) (hk : k ≤ mc) (hn : n ≤ ms) (d : decode cc pc = .ok (.return_, 1)) (hp : Post none w) : xw φ k n w pc lv [] := by
  obtain ⟨p, l, e, R, s, m, args, below, meth, c, Q, D, cl, tys, A, nL⟩ := φ
  obtain ⟨rfl, rfl, rfl, rfl, rfl, rfl, hx, hb, hml, hown, hts, hK, hA⟩ := C
  intro H locs ls hP hD hS h
  obtain ⟨hr, hlocks, rfl, rfl⟩ := r
  exact W.widen hk hn (W.vret hx hb hr (fun t ht hW => ⟨⟨_, _, rfl, hp, by rw [ht]; exact hP, hD⟩, hS.F ht⟩) hS.2.2 d hlocks)
theorem xw_lret (C : xc φ l R D cl tys nL cc own Ts) {w0 : va_W} {Post : Option Value → va_W → Prop} {mc ms : Nat} {x : Int64} (r : xr φ w0 Post (some .long) mc ms) (hk : k ≤ mc) (hn : n ≤ ms) (d : decode cc pc = .ok (.lreturn, 1)) (hp : Post (some (.long x)) w) : xw φ k n w pc lv [.long x] := by
  obtain ⟨p, l, e, R, s, m, args, below, meth, c, Q, D, cl, tys, A, nL⟩ := φ
  obtain ⟨rfl, rfl, rfl, rfl, rfl, rfl, hx, hb, hml, hown, hts, hK, hA⟩ := C
  intro H locs ls hP hD hS h
  obtain ⟨hr, hlocks, rfl, rfl⟩ := r
  exact W.widen hk hn (W.lret hx hb hr (fun t ht hW => ⟨⟨_, _, rfl, hp, by rw [ht]; exact hP, hD⟩, hS.F ht⟩) hS.2.2 d hlocks)
theorem xw_dret (C : xc φ l R D cl tys nL cc own Ts) {w0 : va_W} {Post : Option Value → va_W → Prop} {mc ms : Nat} {x : UInt64} (r : xr φ w0 Post (some .double) mc ms) (hk : k ≤ mc) (hn : n ≤ ms) (d : decode cc pc = .ok (.dreturn, 1)) (hp : Post (some (.double x)) w) : xw φ k n w pc lv [.double x] := by
  obtain ⟨p, l, e, R, s, m, args, below, meth, c, Q, D, cl, tys, A, nL⟩ := φ
  obtain ⟨rfl, rfl, rfl, rfl, rfl, rfl, hx, hb, hml, hown, hts, hK, hA⟩ := C
  intro H locs ls hP hD hS h
  obtain ⟨hr, hlocks, rfl, rfl⟩ := r
  exact W.widen hk hn (W.dret hx hb hr (fun t ht hW => ⟨⟨_, _, rfl, hp, by rw [ht]; exact hP, hD⟩, hS.F ht⟩) hS.2.2 d hlocks)
/-- behind a call that has run -/
theorem xw_run {p : Program} {l : Launch} {e : Env} {R : Room} {s : State} {m : MethodId} {args a : Array Value} {below : List Frame} {meth : Method} {c : Code} {H : Heap} {locs : List Loc} {Q : State → Prop} {mc ms : Nat} {ls : Array Slot} {wc : va_W} {A : Nat → Prop} {Post : Option Value → va_W → Prop}
    (hr : va_Run p l e R s m args below meth c H locs k n mc ms (F0 m pc ls st) rest (ctQ D cl wc H.size Post a) (va_A wc H.size)) (hS : va_S A s.heap H locs) (hF : ∀ q, va_A wc H.size q → A q)
    (kk : ∀ (v : Option Value) (w1 : va_W) (H1 : Heap) (locs1 : List Loc), Post v w1 → va_P D cl w1 H1 → va_D (va_A wc H.size) w1 → (∀ q : Nat, q < H.size → ¬ va_A wc H.size q → H1[q]? = H[q]?) → va_S A s.heap H1 locs1 → W p l e R s m args below meth c H1 locs1 (k + mc) (n + ms) Q (F0 m (pc + 3) ls (v.toList ++ rest))) : W p l e R s m args below meth c H locs k n Q (F0 m pc ls st) := by
  intro T hT X
  obtain ⟨v, st₀, t, T', L, h0, X', hL, e1, e2, ⟨⟨v', w1, hv, hp, hP1, hD1⟩, hz, hk⟩, stp⟩ := hr T hT X
  cases hv
  rw [h0] at hz hk
  obtain ⟨t2, a1, b1⟩ := kk v w1 T'.heap (locs ++ L) hp (by rw [e1]; exact hP1) hD1 (fun q h1 h2 => by rw [e1]; exact hk q h1 h2)
    ⟨Nat.le_trans hS.1 (by rw [e1]; exact hz), fun q h1 h2 => by rw [e1, hk q (Nat.lt_of_lt_of_le h1 hS.1) (fun z => h2 (hF q z))]; exact hS.2.1 q h1 h2, fun q hq => by
      rcases List.mem_append.mp hq with h | h
      · exact hS.2.2 q h
      · exact hF _ (hL q h)⟩ T' rfl X'
  exact ⟨t2, stp t2 a1, b1⟩
theorem va_selfree {A0 : Nat → Prop} {ws : va_W} {H0 H : Heap} {locs : List Loc} (hD : va_D A0 ws) (hS : va_S A0 H0 H locs) (hA : ∀ q, H0.size ≤ q → A0 q) : ∀ q, va_A ws H.size q → A0 q := by
  intro q h
  rcases h with ⟨k, e, h⟩ | h
  · exact hD.2 k (q, e) h
  · exact hA q (Nat.le_trans hS.1 h)
set_option maxHeartbeats 4000000 in
/-- a virtual call over the whole world -/
theorem xw_V (C : xc φ l R D cl tys nL cc own Ts) {Cn : String} {T : u_T} {N : Nat} {index b ci q0 maxL mc ms : Nat} {y : MethodName} {ws ws' : List Cond} {bytes : ByteArray} {ret : Option FieldType} {rm : Room} {As fs : List Value} {Post : Option Value → va_W → Prop}
    (hM : CT l y ws rm D cl tys (.ref b :: As) w Post mc ms) (hg : GoodIn Ts (wsV own index Cn y ws)) (hw : ws = .code y bytes maxL ret :: ws') (hrc : rm.cells = mc) (hrs : rm.slots = ms) {na : Nat} (hna : As.length = na)
    (hy : y.cls = Cn ∧ y.cls ≠ "java/lang/invoke/MethodHandle" ∧ y.cls ≠ "java/lang/invoke/VarHandle" ∧ (parseMethodDescriptor y.desc).map (fun d => d.parameters.length) = some na) (hR : rm.frames + 1 ≤ R.frames ∧ 8 + (maxL + 11) + rm.locals ≤ R.locals)
    (hrecv : w[q0]? = some (b, .inr (ci, fs))) (hci : cl[ci]? = some (Cn, T, N)) (hst : st = As.reverse ++ .ref b :: rest) (hcat : (rest.map fun v => v.category).sum ≤ 8) (d : decode cc pc = .ok (.invokevirtual index, 3)) (hf : k + mc ≤ R.cells ∧ n + ms ≤ R.slots)
    (kk : ∀ (v : Option Value) (w1 : va_W), Post v w1 → xw φ (k + mc) (n + ms) w1 (pc + 3) lv (v.toList ++ rest)) : xw φ k n w pc lv st := by
  obtain ⟨p, l, e, R, s, m, args, below, meth, c, Q, D, cl, tys, A, nL⟩ := φ
  obtain ⟨rfl, rfl, rfl, rfl, rfl, rfl, hx, hb, hml, hown, hts, hK, hA⟩ := C
  intro H locs ls hP hD hS h
  have hF := va_selfree hD hS hA
  refine xw_run (va_runV (As := As) (rest := rest) (b := b) (C := Cn) ⟨hx, hb, hml, hown, hts⟩ (hM H.size) (cwV na hts hg hw hrc hrs hy hR) ⟨ct_blind, va_recv hK hP hci hrecv, fun U hU hW => ⟨rfl, by rw [hU], by rw [hU]; exact hP, va_K.moved hW.alike hK, hD.weaken (fun _ _ _ _ => trivial)⟩⟩ rfl hna h.1 hst (lv_room hcat) d hf) hS hF ?_
  exact fun v w1 H1 locs1 hp hP1 hD1 hk1 hS1 => kk v w1 hp H1 locs1 ls hP1 (hD1.weaken (fun k q _ h => hF q.1 h)) hS1 h
set_option maxHeartbeats 4000000 in
/-- a static call over the whole world -/
theorem xw_S (C : xc φ l R D cl tys nL cc own Ts) {index maxL mc ms : Nat} {y : MethodName} {ws ws' : List Cond} {bytes : ByteArray} {ret : Option FieldType} {rm : Room} {As : List Value} {Post : Option Value → va_W → Prop}
    (hM : CT l y ws rm D cl tys As w Post mc ms) (hg : GoodIn Ts (va_wsS own index y ws)) (hw : ws = .code y bytes maxL ret :: ws') (hrc : rm.cells = mc) (hrs : rm.slots = ms) {na : Nat} (hna : As.length = na)
    (hy : y.cls ≠ "java/lang/invoke/MethodHandle" ∧ y.cls ≠ "java/lang/invoke/VarHandle" ∧ (parseMethodDescriptor y.desc).map (fun d => d.parameters.length) = some na) (hR : rm.frames + 1 ≤ R.frames ∧ 8 + (maxL + 11) + rm.locals ≤ R.locals)
    (hst : st = As.reverse ++ rest) (hcat : (rest.map fun v => v.category).sum ≤ 8) (d : decode cc pc = .ok (.invokestatic index, 3)) (hf : k + mc ≤ R.cells ∧ n + ms ≤ R.slots)
    (kk : ∀ (v : Option Value) (w1 : va_W), Post v w1 → xw φ (k + mc) (n + ms) w1 (pc + 3) lv (v.toList ++ rest)) : xw φ k n w pc lv st := by
  obtain ⟨p, l, e, R, s, m, args, below, meth, c, Q, D, cl, tys, A, nL⟩ := φ
  obtain ⟨rfl, rfl, rfl, rfl, rfl, rfl, hx, hb, hml, hown, hts, hK, hA⟩ := C
  intro H locs ls hP hD hS h
  have hF := va_selfree hD hS hA
  refine xw_run (va_runS (As := As) (rest := rest) ⟨hx, hb, hml, hown, hts⟩ (hM H.size) (va_cwS na hts hg hw hrc hrs hy hR) ⟨ct_blind, fun U hU hW => ⟨rfl, by rw [hU], by rw [hU]; exact hP, va_K.moved hW.alike hK, hD.weaken (fun _ _ _ _ => trivial)⟩⟩ rfl hna h.1 hst (lv_room hcat) d hf) hS hF ?_
  exact fun v w1 H1 locs1 hp hP1 hD1 hk1 hS1 => kk v w1 hp H1 locs1 ls hP1 (hD1.weaken (fun k q _ h => hF q.1 h)) hS1 h

theorem xw_iconst_N (C : xc φ l R D cl tys nL cc own Ts) {z : Int} (v : Nat) (d : decode cc pc = .ok (.iconst z, 1)) (hz : z = (v : Int)) (kk : xw φ k n w (pc + 1) lv (nV v :: st)) : xw φ k n w pc lv (st) := by
  obtain ⟨p, l, e, R, s, m, args, below, meth, c, Q, D, cl, tys, A, nL⟩ := φ
  obtain ⟨rfl, rfl, rfl, rfl, rfl, rfl, hx, hb, hml, hown, hts, hK, hA⟩ := C
  intro H locs ls hP hD hS h
  exact lv_iconst hx hb d (congrArg iI hz) (kk H locs ls hP hD hS h)
theorem xw_bipush_N (C : xc φ l R D cl tys nL cc own Ts) {z : Int} (v : Nat) (d : decode cc pc = .ok (.bipush z, 2)) (hv : (Int8.ofInt z).toInt32 = iI (v : Int)) (kk : xw φ k n w (pc + 2) lv (nV v :: st)) : xw φ k n w pc lv (st) := by
  obtain ⟨p, l, e, R, s, m, args, below, meth, c, Q, D, cl, tys, A, nL⟩ := φ
  obtain ⟨rfl, rfl, rfl, rfl, rfl, rfl, hx, hb, hml, hown, hts, hK, hA⟩ := C
  intro H locs ls hP hD hS h
  exact lv_bipush hx hb d hv (kk H locs ls hP hD hS h)
theorem xw_sipush_N (C : xc φ l R D cl tys nL cc own Ts) {z : Int} (v : Nat) (d : decode cc pc = .ok (.sipush z, 3)) (hv : (Int16.ofInt z).toInt32 = iI (v : Int)) (kk : xw φ k n w (pc + 3) lv (nV v :: st)) : xw φ k n w pc lv (st) := by
  obtain ⟨p, l, e, R, s, m, args, below, meth, c, Q, D, cl, tys, A, nL⟩ := φ
  obtain ⟨rfl, rfl, rfl, rfl, rfl, rfl, hx, hb, hml, hown, hts, hK, hA⟩ := C
  intro H locs ls hP hD hS h
  exact lv_sipush hx hb d hv (kk H locs ls hP hD hS h)
/-- a contract's end told outright: the answer x, the world w' -/
def PD (x : Option Value) (w' : va_W) : Option Value → va_W → Prop := fun v w1 => v = x ∧ w1 = w'
theorem PD.i {x : Option Value} {w' : va_W} : PD x w' x w' := ⟨rfl, rfl⟩
theorem PD.e {x y : Option Value} {w1 w' : va_W} (h : y = x) (h2 : w1 = w') : PD x w' y w1 := ⟨h, h2⟩
theorem xw_Vd (C : xc φ l R D cl tys nL cc own Ts) {Cn : String} {T : u_T} {N : Nat} {index b ci q0 maxL : Nat} {y : MethodName} {ws ws' : List Cond} {bytes : ByteArray} {ret : Option FieldType} {rm : Room} {As fs : List Value} {x : Option Value} {w1 : va_W}
    (hM : CT l y ws rm D cl tys (.ref b :: As) w (PD x w1) 0 0) (hg : GoodIn Ts (wsV own index Cn y ws)) (hw : ws = .code y bytes maxL ret :: ws') (hrc : rm.cells = 0) (hrs : rm.slots = 0) {na : Nat} (hna : As.length = na)
    (hy : y.cls = Cn ∧ y.cls ≠ "java/lang/invoke/MethodHandle" ∧ y.cls ≠ "java/lang/invoke/VarHandle" ∧ (parseMethodDescriptor y.desc).map (fun d => d.parameters.length) = some na) (hR : rm.frames + 1 ≤ R.frames ∧ 8 + (maxL + 11) + rm.locals ≤ R.locals)
    (hrecv : w[q0]? = some (b, .inr (ci, fs))) (hci : cl[ci]? = some (Cn, T, N)) (hst : st = As.reverse ++ .ref b :: rest) (hcat : (rest.map fun v => v.category).sum ≤ 8) (d : decode cc pc = .ok (.invokevirtual index, 3)) (hf : k ≤ R.cells ∧ n ≤ R.slots)
    {st' : List Value} (e : x.toList ++ rest = st') (kk : xw φ k n w1 (pc + 3) lv st') : xw φ k n w pc lv st :=
  xw_V C hM hg hw hrc hrs hna hy hR hrecv hci hst hcat d hf (fun v w2 hp => by obtain ⟨rfl, rfl⟩ := hp; rw [e]; exact kk)
theorem xw_Sd (C : xc φ l R D cl tys nL cc own Ts) {index maxL : Nat} {y : MethodName} {ws ws' : List Cond} {bytes : ByteArray} {ret : Option FieldType} {rm : Room} {As : List Value} {x : Option Value} {w1 : va_W}
    (hM : CT l y ws rm D cl tys As w (PD x w1) 0 0) (hg : GoodIn Ts (va_wsS own index y ws)) (hw : ws = .code y bytes maxL ret :: ws') (hrc : rm.cells = 0) (hrs : rm.slots = 0) {na : Nat} (hna : As.length = na)
    (hy : y.cls ≠ "java/lang/invoke/MethodHandle" ∧ y.cls ≠ "java/lang/invoke/VarHandle" ∧ (parseMethodDescriptor y.desc).map (fun d => d.parameters.length) = some na) (hR : rm.frames + 1 ≤ R.frames ∧ 8 + (maxL + 11) + rm.locals ≤ R.locals)
    (hst : st = As.reverse ++ rest) (hcat : (rest.map fun v => v.category).sum ≤ 8) (d : decode cc pc = .ok (.invokestatic index, 3)) (hf : k ≤ R.cells ∧ n ≤ R.slots)
    {st' : List Value} (e : x.toList ++ rest = st') (kk : xw φ k n w1 (pc + 3) lv st') : xw φ k n w pc lv st :=
  xw_S C hM hg hw hrc hrs hna hy hR hst hcat d hf (fun v w2 hp => by obtain ⟨rfl, rfl⟩ := hp; rw [e]; exact kk)
end XW
abbrev rmN (f lo : Nat) : Room := { frames := f, cells := 0, slots := 0, locals := lo }
def wX (cI : ClassId) (h a n p b w wi ni : Nat) (A : Nat → Nat) : va_W := [(h, .inr (0, [.ref a, nV n, nV p, nV b, nV w, nV wi, nV ni])), (a, .inl (cI, 80, .inl (fN A)))]
def wM (cI : ClassId) (h r d th n p w b : Nat) (B M : Nat → Nat) : va_W := [(h, .inr (1, [nV th, nV n, nV p, nV w, nV b, .ref r, .ref d])), (r, .inl (cI, 64, .inl (fN B))), (d, .inl (cI, 16, .inl (fN M)))]
end
section
/-! ===== BEGIN printed: names, fields, word lists, decode rows ===== -/
def RX0 : String := "ToneButterflies"
def TX0 : u_T := fun k => match k with
  | 0 => ("ToneButterflies", "numbers", "[I", true)
  | 1 => ("ToneButterflies", "length", "I", false)
  | 2 => ("ToneButterflies", "prime", "I", false)
  | 3 => ("ToneButterflies", "bits", "I", false)
  | 4 => ("ToneButterflies", "unityRoot", "I", false)
  | 5 => ("ToneButterflies", "unityRootInverse", "I", false)
  | _ => ("ToneButterflies", "lengthInverse", "I", false)
def tyX0 : Nat → FieldType := fun k => match k with
  | 0 => .array .int
  | 1 => .int
  | 2 => .int
  | 3 => .int
  | 4 => .int
  | 5 => .int
  | _ => .int
abbrev wsX00 : List Cond := u_ws RX0 TX0 7
theorem nmX0 : ∀ a, a < 7 → ∀ b, b < 7 → a ≠ b → (TX0 a).2.1 ≠ (TX0 b).2.1 := by decide +kernel
theorem tyX0_ok : ∀ k, k < 7 → parseFieldDescriptor (TX0 k).2.2.1 = some (tyX0 k) := by decide +kernel
abbrev cX0_init : ByteArray := prog_1_method_1_code
def yX0_init : MethodName := ⟨RX0, "<init>", "()V"⟩
abbrev cX0_ring : ByteArray := prog_1_method_2_code
def yX0_ring : MethodName := ⟨RX0, "ring", "(II)I"⟩
abbrev cX0_order : ByteArray := prog_1_method_3_code
def yX0_order : MethodName := ⟨RX0, "order", "(I)I"⟩
abbrev cX0_inverse : ByteArray := prog_1_method_4_code
def yX0_inverse : MethodName := ⟨RX0, "inverse", "(I)I"⟩
abbrev cX0_root : ByteArray := prog_1_method_5_code
def yX0_root : MethodName := ⟨RX0, "root", "(I)I"⟩
abbrev cX0_set : ByteArray := prog_1_method_6_code
def yX0_set : MethodName := ⟨RX0, "set", "(III)I"⟩
abbrev cX0_copy : ByteArray := prog_1_method_7_code
def yX0_copy : MethodName := ⟨RX0, "copy", "(II)I"⟩
abbrev cX0_turn : ByteArray := prog_1_method_8_code
def yX0_turn : MethodName := ⟨RX0, "turn", "(IZ)I"⟩
abbrev cX0_mirror : ByteArray := prog_1_method_9_code
def yX0_mirror : MethodName := ⟨RX0, "mirror", "(I)I"⟩
abbrev cX0_stage : ByteArray := prog_1_method_10_code
def yX0_stage : MethodName := ⟨RX0, "stage", "(II)I"⟩
abbrev cX0_fold : ByteArray := prog_1_method_11_code
def yX0_fold : MethodName := ⟨RX0, "fold", "(II)I"⟩
abbrev cX0_join : ByteArray := prog_1_method_12_code
def yX0_join : MethodName := ⟨RX0, "join", "(III)I"⟩
abbrev cX0_move : ByteArray := prog_1_method_13_code
def yX0_move : MethodName := ⟨RX0, "move", "(II)I"⟩
abbrev cX0_times : ByteArray := prog_1_method_14_code
def yX0_times : MethodName := ⟨RX0, "times", "(II)I"⟩
abbrev cX0_at : ByteArray := prog_1_method_15_code
def yX0_at : MethodName := ⟨RX0, "at", "(II)I"⟩
abbrev cX0_point : ByteArray := prog_1_method_16_code
def yX0_point : MethodName := ⟨RX0, "point", "(II)I"⟩
abbrev cX0_about : ByteArray := prog_1_method_17_code
def yX0_about : MethodName := ⟨RX0, "about", "(II)I"⟩
abbrev cX0_count : ByteArray := prog_1_method_18_code
def yX0_count : MethodName := ⟨RX0, "count", "(I)I"⟩
abbrev cX0_would : ByteArray := prog_1_method_19_code
def yX0_would : MethodName := ⟨RX0, "would", "(III)I"⟩
abbrev cX0_comes : ByteArray := prog_1_method_20_code
def yX0_comes : MethodName := ⟨RX0, "comes", "(II)I"⟩
abbrev cX0_tones : ByteArray := prog_1_method_22_code
def yX0_tones : MethodName := ⟨RX0, "tones", "(II)Z"⟩
abbrev cX0_mean : ByteArray := prog_1_method_23_code
def yX0_mean : MethodName := ⟨RX0, "mean", "(I)D"⟩
abbrev cX0_digest : ByteArray := prog_1_method_24_code
def yX0_digest : MethodName := ⟨RX0, "digest", "()J"⟩
abbrev cX0_requireRow : ByteArray := prog_1_method_25_code
def yX0_requireRow : MethodName := ⟨RX0, "requireRow", "(I)V"⟩
abbrev cX0_requirePlace : ByteArray := prog_1_method_26_code
def yX0_requirePlace : MethodName := ⟨RX0, "requirePlace", "(I)V"⟩
abbrev cX0_requireNumber : ByteArray := prog_1_method_27_code
def yX0_requireNumber : MethodName := ⟨RX0, "requireNumber", "(I)V"⟩
abbrev cX0_requireInvertible : ByteArray := prog_1_method_28_code
def yX0_requireInvertible : MethodName := ⟨RX0, "requireInvertible", "(I)V"⟩
abbrev cX0_isLength : ByteArray := prog_1_method_29_code
def yX0_isLength : MethodName := ⟨RX0, "isLength", "(I)Z"⟩
abbrev cX0_isPrimeOfRing : ByteArray := prog_1_method_30_code
def yX0_isPrimeOfRing : MethodName := ⟨RX0, "isPrimeOfRing", "(I)Z"⟩
abbrev cX0_divides : ByteArray := prog_1_method_31_code
def yX0_divides : MethodName := ⟨RX0, "divides", "(II)Z"⟩
abbrev cX0_takeRing : ByteArray := prog_1_method_32_code
def yX0_takeRing : MethodName := ⟨RX0, "takeRing", "(II)V"⟩
abbrev cX0_smallestRoot : ByteArray := prog_1_method_33_code
def yX0_smallestRoot : MethodName := ⟨RX0, "smallestRoot", "()I"⟩
abbrev cX0_reduced : ByteArray := prog_1_method_34_code
def yX0_reduced : MethodName := ⟨RX0, "reduced", "(I)I"⟩
abbrev cX0_powerOf : ByteArray := prog_1_method_35_code
def yX0_powerOf : MethodName := ⟨RX0, "powerOf", "(II)I"⟩
abbrev cX0_inverseOf : ByteArray := prog_1_method_36_code
def yX0_inverseOf : MethodName := ⟨RX0, "inverseOf", "(I)I"⟩
abbrev cX0_joined : ByteArray := prog_1_method_37_code
def yX0_joined : MethodName := ⟨RX0, "joined", "(III)I"⟩
abbrev cX0_wrapped : ByteArray := prog_1_method_38_code
def yX0_wrapped : MethodName := ⟨RX0, "wrapped", "(I)I"⟩
abbrev cX0_mirrored : ByteArray := prog_1_method_39_code
def yX0_mirrored : MethodName := ⟨RX0, "mirrored", "(I)I"⟩
abbrev cX0_read : ByteArray := prog_1_method_40_code
def yX0_read : MethodName := ⟨RX0, "read", "(II)I"⟩
abbrev cX0_write : ByteArray := prog_1_method_41_code
def yX0_write : MethodName := ⟨RX0, "write", "(III)V"⟩
abbrev cX0_copyRow : ByteArray := prog_1_method_42_code
def yX0_copyRow : MethodName := ⟨RX0, "copyRow", "(II)I"⟩
abbrev cX0_butterfly : ByteArray := prog_1_method_43_code
def yX0_butterfly : MethodName := ⟨RX0, "butterfly", "(IIII)V"⟩
abbrev cX0_valueAt : ByteArray := prog_1_method_44_code
def yX0_valueAt : MethodName := ⟨RX0, "valueAt", "(II)I"⟩
abbrev cX0_scratchTones : ByteArray := prog_1_method_45_code
def yX0_scratchTones : MethodName := ⟨RX0, "scratchTones", "(I)V"⟩
abbrev cX0_scratchTurnedBack : ByteArray := prog_1_method_46_code
def yX0_scratchTurnedBack : MethodName := ⟨RX0, "scratchTurnedBack", "(I)V"⟩
abbrev cX0_scratchValues : ByteArray := prog_1_method_47_code
def yX0_scratchValues : MethodName := ⟨RX0, "scratchValues", "(III)V"⟩
abbrev cX0_foldedAt : ByteArray := prog_1_method_48_code
def yX0_foldedAt : MethodName := ⟨RX0, "foldedAt", "(III)I"⟩
abbrev cX0_isWhenMoved : ByteArray := prog_1_method_49_code
def yX0_isWhenMoved : MethodName := ⟨RX0, "isWhenMoved", "(III)Z"⟩
abbrev cX0_counted : ByteArray := prog_1_method_51_code
def yX0_counted : MethodName := ⟨RX0, "counted", "(I)I"⟩
abbrev cX0_told : ByteArray := prog_1_method_52_code
def yX0_told : MethodName := ⟨RX0, "told", "(II)I"⟩
abbrev cX0_plainSum : ByteArray := prog_1_method_53_code
def yX0_plainSum : MethodName := ⟨RX0, "plainSum", "(I)I"⟩
abbrev cX0_nonZeros : ByteArray := prog_1_method_54_code
def yX0_nonZeros : MethodName := ⟨RX0, "nonZeros", "(I)I"⟩
abbrev cX0_lastNonZero : ByteArray := prog_1_method_55_code
def yX0_lastNonZero : MethodName := ⟨RX0, "lastNonZero", "(I)I"⟩
abbrev cX0_period : ByteArray := prog_1_method_56_code
def yX0_period : MethodName := ⟨RX0, "period", "(I)I"⟩
abbrev cX0_greatestNumber : ByteArray := prog_1_method_57_code
def yX0_greatestNumber : MethodName := ⟨RX0, "greatestNumber", "(I)I"⟩
abbrev cX0_digestRow : ByteArray := prog_1_method_58_code
def yX0_digestRow : MethodName := ⟨RX0, "digestRow", "(JI)J"⟩
def RX1 : String := "ToneButterfliesLaw$Sim"
def TX1 : u_T := fun k => match k with
  | 0 => ("ToneButterfliesLaw$Sim", "n", "I", false)
  | 1 => ("ToneButterfliesLaw$Sim", "p", "I", false)
  | 2 => ("ToneButterfliesLaw$Sim", "w", "I", false)
  | _ => ("ToneButterfliesLaw$Sim", "rows", "[[I", false)
def tyX1 : Nat → FieldType := fun k => match k with
  | 0 => .int
  | 1 => .int
  | 2 => .int
  | _ => .array (.array .int)
abbrev wsX10 : List Cond := u_ws RX1 TX1 4
theorem nmX1 : ∀ a, a < 4 → ∀ b, b < 4 → a ≠ b → (TX1 a).2.1 ≠ (TX1 b).2.1 := by decide +kernel
theorem tyX1_ok : ∀ k, k < 4 → parseFieldDescriptor (TX1 k).2.2.1 = some (tyX1 k) := by decide +kernel
abbrev cX1_init : ByteArray := prog_3_method_1_code
def yX1_init : MethodName := ⟨RX1, "<init>", "()V"⟩
abbrev cX1_power : ByteArray := prog_3_method_2_code
def yX1_power : MethodName := ⟨RX1, "power", "(II)I"⟩
abbrev cX1_order : ByteArray := prog_3_method_3_code
def yX1_order : MethodName := ⟨RX1, "order", "(I)I"⟩
abbrev cX1_inverse : ByteArray := prog_3_method_4_code
def yX1_inverse : MethodName := ⟨RX1, "inverse", "(I)I"⟩
abbrev cX1_ring : ByteArray := prog_3_method_5_code
def yX1_ring : MethodName := ⟨RX1, "ring", "(II)I"⟩
abbrev cX1_tones : ByteArray := prog_3_method_6_code
def yX1_tones : MethodName := ⟨RX1, "tones", "([I)[I"⟩
abbrev cX1_back : ByteArray := prog_3_method_7_code
def yX1_back : MethodName := ⟨RX1, "back", "([I)[I"⟩
abbrev cX1_mirrored : ByteArray := prog_3_method_8_code
def yX1_mirrored : MethodName := ⟨RX1, "mirrored", "([I)[I"⟩
abbrev cX1_staged : ByteArray := prog_3_method_9_code
def yX1_staged : MethodName := ⟨RX1, "staged", "([II)[I"⟩
abbrev cX1_folded : ByteArray := prog_3_method_10_code
def yX1_folded : MethodName := ⟨RX1, "folded", "([I[I)[I"⟩
abbrev cX1_moved : ByteArray := prog_3_method_11_code
def yX1_moved : MethodName := ⟨RX1, "moved", "([II)[I"⟩
abbrev cX1_others : ByteArray := prog_3_method_12_code
def yX1_others : MethodName := ⟨RX1, "others", "([I)I"⟩
abbrev cX1_unlike : ByteArray := prog_3_method_13_code
def yX1_unlike : MethodName := ⟨RX1, "unlike", "([I[I)I"⟩
abbrev cX1_about : ByteArray := prog_3_method_14_code
def yX1_about : MethodName := ⟨RX1, "about", "([I)[I"⟩
abbrev cX1_isSame : ByteArray := prog_3_method_15_code
def yX1_isSame : MethodName := ⟨RX1, "isSame", "(LToneButterflies;)Z"⟩
def RX2 : String := "ToneButterfliesModel"
def TX2 : u_T := fun k => match k with
  | _ => ("", "", "", false)
def tyX2 : Nat → FieldType := fun k => match k with
  | _ => .int
abbrev wsX20 : List Cond := u_ws RX2 TX2 0
theorem nmX2 : ∀ a, a < 0 → ∀ b, b < 0 → a ≠ b → (TX2 a).2.1 ≠ (TX2 b).2.1 := by decide +kernel
theorem tyX2_ok : ∀ k, k < 0 → parseFieldDescriptor (TX2 k).2.2.1 = some (tyX2 k) := by decide +kernel
def RJx8e188 : String := "java/lang/Cloneable"
def TJx8e188 : u_T := fun k => match k with
  | _ => ("", "", "", false)
def tyJx8e188 : Nat → FieldType := fun k => match k with
  | _ => .int
abbrev wsJx8e1880 : List Cond := u_ws RJx8e188 TJx8e188 0
theorem nmJx8e188 : ∀ a, a < 0 → ∀ b, b < 0 → a ≠ b → (TJx8e188 a).2.1 ≠ (TJx8e188 b).2.1 := by decide +kernel
theorem tyJx8e188_ok : ∀ k, k < 0 → parseFieldDescriptor (TJx8e188 k).2.2.1 = some (tyJx8e188 k) := by decide +kernel
def RJ9 : String := "java/lang/Math"
def TJ9 : u_T := fun k => match k with
  | _ => ("", "", "", false)
def tyJ9 : Nat → FieldType := fun k => match k with
  | _ => .int
abbrev wsJ90 : List Cond := u_ws RJ9 TJ9 0
theorem nmJ9 : ∀ a, a < 0 → ∀ b, b < 0 → a ≠ b → (TJ9 a).2.1 ≠ (TJ9 b).2.1 := by decide +kernel
theorem tyJ9_ok : ∀ k, k < 0 → parseFieldDescriptor (TJ9 k).2.2.1 = some (tyJ9 k) := by decide +kernel
abbrev cJ9_floorMod_7cf53 : ByteArray := prog_9_method_50_code
def yJ9_floorMod_7cf53 : MethodName := ⟨RJ9, "floorMod", "(II)I"⟩
abbrev cJ9_max_7cf53 : ByteArray := prog_9_method_65_code
def yJ9_max_7cf53 : MethodName := ⟨RJ9, "max", "(II)I"⟩
def RJ0 : String := "java/lang/String"
def TJ0 : u_T := fun k => match k with
  | _ => ("", "", "", false)
def tyJ0 : Nat → FieldType := fun k => match k with
  | _ => .int
abbrev wsJ00 : List Cond := u_ws RJ0 TJ0 0
theorem nmJ0 : ∀ a, a < 0 → ∀ b, b < 0 → a ≠ b → (TJ0 a).2.1 ≠ (TJ0 b).2.1 := by decide +kernel
theorem tyJ0_ok : ∀ k, k < 0 → parseFieldDescriptor (TJ0 k).2.2.1 = some (tyJ0 k) := by decide +kernel
def RL : String := "ToneButterfliesLaw"
abbrev cL_below : ByteArray := method_2_code
def yL_below : MethodName := ⟨RL, "below", "(II)I"⟩
abbrev cL_cell : ByteArray := method_3_code
def yL_cell : MethodName := ⟨RL, "cell", "([II)I"⟩
abbrev cL_act : ByteArray := method_4_code
def yL_act : MethodName := ⟨RL, "act", "(LToneButterflies;LToneButterfliesLaw$Sim;I)Z"⟩
abbrev cL_build : ByteArray := method_5_code
def yL_build : MethodName := ⟨RL, "build", "(LToneButterflies;[I)LToneButterfliesLaw$Sim;"⟩
abbrev cL_law : ByteArray := code
def yL_law : MethodName := ⟨RL, "law", "([I)Z"⟩
def wsJ9_floorMod_7cf53 : List Cond := .code yJ9_floorMod_7cf53 cJ9_floorMod_7cf53 3 (some .int) :: ([])
def wsX0_reduced : List Cond := .code yX0_reduced cX0_reduced 2 (some .int) :: ([.fieldLink RX0 43 "ToneButterflies" "prime" "I", .methodLink RX0 168 yJ9_floorMod_7cf53, .static yJ9_floorMod_7cf53, .initialized RJ9, .code yJ9_floorMod_7cf53 cJ9_floorMod_7cf53 3 (some .int)] ++ wsX00)
def wsX0_powerOf : List Cond := .code yX0_powerOf cX0_powerOf 6 (some .int) :: ([.methodLink RX0 46 yX0_reduced, .instanceMethod yX0_reduced, .selects RX0 yX0_reduced yX0_reduced, .initialized RX0, .code yX0_reduced cX0_reduced 2 (some .int), .fieldLink RX0 43 "ToneButterflies" "prime" "I", .methodLink RX0 168 yJ9_floorMod_7cf53, .static yJ9_floorMod_7cf53, .initialized RJ9, .code yJ9_floorMod_7cf53 cJ9_floorMod_7cf53 3 (some .int)] ++ wsX00)
def wsX0_smallestRoot : List Cond := .code yX0_smallestRoot cX0_smallestRoot 2 (some .int) :: ([.fieldLink RX0 43 "ToneButterflies" "prime" "I", .fieldLink RX0 84 "ToneButterflies" "length" "I", .methodLink RX0 55 yX0_powerOf, .instanceMethod yX0_powerOf, .selects RX0 yX0_powerOf yX0_powerOf, .initialized RX0, .code yX0_powerOf cX0_powerOf 6 (some .int), .methodLink RX0 46 yX0_reduced, .instanceMethod yX0_reduced, .selects RX0 yX0_reduced yX0_reduced, .code yX0_reduced cX0_reduced 2 (some .int), .methodLink RX0 168 yJ9_floorMod_7cf53, .static yJ9_floorMod_7cf53, .initialized RJ9, .code yJ9_floorMod_7cf53 cJ9_floorMod_7cf53 3 (some .int)] ++ wsX00)
def wsX0_inverseOf : List Cond := .code yX0_inverseOf cX0_inverseOf 2 (some .int) :: ([.fieldLink RX0 43 "ToneButterflies" "prime" "I", .methodLink RX0 55 yX0_powerOf, .instanceMethod yX0_powerOf, .selects RX0 yX0_powerOf yX0_powerOf, .initialized RX0, .code yX0_powerOf cX0_powerOf 6 (some .int), .methodLink RX0 46 yX0_reduced, .instanceMethod yX0_reduced, .selects RX0 yX0_reduced yX0_reduced, .code yX0_reduced cX0_reduced 2 (some .int), .methodLink RX0 168 yJ9_floorMod_7cf53, .static yJ9_floorMod_7cf53, .initialized RJ9, .code yJ9_floorMod_7cf53 cJ9_floorMod_7cf53 3 (some .int)] ++ wsX00)
def wsX0_takeRing_r1 : List Cond := [Cond.fieldLink RX0 84 "ToneButterflies" "length" "I", Cond.fieldLink RX0 43 "ToneButterflies" "prime" "I", Cond.fieldLink RX0 90 "ToneButterflies" "bits" "I", Cond.fieldLink RX0 35 "ToneButterflies" "unityRoot" "I", Cond.fieldLink RX0 162 "ToneButterflies" "unityRootInverse" "I", Cond.fieldLink RX0 165 "ToneButterflies" "lengthInverse" "I", Cond.fieldLink RX0 9 "ToneButterflies" "numbers" "[I", Cond.methodLink RX0 158 yX0_smallestRoot, Cond.instanceMethod yX0_smallestRoot, Cond.selects RX0 yX0_smallestRoot yX0_smallestRoot, Cond.initialized RX0, Cond.code yX0_smallestRoot cX0_smallestRoot 2 (some .int), Cond.methodLink RX0 55 yX0_powerOf, Cond.instanceMethod yX0_powerOf, Cond.selects RX0 yX0_powerOf yX0_powerOf, Cond.code yX0_powerOf cX0_powerOf 6 (some .int), Cond.methodLink RX0 46 yX0_reduced, Cond.instanceMethod yX0_reduced, Cond.selects RX0 yX0_reduced yX0_reduced, Cond.code yX0_reduced cX0_reduced 2 (some .int), Cond.methodLink RX0 168 yJ9_floorMod_7cf53, Cond.static yJ9_floorMod_7cf53, Cond.initialized RJ9, Cond.code yJ9_floorMod_7cf53 cJ9_floorMod_7cf53 3 (some .int)]
def wsX0_takeRing_r2 : List Cond := [Cond.methodLink RX0 50 yX0_inverseOf, Cond.instanceMethod yX0_inverseOf, Cond.selects RX0 yX0_inverseOf yX0_inverseOf, Cond.code yX0_inverseOf cX0_inverseOf 2 (some .int)]
def wsX0_takeRing : List Cond := .code yX0_takeRing cX0_takeRing 4 none :: ((wsX0_takeRing_r1 ++ wsX0_takeRing_r2) ++ wsX00)
def wsX0_init_r1 : List Cond := [Cond.methodLink RX0 3 objectInit, Cond.instanceMethod objectInit, Cond.code objectInit ⟨#[0xb1]⟩ 1 none, Cond.arrayClass .int, Cond.fieldLink RX0 9 "ToneButterflies" "numbers" "[I", Cond.methodLink RX0 13 yX0_takeRing, Cond.instanceMethod yX0_takeRing, Cond.selects RX0 yX0_takeRing yX0_takeRing, Cond.initialized RX0, Cond.code yX0_takeRing cX0_takeRing 4 none, Cond.fieldLink RX0 84 "ToneButterflies" "length" "I", Cond.fieldLink RX0 43 "ToneButterflies" "prime" "I", Cond.fieldLink RX0 90 "ToneButterflies" "bits" "I", Cond.fieldLink RX0 35 "ToneButterflies" "unityRoot" "I", Cond.fieldLink RX0 162 "ToneButterflies" "unityRootInverse" "I", Cond.fieldLink RX0 165 "ToneButterflies" "lengthInverse" "I", Cond.methodLink RX0 158 yX0_smallestRoot, Cond.instanceMethod yX0_smallestRoot, Cond.selects RX0 yX0_smallestRoot yX0_smallestRoot, Cond.code yX0_smallestRoot cX0_smallestRoot 2 (some .int), Cond.methodLink RX0 55 yX0_powerOf, Cond.instanceMethod yX0_powerOf, Cond.selects RX0 yX0_powerOf yX0_powerOf, Cond.code yX0_powerOf cX0_powerOf 6 (some .int)]
def wsX0_init_r2 : List Cond := [Cond.methodLink RX0 46 yX0_reduced, Cond.instanceMethod yX0_reduced, Cond.selects RX0 yX0_reduced yX0_reduced, Cond.code yX0_reduced cX0_reduced 2 (some .int), Cond.methodLink RX0 168 yJ9_floorMod_7cf53, Cond.static yJ9_floorMod_7cf53, Cond.initialized RJ9, Cond.code yJ9_floorMod_7cf53 cJ9_floorMod_7cf53 3 (some .int), Cond.methodLink RX0 50 yX0_inverseOf, Cond.instanceMethod yX0_inverseOf, Cond.selects RX0 yX0_inverseOf yX0_inverseOf, Cond.code yX0_inverseOf cX0_inverseOf 2 (some .int)]
def wsX0_init : List Cond := .code yX0_init cX0_init 1 none :: ((wsX0_init_r1 ++ wsX0_init_r2) ++ wsX00)
def wsX0_isLength : List Cond := .code yX0_isLength cX0_isLength 1 (some .boolean) :: ([])
def wsX0_divides : List Cond := .code yX0_divides cX0_divides 2 (some .boolean) :: ([])
def wsX0_isPrimeOfRing : List Cond := .code yX0_isPrimeOfRing cX0_isPrimeOfRing 2 (some .boolean) :: ([.methodLink RX0 24 yX0_divides, .static yX0_divides, .initialized RX0, .code yX0_divides cX0_divides 2 (some .boolean)])
def wsX0_ring_r1 : List Cond := [Cond.classLink RX0 28 "java/lang/IllegalArgumentException", Cond.initialized "java/lang/IllegalArgumentException", Cond.fieldLink RX0 35 "ToneButterflies" "unityRoot" "I", Cond.methodLink RX0 17 yX0_isLength, Cond.static yX0_isLength, Cond.initialized RX0, Cond.code yX0_isLength cX0_isLength 1 (some .boolean), Cond.methodLink RX0 21 yX0_isPrimeOfRing, Cond.static yX0_isPrimeOfRing, Cond.code yX0_isPrimeOfRing cX0_isPrimeOfRing 2 (some .boolean), Cond.methodLink RX0 24 yX0_divides, Cond.static yX0_divides, Cond.code yX0_divides cX0_divides 2 (some .boolean), Cond.methodLink RX0 13 yX0_takeRing, Cond.instanceMethod yX0_takeRing, Cond.selects RX0 yX0_takeRing yX0_takeRing, Cond.code yX0_takeRing cX0_takeRing 4 none, Cond.fieldLink RX0 84 "ToneButterflies" "length" "I", Cond.fieldLink RX0 43 "ToneButterflies" "prime" "I", Cond.fieldLink RX0 90 "ToneButterflies" "bits" "I", Cond.fieldLink RX0 162 "ToneButterflies" "unityRootInverse" "I", Cond.fieldLink RX0 165 "ToneButterflies" "lengthInverse" "I", Cond.fieldLink RX0 9 "ToneButterflies" "numbers" "[I", Cond.methodLink RX0 158 yX0_smallestRoot]
def wsX0_ring_r2 : List Cond := [Cond.instanceMethod yX0_smallestRoot, Cond.selects RX0 yX0_smallestRoot yX0_smallestRoot, Cond.code yX0_smallestRoot cX0_smallestRoot 2 (some .int), Cond.methodLink RX0 55 yX0_powerOf, Cond.instanceMethod yX0_powerOf, Cond.selects RX0 yX0_powerOf yX0_powerOf, Cond.code yX0_powerOf cX0_powerOf 6 (some .int), Cond.methodLink RX0 46 yX0_reduced, Cond.instanceMethod yX0_reduced, Cond.selects RX0 yX0_reduced yX0_reduced, Cond.code yX0_reduced cX0_reduced 2 (some .int), Cond.methodLink RX0 168 yJ9_floorMod_7cf53, Cond.static yJ9_floorMod_7cf53, Cond.initialized RJ9, Cond.code yJ9_floorMod_7cf53 cJ9_floorMod_7cf53 3 (some .int), Cond.methodLink RX0 50 yX0_inverseOf, Cond.instanceMethod yX0_inverseOf, Cond.selects RX0 yX0_inverseOf yX0_inverseOf, Cond.code yX0_inverseOf cX0_inverseOf 2 (some .int)]
def wsX0_ring : List Cond := .code yX0_ring cX0_ring 3 (some .int) :: ((wsX0_ring_r1 ++ wsX0_ring_r2) ++ wsX00 ++ (vx_atS RX0 32 "java/lang/IllegalArgumentException" ["java/lang/RuntimeException", "java/lang/Exception"]).filter goodWord)
def wsX0_requireInvertible : List Cond := .code yX0_requireInvertible cX0_requireInvertible 2 none :: ([.classLink RX0 28 "java/lang/IllegalArgumentException", .initialized "java/lang/IllegalArgumentException", .fieldLink RX0 43 "ToneButterflies" "prime" "I"] ++ wsX00 ++ (vx_atS RX0 32 "java/lang/IllegalArgumentException" ["java/lang/RuntimeException", "java/lang/Exception"]).filter goodWord)
def wsX0_order : List Cond := .code yX0_order cX0_order 4 (some .int) :: ([.fieldLink RX0 43 "ToneButterflies" "prime" "I", .methodLink RX0 39 yX0_requireInvertible, .instanceMethod yX0_requireInvertible, .selects RX0 yX0_requireInvertible yX0_requireInvertible, .initialized RX0, .code yX0_requireInvertible cX0_requireInvertible 2 none, .classLink RX0 28 "java/lang/IllegalArgumentException", .initialized "java/lang/IllegalArgumentException", .methodLink RX0 46 yX0_reduced, .instanceMethod yX0_reduced, .selects RX0 yX0_reduced yX0_reduced, .code yX0_reduced cX0_reduced 2 (some .int), .methodLink RX0 168 yJ9_floorMod_7cf53, .static yJ9_floorMod_7cf53, .initialized RJ9, .code yJ9_floorMod_7cf53 cJ9_floorMod_7cf53 3 (some .int)] ++ wsX00 ++ (vx_atS RX0 32 "java/lang/IllegalArgumentException" ["java/lang/RuntimeException", "java/lang/Exception"]).filter goodWord)
def wsX0_inverse : List Cond := .code yX0_inverse cX0_inverse 2 (some .int) :: ([.methodLink RX0 39 yX0_requireInvertible, .instanceMethod yX0_requireInvertible, .selects RX0 yX0_requireInvertible yX0_requireInvertible, .initialized RX0, .code yX0_requireInvertible cX0_requireInvertible 2 none, .classLink RX0 28 "java/lang/IllegalArgumentException", .initialized "java/lang/IllegalArgumentException", .fieldLink RX0 43 "ToneButterflies" "prime" "I", .methodLink RX0 50 yX0_inverseOf, .instanceMethod yX0_inverseOf, .selects RX0 yX0_inverseOf yX0_inverseOf, .code yX0_inverseOf cX0_inverseOf 2 (some .int), .methodLink RX0 55 yX0_powerOf, .instanceMethod yX0_powerOf, .selects RX0 yX0_powerOf yX0_powerOf, .code yX0_powerOf cX0_powerOf 6 (some .int), .methodLink RX0 46 yX0_reduced, .instanceMethod yX0_reduced, .selects RX0 yX0_reduced yX0_reduced, .code yX0_reduced cX0_reduced 2 (some .int), .methodLink RX0 168 yJ9_floorMod_7cf53, .static yJ9_floorMod_7cf53, .initialized RJ9, .code yJ9_floorMod_7cf53 cJ9_floorMod_7cf53 3 (some .int)] ++ wsX00 ++ (vx_atS RX0 32 "java/lang/IllegalArgumentException" ["java/lang/RuntimeException", "java/lang/Exception"]).filter goodWord)
def wsX0_root : List Cond := .code yX0_root cX0_root 2 (some .int) :: ([.classLink RX0 28 "java/lang/IllegalArgumentException", .initialized "java/lang/IllegalArgumentException", .fieldLink RX0 35 "ToneButterflies" "unityRoot" "I", .methodLink RX0 55 yX0_powerOf, .instanceMethod yX0_powerOf, .selects RX0 yX0_powerOf yX0_powerOf, .initialized RX0, .code yX0_powerOf cX0_powerOf 6 (some .int), .methodLink RX0 46 yX0_reduced, .instanceMethod yX0_reduced, .selects RX0 yX0_reduced yX0_reduced, .code yX0_reduced cX0_reduced 2 (some .int), .fieldLink RX0 43 "ToneButterflies" "prime" "I", .methodLink RX0 168 yJ9_floorMod_7cf53, .static yJ9_floorMod_7cf53, .initialized RJ9, .code yJ9_floorMod_7cf53 cJ9_floorMod_7cf53 3 (some .int)] ++ wsX00 ++ (vx_atS RX0 32 "java/lang/IllegalArgumentException" ["java/lang/RuntimeException", "java/lang/Exception"]).filter goodWord)
def wsX0_requireRow : List Cond := .code yX0_requireRow cX0_requireRow 2 none :: ([.classLink RX0 93 "java/lang/IndexOutOfBoundsException", .initialized "java/lang/IndexOutOfBoundsException"] ++ (vx_atS RX0 97 "java/lang/IndexOutOfBoundsException" ["java/lang/RuntimeException", "java/lang/Exception"]).filter goodWord)
def wsX0_requirePlace : List Cond := .code yX0_requirePlace cX0_requirePlace 2 none :: ([.classLink RX0 93 "java/lang/IndexOutOfBoundsException", .initialized "java/lang/IndexOutOfBoundsException", .fieldLink RX0 84 "ToneButterflies" "length" "I"] ++ wsX00 ++ (vx_atS RX0 97 "java/lang/IndexOutOfBoundsException" ["java/lang/RuntimeException", "java/lang/Exception"]).filter goodWord)
def wsX0_requireNumber : List Cond := .code yX0_requireNumber cX0_requireNumber 2 none :: ([.classLink RX0 28 "java/lang/IllegalArgumentException", .initialized "java/lang/IllegalArgumentException", .fieldLink RX0 43 "ToneButterflies" "prime" "I"] ++ wsX00 ++ (vx_atS RX0 32 "java/lang/IllegalArgumentException" ["java/lang/RuntimeException", "java/lang/Exception"]).filter goodWord)
def wsX0_read : List Cond := .code yX0_read cX0_read 4 (some .int) :: ([.fieldLink RX0 9 "ToneButterflies" "numbers" "[I"] ++ wsX00)
def wsX0_write : List Cond := .code yX0_write cX0_write 5 none :: ([.fieldLink RX0 9 "ToneButterflies" "numbers" "[I"] ++ wsX00)
def wsX0_set_r1 : List Cond := [Cond.methodLink RX0 59 yX0_requireRow, Cond.instanceMethod yX0_requireRow, Cond.selects RX0 yX0_requireRow yX0_requireRow, Cond.initialized RX0, Cond.code yX0_requireRow cX0_requireRow 2 none, Cond.classLink RX0 93 "java/lang/IndexOutOfBoundsException", Cond.initialized "java/lang/IndexOutOfBoundsException", Cond.methodLink RX0 62 yX0_requirePlace, Cond.instanceMethod yX0_requirePlace, Cond.selects RX0 yX0_requirePlace yX0_requirePlace, Cond.code yX0_requirePlace cX0_requirePlace 2 none, Cond.fieldLink RX0 84 "ToneButterflies" "length" "I", Cond.methodLink RX0 65 yX0_requireNumber, Cond.instanceMethod yX0_requireNumber, Cond.selects RX0 yX0_requireNumber yX0_requireNumber, Cond.code yX0_requireNumber cX0_requireNumber 2 none, Cond.classLink RX0 28 "java/lang/IllegalArgumentException", Cond.initialized "java/lang/IllegalArgumentException", Cond.fieldLink RX0 43 "ToneButterflies" "prime" "I", Cond.methodLink RX0 68 yX0_read, Cond.instanceMethod yX0_read, Cond.selects RX0 yX0_read yX0_read, Cond.code yX0_read cX0_read 4 (some .int), Cond.fieldLink RX0 9 "ToneButterflies" "numbers" "[I"]
def wsX0_set_r2 : List Cond := [Cond.methodLink RX0 71 yX0_write, Cond.instanceMethod yX0_write, Cond.selects RX0 yX0_write yX0_write, Cond.code yX0_write cX0_write 5 none]
def wsX0_set : List Cond := .code yX0_set cX0_set 5 (some .int) :: ((wsX0_set_r1 ++ wsX0_set_r2) ++ wsX00 ++ (vx_atS RX0 97 "java/lang/IndexOutOfBoundsException" ["java/lang/RuntimeException", "java/lang/Exception"]).filter goodWord ++ (vx_atS RX0 32 "java/lang/IllegalArgumentException" ["java/lang/RuntimeException", "java/lang/Exception"]).filter goodWord)
def wsX0_copyRow : List Cond := .code yX0_copyRow cX0_copyRow 6 (some .int) :: ([.fieldLink RX0 84 "ToneButterflies" "length" "I", .methodLink RX0 68 yX0_read, .instanceMethod yX0_read, .selects RX0 yX0_read yX0_read, .initialized RX0, .code yX0_read cX0_read 4 (some .int), .fieldLink RX0 9 "ToneButterflies" "numbers" "[I", .methodLink RX0 71 yX0_write, .instanceMethod yX0_write, .selects RX0 yX0_write yX0_write, .code yX0_write cX0_write 5 none] ++ wsX00)
def wsX0_copy : List Cond := .code yX0_copy cX0_copy 3 (some .int) :: ([.methodLink RX0 59 yX0_requireRow, .instanceMethod yX0_requireRow, .selects RX0 yX0_requireRow yX0_requireRow, .initialized RX0, .code yX0_requireRow cX0_requireRow 2 none, .classLink RX0 93 "java/lang/IndexOutOfBoundsException", .initialized "java/lang/IndexOutOfBoundsException", .methodLink RX0 75 yX0_copyRow, .instanceMethod yX0_copyRow, .selects RX0 yX0_copyRow yX0_copyRow, .code yX0_copyRow cX0_copyRow 6 (some .int), .fieldLink RX0 84 "ToneButterflies" "length" "I", .methodLink RX0 68 yX0_read, .instanceMethod yX0_read, .selects RX0 yX0_read yX0_read, .code yX0_read cX0_read 4 (some .int), .fieldLink RX0 9 "ToneButterflies" "numbers" "[I", .methodLink RX0 71 yX0_write, .instanceMethod yX0_write, .selects RX0 yX0_write yX0_write, .code yX0_write cX0_write 5 none] ++ wsX00 ++ (vx_atS RX0 97 "java/lang/IndexOutOfBoundsException" ["java/lang/RuntimeException", "java/lang/Exception"]).filter goodWord)
def wsX0_valueAt : List Cond := .code yX0_valueAt cX0_valueAt 5 (some .int) :: ([.fieldLink RX0 84 "ToneButterflies" "length" "I", .methodLink RX0 68 yX0_read, .instanceMethod yX0_read, .selects RX0 yX0_read yX0_read, .initialized RX0, .code yX0_read cX0_read 4 (some .int), .fieldLink RX0 9 "ToneButterflies" "numbers" "[I", .methodLink RX0 46 yX0_reduced, .instanceMethod yX0_reduced, .selects RX0 yX0_reduced yX0_reduced, .code yX0_reduced cX0_reduced 2 (some .int), .fieldLink RX0 43 "ToneButterflies" "prime" "I", .methodLink RX0 168 yJ9_floorMod_7cf53, .static yJ9_floorMod_7cf53, .initialized RJ9, .code yJ9_floorMod_7cf53 cJ9_floorMod_7cf53 3 (some .int)] ++ wsX00)
def wsX0_scratchValues : List Cond := .code yX0_scratchValues cX0_scratchValues 6 none :: ([.fieldLink RX0 84 "ToneButterflies" "length" "I", .methodLink RX0 119 yX0_valueAt, .instanceMethod yX0_valueAt, .selects RX0 yX0_valueAt yX0_valueAt, .initialized RX0, .code yX0_valueAt cX0_valueAt 5 (some .int), .methodLink RX0 68 yX0_read, .instanceMethod yX0_read, .selects RX0 yX0_read yX0_read, .code yX0_read cX0_read 4 (some .int), .fieldLink RX0 9 "ToneButterflies" "numbers" "[I", .methodLink RX0 46 yX0_reduced, .instanceMethod yX0_reduced, .selects RX0 yX0_reduced yX0_reduced, .code yX0_reduced cX0_reduced 2 (some .int), .fieldLink RX0 43 "ToneButterflies" "prime" "I", .methodLink RX0 168 yJ9_floorMod_7cf53, .static yJ9_floorMod_7cf53, .initialized RJ9, .code yJ9_floorMod_7cf53 cJ9_floorMod_7cf53 3 (some .int), .methodLink RX0 71 yX0_write, .instanceMethod yX0_write, .selects RX0 yX0_write yX0_write, .code yX0_write cX0_write 5 none] ++ wsX00)
def wsX0_scratchTurnedBack_r1 : List Cond := [Cond.fieldLink RX0 162 "ToneButterflies" "unityRootInverse" "I", Cond.fieldLink RX0 165 "ToneButterflies" "lengthInverse" "I", Cond.methodLink RX0 173 yX0_scratchValues, Cond.instanceMethod yX0_scratchValues, Cond.selects RX0 yX0_scratchValues yX0_scratchValues, Cond.initialized RX0, Cond.code yX0_scratchValues cX0_scratchValues 6 none, Cond.fieldLink RX0 84 "ToneButterflies" "length" "I", Cond.methodLink RX0 119 yX0_valueAt, Cond.instanceMethod yX0_valueAt, Cond.selects RX0 yX0_valueAt yX0_valueAt, Cond.code yX0_valueAt cX0_valueAt 5 (some .int), Cond.methodLink RX0 68 yX0_read, Cond.instanceMethod yX0_read, Cond.selects RX0 yX0_read yX0_read, Cond.code yX0_read cX0_read 4 (some .int), Cond.fieldLink RX0 9 "ToneButterflies" "numbers" "[I", Cond.methodLink RX0 46 yX0_reduced, Cond.instanceMethod yX0_reduced, Cond.selects RX0 yX0_reduced yX0_reduced, Cond.code yX0_reduced cX0_reduced 2 (some .int), Cond.fieldLink RX0 43 "ToneButterflies" "prime" "I", Cond.methodLink RX0 168 yJ9_floorMod_7cf53, Cond.static yJ9_floorMod_7cf53]
def wsX0_scratchTurnedBack_r2 : List Cond := [Cond.initialized RJ9, Cond.code yJ9_floorMod_7cf53 cJ9_floorMod_7cf53 3 (some .int), Cond.methodLink RX0 71 yX0_write, Cond.instanceMethod yX0_write, Cond.selects RX0 yX0_write yX0_write, Cond.code yX0_write cX0_write 5 none]
def wsX0_scratchTurnedBack : List Cond := .code yX0_scratchTurnedBack cX0_scratchTurnedBack 2 none :: ((wsX0_scratchTurnedBack_r1 ++ wsX0_scratchTurnedBack_r2) ++ wsX00)
def wsX0_scratchTones_r1 : List Cond := [Cond.fieldLink RX0 35 "ToneButterflies" "unityRoot" "I", Cond.methodLink RX0 173 yX0_scratchValues, Cond.instanceMethod yX0_scratchValues, Cond.selects RX0 yX0_scratchValues yX0_scratchValues, Cond.initialized RX0, Cond.code yX0_scratchValues cX0_scratchValues 6 none, Cond.fieldLink RX0 84 "ToneButterflies" "length" "I", Cond.methodLink RX0 119 yX0_valueAt, Cond.instanceMethod yX0_valueAt, Cond.selects RX0 yX0_valueAt yX0_valueAt, Cond.code yX0_valueAt cX0_valueAt 5 (some .int), Cond.methodLink RX0 68 yX0_read, Cond.instanceMethod yX0_read, Cond.selects RX0 yX0_read yX0_read, Cond.code yX0_read cX0_read 4 (some .int), Cond.fieldLink RX0 9 "ToneButterflies" "numbers" "[I", Cond.methodLink RX0 46 yX0_reduced, Cond.instanceMethod yX0_reduced, Cond.selects RX0 yX0_reduced yX0_reduced, Cond.code yX0_reduced cX0_reduced 2 (some .int), Cond.fieldLink RX0 43 "ToneButterflies" "prime" "I", Cond.methodLink RX0 168 yJ9_floorMod_7cf53, Cond.static yJ9_floorMod_7cf53, Cond.initialized RJ9]
def wsX0_scratchTones_r2 : List Cond := [Cond.code yJ9_floorMod_7cf53 cJ9_floorMod_7cf53 3 (some .int), Cond.methodLink RX0 71 yX0_write, Cond.instanceMethod yX0_write, Cond.selects RX0 yX0_write yX0_write, Cond.code yX0_write cX0_write 5 none]
def wsX0_scratchTones : List Cond := .code yX0_scratchTones cX0_scratchTones 2 none :: ((wsX0_scratchTones_r1 ++ wsX0_scratchTones_r2) ++ wsX00)
def wsX0_turn_r1 : List Cond := [Cond.methodLink RX0 59 yX0_requireRow, Cond.instanceMethod yX0_requireRow, Cond.selects RX0 yX0_requireRow yX0_requireRow, Cond.initialized RX0, Cond.code yX0_requireRow cX0_requireRow 2 none, Cond.classLink RX0 93 "java/lang/IndexOutOfBoundsException", Cond.initialized "java/lang/IndexOutOfBoundsException", Cond.methodLink RX0 78 yX0_scratchTurnedBack, Cond.instanceMethod yX0_scratchTurnedBack, Cond.selects RX0 yX0_scratchTurnedBack yX0_scratchTurnedBack, Cond.code yX0_scratchTurnedBack cX0_scratchTurnedBack 2 none, Cond.fieldLink RX0 162 "ToneButterflies" "unityRootInverse" "I", Cond.fieldLink RX0 165 "ToneButterflies" "lengthInverse" "I", Cond.methodLink RX0 173 yX0_scratchValues, Cond.instanceMethod yX0_scratchValues, Cond.selects RX0 yX0_scratchValues yX0_scratchValues, Cond.code yX0_scratchValues cX0_scratchValues 6 none, Cond.fieldLink RX0 84 "ToneButterflies" "length" "I", Cond.methodLink RX0 119 yX0_valueAt, Cond.instanceMethod yX0_valueAt, Cond.selects RX0 yX0_valueAt yX0_valueAt, Cond.code yX0_valueAt cX0_valueAt 5 (some .int), Cond.methodLink RX0 68 yX0_read, Cond.instanceMethod yX0_read]
def wsX0_turn_r2 : List Cond := [Cond.selects RX0 yX0_read yX0_read, Cond.code yX0_read cX0_read 4 (some .int), Cond.fieldLink RX0 9 "ToneButterflies" "numbers" "[I", Cond.methodLink RX0 46 yX0_reduced, Cond.instanceMethod yX0_reduced, Cond.selects RX0 yX0_reduced yX0_reduced, Cond.code yX0_reduced cX0_reduced 2 (some .int), Cond.fieldLink RX0 43 "ToneButterflies" "prime" "I", Cond.methodLink RX0 168 yJ9_floorMod_7cf53, Cond.static yJ9_floorMod_7cf53, Cond.initialized RJ9, Cond.code yJ9_floorMod_7cf53 cJ9_floorMod_7cf53 3 (some .int), Cond.methodLink RX0 71 yX0_write, Cond.instanceMethod yX0_write, Cond.selects RX0 yX0_write yX0_write, Cond.code yX0_write cX0_write 5 none, Cond.methodLink RX0 81 yX0_scratchTones, Cond.instanceMethod yX0_scratchTones, Cond.selects RX0 yX0_scratchTones yX0_scratchTones, Cond.code yX0_scratchTones cX0_scratchTones 2 none, Cond.fieldLink RX0 35 "ToneButterflies" "unityRoot" "I", Cond.methodLink RX0 75 yX0_copyRow, Cond.instanceMethod yX0_copyRow, Cond.selects RX0 yX0_copyRow yX0_copyRow]
def wsX0_turn_r3 : List Cond := [Cond.code yX0_copyRow cX0_copyRow 6 (some .int)]
def wsX0_turn : List Cond := .code yX0_turn cX0_turn 3 (some .int) :: ((wsX0_turn_r1 ++ (wsX0_turn_r2 ++ wsX0_turn_r3)) ++ wsX00 ++ (vx_atS RX0 97 "java/lang/IndexOutOfBoundsException" ["java/lang/RuntimeException", "java/lang/Exception"]).filter goodWord)
def wsX0_mirrored : List Cond := .code yX0_mirrored cX0_mirrored 4 (some .int) :: ([.fieldLink RX0 90 "ToneButterflies" "bits" "I"] ++ wsX00)
def wsX0_mirror_r1 : List Cond := [Cond.fieldLink RX0 84 "ToneButterflies" "length" "I", Cond.methodLink RX0 59 yX0_requireRow, Cond.instanceMethod yX0_requireRow, Cond.selects RX0 yX0_requireRow yX0_requireRow, Cond.initialized RX0, Cond.code yX0_requireRow cX0_requireRow 2 none, Cond.classLink RX0 93 "java/lang/IndexOutOfBoundsException", Cond.initialized "java/lang/IndexOutOfBoundsException", Cond.methodLink RX0 87 yX0_mirrored, Cond.instanceMethod yX0_mirrored, Cond.selects RX0 yX0_mirrored yX0_mirrored, Cond.code yX0_mirrored cX0_mirrored 4 (some .int), Cond.fieldLink RX0 90 "ToneButterflies" "bits" "I", Cond.methodLink RX0 68 yX0_read, Cond.instanceMethod yX0_read, Cond.selects RX0 yX0_read yX0_read, Cond.code yX0_read cX0_read 4 (some .int), Cond.fieldLink RX0 9 "ToneButterflies" "numbers" "[I", Cond.methodLink RX0 71 yX0_write, Cond.instanceMethod yX0_write, Cond.selects RX0 yX0_write yX0_write, Cond.code yX0_write cX0_write 5 none, Cond.methodLink RX0 75 yX0_copyRow, Cond.instanceMethod yX0_copyRow]
def wsX0_mirror_r2 : List Cond := [Cond.selects RX0 yX0_copyRow yX0_copyRow, Cond.code yX0_copyRow cX0_copyRow 6 (some .int)]
def wsX0_mirror : List Cond := .code yX0_mirror cX0_mirror 3 (some .int) :: ((wsX0_mirror_r1 ++ wsX0_mirror_r2) ++ wsX00 ++ (vx_atS RX0 97 "java/lang/IndexOutOfBoundsException" ["java/lang/RuntimeException", "java/lang/Exception"]).filter goodWord)
def wsX0_butterfly : List Cond := .code yX0_butterfly cX0_butterfly 7 none :: ([.methodLink RX0 68 yX0_read, .instanceMethod yX0_read, .selects RX0 yX0_read yX0_read, .initialized RX0, .code yX0_read cX0_read 4 (some .int), .fieldLink RX0 9 "ToneButterflies" "numbers" "[I", .methodLink RX0 46 yX0_reduced, .instanceMethod yX0_reduced, .selects RX0 yX0_reduced yX0_reduced, .code yX0_reduced cX0_reduced 2 (some .int), .fieldLink RX0 43 "ToneButterflies" "prime" "I", .methodLink RX0 168 yJ9_floorMod_7cf53, .static yJ9_floorMod_7cf53, .initialized RJ9, .code yJ9_floorMod_7cf53 cJ9_floorMod_7cf53 3 (some .int), .methodLink RX0 71 yX0_write, .instanceMethod yX0_write, .selects RX0 yX0_write yX0_write, .code yX0_write cX0_write 5 none] ++ wsX00)
def wsX0_stage_r1 : List Cond := [Cond.classLink RX0 93 "java/lang/IndexOutOfBoundsException", Cond.initialized "java/lang/IndexOutOfBoundsException", Cond.fieldLink RX0 90 "ToneButterflies" "bits" "I", Cond.fieldLink RX0 84 "ToneButterflies" "length" "I", Cond.fieldLink RX0 35 "ToneButterflies" "unityRoot" "I", Cond.methodLink RX0 59 yX0_requireRow, Cond.instanceMethod yX0_requireRow, Cond.selects RX0 yX0_requireRow yX0_requireRow, Cond.initialized RX0, Cond.code yX0_requireRow cX0_requireRow 2 none, Cond.methodLink RX0 55 yX0_powerOf, Cond.instanceMethod yX0_powerOf, Cond.selects RX0 yX0_powerOf yX0_powerOf, Cond.code yX0_powerOf cX0_powerOf 6 (some .int), Cond.methodLink RX0 46 yX0_reduced, Cond.instanceMethod yX0_reduced, Cond.selects RX0 yX0_reduced yX0_reduced, Cond.code yX0_reduced cX0_reduced 2 (some .int), Cond.fieldLink RX0 43 "ToneButterflies" "prime" "I", Cond.methodLink RX0 168 yJ9_floorMod_7cf53, Cond.static yJ9_floorMod_7cf53, Cond.initialized RJ9, Cond.code yJ9_floorMod_7cf53 cJ9_floorMod_7cf53 3 (some .int), Cond.methodLink RX0 98 yX0_butterfly]
def wsX0_stage_r2 : List Cond := [Cond.instanceMethod yX0_butterfly, Cond.selects RX0 yX0_butterfly yX0_butterfly, Cond.code yX0_butterfly cX0_butterfly 7 none, Cond.methodLink RX0 68 yX0_read, Cond.instanceMethod yX0_read, Cond.selects RX0 yX0_read yX0_read, Cond.code yX0_read cX0_read 4 (some .int), Cond.fieldLink RX0 9 "ToneButterflies" "numbers" "[I", Cond.methodLink RX0 71 yX0_write, Cond.instanceMethod yX0_write, Cond.selects RX0 yX0_write yX0_write, Cond.code yX0_write cX0_write 5 none]
def wsX0_stage : List Cond := .code yX0_stage cX0_stage 7 (some .int) :: ((wsX0_stage_r1 ++ wsX0_stage_r2) ++ wsX00 ++ (vx_atS RX0 97 "java/lang/IndexOutOfBoundsException" ["java/lang/RuntimeException", "java/lang/Exception"]).filter goodWord)
def wsX0_wrapped : List Cond := .code yX0_wrapped cX0_wrapped 2 (some .int) :: ([.fieldLink RX0 84 "ToneButterflies" "length" "I"] ++ wsX00)
def wsX0_foldedAt : List Cond := .code yX0_foldedAt cX0_foldedAt 6 (some .int) :: ([.fieldLink RX0 84 "ToneButterflies" "length" "I", .methodLink RX0 68 yX0_read, .instanceMethod yX0_read, .selects RX0 yX0_read yX0_read, .initialized RX0, .code yX0_read cX0_read 4 (some .int), .fieldLink RX0 9 "ToneButterflies" "numbers" "[I", .methodLink RX0 116 yX0_wrapped, .instanceMethod yX0_wrapped, .selects RX0 yX0_wrapped yX0_wrapped, .code yX0_wrapped cX0_wrapped 2 (some .int), .methodLink RX0 46 yX0_reduced, .instanceMethod yX0_reduced, .selects RX0 yX0_reduced yX0_reduced, .code yX0_reduced cX0_reduced 2 (some .int), .fieldLink RX0 43 "ToneButterflies" "prime" "I", .methodLink RX0 168 yJ9_floorMod_7cf53, .static yJ9_floorMod_7cf53, .initialized RJ9, .code yJ9_floorMod_7cf53 cJ9_floorMod_7cf53 3 (some .int)] ++ wsX00)
def wsX0_fold_r1 : List Cond := [Cond.fieldLink RX0 84 "ToneButterflies" "length" "I", Cond.methodLink RX0 59 yX0_requireRow, Cond.instanceMethod yX0_requireRow, Cond.selects RX0 yX0_requireRow yX0_requireRow, Cond.initialized RX0, Cond.code yX0_requireRow cX0_requireRow 2 none, Cond.classLink RX0 93 "java/lang/IndexOutOfBoundsException", Cond.initialized "java/lang/IndexOutOfBoundsException", Cond.methodLink RX0 102 yX0_foldedAt, Cond.instanceMethod yX0_foldedAt, Cond.selects RX0 yX0_foldedAt yX0_foldedAt, Cond.code yX0_foldedAt cX0_foldedAt 6 (some .int), Cond.methodLink RX0 68 yX0_read, Cond.instanceMethod yX0_read, Cond.selects RX0 yX0_read yX0_read, Cond.code yX0_read cX0_read 4 (some .int), Cond.fieldLink RX0 9 "ToneButterflies" "numbers" "[I", Cond.methodLink RX0 116 yX0_wrapped, Cond.instanceMethod yX0_wrapped, Cond.selects RX0 yX0_wrapped yX0_wrapped, Cond.code yX0_wrapped cX0_wrapped 2 (some .int), Cond.methodLink RX0 46 yX0_reduced, Cond.instanceMethod yX0_reduced, Cond.selects RX0 yX0_reduced yX0_reduced]
def wsX0_fold_r2 : List Cond := [Cond.code yX0_reduced cX0_reduced 2 (some .int), Cond.fieldLink RX0 43 "ToneButterflies" "prime" "I", Cond.methodLink RX0 168 yJ9_floorMod_7cf53, Cond.static yJ9_floorMod_7cf53, Cond.initialized RJ9, Cond.code yJ9_floorMod_7cf53 cJ9_floorMod_7cf53 3 (some .int), Cond.methodLink RX0 71 yX0_write, Cond.instanceMethod yX0_write, Cond.selects RX0 yX0_write yX0_write, Cond.code yX0_write cX0_write 5 none, Cond.methodLink RX0 75 yX0_copyRow, Cond.instanceMethod yX0_copyRow, Cond.selects RX0 yX0_copyRow yX0_copyRow, Cond.code yX0_copyRow cX0_copyRow 6 (some .int)]
def wsX0_fold : List Cond := .code yX0_fold cX0_fold 4 (some .int) :: ((wsX0_fold_r1 ++ wsX0_fold_r2) ++ wsX00 ++ (vx_atS RX0 97 "java/lang/IndexOutOfBoundsException" ["java/lang/RuntimeException", "java/lang/Exception"]).filter goodWord)
def wsX0_joined : List Cond := .code yX0_joined cX0_joined 4 (some .int) :: ([.methodLink RX0 46 yX0_reduced, .instanceMethod yX0_reduced, .selects RX0 yX0_reduced yX0_reduced, .initialized RX0, .code yX0_reduced cX0_reduced 2 (some .int), .fieldLink RX0 43 "ToneButterflies" "prime" "I", .methodLink RX0 168 yJ9_floorMod_7cf53, .static yJ9_floorMod_7cf53, .initialized RJ9, .code yJ9_floorMod_7cf53 cJ9_floorMod_7cf53 3 (some .int)] ++ wsX00)
def wsX0_nonZeros : List Cond := .code yX0_nonZeros cX0_nonZeros 4 (some .int) :: ([.fieldLink RX0 84 "ToneButterflies" "length" "I", .methodLink RX0 68 yX0_read, .instanceMethod yX0_read, .selects RX0 yX0_read yX0_read, .initialized RX0, .code yX0_read cX0_read 4 (some .int), .fieldLink RX0 9 "ToneButterflies" "numbers" "[I"] ++ wsX00)
def wsX0_join_r1 : List Cond := [Cond.classLink RX0 93 "java/lang/IndexOutOfBoundsException", Cond.initialized "java/lang/IndexOutOfBoundsException", Cond.fieldLink RX0 84 "ToneButterflies" "length" "I", Cond.methodLink RX0 59 yX0_requireRow, Cond.instanceMethod yX0_requireRow, Cond.selects RX0 yX0_requireRow yX0_requireRow, Cond.initialized RX0, Cond.code yX0_requireRow cX0_requireRow 2 none, Cond.methodLink RX0 68 yX0_read, Cond.instanceMethod yX0_read, Cond.selects RX0 yX0_read yX0_read, Cond.code yX0_read cX0_read 4 (some .int), Cond.fieldLink RX0 9 "ToneButterflies" "numbers" "[I", Cond.methodLink RX0 108 yX0_joined, Cond.instanceMethod yX0_joined, Cond.selects RX0 yX0_joined yX0_joined, Cond.code yX0_joined cX0_joined 4 (some .int), Cond.methodLink RX0 46 yX0_reduced, Cond.instanceMethod yX0_reduced, Cond.selects RX0 yX0_reduced yX0_reduced, Cond.code yX0_reduced cX0_reduced 2 (some .int), Cond.fieldLink RX0 43 "ToneButterflies" "prime" "I", Cond.methodLink RX0 168 yJ9_floorMod_7cf53, Cond.static yJ9_floorMod_7cf53]
def wsX0_join_r2 : List Cond := [Cond.initialized RJ9, Cond.code yJ9_floorMod_7cf53 cJ9_floorMod_7cf53 3 (some .int), Cond.methodLink RX0 71 yX0_write, Cond.instanceMethod yX0_write, Cond.selects RX0 yX0_write yX0_write, Cond.code yX0_write cX0_write 5 none, Cond.methodLink RX0 111 yX0_nonZeros, Cond.instanceMethod yX0_nonZeros, Cond.selects RX0 yX0_nonZeros yX0_nonZeros, Cond.code yX0_nonZeros cX0_nonZeros 4 (some .int)]
def wsX0_join : List Cond := .code yX0_join cX0_join 5 (some .int) :: ((wsX0_join_r1 ++ wsX0_join_r2) ++ wsX00 ++ (vx_atS RX0 97 "java/lang/IndexOutOfBoundsException" ["java/lang/RuntimeException", "java/lang/Exception"]).filter goodWord)
def wsX0_move_r1 : List Cond := [Cond.classLink RX0 28 "java/lang/IllegalArgumentException", Cond.initialized "java/lang/IllegalArgumentException", Cond.fieldLink RX0 84 "ToneButterflies" "length" "I", Cond.methodLink RX0 59 yX0_requireRow, Cond.instanceMethod yX0_requireRow, Cond.selects RX0 yX0_requireRow yX0_requireRow, Cond.initialized RX0, Cond.code yX0_requireRow cX0_requireRow 2 none, Cond.classLink RX0 93 "java/lang/IndexOutOfBoundsException", Cond.initialized "java/lang/IndexOutOfBoundsException", Cond.methodLink RX0 116 yX0_wrapped, Cond.instanceMethod yX0_wrapped, Cond.selects RX0 yX0_wrapped yX0_wrapped, Cond.code yX0_wrapped cX0_wrapped 2 (some .int), Cond.methodLink RX0 68 yX0_read, Cond.instanceMethod yX0_read, Cond.selects RX0 yX0_read yX0_read, Cond.code yX0_read cX0_read 4 (some .int), Cond.fieldLink RX0 9 "ToneButterflies" "numbers" "[I", Cond.methodLink RX0 71 yX0_write, Cond.instanceMethod yX0_write, Cond.selects RX0 yX0_write yX0_write, Cond.code yX0_write cX0_write 5 none, Cond.methodLink RX0 75 yX0_copyRow]
def wsX0_move_r2 : List Cond := [Cond.instanceMethod yX0_copyRow, Cond.selects RX0 yX0_copyRow yX0_copyRow, Cond.code yX0_copyRow cX0_copyRow 6 (some .int)]
def wsX0_move : List Cond := .code yX0_move cX0_move 4 (some .int) :: ((wsX0_move_r1 ++ wsX0_move_r2) ++ wsX00 ++ (vx_atS RX0 32 "java/lang/IllegalArgumentException" ["java/lang/RuntimeException", "java/lang/Exception"]).filter goodWord ++ (vx_atS RX0 97 "java/lang/IndexOutOfBoundsException" ["java/lang/RuntimeException", "java/lang/Exception"]).filter goodWord)
def wsX0_times_r1 : List Cond := [Cond.fieldLink RX0 84 "ToneButterflies" "length" "I", Cond.methodLink RX0 59 yX0_requireRow, Cond.instanceMethod yX0_requireRow, Cond.selects RX0 yX0_requireRow yX0_requireRow, Cond.initialized RX0, Cond.code yX0_requireRow cX0_requireRow 2 none, Cond.classLink RX0 93 "java/lang/IndexOutOfBoundsException", Cond.initialized "java/lang/IndexOutOfBoundsException", Cond.methodLink RX0 65 yX0_requireNumber, Cond.instanceMethod yX0_requireNumber, Cond.selects RX0 yX0_requireNumber yX0_requireNumber, Cond.code yX0_requireNumber cX0_requireNumber 2 none, Cond.classLink RX0 28 "java/lang/IllegalArgumentException", Cond.initialized "java/lang/IllegalArgumentException", Cond.fieldLink RX0 43 "ToneButterflies" "prime" "I", Cond.methodLink RX0 68 yX0_read, Cond.instanceMethod yX0_read, Cond.selects RX0 yX0_read yX0_read, Cond.code yX0_read cX0_read 4 (some .int), Cond.fieldLink RX0 9 "ToneButterflies" "numbers" "[I", Cond.methodLink RX0 46 yX0_reduced, Cond.instanceMethod yX0_reduced, Cond.selects RX0 yX0_reduced yX0_reduced, Cond.code yX0_reduced cX0_reduced 2 (some .int)]
def wsX0_times_r2 : List Cond := [Cond.methodLink RX0 168 yJ9_floorMod_7cf53, Cond.static yJ9_floorMod_7cf53, Cond.initialized RJ9, Cond.code yJ9_floorMod_7cf53 cJ9_floorMod_7cf53 3 (some .int), Cond.methodLink RX0 71 yX0_write, Cond.instanceMethod yX0_write, Cond.selects RX0 yX0_write yX0_write, Cond.code yX0_write cX0_write 5 none, Cond.methodLink RX0 111 yX0_nonZeros, Cond.instanceMethod yX0_nonZeros, Cond.selects RX0 yX0_nonZeros yX0_nonZeros, Cond.code yX0_nonZeros cX0_nonZeros 4 (some .int)]
def wsX0_times : List Cond := .code yX0_times cX0_times 4 (some .int) :: ((wsX0_times_r1 ++ wsX0_times_r2) ++ wsX00 ++ (vx_atS RX0 97 "java/lang/IndexOutOfBoundsException" ["java/lang/RuntimeException", "java/lang/Exception"]).filter goodWord ++ (vx_atS RX0 32 "java/lang/IllegalArgumentException" ["java/lang/RuntimeException", "java/lang/Exception"]).filter goodWord)
def wsX0_at : List Cond := .code yX0_at cX0_at 3 (some .int) :: ([.methodLink RX0 59 yX0_requireRow, .instanceMethod yX0_requireRow, .selects RX0 yX0_requireRow yX0_requireRow, .initialized RX0, .code yX0_requireRow cX0_requireRow 2 none, .classLink RX0 93 "java/lang/IndexOutOfBoundsException", .initialized "java/lang/IndexOutOfBoundsException", .methodLink RX0 62 yX0_requirePlace, .instanceMethod yX0_requirePlace, .selects RX0 yX0_requirePlace yX0_requirePlace, .code yX0_requirePlace cX0_requirePlace 2 none, .fieldLink RX0 84 "ToneButterflies" "length" "I", .methodLink RX0 68 yX0_read, .instanceMethod yX0_read, .selects RX0 yX0_read yX0_read, .code yX0_read cX0_read 4 (some .int), .fieldLink RX0 9 "ToneButterflies" "numbers" "[I"] ++ wsX00 ++ (vx_atS RX0 97 "java/lang/IndexOutOfBoundsException" ["java/lang/RuntimeException", "java/lang/Exception"]).filter goodWord)
def wsX0_point_r1 : List Cond := [Cond.methodLink RX0 59 yX0_requireRow, Cond.instanceMethod yX0_requireRow, Cond.selects RX0 yX0_requireRow yX0_requireRow, Cond.initialized RX0, Cond.code yX0_requireRow cX0_requireRow 2 none, Cond.classLink RX0 93 "java/lang/IndexOutOfBoundsException", Cond.initialized "java/lang/IndexOutOfBoundsException", Cond.methodLink RX0 65 yX0_requireNumber, Cond.instanceMethod yX0_requireNumber, Cond.selects RX0 yX0_requireNumber yX0_requireNumber, Cond.code yX0_requireNumber cX0_requireNumber 2 none, Cond.classLink RX0 28 "java/lang/IllegalArgumentException", Cond.initialized "java/lang/IllegalArgumentException", Cond.fieldLink RX0 43 "ToneButterflies" "prime" "I", Cond.methodLink RX0 119 yX0_valueAt, Cond.instanceMethod yX0_valueAt, Cond.selects RX0 yX0_valueAt yX0_valueAt, Cond.code yX0_valueAt cX0_valueAt 5 (some .int), Cond.fieldLink RX0 84 "ToneButterflies" "length" "I", Cond.methodLink RX0 68 yX0_read, Cond.instanceMethod yX0_read, Cond.selects RX0 yX0_read yX0_read, Cond.code yX0_read cX0_read 4 (some .int), Cond.fieldLink RX0 9 "ToneButterflies" "numbers" "[I"]
def wsX0_point_r2 : List Cond := [Cond.methodLink RX0 46 yX0_reduced, Cond.instanceMethod yX0_reduced, Cond.selects RX0 yX0_reduced yX0_reduced, Cond.code yX0_reduced cX0_reduced 2 (some .int), Cond.methodLink RX0 168 yJ9_floorMod_7cf53, Cond.static yJ9_floorMod_7cf53, Cond.initialized RJ9, Cond.code yJ9_floorMod_7cf53 cJ9_floorMod_7cf53 3 (some .int)]
def wsX0_point : List Cond := .code yX0_point cX0_point 3 (some .int) :: ((wsX0_point_r1 ++ wsX0_point_r2) ++ wsX00 ++ (vx_atS RX0 97 "java/lang/IndexOutOfBoundsException" ["java/lang/RuntimeException", "java/lang/Exception"]).filter goodWord ++ (vx_atS RX0 32 "java/lang/IllegalArgumentException" ["java/lang/RuntimeException", "java/lang/Exception"]).filter goodWord)
def wsX0_plainSum : List Cond := .code yX0_plainSum cX0_plainSum 4 (some .int) :: ([.fieldLink RX0 84 "ToneButterflies" "length" "I", .methodLink RX0 68 yX0_read, .instanceMethod yX0_read, .selects RX0 yX0_read yX0_read, .initialized RX0, .code yX0_read cX0_read 4 (some .int), .fieldLink RX0 9 "ToneButterflies" "numbers" "[I"] ++ wsX00)
def wsX0_lastNonZero : List Cond := .code yX0_lastNonZero cX0_lastNonZero 3 (some .int) :: ([.fieldLink RX0 84 "ToneButterflies" "length" "I", .methodLink RX0 68 yX0_read, .instanceMethod yX0_read, .selects RX0 yX0_read yX0_read, .initialized RX0, .code yX0_read cX0_read 4 (some .int), .fieldLink RX0 9 "ToneButterflies" "numbers" "[I"] ++ wsX00)
def wsX0_isWhenMoved : List Cond := .code yX0_isWhenMoved cX0_isWhenMoved 5 (some .boolean) :: ([.fieldLink RX0 84 "ToneButterflies" "length" "I", .methodLink RX0 116 yX0_wrapped, .instanceMethod yX0_wrapped, .selects RX0 yX0_wrapped yX0_wrapped, .initialized RX0, .code yX0_wrapped cX0_wrapped 2 (some .int), .methodLink RX0 68 yX0_read, .instanceMethod yX0_read, .selects RX0 yX0_read yX0_read, .code yX0_read cX0_read 4 (some .int), .fieldLink RX0 9 "ToneButterflies" "numbers" "[I"] ++ wsX00)
def wsX0_period : List Cond := .code yX0_period cX0_period 3 (some .int) :: ([.fieldLink RX0 84 "ToneButterflies" "length" "I", .methodLink RX0 132 yX0_isWhenMoved, .instanceMethod yX0_isWhenMoved, .selects RX0 yX0_isWhenMoved yX0_isWhenMoved, .initialized RX0, .code yX0_isWhenMoved cX0_isWhenMoved 5 (some .boolean), .methodLink RX0 116 yX0_wrapped, .instanceMethod yX0_wrapped, .selects RX0 yX0_wrapped yX0_wrapped, .code yX0_wrapped cX0_wrapped 2 (some .int), .methodLink RX0 68 yX0_read, .instanceMethod yX0_read, .selects RX0 yX0_read yX0_read, .code yX0_read cX0_read 4 (some .int), .fieldLink RX0 9 "ToneButterflies" "numbers" "[I"] ++ wsX00)
def wsX0_greatestNumber : List Cond := .code yX0_greatestNumber cX0_greatestNumber 4 (some .int) :: ([.fieldLink RX0 84 "ToneButterflies" "length" "I", .methodLink RX0 185 Lib.Math.max.name, .static Lib.Math.max.name, .initialized "java/lang/Math", .code Lib.Math.max.name Lib.Math.max.code 2 (some .int), .methodLink RX0 68 yX0_read, .instanceMethod yX0_read, .selects RX0 yX0_read yX0_read, .initialized RX0, .code yX0_read cX0_read 4 (some .int), .fieldLink RX0 9 "ToneButterflies" "numbers" "[I"] ++ wsX00)
def wsX0_told_r1 : List Cond := [Cond.methodLink RX0 139 yX0_plainSum, Cond.instanceMethod yX0_plainSum, Cond.selects RX0 yX0_plainSum yX0_plainSum, Cond.initialized RX0, Cond.code yX0_plainSum cX0_plainSum 4 (some .int), Cond.fieldLink RX0 84 "ToneButterflies" "length" "I", Cond.methodLink RX0 68 yX0_read, Cond.instanceMethod yX0_read, Cond.selects RX0 yX0_read yX0_read, Cond.code yX0_read cX0_read 4 (some .int), Cond.fieldLink RX0 9 "ToneButterflies" "numbers" "[I", Cond.methodLink RX0 46 yX0_reduced, Cond.instanceMethod yX0_reduced, Cond.selects RX0 yX0_reduced yX0_reduced, Cond.code yX0_reduced cX0_reduced 2 (some .int), Cond.fieldLink RX0 43 "ToneButterflies" "prime" "I", Cond.methodLink RX0 168 yJ9_floorMod_7cf53, Cond.static yJ9_floorMod_7cf53, Cond.initialized RJ9, Cond.code yJ9_floorMod_7cf53 cJ9_floorMod_7cf53 3 (some .int), Cond.methodLink RX0 111 yX0_nonZeros, Cond.instanceMethod yX0_nonZeros, Cond.selects RX0 yX0_nonZeros yX0_nonZeros, Cond.code yX0_nonZeros cX0_nonZeros 4 (some .int)]
def wsX0_told_r2 : List Cond := [Cond.methodLink RX0 176 yX0_lastNonZero, Cond.instanceMethod yX0_lastNonZero, Cond.selects RX0 yX0_lastNonZero yX0_lastNonZero, Cond.code yX0_lastNonZero cX0_lastNonZero 3 (some .int), Cond.methodLink RX0 179 yX0_period, Cond.instanceMethod yX0_period, Cond.selects RX0 yX0_period yX0_period, Cond.code yX0_period cX0_period 3 (some .int), Cond.methodLink RX0 132 yX0_isWhenMoved, Cond.instanceMethod yX0_isWhenMoved, Cond.selects RX0 yX0_isWhenMoved yX0_isWhenMoved, Cond.code yX0_isWhenMoved cX0_isWhenMoved 5 (some .boolean), Cond.methodLink RX0 116 yX0_wrapped, Cond.instanceMethod yX0_wrapped, Cond.selects RX0 yX0_wrapped yX0_wrapped, Cond.code yX0_wrapped cX0_wrapped 2 (some .int), Cond.methodLink RX0 182 yX0_greatestNumber, Cond.instanceMethod yX0_greatestNumber, Cond.selects RX0 yX0_greatestNumber yX0_greatestNumber, Cond.code yX0_greatestNumber cX0_greatestNumber 4 (some .int), Cond.methodLink RX0 185 Lib.Math.max.name, Cond.static Lib.Math.max.name, Cond.initialized "java/lang/Math", Cond.code Lib.Math.max.name Lib.Math.max.code 2 (some .int)]
def wsX0_told : List Cond := .code yX0_told cX0_told 3 (some .int) :: ((wsX0_told_r1 ++ wsX0_told_r2) ++ wsX00)
def wsX0_about_r1 : List Cond := [Cond.classLink RX0 93 "java/lang/IndexOutOfBoundsException", Cond.initialized "java/lang/IndexOutOfBoundsException", Cond.methodLink RX0 59 yX0_requireRow, Cond.instanceMethod yX0_requireRow, Cond.selects RX0 yX0_requireRow yX0_requireRow, Cond.initialized RX0, Cond.code yX0_requireRow cX0_requireRow 2 none, Cond.methodLink RX0 124 yX0_told, Cond.instanceMethod yX0_told, Cond.selects RX0 yX0_told yX0_told, Cond.code yX0_told cX0_told 3 (some .int), Cond.methodLink RX0 139 yX0_plainSum, Cond.instanceMethod yX0_plainSum, Cond.selects RX0 yX0_plainSum yX0_plainSum, Cond.code yX0_plainSum cX0_plainSum 4 (some .int), Cond.fieldLink RX0 84 "ToneButterflies" "length" "I", Cond.methodLink RX0 68 yX0_read, Cond.instanceMethod yX0_read, Cond.selects RX0 yX0_read yX0_read, Cond.code yX0_read cX0_read 4 (some .int), Cond.fieldLink RX0 9 "ToneButterflies" "numbers" "[I", Cond.methodLink RX0 46 yX0_reduced, Cond.instanceMethod yX0_reduced, Cond.selects RX0 yX0_reduced yX0_reduced]
def wsX0_about_r2 : List Cond := [Cond.code yX0_reduced cX0_reduced 2 (some .int), Cond.fieldLink RX0 43 "ToneButterflies" "prime" "I", Cond.methodLink RX0 168 yJ9_floorMod_7cf53, Cond.static yJ9_floorMod_7cf53, Cond.initialized RJ9, Cond.code yJ9_floorMod_7cf53 cJ9_floorMod_7cf53 3 (some .int), Cond.methodLink RX0 111 yX0_nonZeros, Cond.instanceMethod yX0_nonZeros, Cond.selects RX0 yX0_nonZeros yX0_nonZeros, Cond.code yX0_nonZeros cX0_nonZeros 4 (some .int), Cond.methodLink RX0 176 yX0_lastNonZero, Cond.instanceMethod yX0_lastNonZero, Cond.selects RX0 yX0_lastNonZero yX0_lastNonZero, Cond.code yX0_lastNonZero cX0_lastNonZero 3 (some .int), Cond.methodLink RX0 179 yX0_period, Cond.instanceMethod yX0_period, Cond.selects RX0 yX0_period yX0_period, Cond.code yX0_period cX0_period 3 (some .int), Cond.methodLink RX0 132 yX0_isWhenMoved, Cond.instanceMethod yX0_isWhenMoved, Cond.selects RX0 yX0_isWhenMoved yX0_isWhenMoved, Cond.code yX0_isWhenMoved cX0_isWhenMoved 5 (some .boolean), Cond.methodLink RX0 116 yX0_wrapped, Cond.instanceMethod yX0_wrapped]
def wsX0_about_r3 : List Cond := [Cond.selects RX0 yX0_wrapped yX0_wrapped, Cond.code yX0_wrapped cX0_wrapped 2 (some .int), Cond.methodLink RX0 182 yX0_greatestNumber, Cond.instanceMethod yX0_greatestNumber, Cond.selects RX0 yX0_greatestNumber yX0_greatestNumber, Cond.code yX0_greatestNumber cX0_greatestNumber 4 (some .int), Cond.methodLink RX0 185 Lib.Math.max.name, Cond.static Lib.Math.max.name, Cond.initialized "java/lang/Math", Cond.code Lib.Math.max.name Lib.Math.max.code 2 (some .int)]
def wsX0_about : List Cond := .code yX0_about cX0_about 3 (some .int) :: ((wsX0_about_r1 ++ (wsX0_about_r2 ++ wsX0_about_r3)) ++ wsX00 ++ (vx_atS RX0 97 "java/lang/IndexOutOfBoundsException" ["java/lang/RuntimeException", "java/lang/Exception"]).filter goodWord)
def wsX0_counted : List Cond := .code yX0_counted cX0_counted 2 (some .int) :: ([.fieldLink RX0 84 "ToneButterflies" "length" "I", .fieldLink RX0 43 "ToneButterflies" "prime" "I", .fieldLink RX0 35 "ToneButterflies" "unityRoot" "I", .fieldLink RX0 162 "ToneButterflies" "unityRootInverse" "I", .fieldLink RX0 165 "ToneButterflies" "lengthInverse" "I", .fieldLink RX0 90 "ToneButterflies" "bits" "I"] ++ wsX00)
def wsX0_count : List Cond := .code yX0_count cX0_count 2 (some .int) :: ([.classLink RX0 93 "java/lang/IndexOutOfBoundsException", .initialized "java/lang/IndexOutOfBoundsException", .methodLink RX0 129 yX0_counted, .instanceMethod yX0_counted, .selects RX0 yX0_counted yX0_counted, .initialized RX0, .code yX0_counted cX0_counted 2 (some .int), .fieldLink RX0 84 "ToneButterflies" "length" "I", .fieldLink RX0 43 "ToneButterflies" "prime" "I", .fieldLink RX0 35 "ToneButterflies" "unityRoot" "I", .fieldLink RX0 162 "ToneButterflies" "unityRootInverse" "I", .fieldLink RX0 165 "ToneButterflies" "lengthInverse" "I", .fieldLink RX0 90 "ToneButterflies" "bits" "I"] ++ wsX00 ++ (vx_atS RX0 97 "java/lang/IndexOutOfBoundsException" ["java/lang/RuntimeException", "java/lang/Exception"]).filter goodWord)
def wsX0_would_r1 : List Cond := [Cond.methodLink RX0 59 yX0_requireRow, Cond.instanceMethod yX0_requireRow, Cond.selects RX0 yX0_requireRow yX0_requireRow, Cond.initialized RX0, Cond.code yX0_requireRow cX0_requireRow 2 none, Cond.classLink RX0 93 "java/lang/IndexOutOfBoundsException", Cond.initialized "java/lang/IndexOutOfBoundsException", Cond.methodLink RX0 62 yX0_requirePlace, Cond.instanceMethod yX0_requirePlace, Cond.selects RX0 yX0_requirePlace yX0_requirePlace, Cond.code yX0_requirePlace cX0_requirePlace 2 none, Cond.fieldLink RX0 84 "ToneButterflies" "length" "I", Cond.methodLink RX0 102 yX0_foldedAt, Cond.instanceMethod yX0_foldedAt, Cond.selects RX0 yX0_foldedAt yX0_foldedAt, Cond.code yX0_foldedAt cX0_foldedAt 6 (some .int), Cond.methodLink RX0 68 yX0_read, Cond.instanceMethod yX0_read, Cond.selects RX0 yX0_read yX0_read, Cond.code yX0_read cX0_read 4 (some .int), Cond.fieldLink RX0 9 "ToneButterflies" "numbers" "[I", Cond.methodLink RX0 116 yX0_wrapped, Cond.instanceMethod yX0_wrapped, Cond.selects RX0 yX0_wrapped yX0_wrapped]
def wsX0_would_r2 : List Cond := [Cond.code yX0_wrapped cX0_wrapped 2 (some .int), Cond.methodLink RX0 46 yX0_reduced, Cond.instanceMethod yX0_reduced, Cond.selects RX0 yX0_reduced yX0_reduced, Cond.code yX0_reduced cX0_reduced 2 (some .int), Cond.fieldLink RX0 43 "ToneButterflies" "prime" "I", Cond.methodLink RX0 168 yJ9_floorMod_7cf53, Cond.static yJ9_floorMod_7cf53, Cond.initialized RJ9, Cond.code yJ9_floorMod_7cf53 cJ9_floorMod_7cf53 3 (some .int)]
def wsX0_would : List Cond := .code yX0_would cX0_would 4 (some .int) :: ((wsX0_would_r1 ++ wsX0_would_r2) ++ wsX00 ++ (vx_atS RX0 97 "java/lang/IndexOutOfBoundsException" ["java/lang/RuntimeException", "java/lang/Exception"]).filter goodWord)
def wsX0_comes : List Cond := .code yX0_comes cX0_comes 4 (some .int) :: ([.fieldLink RX0 84 "ToneButterflies" "length" "I", .methodLink RX0 59 yX0_requireRow, .instanceMethod yX0_requireRow, .selects RX0 yX0_requireRow yX0_requireRow, .initialized RX0, .code yX0_requireRow cX0_requireRow 2 none, .classLink RX0 93 "java/lang/IndexOutOfBoundsException", .initialized "java/lang/IndexOutOfBoundsException", .methodLink RX0 132 yX0_isWhenMoved, .instanceMethod yX0_isWhenMoved, .selects RX0 yX0_isWhenMoved yX0_isWhenMoved, .code yX0_isWhenMoved cX0_isWhenMoved 5 (some .boolean), .methodLink RX0 116 yX0_wrapped, .instanceMethod yX0_wrapped, .selects RX0 yX0_wrapped yX0_wrapped, .code yX0_wrapped cX0_wrapped 2 (some .int), .methodLink RX0 68 yX0_read, .instanceMethod yX0_read, .selects RX0 yX0_read yX0_read, .code yX0_read cX0_read 4 (some .int), .fieldLink RX0 9 "ToneButterflies" "numbers" "[I"] ++ wsX00 ++ (vx_atS RX0 97 "java/lang/IndexOutOfBoundsException" ["java/lang/RuntimeException", "java/lang/Exception"]).filter goodWord)
def wsX0_tones_r1 : List Cond := [Cond.methodLink RX0 59 yX0_requireRow, Cond.instanceMethod yX0_requireRow, Cond.selects RX0 yX0_requireRow yX0_requireRow, Cond.initialized RX0, Cond.code yX0_requireRow cX0_requireRow 2 none, Cond.classLink RX0 93 "java/lang/IndexOutOfBoundsException", Cond.initialized "java/lang/IndexOutOfBoundsException", Cond.methodLink RX0 81 yX0_scratchTones, Cond.instanceMethod yX0_scratchTones, Cond.selects RX0 yX0_scratchTones yX0_scratchTones, Cond.code yX0_scratchTones cX0_scratchTones 2 none, Cond.fieldLink RX0 35 "ToneButterflies" "unityRoot" "I", Cond.methodLink RX0 173 yX0_scratchValues, Cond.instanceMethod yX0_scratchValues, Cond.selects RX0 yX0_scratchValues yX0_scratchValues, Cond.code yX0_scratchValues cX0_scratchValues 6 none, Cond.fieldLink RX0 84 "ToneButterflies" "length" "I", Cond.methodLink RX0 119 yX0_valueAt, Cond.instanceMethod yX0_valueAt, Cond.selects RX0 yX0_valueAt yX0_valueAt, Cond.code yX0_valueAt cX0_valueAt 5 (some .int), Cond.methodLink RX0 68 yX0_read, Cond.instanceMethod yX0_read, Cond.selects RX0 yX0_read yX0_read]
def wsX0_tones_r2 : List Cond := [Cond.code yX0_read cX0_read 4 (some .int), Cond.fieldLink RX0 9 "ToneButterflies" "numbers" "[I", Cond.methodLink RX0 46 yX0_reduced, Cond.instanceMethod yX0_reduced, Cond.selects RX0 yX0_reduced yX0_reduced, Cond.code yX0_reduced cX0_reduced 2 (some .int), Cond.fieldLink RX0 43 "ToneButterflies" "prime" "I", Cond.methodLink RX0 168 yJ9_floorMod_7cf53, Cond.static yJ9_floorMod_7cf53, Cond.initialized RJ9, Cond.code yJ9_floorMod_7cf53 cJ9_floorMod_7cf53 3 (some .int), Cond.methodLink RX0 71 yX0_write, Cond.instanceMethod yX0_write, Cond.selects RX0 yX0_write yX0_write, Cond.code yX0_write cX0_write 5 none, Cond.methodLink RX0 132 yX0_isWhenMoved, Cond.instanceMethod yX0_isWhenMoved, Cond.selects RX0 yX0_isWhenMoved yX0_isWhenMoved, Cond.code yX0_isWhenMoved cX0_isWhenMoved 5 (some .boolean), Cond.methodLink RX0 116 yX0_wrapped, Cond.instanceMethod yX0_wrapped, Cond.selects RX0 yX0_wrapped yX0_wrapped, Cond.code yX0_wrapped cX0_wrapped 2 (some .int)]
def wsX0_tones : List Cond := .code yX0_tones cX0_tones 3 (some .boolean) :: ((wsX0_tones_r1 ++ wsX0_tones_r2) ++ wsX00 ++ (vx_atS RX0 97 "java/lang/IndexOutOfBoundsException" ["java/lang/RuntimeException", "java/lang/Exception"]).filter goodWord)
def wsX0_mean : List Cond := .code yX0_mean cX0_mean 2 (some .double) :: ([.fieldLink RX0 84 "ToneButterflies" "length" "I", .methodLink RX0 59 yX0_requireRow, .instanceMethod yX0_requireRow, .selects RX0 yX0_requireRow yX0_requireRow, .initialized RX0, .code yX0_requireRow cX0_requireRow 2 none, .classLink RX0 93 "java/lang/IndexOutOfBoundsException", .initialized "java/lang/IndexOutOfBoundsException", .methodLink RX0 139 yX0_plainSum, .instanceMethod yX0_plainSum, .selects RX0 yX0_plainSum yX0_plainSum, .code yX0_plainSum cX0_plainSum 4 (some .int), .methodLink RX0 68 yX0_read, .instanceMethod yX0_read, .selects RX0 yX0_read yX0_read, .code yX0_read cX0_read 4 (some .int), .fieldLink RX0 9 "ToneButterflies" "numbers" "[I"] ++ wsX00 ++ (vx_atS RX0 97 "java/lang/IndexOutOfBoundsException" ["java/lang/RuntimeException", "java/lang/Exception"]).filter goodWord)
def wsX0_digestRow : List Cond := .code yX0_digestRow cX0_digestRow 7 (some .long) :: ([.fieldLink RX0 84 "ToneButterflies" "length" "I", .constantLong RX0 144 (31), .methodLink RX0 68 yX0_read, .instanceMethod yX0_read, .selects RX0 yX0_read yX0_read, .initialized RX0, .code yX0_read cX0_read 4 (some .int), .fieldLink RX0 9 "ToneButterflies" "numbers" "[I"] ++ wsX00)
def wsX0_digest_r1 : List Cond := [Cond.constantLong RX0 142 (1777), Cond.constantLong RX0 144 (31), Cond.methodLink RX0 129 yX0_counted, Cond.instanceMethod yX0_counted, Cond.selects RX0 yX0_counted yX0_counted, Cond.initialized RX0, Cond.code yX0_counted cX0_counted 2 (some .int), Cond.fieldLink RX0 84 "ToneButterflies" "length" "I", Cond.fieldLink RX0 43 "ToneButterflies" "prime" "I", Cond.fieldLink RX0 35 "ToneButterflies" "unityRoot" "I", Cond.fieldLink RX0 162 "ToneButterflies" "unityRootInverse" "I", Cond.fieldLink RX0 165 "ToneButterflies" "lengthInverse" "I", Cond.fieldLink RX0 90 "ToneButterflies" "bits" "I", Cond.methodLink RX0 146 yX0_digestRow, Cond.instanceMethod yX0_digestRow, Cond.selects RX0 yX0_digestRow yX0_digestRow, Cond.code yX0_digestRow cX0_digestRow 7 (some .long), Cond.methodLink RX0 68 yX0_read, Cond.instanceMethod yX0_read, Cond.selects RX0 yX0_read yX0_read, Cond.code yX0_read cX0_read 4 (some .int), Cond.fieldLink RX0 9 "ToneButterflies" "numbers" "[I", Cond.methodLink RX0 124 yX0_told, Cond.instanceMethod yX0_told]
def wsX0_digest_r2 : List Cond := [Cond.selects RX0 yX0_told yX0_told, Cond.code yX0_told cX0_told 3 (some .int), Cond.methodLink RX0 139 yX0_plainSum, Cond.instanceMethod yX0_plainSum, Cond.selects RX0 yX0_plainSum yX0_plainSum, Cond.code yX0_plainSum cX0_plainSum 4 (some .int), Cond.methodLink RX0 46 yX0_reduced, Cond.instanceMethod yX0_reduced, Cond.selects RX0 yX0_reduced yX0_reduced, Cond.code yX0_reduced cX0_reduced 2 (some .int), Cond.methodLink RX0 168 yJ9_floorMod_7cf53, Cond.static yJ9_floorMod_7cf53, Cond.initialized RJ9, Cond.code yJ9_floorMod_7cf53 cJ9_floorMod_7cf53 3 (some .int), Cond.methodLink RX0 111 yX0_nonZeros, Cond.instanceMethod yX0_nonZeros, Cond.selects RX0 yX0_nonZeros yX0_nonZeros, Cond.code yX0_nonZeros cX0_nonZeros 4 (some .int), Cond.methodLink RX0 176 yX0_lastNonZero, Cond.instanceMethod yX0_lastNonZero, Cond.selects RX0 yX0_lastNonZero yX0_lastNonZero, Cond.code yX0_lastNonZero cX0_lastNonZero 3 (some .int), Cond.methodLink RX0 179 yX0_period, Cond.instanceMethod yX0_period]
def wsX0_digest_r3 : List Cond := [Cond.selects RX0 yX0_period yX0_period, Cond.code yX0_period cX0_period 3 (some .int), Cond.methodLink RX0 132 yX0_isWhenMoved, Cond.instanceMethod yX0_isWhenMoved, Cond.selects RX0 yX0_isWhenMoved yX0_isWhenMoved, Cond.code yX0_isWhenMoved cX0_isWhenMoved 5 (some .boolean), Cond.methodLink RX0 116 yX0_wrapped, Cond.instanceMethod yX0_wrapped, Cond.selects RX0 yX0_wrapped yX0_wrapped, Cond.code yX0_wrapped cX0_wrapped 2 (some .int), Cond.methodLink RX0 182 yX0_greatestNumber, Cond.instanceMethod yX0_greatestNumber, Cond.selects RX0 yX0_greatestNumber yX0_greatestNumber, Cond.code yX0_greatestNumber cX0_greatestNumber 4 (some .int), Cond.methodLink RX0 185 Lib.Math.max.name, Cond.static Lib.Math.max.name, Cond.initialized "java/lang/Math", Cond.code Lib.Math.max.name Lib.Math.max.code 2 (some .int), Cond.methodLink RX0 81 yX0_scratchTones, Cond.instanceMethod yX0_scratchTones, Cond.selects RX0 yX0_scratchTones yX0_scratchTones, Cond.code yX0_scratchTones cX0_scratchTones 2 none, Cond.methodLink RX0 173 yX0_scratchValues, Cond.instanceMethod yX0_scratchValues]
def wsX0_digest_r4 : List Cond := [Cond.selects RX0 yX0_scratchValues yX0_scratchValues, Cond.code yX0_scratchValues cX0_scratchValues 6 none, Cond.methodLink RX0 119 yX0_valueAt, Cond.instanceMethod yX0_valueAt, Cond.selects RX0 yX0_valueAt yX0_valueAt, Cond.code yX0_valueAt cX0_valueAt 5 (some .int), Cond.methodLink RX0 71 yX0_write, Cond.instanceMethod yX0_write, Cond.selects RX0 yX0_write yX0_write, Cond.code yX0_write cX0_write 5 none]
def wsX0_digest : List Cond := .code yX0_digest cX0_digest 5 (some .long) :: ((wsX0_digest_r1 ++ (wsX0_digest_r2 ++ (wsX0_digest_r3 ++ wsX0_digest_r4))) ++ wsX00)
def wsX1_init : List Cond := .code yX1_init cX1_init 1 none :: ([.methodLink RX1 1 objectInit, .instanceMethod objectInit, .code objectInit ⟨#[0xb1]⟩ 1 none, .fieldLink RX1 7 "ToneButterfliesLaw$Sim" "n" "I", .fieldLink RX1 13 "ToneButterfliesLaw$Sim" "p" "I", .fieldLink RX1 16 "ToneButterfliesLaw$Sim" "w" "I", .classLink RX1 19 "[[I", .arrayClass .int, .fieldLink RX1 21 "ToneButterfliesLaw$Sim" "rows" "[[I"] ++ wsX10)
def wsX1_power : List Cond := .code yX1_power cX1_power 5 (some .int) :: ([.fieldLink RX1 13 "ToneButterfliesLaw$Sim" "p" "I"] ++ wsX10)
def wsX1_order : List Cond := .code yX1_order cX1_order 4 (some .int) :: ([.fieldLink RX1 13 "ToneButterfliesLaw$Sim" "p" "I"] ++ wsX10)
def wsX1_inverse : List Cond := .code yX1_inverse cX1_inverse 3 (some .int) :: ([.fieldLink RX1 13 "ToneButterfliesLaw$Sim" "p" "I"] ++ wsX10)
def wsX1_ring : List Cond := .code yX1_ring cX1_ring 3 (some .int) :: ([.fieldLink RX1 7 "ToneButterfliesLaw$Sim" "n" "I", .fieldLink RX1 13 "ToneButterfliesLaw$Sim" "p" "I", .fieldLink RX1 16 "ToneButterfliesLaw$Sim" "w" "I", .classLink RX1 19 "[[I", .arrayClass .int, .fieldLink RX1 21 "ToneButterfliesLaw$Sim" "rows" "[[I", .methodLink RX1 24 yX1_order, .instanceMethod yX1_order, .selects RX1 yX1_order yX1_order, .initialized RX1, .code yX1_order cX1_order 4 (some .int)] ++ wsX10)
def wsX1_tones : List Cond := .code yX1_tones cX1_tones 5 (some (.array .int)) :: ([.fieldLink RX1 7 "ToneButterfliesLaw$Sim" "n" "I", .arrayClass .int, .fieldLink RX1 16 "ToneButterfliesLaw$Sim" "w" "I", .fieldLink RX1 13 "ToneButterfliesLaw$Sim" "p" "I", .methodLink RX1 28 yX1_power, .instanceMethod yX1_power, .selects RX1 yX1_power yX1_power, .initialized RX1, .code yX1_power cX1_power 5 (some .int)] ++ wsX10)
def wsX1_back : List Cond := .code yX1_back cX1_back 5 (some (.array .int)) :: ([.fieldLink RX1 7 "ToneButterfliesLaw$Sim" "n" "I", .arrayClass .int, .fieldLink RX1 16 "ToneButterfliesLaw$Sim" "w" "I", .fieldLink RX1 13 "ToneButterfliesLaw$Sim" "p" "I", .methodLink RX1 28 yX1_power, .instanceMethod yX1_power, .selects RX1 yX1_power yX1_power, .initialized RX1, .code yX1_power cX1_power 5 (some .int), .methodLink RX1 32 yX1_inverse, .instanceMethod yX1_inverse, .selects RX1 yX1_inverse yX1_inverse, .code yX1_inverse cX1_inverse 3 (some .int)] ++ wsX10)
def wsX1_mirrored : List Cond := .code yX1_mirrored cX1_mirrored 7 (some (.array .int)) :: ([.fieldLink RX1 7 "ToneButterfliesLaw$Sim" "n" "I", .arrayClass .int] ++ wsX10)
def wsX1_staged : List Cond := .code yX1_staged cX1_staged 8 (some (.array .int)) :: ([.fieldLink RX1 7 "ToneButterfliesLaw$Sim" "n" "I", .arrayClass .int, .fieldLink RX1 16 "ToneButterfliesLaw$Sim" "w" "I", .fieldLink RX1 13 "ToneButterfliesLaw$Sim" "p" "I", .methodLink RX1 28 yX1_power, .instanceMethod yX1_power, .selects RX1 yX1_power yX1_power, .initialized RX1, .code yX1_power cX1_power 5 (some .int)] ++ wsX10)
def wsX1_folded : List Cond := .code yX1_folded cX1_folded 6 (some (.array .int)) :: ([.fieldLink RX1 7 "ToneButterfliesLaw$Sim" "n" "I", .arrayClass .int, .fieldLink RX1 13 "ToneButterfliesLaw$Sim" "p" "I"] ++ wsX10)
def wsX1_moved : List Cond := .code yX1_moved cX1_moved 5 (some (.array .int)) :: ([.fieldLink RX1 7 "ToneButterfliesLaw$Sim" "n" "I", .arrayClass .int] ++ wsX10)
def wsX1_others : List Cond := .code yX1_others cX1_others 6 (some .int) :: ([])
def wsX1_unlike : List Cond := .code yX1_unlike cX1_unlike 4 (some .int) :: ([])
def wsX1_about : List Cond := .code yX1_about cX1_about 6 (some (.array .int)) :: ([.fieldLink RX1 7 "ToneButterfliesLaw$Sim" "n" "I", .methodLink RX1 35 Lib.Math.max.name, .static Lib.Math.max.name, .initialized "java/lang/Math", .code Lib.Math.max.name Lib.Math.max.code 2 (some .int), .arrayClass .int, .fieldLink RX1 13 "ToneButterfliesLaw$Sim" "p" "I", .methodLink RX1 40 yX1_moved, .instanceMethod yX1_moved, .selects RX1 yX1_moved yX1_moved, .initialized RX1, .code yX1_moved cX1_moved 5 (some (.array .int)), .methodLink RX1 44 yX1_unlike, .static yX1_unlike, .code yX1_unlike cX1_unlike 4 (some .int), .methodLink RX1 48 yX1_others, .static yX1_others, .code yX1_others cX1_others 6 (some .int)] ++ wsX10)
def wsX1_isSame_r1 : List Cond := [Cond.fieldLink RX1 7 "ToneButterfliesLaw$Sim" "n" "I", Cond.arrayClass .int, Cond.fieldLink RX1 13 "ToneButterfliesLaw$Sim" "p" "I", Cond.fieldLink RX1 16 "ToneButterfliesLaw$Sim" "w" "I", Cond.fieldLink RX1 21 "ToneButterfliesLaw$Sim" "rows" "[[I", Cond.methodLink RX1 32 yX1_inverse, Cond.instanceMethod yX1_inverse, Cond.selects RX1 yX1_inverse yX1_inverse, Cond.initialized RX1, Cond.code yX1_inverse cX1_inverse 3 (some .int), Cond.methodLink RX1 52 yX0_count, Cond.instanceMethod yX0_count, Cond.selects RX0 yX0_count yX0_count, Cond.initialized RX0, Cond.code yX0_count cX0_count 2 (some .int), Cond.classLink RX0 93 "java/lang/IndexOutOfBoundsException", Cond.initialized "java/lang/IndexOutOfBoundsException", Cond.methodLink RX0 129 yX0_counted, Cond.instanceMethod yX0_counted, Cond.selects RX0 yX0_counted yX0_counted, Cond.code yX0_counted cX0_counted 2 (some .int), Cond.fieldLink RX0 84 "ToneButterflies" "length" "I", Cond.fieldLink RX0 43 "ToneButterflies" "prime" "I", Cond.fieldLink RX0 35 "ToneButterflies" "unityRoot" "I"]
def wsX1_isSame_r2 : List Cond := [Cond.fieldLink RX0 162 "ToneButterflies" "unityRootInverse" "I", Cond.fieldLink RX0 165 "ToneButterflies" "lengthInverse" "I", Cond.fieldLink RX0 90 "ToneButterflies" "bits" "I", Cond.methodLink RX1 57 yX0_at, Cond.instanceMethod yX0_at, Cond.selects RX0 yX0_at yX0_at, Cond.code yX0_at cX0_at 3 (some .int), Cond.methodLink RX0 59 yX0_requireRow, Cond.instanceMethod yX0_requireRow, Cond.selects RX0 yX0_requireRow yX0_requireRow, Cond.code yX0_requireRow cX0_requireRow 2 none, Cond.methodLink RX0 62 yX0_requirePlace, Cond.instanceMethod yX0_requirePlace, Cond.selects RX0 yX0_requirePlace yX0_requirePlace, Cond.code yX0_requirePlace cX0_requirePlace 2 none, Cond.methodLink RX0 68 yX0_read, Cond.instanceMethod yX0_read, Cond.selects RX0 yX0_read yX0_read, Cond.code yX0_read cX0_read 4 (some .int), Cond.fieldLink RX0 9 "ToneButterflies" "numbers" "[I", Cond.methodLink RX1 60 yX1_about, Cond.instanceMethod yX1_about, Cond.selects RX1 yX1_about yX1_about, Cond.code yX1_about cX1_about 6 (some (.array .int))]
def wsX1_isSame_r3 : List Cond := [Cond.methodLink RX1 35 Lib.Math.max.name, Cond.static Lib.Math.max.name, Cond.initialized "java/lang/Math", Cond.code Lib.Math.max.name Lib.Math.max.code 2 (some .int), Cond.methodLink RX1 40 yX1_moved, Cond.instanceMethod yX1_moved, Cond.selects RX1 yX1_moved yX1_moved, Cond.code yX1_moved cX1_moved 5 (some (.array .int)), Cond.methodLink RX1 44 yX1_unlike, Cond.static yX1_unlike, Cond.code yX1_unlike cX1_unlike 4 (some .int), Cond.methodLink RX1 48 yX1_others, Cond.static yX1_others, Cond.code yX1_others cX1_others 6 (some .int), Cond.methodLink RX1 64 yX0_about, Cond.instanceMethod yX0_about, Cond.selects RX0 yX0_about yX0_about, Cond.code yX0_about cX0_about 3 (some .int), Cond.methodLink RX0 124 yX0_told, Cond.instanceMethod yX0_told, Cond.selects RX0 yX0_told yX0_told, Cond.code yX0_told cX0_told 3 (some .int), Cond.methodLink RX0 139 yX0_plainSum, Cond.instanceMethod yX0_plainSum]
def wsX1_isSame_r4 : List Cond := [Cond.selects RX0 yX0_plainSum yX0_plainSum, Cond.code yX0_plainSum cX0_plainSum 4 (some .int), Cond.methodLink RX0 46 yX0_reduced, Cond.instanceMethod yX0_reduced, Cond.selects RX0 yX0_reduced yX0_reduced, Cond.code yX0_reduced cX0_reduced 2 (some .int), Cond.methodLink RX0 168 yJ9_floorMod_7cf53, Cond.static yJ9_floorMod_7cf53, Cond.initialized RJ9, Cond.code yJ9_floorMod_7cf53 cJ9_floorMod_7cf53 3 (some .int), Cond.methodLink RX0 111 yX0_nonZeros, Cond.instanceMethod yX0_nonZeros, Cond.selects RX0 yX0_nonZeros yX0_nonZeros, Cond.code yX0_nonZeros cX0_nonZeros 4 (some .int), Cond.methodLink RX0 176 yX0_lastNonZero, Cond.instanceMethod yX0_lastNonZero, Cond.selects RX0 yX0_lastNonZero yX0_lastNonZero, Cond.code yX0_lastNonZero cX0_lastNonZero 3 (some .int), Cond.methodLink RX0 179 yX0_period, Cond.instanceMethod yX0_period, Cond.selects RX0 yX0_period yX0_period, Cond.code yX0_period cX0_period 3 (some .int), Cond.methodLink RX0 132 yX0_isWhenMoved, Cond.instanceMethod yX0_isWhenMoved]
def wsX1_isSame_r5 : List Cond := [Cond.selects RX0 yX0_isWhenMoved yX0_isWhenMoved, Cond.code yX0_isWhenMoved cX0_isWhenMoved 5 (some .boolean), Cond.methodLink RX0 116 yX0_wrapped, Cond.instanceMethod yX0_wrapped, Cond.selects RX0 yX0_wrapped yX0_wrapped, Cond.code yX0_wrapped cX0_wrapped 2 (some .int), Cond.methodLink RX0 182 yX0_greatestNumber, Cond.instanceMethod yX0_greatestNumber, Cond.selects RX0 yX0_greatestNumber yX0_greatestNumber, Cond.code yX0_greatestNumber cX0_greatestNumber 4 (some .int), Cond.methodLink RX0 185 Lib.Math.max.name, Cond.methodLink RX1 66 yX0_mean, Cond.instanceMethod yX0_mean, Cond.selects RX0 yX0_mean yX0_mean, Cond.code yX0_mean cX0_mean 2 (some .double)]
def wsX1_isSame : List Cond := .code yX1_isSame cX1_isSame 7 (some .boolean) :: ((wsX1_isSame_r1 ++ (wsX1_isSame_r2 ++ (wsX1_isSame_r3 ++ (wsX1_isSame_r4 ++ wsX1_isSame_r5)))) ++ wsX10 ++ wsX00 ++ (vx_atS RX0 97 "java/lang/IndexOutOfBoundsException" ["java/lang/RuntimeException", "java/lang/Exception"]).filter goodWord)
def wsJ9_max_7cf53 : List Cond := .code yJ9_max_7cf53 cJ9_max_7cf53 2 (some .int) :: ([])
def wsL_below : List Cond := .code yL_below cL_below 2 (some .int) :: ([.constant RL 7 (2147483647)])
def wsL_cell : List Cond := .code yL_cell cL_cell 2 (some .int) :: ([.constant RL 8 (790386105)])
def wsL_act_r1 : List Cond := [Cond.fieldLink RL 15 "ToneButterfliesLaw$Sim" "n" "I", Cond.fieldLink RL 21 "ToneButterfliesLaw" "RINGS" "[I", Cond.fieldLink RL 31 "ToneButterfliesLaw$Sim" "rows" "[[I", Cond.methodLink RL 39 ⟨"[I", "clone", "()Ljava/lang/Object;"⟩, Cond.sameMethod "[I" "java/lang/Object" "clone" "()Ljava/lang/Object;", Cond.native ⟨"java/lang/Object", "clone", "()Ljava/lang/Object;"⟩, Cond.instanceMethod ⟨"java/lang/Object", "clone", "()Ljava/lang/Object;"⟩, Cond.selects "[I" ⟨"[I", "clone", "()Ljava/lang/Object;"⟩ ⟨"java/lang/Object", "clone", "()Ljava/lang/Object;"⟩, Cond.classLink RL 40 "[I", Cond.arrayClass .int, Cond.fieldLink RL 79 "ToneButterfliesLaw$Sim" "p" "I", Cond.methodLink RL 9 yL_below, Cond.static yL_below, Cond.initialized RL, Cond.code yL_below cL_below 2 (some .int), Cond.constant RL 7 (2147483647), Cond.methodLink RL 25 yX0_ring, Cond.instanceMethod yX0_ring, Cond.selects RX0 yX0_ring yX0_ring, Cond.initialized RX0, Cond.code yX0_ring cX0_ring 3 (some .int), Cond.classLink RX0 28 "java/lang/IllegalArgumentException", Cond.initialized "java/lang/IllegalArgumentException", Cond.fieldLink RX0 35 "ToneButterflies" "unityRoot" "I"]
def wsL_act_r2 : List Cond := [Cond.methodLink RX0 17 yX0_isLength, Cond.static yX0_isLength, Cond.code yX0_isLength cX0_isLength 1 (some .boolean), Cond.methodLink RX0 21 yX0_isPrimeOfRing, Cond.static yX0_isPrimeOfRing, Cond.code yX0_isPrimeOfRing cX0_isPrimeOfRing 2 (some .boolean), Cond.methodLink RX0 24 yX0_divides, Cond.static yX0_divides, Cond.code yX0_divides cX0_divides 2 (some .boolean), Cond.methodLink RX0 13 yX0_takeRing, Cond.instanceMethod yX0_takeRing, Cond.selects RX0 yX0_takeRing yX0_takeRing, Cond.code yX0_takeRing cX0_takeRing 4 none, Cond.fieldLink RX0 84 "ToneButterflies" "length" "I", Cond.fieldLink RX0 43 "ToneButterflies" "prime" "I", Cond.fieldLink RX0 90 "ToneButterflies" "bits" "I", Cond.fieldLink RX0 162 "ToneButterflies" "unityRootInverse" "I", Cond.fieldLink RX0 165 "ToneButterflies" "lengthInverse" "I", Cond.fieldLink RX0 9 "ToneButterflies" "numbers" "[I", Cond.methodLink RX0 158 yX0_smallestRoot, Cond.instanceMethod yX0_smallestRoot, Cond.selects RX0 yX0_smallestRoot yX0_smallestRoot, Cond.code yX0_smallestRoot cX0_smallestRoot 2 (some .int), Cond.methodLink RX0 55 yX0_powerOf]
def wsL_act_r3 : List Cond := [Cond.instanceMethod yX0_powerOf, Cond.selects RX0 yX0_powerOf yX0_powerOf, Cond.code yX0_powerOf cX0_powerOf 6 (some .int), Cond.methodLink RX0 46 yX0_reduced, Cond.instanceMethod yX0_reduced, Cond.selects RX0 yX0_reduced yX0_reduced, Cond.code yX0_reduced cX0_reduced 2 (some .int), Cond.methodLink RX0 168 yJ9_floorMod_7cf53, Cond.static yJ9_floorMod_7cf53, Cond.initialized RJ9, Cond.code yJ9_floorMod_7cf53 cJ9_floorMod_7cf53 3 (some .int), Cond.methodLink RX0 50 yX0_inverseOf, Cond.instanceMethod yX0_inverseOf, Cond.selects RX0 yX0_inverseOf yX0_inverseOf, Cond.code yX0_inverseOf cX0_inverseOf 2 (some .int), Cond.methodLink RL 30 yX1_ring, Cond.instanceMethod yX1_ring, Cond.selects RX1 yX1_ring yX1_ring, Cond.initialized RX1, Cond.code yX1_ring cX1_ring 3 (some .int), Cond.fieldLink RX1 7 "ToneButterfliesLaw$Sim" "n" "I", Cond.fieldLink RX1 13 "ToneButterfliesLaw$Sim" "p" "I", Cond.fieldLink RX1 16 "ToneButterfliesLaw$Sim" "w" "I", Cond.classLink RX1 19 "[[I"]
def wsL_act_r4 : List Cond := [Cond.fieldLink RX1 21 "ToneButterfliesLaw$Sim" "rows" "[[I", Cond.methodLink RX1 24 yX1_order, Cond.instanceMethod yX1_order, Cond.selects RX1 yX1_order yX1_order, Cond.code yX1_order cX1_order 4 (some .int), Cond.methodLink RL 35 yX1_unlike, Cond.static yX1_unlike, Cond.code yX1_unlike cX1_unlike 4 (some .int), Cond.methodLink RL 44 yX0_copy, Cond.instanceMethod yX0_copy, Cond.selects RX0 yX0_copy yX0_copy, Cond.code yX0_copy cX0_copy 3 (some .int), Cond.methodLink RX0 59 yX0_requireRow, Cond.instanceMethod yX0_requireRow, Cond.selects RX0 yX0_requireRow yX0_requireRow, Cond.code yX0_requireRow cX0_requireRow 2 none, Cond.classLink RX0 93 "java/lang/IndexOutOfBoundsException", Cond.initialized "java/lang/IndexOutOfBoundsException", Cond.methodLink RX0 75 yX0_copyRow, Cond.instanceMethod yX0_copyRow, Cond.selects RX0 yX0_copyRow yX0_copyRow, Cond.code yX0_copyRow cX0_copyRow 6 (some .int), Cond.methodLink RX0 68 yX0_read, Cond.instanceMethod yX0_read]
def wsL_act_r5 : List Cond := [Cond.selects RX0 yX0_read yX0_read, Cond.code yX0_read cX0_read 4 (some .int), Cond.methodLink RX0 71 yX0_write, Cond.instanceMethod yX0_write, Cond.selects RX0 yX0_write yX0_write, Cond.code yX0_write cX0_write 5 none, Cond.methodLink RL 47 yX1_back, Cond.instanceMethod yX1_back, Cond.selects RX1 yX1_back yX1_back, Cond.code yX1_back cX1_back 5 (some (.array .int)), Cond.methodLink RX1 28 yX1_power, Cond.instanceMethod yX1_power, Cond.selects RX1 yX1_power yX1_power, Cond.code yX1_power cX1_power 5 (some .int), Cond.methodLink RX1 32 yX1_inverse, Cond.instanceMethod yX1_inverse, Cond.selects RX1 yX1_inverse yX1_inverse, Cond.code yX1_inverse cX1_inverse 3 (some .int), Cond.methodLink RL 51 yX1_tones, Cond.instanceMethod yX1_tones, Cond.selects RX1 yX1_tones yX1_tones, Cond.code yX1_tones cX1_tones 5 (some (.array .int)), Cond.methodLink RL 54 yX0_turn, Cond.instanceMethod yX0_turn]
def wsL_act_r6 : List Cond := [Cond.selects RX0 yX0_turn yX0_turn, Cond.code yX0_turn cX0_turn 3 (some .int), Cond.methodLink RX0 78 yX0_scratchTurnedBack, Cond.instanceMethod yX0_scratchTurnedBack, Cond.selects RX0 yX0_scratchTurnedBack yX0_scratchTurnedBack, Cond.code yX0_scratchTurnedBack cX0_scratchTurnedBack 2 none, Cond.methodLink RX0 173 yX0_scratchValues, Cond.instanceMethod yX0_scratchValues, Cond.selects RX0 yX0_scratchValues yX0_scratchValues, Cond.code yX0_scratchValues cX0_scratchValues 6 none, Cond.methodLink RX0 119 yX0_valueAt, Cond.instanceMethod yX0_valueAt, Cond.selects RX0 yX0_valueAt yX0_valueAt, Cond.code yX0_valueAt cX0_valueAt 5 (some .int), Cond.methodLink RX0 81 yX0_scratchTones, Cond.instanceMethod yX0_scratchTones, Cond.selects RX0 yX0_scratchTones yX0_scratchTones, Cond.code yX0_scratchTones cX0_scratchTones 2 none, Cond.methodLink RL 58 yX1_mirrored, Cond.instanceMethod yX1_mirrored, Cond.selects RX1 yX1_mirrored yX1_mirrored, Cond.code yX1_mirrored cX1_mirrored 7 (some (.array .int)), Cond.methodLink RL 61 yX0_mirror, Cond.instanceMethod yX0_mirror]
def wsL_act_r7 : List Cond := [Cond.selects RX0 yX0_mirror yX0_mirror, Cond.code yX0_mirror cX0_mirror 3 (some .int), Cond.methodLink RX0 87 yX0_mirrored, Cond.instanceMethod yX0_mirrored, Cond.selects RX0 yX0_mirrored yX0_mirrored, Cond.code yX0_mirrored cX0_mirrored 4 (some .int), Cond.methodLink RL 65 yX1_staged, Cond.instanceMethod yX1_staged, Cond.selects RX1 yX1_staged yX1_staged, Cond.code yX1_staged cX1_staged 8 (some (.array .int)), Cond.methodLink RL 69 yX0_stage, Cond.instanceMethod yX0_stage, Cond.selects RX0 yX0_stage yX0_stage, Cond.code yX0_stage cX0_stage 7 (some .int), Cond.methodLink RX0 98 yX0_butterfly, Cond.instanceMethod yX0_butterfly, Cond.selects RX0 yX0_butterfly yX0_butterfly, Cond.code yX0_butterfly cX0_butterfly 7 none, Cond.methodLink RL 72 yX1_folded, Cond.instanceMethod yX1_folded, Cond.selects RX1 yX1_folded yX1_folded, Cond.code yX1_folded cX1_folded 6 (some (.array .int)), Cond.methodLink RL 76 yX0_fold, Cond.instanceMethod yX0_fold]
def wsL_act_r8 : List Cond := [Cond.selects RX0 yX0_fold yX0_fold, Cond.code yX0_fold cX0_fold 4 (some .int), Cond.methodLink RX0 102 yX0_foldedAt, Cond.instanceMethod yX0_foldedAt, Cond.selects RX0 yX0_foldedAt yX0_foldedAt, Cond.code yX0_foldedAt cX0_foldedAt 6 (some .int), Cond.methodLink RX0 116 yX0_wrapped, Cond.instanceMethod yX0_wrapped, Cond.selects RX0 yX0_wrapped yX0_wrapped, Cond.code yX0_wrapped cX0_wrapped 2 (some .int), Cond.methodLink RL 82 yX0_join, Cond.instanceMethod yX0_join, Cond.selects RX0 yX0_join yX0_join, Cond.code yX0_join cX0_join 5 (some .int), Cond.methodLink RX0 108 yX0_joined, Cond.instanceMethod yX0_joined, Cond.selects RX0 yX0_joined yX0_joined, Cond.code yX0_joined cX0_joined 4 (some .int), Cond.methodLink RX0 111 yX0_nonZeros, Cond.instanceMethod yX0_nonZeros, Cond.selects RX0 yX0_nonZeros yX0_nonZeros, Cond.code yX0_nonZeros cX0_nonZeros 4 (some .int), Cond.methodLink RL 86 yX1_others, Cond.static yX1_others]
def wsL_act_r9 : List Cond := [Cond.code yX1_others cX1_others 6 (some .int), Cond.methodLink RL 90 yX1_moved, Cond.instanceMethod yX1_moved, Cond.selects RX1 yX1_moved yX1_moved, Cond.code yX1_moved cX1_moved 5 (some (.array .int)), Cond.methodLink RL 93 yX0_move, Cond.instanceMethod yX0_move, Cond.selects RX0 yX0_move yX0_move, Cond.code yX0_move cX0_move 4 (some .int), Cond.methodLink RL 96 yX0_times, Cond.instanceMethod yX0_times, Cond.selects RX0 yX0_times yX0_times, Cond.code yX0_times cX0_times 4 (some .int), Cond.methodLink RX0 65 yX0_requireNumber, Cond.instanceMethod yX0_requireNumber, Cond.selects RX0 yX0_requireNumber yX0_requireNumber, Cond.code yX0_requireNumber cX0_requireNumber 2 none, Cond.methodLink RL 99 yX0_set, Cond.instanceMethod yX0_set, Cond.selects RX0 yX0_set yX0_set, Cond.code yX0_set cX0_set 5 (some .int), Cond.methodLink RX0 62 yX0_requirePlace, Cond.instanceMethod yX0_requirePlace, Cond.selects RX0 yX0_requirePlace yX0_requirePlace]
def wsL_act_r10 : List Cond := [Cond.code yX0_requirePlace cX0_requirePlace 2 none]
def wsL_act : List Cond := .code yL_act cL_act 11 (some .boolean) :: ((wsL_act_r1 ++ (wsL_act_r2 ++ (wsL_act_r3 ++ (wsL_act_r4 ++ (wsL_act_r5 ++ (wsL_act_r6 ++ (wsL_act_r7 ++ (wsL_act_r8 ++ (wsL_act_r9 ++ wsL_act_r10))))))))) ++ wsX10 ++ wsX00 ++ (vx_atS RX0 32 "java/lang/IllegalArgumentException" ["java/lang/RuntimeException", "java/lang/Exception"]).filter goodWord ++ (vx_atS RX0 97 "java/lang/IndexOutOfBoundsException" ["java/lang/RuntimeException", "java/lang/Exception"]).filter goodWord)
def wsL_build_r1 : List Cond := [Cond.classLink RL 16 RX1, Cond.instantiable RX1 4, Cond.initialized RX1, Cond.fieldLink RL 21 "ToneButterfliesLaw" "RINGS" "[I", Cond.fieldLink RL 15 "ToneButterfliesLaw$Sim" "n" "I", Cond.fieldLink RL 79 "ToneButterfliesLaw$Sim" "p" "I", Cond.fieldLink RL 31 "ToneButterfliesLaw$Sim" "rows" "[[I", Cond.instanceMethod yX1_init, Cond.code yX1_init cX1_init 1 none, Cond.methodLink RX1 1 objectInit, Cond.instanceMethod objectInit, Cond.code objectInit ⟨#[0xb1]⟩ 1 none, Cond.fieldLink RX1 7 "ToneButterfliesLaw$Sim" "n" "I", Cond.fieldLink RX1 13 "ToneButterfliesLaw$Sim" "p" "I", Cond.fieldLink RX1 16 "ToneButterfliesLaw$Sim" "w" "I", Cond.classLink RX1 19 "[[I", Cond.arrayClass .int, Cond.fieldLink RX1 21 "ToneButterfliesLaw$Sim" "rows" "[[I", Cond.methodLink RL 103 yL_cell, Cond.static yL_cell, Cond.initialized RL, Cond.code yL_cell cL_cell 2 (some .int), Cond.constant RL 8 (790386105), Cond.methodLink RL 9 yL_below]
def wsL_build_r2 : List Cond := [Cond.static yL_below, Cond.code yL_below cL_below 2 (some .int), Cond.constant RL 7 (2147483647), Cond.methodLink RL 25 yX0_ring, Cond.instanceMethod yX0_ring, Cond.selects RX0 yX0_ring yX0_ring, Cond.initialized RX0, Cond.code yX0_ring cX0_ring 3 (some .int), Cond.classLink RX0 28 "java/lang/IllegalArgumentException", Cond.initialized "java/lang/IllegalArgumentException", Cond.fieldLink RX0 35 "ToneButterflies" "unityRoot" "I", Cond.methodLink RX0 17 yX0_isLength, Cond.static yX0_isLength, Cond.code yX0_isLength cX0_isLength 1 (some .boolean), Cond.methodLink RX0 21 yX0_isPrimeOfRing, Cond.static yX0_isPrimeOfRing, Cond.code yX0_isPrimeOfRing cX0_isPrimeOfRing 2 (some .boolean), Cond.methodLink RX0 24 yX0_divides, Cond.static yX0_divides, Cond.code yX0_divides cX0_divides 2 (some .boolean), Cond.methodLink RX0 13 yX0_takeRing, Cond.instanceMethod yX0_takeRing, Cond.selects RX0 yX0_takeRing yX0_takeRing, Cond.code yX0_takeRing cX0_takeRing 4 none]
def wsL_build_r3 : List Cond := [Cond.fieldLink RX0 84 "ToneButterflies" "length" "I", Cond.fieldLink RX0 43 "ToneButterflies" "prime" "I", Cond.fieldLink RX0 90 "ToneButterflies" "bits" "I", Cond.fieldLink RX0 162 "ToneButterflies" "unityRootInverse" "I", Cond.fieldLink RX0 165 "ToneButterflies" "lengthInverse" "I", Cond.fieldLink RX0 9 "ToneButterflies" "numbers" "[I", Cond.methodLink RX0 158 yX0_smallestRoot, Cond.instanceMethod yX0_smallestRoot, Cond.selects RX0 yX0_smallestRoot yX0_smallestRoot, Cond.code yX0_smallestRoot cX0_smallestRoot 2 (some .int), Cond.methodLink RX0 55 yX0_powerOf, Cond.instanceMethod yX0_powerOf, Cond.selects RX0 yX0_powerOf yX0_powerOf, Cond.code yX0_powerOf cX0_powerOf 6 (some .int), Cond.methodLink RX0 46 yX0_reduced, Cond.instanceMethod yX0_reduced, Cond.selects RX0 yX0_reduced yX0_reduced, Cond.code yX0_reduced cX0_reduced 2 (some .int), Cond.methodLink RX0 168 yJ9_floorMod_7cf53, Cond.static yJ9_floorMod_7cf53, Cond.initialized RJ9, Cond.code yJ9_floorMod_7cf53 cJ9_floorMod_7cf53 3 (some .int), Cond.methodLink RX0 50 yX0_inverseOf, Cond.instanceMethod yX0_inverseOf]
def wsL_build_r4 : List Cond := [Cond.selects RX0 yX0_inverseOf yX0_inverseOf, Cond.code yX0_inverseOf cX0_inverseOf 2 (some .int), Cond.methodLink RL 30 yX1_ring, Cond.instanceMethod yX1_ring, Cond.selects RX1 yX1_ring yX1_ring, Cond.code yX1_ring cX1_ring 3 (some .int), Cond.methodLink RX1 24 yX1_order, Cond.instanceMethod yX1_order, Cond.selects RX1 yX1_order yX1_order, Cond.code yX1_order cX1_order 4 (some .int), Cond.methodLink RL 99 yX0_set, Cond.instanceMethod yX0_set, Cond.selects RX0 yX0_set yX0_set, Cond.code yX0_set cX0_set 5 (some .int), Cond.methodLink RX0 59 yX0_requireRow, Cond.instanceMethod yX0_requireRow, Cond.selects RX0 yX0_requireRow yX0_requireRow, Cond.code yX0_requireRow cX0_requireRow 2 none, Cond.classLink RX0 93 "java/lang/IndexOutOfBoundsException", Cond.initialized "java/lang/IndexOutOfBoundsException", Cond.methodLink RX0 62 yX0_requirePlace, Cond.instanceMethod yX0_requirePlace, Cond.selects RX0 yX0_requirePlace yX0_requirePlace, Cond.code yX0_requirePlace cX0_requirePlace 2 none]
def wsL_build_r5 : List Cond := [Cond.methodLink RX0 65 yX0_requireNumber, Cond.instanceMethod yX0_requireNumber, Cond.selects RX0 yX0_requireNumber yX0_requireNumber, Cond.code yX0_requireNumber cX0_requireNumber 2 none, Cond.methodLink RX0 68 yX0_read, Cond.instanceMethod yX0_read, Cond.selects RX0 yX0_read yX0_read, Cond.code yX0_read cX0_read 4 (some .int), Cond.methodLink RX0 71 yX0_write, Cond.instanceMethod yX0_write, Cond.selects RX0 yX0_write yX0_write, Cond.code yX0_write cX0_write 5 none]
def wsL_build : List Cond := .code yL_build cL_build 9 (some (.object "ToneButterfliesLaw$Sim")) :: ((wsL_build_r1 ++ (wsL_build_r2 ++ (wsL_build_r3 ++ (wsL_build_r4 ++ wsL_build_r5)))) ++ wsX10 ++ wsX00 ++ (vx_atS RX0 32 "java/lang/IllegalArgumentException" ["java/lang/RuntimeException", "java/lang/Exception"]).filter goodWord ++ (vx_atS RX0 97 "java/lang/IndexOutOfBoundsException" ["java/lang/RuntimeException", "java/lang/Exception"]).filter goodWord)
def wsL_law0_r1 : List Cond := [Cond.classLink RL 26 RX0, Cond.instantiable RX0 7, Cond.initialized RX0, Cond.arrayClass .int, Cond.fieldLink RL 31 "ToneButterfliesLaw$Sim" "rows" "[[I", Cond.methodLink RL 39 ⟨"[I", "clone", "()Ljava/lang/Object;"⟩, Cond.sameMethod "[I" "java/lang/Object" "clone" "()Ljava/lang/Object;", Cond.native ⟨"java/lang/Object", "clone", "()Ljava/lang/Object;"⟩, Cond.instanceMethod ⟨"java/lang/Object", "clone", "()Ljava/lang/Object;"⟩, Cond.selects "[I" ⟨"[I", "clone", "()Ljava/lang/Object;"⟩ ⟨"java/lang/Object", "clone", "()Ljava/lang/Object;"⟩, Cond.classLink RL 40 "[I", Cond.methodLink RL 107 yX0_init, Cond.instanceMethod yX0_init, Cond.code yX0_init cX0_init 1 none, Cond.methodLink RX0 3 objectInit, Cond.instanceMethod objectInit, Cond.code objectInit ⟨#[0xb1]⟩ 1 none, Cond.fieldLink RX0 9 "ToneButterflies" "numbers" "[I", Cond.methodLink RX0 13 yX0_takeRing, Cond.instanceMethod yX0_takeRing, Cond.selects RX0 yX0_takeRing yX0_takeRing, Cond.code yX0_takeRing cX0_takeRing 4 none, Cond.fieldLink RX0 84 "ToneButterflies" "length" "I", Cond.fieldLink RX0 43 "ToneButterflies" "prime" "I"]
def wsL_law0_r2 : List Cond := [Cond.fieldLink RX0 90 "ToneButterflies" "bits" "I", Cond.fieldLink RX0 35 "ToneButterflies" "unityRoot" "I", Cond.fieldLink RX0 162 "ToneButterflies" "unityRootInverse" "I", Cond.fieldLink RX0 165 "ToneButterflies" "lengthInverse" "I", Cond.methodLink RX0 158 yX0_smallestRoot, Cond.instanceMethod yX0_smallestRoot, Cond.selects RX0 yX0_smallestRoot yX0_smallestRoot, Cond.code yX0_smallestRoot cX0_smallestRoot 2 (some .int), Cond.methodLink RX0 55 yX0_powerOf, Cond.instanceMethod yX0_powerOf, Cond.selects RX0 yX0_powerOf yX0_powerOf, Cond.code yX0_powerOf cX0_powerOf 6 (some .int), Cond.methodLink RX0 46 yX0_reduced, Cond.instanceMethod yX0_reduced, Cond.selects RX0 yX0_reduced yX0_reduced, Cond.code yX0_reduced cX0_reduced 2 (some .int), Cond.methodLink RX0 168 yJ9_floorMod_7cf53, Cond.static yJ9_floorMod_7cf53, Cond.initialized RJ9, Cond.code yJ9_floorMod_7cf53 cJ9_floorMod_7cf53 3 (some .int), Cond.methodLink RX0 50 yX0_inverseOf, Cond.instanceMethod yX0_inverseOf, Cond.selects RX0 yX0_inverseOf yX0_inverseOf, Cond.code yX0_inverseOf cX0_inverseOf 2 (some .int)]
def wsL_law0_r3 : List Cond := [Cond.methodLink RL 108 yL_build, Cond.static yL_build, Cond.initialized RL, Cond.code yL_build cL_build 9 (some (.object "ToneButterfliesLaw$Sim")), Cond.classLink RL 16 RX1, Cond.instantiable RX1 4, Cond.initialized RX1, Cond.fieldLink RL 21 "ToneButterfliesLaw" "RINGS" "[I", Cond.fieldLink RL 15 "ToneButterfliesLaw$Sim" "n" "I", Cond.fieldLink RL 79 "ToneButterfliesLaw$Sim" "p" "I", Cond.instanceMethod yX1_init, Cond.code yX1_init cX1_init 1 none, Cond.methodLink RX1 1 objectInit, Cond.fieldLink RX1 7 "ToneButterfliesLaw$Sim" "n" "I", Cond.fieldLink RX1 13 "ToneButterfliesLaw$Sim" "p" "I", Cond.fieldLink RX1 16 "ToneButterfliesLaw$Sim" "w" "I", Cond.classLink RX1 19 "[[I", Cond.fieldLink RX1 21 "ToneButterfliesLaw$Sim" "rows" "[[I", Cond.methodLink RL 103 yL_cell, Cond.static yL_cell, Cond.code yL_cell cL_cell 2 (some .int), Cond.constant RL 8 (790386105), Cond.methodLink RL 9 yL_below, Cond.static yL_below]
def wsL_law0_r4 : List Cond := [Cond.code yL_below cL_below 2 (some .int), Cond.constant RL 7 (2147483647), Cond.methodLink RL 25 yX0_ring, Cond.instanceMethod yX0_ring, Cond.selects RX0 yX0_ring yX0_ring, Cond.code yX0_ring cX0_ring 3 (some .int), Cond.classLink RX0 28 "java/lang/IllegalArgumentException", Cond.initialized "java/lang/IllegalArgumentException", Cond.methodLink RX0 17 yX0_isLength, Cond.static yX0_isLength, Cond.code yX0_isLength cX0_isLength 1 (some .boolean), Cond.methodLink RX0 21 yX0_isPrimeOfRing, Cond.static yX0_isPrimeOfRing, Cond.code yX0_isPrimeOfRing cX0_isPrimeOfRing 2 (some .boolean), Cond.methodLink RX0 24 yX0_divides, Cond.static yX0_divides, Cond.code yX0_divides cX0_divides 2 (some .boolean), Cond.methodLink RL 30 yX1_ring, Cond.instanceMethod yX1_ring, Cond.selects RX1 yX1_ring yX1_ring, Cond.code yX1_ring cX1_ring 3 (some .int), Cond.methodLink RX1 24 yX1_order, Cond.instanceMethod yX1_order, Cond.selects RX1 yX1_order yX1_order]
def wsL_law0_r5 : List Cond := [Cond.code yX1_order cX1_order 4 (some .int), Cond.methodLink RL 99 yX0_set, Cond.instanceMethod yX0_set, Cond.selects RX0 yX0_set yX0_set, Cond.code yX0_set cX0_set 5 (some .int), Cond.methodLink RX0 59 yX0_requireRow, Cond.instanceMethod yX0_requireRow, Cond.selects RX0 yX0_requireRow yX0_requireRow, Cond.code yX0_requireRow cX0_requireRow 2 none, Cond.classLink RX0 93 "java/lang/IndexOutOfBoundsException", Cond.initialized "java/lang/IndexOutOfBoundsException", Cond.methodLink RX0 62 yX0_requirePlace, Cond.instanceMethod yX0_requirePlace, Cond.selects RX0 yX0_requirePlace yX0_requirePlace, Cond.code yX0_requirePlace cX0_requirePlace 2 none, Cond.methodLink RX0 65 yX0_requireNumber, Cond.instanceMethod yX0_requireNumber, Cond.selects RX0 yX0_requireNumber yX0_requireNumber, Cond.code yX0_requireNumber cX0_requireNumber 2 none, Cond.methodLink RX0 68 yX0_read, Cond.instanceMethod yX0_read, Cond.selects RX0 yX0_read yX0_read, Cond.code yX0_read cX0_read 4 (some .int), Cond.methodLink RX0 71 yX0_write]
def wsL_law0_r6 : List Cond := [Cond.instanceMethod yX0_write, Cond.selects RX0 yX0_write yX0_write, Cond.code yX0_write cX0_write 5 none, Cond.methodLink RL 112 yL_act, Cond.static yL_act, Cond.code yL_act cL_act 11 (some .boolean), Cond.methodLink RL 35 yX1_unlike, Cond.static yX1_unlike, Cond.code yX1_unlike cX1_unlike 4 (some .int), Cond.methodLink RL 44 yX0_copy, Cond.instanceMethod yX0_copy, Cond.selects RX0 yX0_copy yX0_copy, Cond.code yX0_copy cX0_copy 3 (some .int), Cond.methodLink RX0 75 yX0_copyRow, Cond.instanceMethod yX0_copyRow, Cond.selects RX0 yX0_copyRow yX0_copyRow, Cond.code yX0_copyRow cX0_copyRow 6 (some .int), Cond.methodLink RL 47 yX1_back, Cond.instanceMethod yX1_back, Cond.selects RX1 yX1_back yX1_back, Cond.code yX1_back cX1_back 5 (some (.array .int)), Cond.methodLink RX1 28 yX1_power, Cond.instanceMethod yX1_power, Cond.selects RX1 yX1_power yX1_power]
def wsL_law0_r7 : List Cond := [Cond.code yX1_power cX1_power 5 (some .int), Cond.methodLink RX1 32 yX1_inverse, Cond.instanceMethod yX1_inverse, Cond.selects RX1 yX1_inverse yX1_inverse, Cond.code yX1_inverse cX1_inverse 3 (some .int), Cond.methodLink RL 51 yX1_tones, Cond.instanceMethod yX1_tones, Cond.selects RX1 yX1_tones yX1_tones, Cond.code yX1_tones cX1_tones 5 (some (.array .int)), Cond.methodLink RL 54 yX0_turn, Cond.instanceMethod yX0_turn, Cond.selects RX0 yX0_turn yX0_turn, Cond.code yX0_turn cX0_turn 3 (some .int), Cond.methodLink RX0 78 yX0_scratchTurnedBack, Cond.instanceMethod yX0_scratchTurnedBack, Cond.selects RX0 yX0_scratchTurnedBack yX0_scratchTurnedBack, Cond.code yX0_scratchTurnedBack cX0_scratchTurnedBack 2 none, Cond.methodLink RX0 173 yX0_scratchValues, Cond.instanceMethod yX0_scratchValues, Cond.selects RX0 yX0_scratchValues yX0_scratchValues, Cond.code yX0_scratchValues cX0_scratchValues 6 none, Cond.methodLink RX0 119 yX0_valueAt, Cond.instanceMethod yX0_valueAt, Cond.selects RX0 yX0_valueAt yX0_valueAt]
def wsL_law0_r8 : List Cond := [Cond.code yX0_valueAt cX0_valueAt 5 (some .int), Cond.methodLink RX0 81 yX0_scratchTones, Cond.instanceMethod yX0_scratchTones, Cond.selects RX0 yX0_scratchTones yX0_scratchTones, Cond.code yX0_scratchTones cX0_scratchTones 2 none, Cond.methodLink RL 58 yX1_mirrored, Cond.instanceMethod yX1_mirrored, Cond.selects RX1 yX1_mirrored yX1_mirrored, Cond.code yX1_mirrored cX1_mirrored 7 (some (.array .int)), Cond.methodLink RL 61 yX0_mirror, Cond.instanceMethod yX0_mirror, Cond.selects RX0 yX0_mirror yX0_mirror, Cond.code yX0_mirror cX0_mirror 3 (some .int), Cond.methodLink RX0 87 yX0_mirrored, Cond.instanceMethod yX0_mirrored, Cond.selects RX0 yX0_mirrored yX0_mirrored, Cond.code yX0_mirrored cX0_mirrored 4 (some .int), Cond.methodLink RL 65 yX1_staged, Cond.instanceMethod yX1_staged, Cond.selects RX1 yX1_staged yX1_staged, Cond.code yX1_staged cX1_staged 8 (some (.array .int)), Cond.methodLink RL 69 yX0_stage, Cond.instanceMethod yX0_stage, Cond.selects RX0 yX0_stage yX0_stage]
def wsL_law0_r9 : List Cond := [Cond.code yX0_stage cX0_stage 7 (some .int), Cond.methodLink RX0 98 yX0_butterfly, Cond.instanceMethod yX0_butterfly, Cond.selects RX0 yX0_butterfly yX0_butterfly, Cond.code yX0_butterfly cX0_butterfly 7 none, Cond.methodLink RL 72 yX1_folded, Cond.instanceMethod yX1_folded, Cond.selects RX1 yX1_folded yX1_folded, Cond.code yX1_folded cX1_folded 6 (some (.array .int)), Cond.methodLink RL 76 yX0_fold, Cond.instanceMethod yX0_fold, Cond.selects RX0 yX0_fold yX0_fold, Cond.code yX0_fold cX0_fold 4 (some .int), Cond.methodLink RX0 102 yX0_foldedAt, Cond.instanceMethod yX0_foldedAt, Cond.selects RX0 yX0_foldedAt yX0_foldedAt, Cond.code yX0_foldedAt cX0_foldedAt 6 (some .int), Cond.methodLink RX0 116 yX0_wrapped, Cond.instanceMethod yX0_wrapped, Cond.selects RX0 yX0_wrapped yX0_wrapped, Cond.code yX0_wrapped cX0_wrapped 2 (some .int), Cond.methodLink RL 82 yX0_join, Cond.instanceMethod yX0_join, Cond.selects RX0 yX0_join yX0_join]
def wsL_law0_r10 : List Cond := [Cond.code yX0_join cX0_join 5 (some .int), Cond.methodLink RX0 108 yX0_joined, Cond.instanceMethod yX0_joined, Cond.selects RX0 yX0_joined yX0_joined, Cond.code yX0_joined cX0_joined 4 (some .int), Cond.methodLink RX0 111 yX0_nonZeros, Cond.instanceMethod yX0_nonZeros, Cond.selects RX0 yX0_nonZeros yX0_nonZeros, Cond.code yX0_nonZeros cX0_nonZeros 4 (some .int), Cond.methodLink RL 86 yX1_others, Cond.static yX1_others, Cond.code yX1_others cX1_others 6 (some .int), Cond.methodLink RL 90 yX1_moved, Cond.instanceMethod yX1_moved, Cond.selects RX1 yX1_moved yX1_moved, Cond.code yX1_moved cX1_moved 5 (some (.array .int)), Cond.methodLink RL 93 yX0_move, Cond.instanceMethod yX0_move, Cond.selects RX0 yX0_move yX0_move, Cond.code yX0_move cX0_move 4 (some .int), Cond.methodLink RL 96 yX0_times, Cond.instanceMethod yX0_times, Cond.selects RX0 yX0_times yX0_times, Cond.code yX0_times cX0_times 4 (some .int)]
def wsL_law0_r11 : List Cond := [Cond.methodLink RL 116 yX0_digest, Cond.instanceMethod yX0_digest, Cond.selects RX0 yX0_digest yX0_digest, Cond.code yX0_digest cX0_digest 5 (some .long), Cond.constantLong RX0 142 (1777), Cond.constantLong RX0 144 (31), Cond.methodLink RX0 129 yX0_counted, Cond.instanceMethod yX0_counted, Cond.selects RX0 yX0_counted yX0_counted, Cond.code yX0_counted cX0_counted 2 (some .int), Cond.methodLink RX0 146 yX0_digestRow, Cond.instanceMethod yX0_digestRow, Cond.selects RX0 yX0_digestRow yX0_digestRow, Cond.code yX0_digestRow cX0_digestRow 7 (some .long), Cond.methodLink RX0 124 yX0_told, Cond.instanceMethod yX0_told, Cond.selects RX0 yX0_told yX0_told, Cond.code yX0_told cX0_told 3 (some .int), Cond.methodLink RX0 139 yX0_plainSum, Cond.instanceMethod yX0_plainSum, Cond.selects RX0 yX0_plainSum yX0_plainSum, Cond.code yX0_plainSum cX0_plainSum 4 (some .int), Cond.methodLink RX0 176 yX0_lastNonZero, Cond.instanceMethod yX0_lastNonZero]
def wsL_law0_r12 : List Cond := [Cond.selects RX0 yX0_lastNonZero yX0_lastNonZero, Cond.code yX0_lastNonZero cX0_lastNonZero 3 (some .int), Cond.methodLink RX0 179 yX0_period, Cond.instanceMethod yX0_period, Cond.selects RX0 yX0_period yX0_period, Cond.code yX0_period cX0_period 3 (some .int), Cond.methodLink RX0 132 yX0_isWhenMoved, Cond.instanceMethod yX0_isWhenMoved, Cond.selects RX0 yX0_isWhenMoved yX0_isWhenMoved, Cond.code yX0_isWhenMoved cX0_isWhenMoved 5 (some .boolean), Cond.methodLink RX0 182 yX0_greatestNumber, Cond.instanceMethod yX0_greatestNumber, Cond.selects RX0 yX0_greatestNumber yX0_greatestNumber, Cond.code yX0_greatestNumber cX0_greatestNumber 4 (some .int), Cond.methodLink RX0 185 Lib.Math.max.name, Cond.static Lib.Math.max.name, Cond.initialized "java/lang/Math", Cond.code Lib.Math.max.name Lib.Math.max.code 2 (some .int), Cond.methodLink RL 120 yX0_count, Cond.instanceMethod yX0_count, Cond.selects RX0 yX0_count yX0_count, Cond.code yX0_count cX0_count 2 (some .int), Cond.methodLink RL 123 yX0_order, Cond.instanceMethod yX0_order]
def wsL_law0_r13 : List Cond := [Cond.selects RX0 yX0_order yX0_order, Cond.code yX0_order cX0_order 4 (some .int), Cond.methodLink RX0 39 yX0_requireInvertible, Cond.instanceMethod yX0_requireInvertible, Cond.selects RX0 yX0_requireInvertible yX0_requireInvertible, Cond.code yX0_requireInvertible cX0_requireInvertible 2 none, Cond.methodLink RL 126 yX0_root, Cond.instanceMethod yX0_root, Cond.selects RX0 yX0_root yX0_root, Cond.code yX0_root cX0_root 2 (some .int), Cond.methodLink RL 129 yX0_inverse, Cond.instanceMethod yX0_inverse, Cond.selects RX0 yX0_inverse yX0_inverse, Cond.code yX0_inverse cX0_inverse 2 (some .int), Cond.methodLink RL 132 yX0_at, Cond.instanceMethod yX0_at, Cond.selects RX0 yX0_at yX0_at, Cond.code yX0_at cX0_at 3 (some .int), Cond.methodLink RL 135 yX0_would, Cond.instanceMethod yX0_would, Cond.selects RX0 yX0_would yX0_would, Cond.code yX0_would cX0_would 4 (some .int), Cond.methodLink RL 138 yX0_about, Cond.instanceMethod yX0_about]
def wsL_law0_r14 : List Cond := [Cond.selects RX0 yX0_about yX0_about, Cond.code yX0_about cX0_about 3 (some .int), Cond.methodLink RL 141 yX0_point, Cond.instanceMethod yX0_point, Cond.selects RX0 yX0_point yX0_point, Cond.code yX0_point cX0_point 3 (some .int), Cond.methodLink RL 144 yX0_comes, Cond.instanceMethod yX0_comes, Cond.selects RX0 yX0_comes yX0_comes, Cond.code yX0_comes cX0_comes 4 (some .int), Cond.methodLink RL 147 yX0_tones, Cond.instanceMethod yX0_tones, Cond.selects RX0 yX0_tones yX0_tones, Cond.code yX0_tones cX0_tones 3 (some .boolean), Cond.methodLink RL 150 yX1_isSame, Cond.instanceMethod yX1_isSame, Cond.selects RX1 yX1_isSame yX1_isSame, Cond.code yX1_isSame cX1_isSame 7 (some .boolean), Cond.methodLink RX1 52 yX0_count, Cond.methodLink RX1 57 yX0_at, Cond.methodLink RX1 60 yX1_about, Cond.instanceMethod yX1_about, Cond.selects RX1 yX1_about yX1_about, Cond.code yX1_about cX1_about 6 (some (.array .int))]
def wsL_law0_r15 : List Cond := [Cond.methodLink RX1 35 Lib.Math.max.name, Cond.methodLink RX1 40 yX1_moved, Cond.methodLink RX1 44 yX1_unlike, Cond.methodLink RX1 48 yX1_others, Cond.methodLink RX1 64 yX0_about, Cond.methodLink RX1 66 yX0_mean, Cond.instanceMethod yX0_mean, Cond.selects RX0 yX0_mean yX0_mean, Cond.code yX0_mean cX0_mean 2 (some .double)]
def wsL_law0 : List Cond := (wsL_law0_r1 ++ (wsL_law0_r2 ++ (wsL_law0_r3 ++ (wsL_law0_r4 ++ (wsL_law0_r5 ++ (wsL_law0_r6 ++ (wsL_law0_r7 ++ (wsL_law0_r8 ++ (wsL_law0_r9 ++ (wsL_law0_r10 ++ (wsL_law0_r11 ++ (wsL_law0_r12 ++ (wsL_law0_r13 ++ (wsL_law0_r14 ++ wsL_law0_r15)))))))))))))) ++ wsX00 ++ wsX10 ++ ([] : List Cond)
def wsL_law : List Cond := wsL_law0 ++ (vx_atS RX0 32 "java/lang/IllegalArgumentException" ["java/lang/RuntimeException", "java/lang/Exception"]).filter goodWord ++ (vx_atS RX0 97 "java/lang/IndexOutOfBoundsException" ["java/lang/RuntimeException", "java/lang/Exception"]).filter goodWord
abbrev vwCl : List vw_C := [(RX0, TX0, 7), (RX1, TX1, 4)]
end
section
set_option maxRecDepth 20000 in
theorem ggX0_init_X0_takeRing : GoodIn wsX0_init wsX0_takeRing := goodIn_r _ [10, 11, 12, 13, 14, 15, 16, 5, 17, 18, 19, 9, 20, 21, 22, 23, 24, 25, 26, 27, 28, 29, 30, 31, 32, 33, 34, 35, 36, 37, 38, 39, 40, 41, 42, 43] (by decide +kernel) (by decide +kernel)
set_option maxRecDepth 20000 in
theorem gX0_init_X0_takeRing : GoodIn wsX0_init (wsV RX0 13 RX0 yX0_takeRing wsX0_takeRing) := goodIn_app (goodIn_of _ (by decide +kernel)) ggX0_init_X0_takeRing
theorem dX0_init_0 : decode cX0_init 0 = .ok (.aload_n 0, 1) := by decide +kernel
theorem dX0_init_1 : decode cX0_init 1 = .ok (.invokespecial 3, 3) := by decide +kernel
theorem dX0_init_4 : decode cX0_init 4 = .ok (.aload_n 0, 1) := by decide +kernel
theorem dX0_init_5 : decode cX0_init 5 = .ok (.bipush 80, 2) := by decide +kernel
theorem dX0_init_7 : decode cX0_init 7 = .ok (.newarray .int, 2) := by decide +kernel
theorem dX0_init_9 : decode cX0_init 9 = .ok (.putfield 9, 3) := by decide +kernel
theorem dX0_init_12 : decode cX0_init 12 = .ok (.aload_n 0, 1) := by decide +kernel
theorem dX0_init_13 : decode cX0_init 13 = .ok (.bipush 8, 2) := by decide +kernel
theorem dX0_init_15 : decode cX0_init 15 = .ok (.bipush 17, 2) := by decide +kernel
theorem dX0_init_17 : decode cX0_init 17 = .ok (.invokevirtual 13, 3) := by decide +kernel
theorem dX0_init_20 : decode cX0_init 20 = .ok (.return_, 1) := by decide +kernel
set_option maxRecDepth 20000 in
theorem ggX0_ring_X0_isLength : GoodIn wsX0_ring wsX0_isLength := goodIn_r _ [7] (by decide +kernel) (by decide +kernel)
set_option maxRecDepth 20000 in
theorem gX0_ring_X0_isLength : GoodIn wsX0_ring (va_wsS RX0 17 yX0_isLength wsX0_isLength) := goodIn_app (goodIn_of _ (by decide +kernel)) ggX0_ring_X0_isLength
set_option maxRecDepth 20000 in
theorem ggX0_ring_X0_isPrimeOfRing : GoodIn wsX0_ring wsX0_isPrimeOfRing := goodIn_r _ [10, 11, 12, 6, 13] (by decide +kernel) (by decide +kernel)
set_option maxRecDepth 20000 in
theorem gX0_ring_X0_isPrimeOfRing : GoodIn wsX0_ring (va_wsS RX0 21 yX0_isPrimeOfRing wsX0_isPrimeOfRing) := goodIn_app (goodIn_of _ (by decide +kernel)) ggX0_ring_X0_isPrimeOfRing
set_option maxRecDepth 20000 in
theorem ggX0_ring_X0_divides : GoodIn wsX0_ring wsX0_divides := goodIn_r _ [13] (by decide +kernel) (by decide +kernel)
set_option maxRecDepth 20000 in
theorem gX0_ring_X0_divides : GoodIn wsX0_ring (va_wsS RX0 24 yX0_divides wsX0_divides) := goodIn_app (goodIn_of _ (by decide +kernel)) ggX0_ring_X0_divides
set_option maxRecDepth 20000 in
theorem ggX0_ring_X0_takeRing : GoodIn wsX0_ring wsX0_takeRing := goodIn_r _ [17, 18, 19, 20, 3, 21, 22, 23, 24, 25, 26, 6, 27, 28, 29, 30, 31, 32, 33, 34, 35, 36, 37, 38, 39, 40, 41, 42, 43, 44, 45, 46, 47, 48, 49, 50] (by decide +kernel) (by decide +kernel)
set_option maxRecDepth 20000 in
theorem gX0_ring_X0_takeRing : GoodIn wsX0_ring (wsV RX0 13 RX0 yX0_takeRing wsX0_takeRing) := goodIn_app (goodIn_of _ (by decide +kernel)) ggX0_ring_X0_takeRing
theorem dX0_ring_0 : decode cX0_ring 0 = .ok (.iload_n 1, 1) := by decide +kernel
theorem dX0_ring_1 : decode cX0_ring 1 = .ok (.invokestatic 17, 3) := by decide +kernel
theorem dX0_ring_4 : decode cX0_ring 4 = .ok (.ifCond .eq 20, 3) := by decide +kernel
theorem dX0_ring_7 : decode cX0_ring 7 = .ok (.iload_n 2, 1) := by decide +kernel
theorem dX0_ring_8 : decode cX0_ring 8 = .ok (.invokestatic 21, 3) := by decide +kernel
theorem dX0_ring_11 : decode cX0_ring 11 = .ok (.ifCond .eq 13, 3) := by decide +kernel
theorem dX0_ring_14 : decode cX0_ring 14 = .ok (.iload_n 1, 1) := by decide +kernel
theorem dX0_ring_15 : decode cX0_ring 15 = .ok (.iload_n 2, 1) := by decide +kernel
theorem dX0_ring_16 : decode cX0_ring 16 = .ok (.iconst 1, 1) := by decide +kernel
theorem dX0_ring_17 : decode cX0_ring 17 = .ok (.isub, 1) := by decide +kernel
theorem dX0_ring_18 : decode cX0_ring 18 = .ok (.invokestatic 24, 3) := by decide +kernel
theorem dX0_ring_21 : decode cX0_ring 21 = .ok (.ifCond .ne 13, 3) := by decide +kernel
theorem dX0_ring_24 : decode cX0_ring 24 = .ok (.new 28, 3) := by decide +kernel
theorem dX0_ring_27 : decode cX0_ring 27 = .ok (.dup, 1) := by decide +kernel
theorem dX0_ring_28 : decode cX0_ring 28 = .ok (.ldc 30, 2) := by decide +kernel
theorem dX0_ring_30 : decode cX0_ring 30 = .ok (.invokespecial 32, 3) := by decide +kernel
theorem dX0_ring_33 : decode cX0_ring 33 = .ok (.athrow, 1) := by decide +kernel
theorem dX0_ring_34 : decode cX0_ring 34 = .ok (.aload_n 0, 1) := by decide +kernel
theorem dX0_ring_35 : decode cX0_ring 35 = .ok (.iload_n 1, 1) := by decide +kernel
theorem dX0_ring_36 : decode cX0_ring 36 = .ok (.iload_n 2, 1) := by decide +kernel
theorem dX0_ring_37 : decode cX0_ring 37 = .ok (.invokevirtual 13, 3) := by decide +kernel
theorem dX0_ring_40 : decode cX0_ring 40 = .ok (.aload_n 0, 1) := by decide +kernel
theorem dX0_ring_41 : decode cX0_ring 41 = .ok (.getfield 35, 3) := by decide +kernel
theorem dX0_ring_44 : decode cX0_ring 44 = .ok (.ireturn, 1) := by decide +kernel
set_option maxRecDepth 20000 in
theorem ggX0_order_X0_requireInvertible : GoodIn wsX0_order wsX0_requireInvertible := goodIn_ca (goodIn_r _ [6, 7, 8, 1, 17, 18, 19, 20, 21, 22, 23] (by decide +kernel) (by decide +kernel)) (goodIn_sub (fun _ h => List.mem_cons_of_mem _ (List.mem_append_right _ h)) (by decide +kernel))
set_option maxRecDepth 20000 in
theorem gX0_order_X0_requireInvertible : GoodIn wsX0_order (wsV RX0 39 RX0 yX0_requireInvertible wsX0_requireInvertible) := goodIn_app (goodIn_of _ (by decide +kernel)) ggX0_order_X0_requireInvertible
set_option maxRecDepth 20000 in
theorem ggX0_order_X0_reduced : GoodIn wsX0_order wsX0_reduced := goodIn_r _ [12, 1, 13, 14, 15, 16, 17, 18, 19, 20, 21, 22, 23] (by decide +kernel) (by decide +kernel)
set_option maxRecDepth 20000 in
theorem gX0_order_X0_reduced : GoodIn wsX0_order (wsV RX0 46 RX0 yX0_reduced wsX0_reduced) := goodIn_app (goodIn_of _ (by decide +kernel)) ggX0_order_X0_reduced
theorem dX0_order_0 : decode cX0_order 0 = .ok (.aload_n 0, 1) := by decide +kernel
theorem dX0_order_1 : decode cX0_order 1 = .ok (.iload_n 1, 1) := by decide +kernel
theorem dX0_order_2 : decode cX0_order 2 = .ok (.invokevirtual 39, 3) := by decide +kernel
theorem dX0_order_5 : decode cX0_order 5 = .ok (.iconst 1, 1) := by decide +kernel
theorem dX0_order_6 : decode cX0_order 6 = .ok (.istore_n 2, 1) := by decide +kernel
theorem dX0_order_7 : decode cX0_order 7 = .ok (.iload_n 1, 1) := by decide +kernel
theorem dX0_order_8 : decode cX0_order 8 = .ok (.istore_n 3, 1) := by decide +kernel
theorem dX0_order_9 : decode cX0_order 9 = .ok (.iload_n 3, 1) := by decide +kernel
theorem dX0_order_10 : decode cX0_order 10 = .ok (.iconst 1, 1) := by decide +kernel
theorem dX0_order_11 : decode cX0_order 11 = .ok (.if_icmp .eq 25, 3) := by decide +kernel
theorem dX0_order_14 : decode cX0_order 14 = .ok (.iload_n 2, 1) := by decide +kernel
theorem dX0_order_15 : decode cX0_order 15 = .ok (.aload_n 0, 1) := by decide +kernel
theorem dX0_order_16 : decode cX0_order 16 = .ok (.getfield 43, 3) := by decide +kernel
theorem dX0_order_19 : decode cX0_order 19 = .ok (.if_icmp .ge 17, 3) := by decide +kernel
theorem dX0_order_22 : decode cX0_order 22 = .ok (.aload_n 0, 1) := by decide +kernel
theorem dX0_order_23 : decode cX0_order 23 = .ok (.iload_n 3, 1) := by decide +kernel
theorem dX0_order_24 : decode cX0_order 24 = .ok (.iload_n 1, 1) := by decide +kernel
theorem dX0_order_25 : decode cX0_order 25 = .ok (.imul, 1) := by decide +kernel
theorem dX0_order_26 : decode cX0_order 26 = .ok (.invokevirtual 46, 3) := by decide +kernel
theorem dX0_order_29 : decode cX0_order 29 = .ok (.istore_n 3, 1) := by decide +kernel
theorem dX0_order_30 : decode cX0_order 30 = .ok (.iinc 2 1, 3) := by decide +kernel
theorem dX0_order_33 : decode cX0_order 33 = .ok (.goto (-24), 3) := by decide +kernel
theorem dX0_order_36 : decode cX0_order 36 = .ok (.iload_n 2, 1) := by decide +kernel
theorem dX0_order_37 : decode cX0_order 37 = .ok (.ireturn, 1) := by decide +kernel
set_option maxRecDepth 20000 in
theorem ggX0_inverse_X0_requireInvertible : GoodIn wsX0_inverse wsX0_requireInvertible := goodIn_ca (goodIn_r _ [5, 6, 7, 8, 25, 26, 27, 28, 29, 30, 31] (by decide +kernel) (by decide +kernel)) (goodIn_sub (fun _ h => List.mem_cons_of_mem _ (List.mem_append_right _ h)) (by decide +kernel))
set_option maxRecDepth 20000 in
theorem gX0_inverse_X0_requireInvertible : GoodIn wsX0_inverse (wsV RX0 39 RX0 yX0_requireInvertible wsX0_requireInvertible) := goodIn_app (goodIn_of _ (by decide +kernel)) ggX0_inverse_X0_requireInvertible
set_option maxRecDepth 20000 in
theorem ggX0_inverse_X0_inverseOf : GoodIn wsX0_inverse wsX0_inverseOf := goodIn_r _ [12, 8, 13, 14, 15, 4, 16, 17, 18, 19, 20, 21, 22, 23, 24, 25, 26, 27, 28, 29, 30, 31] (by decide +kernel) (by decide +kernel)
set_option maxRecDepth 20000 in
theorem gX0_inverse_X0_inverseOf : GoodIn wsX0_inverse (wsV RX0 50 RX0 yX0_inverseOf wsX0_inverseOf) := goodIn_app (goodIn_of _ (by decide +kernel)) ggX0_inverse_X0_inverseOf
theorem dX0_inverse_0 : decode cX0_inverse 0 = .ok (.aload_n 0, 1) := by decide +kernel
theorem dX0_inverse_1 : decode cX0_inverse 1 = .ok (.iload_n 1, 1) := by decide +kernel
theorem dX0_inverse_2 : decode cX0_inverse 2 = .ok (.invokevirtual 39, 3) := by decide +kernel
theorem dX0_inverse_5 : decode cX0_inverse 5 = .ok (.aload_n 0, 1) := by decide +kernel
theorem dX0_inverse_6 : decode cX0_inverse 6 = .ok (.iload_n 1, 1) := by decide +kernel
theorem dX0_inverse_7 : decode cX0_inverse 7 = .ok (.invokevirtual 50, 3) := by decide +kernel
theorem dX0_inverse_10 : decode cX0_inverse 10 = .ok (.ireturn, 1) := by decide +kernel
set_option maxRecDepth 20000 in
theorem ggX0_root_X0_powerOf : GoodIn wsX0_root wsX0_powerOf := goodIn_r _ [8, 9, 10, 11, 7, 12, 13, 14, 15, 16, 17, 18, 19, 20, 21, 22, 23, 24] (by decide +kernel) (by decide +kernel)
set_option maxRecDepth 20000 in
theorem gX0_root_X0_powerOf : GoodIn wsX0_root (wsV RX0 55 RX0 yX0_powerOf wsX0_powerOf) := goodIn_app (goodIn_of _ (by decide +kernel)) ggX0_root_X0_powerOf
theorem dX0_root_0 : decode cX0_root 0 = .ok (.iload_n 1, 1) := by decide +kernel
theorem dX0_root_1 : decode cX0_root 1 = .ok (.ifCond .lt 10, 3) := by decide +kernel
theorem dX0_root_4 : decode cX0_root 4 = .ok (.iload_n 1, 1) := by decide +kernel
theorem dX0_root_5 : decode cX0_root 5 = .ok (.sipush 9999, 3) := by decide +kernel
theorem dX0_root_8 : decode cX0_root 8 = .ok (.if_icmp .le 13, 3) := by decide +kernel
theorem dX0_root_11 : decode cX0_root 11 = .ok (.new 28, 3) := by decide +kernel
theorem dX0_root_14 : decode cX0_root 14 = .ok (.dup, 1) := by decide +kernel
theorem dX0_root_15 : decode cX0_root 15 = .ok (.ldc 53, 2) := by decide +kernel
theorem dX0_root_17 : decode cX0_root 17 = .ok (.invokespecial 32, 3) := by decide +kernel
theorem dX0_root_20 : decode cX0_root 20 = .ok (.athrow, 1) := by decide +kernel
theorem dX0_root_21 : decode cX0_root 21 = .ok (.aload_n 0, 1) := by decide +kernel
theorem dX0_root_22 : decode cX0_root 22 = .ok (.aload_n 0, 1) := by decide +kernel
theorem dX0_root_23 : decode cX0_root 23 = .ok (.getfield 35, 3) := by decide +kernel
theorem dX0_root_26 : decode cX0_root 26 = .ok (.iload_n 1, 1) := by decide +kernel
theorem dX0_root_27 : decode cX0_root 27 = .ok (.invokevirtual 55, 3) := by decide +kernel
theorem dX0_root_30 : decode cX0_root 30 = .ok (.ireturn, 1) := by decide +kernel
set_option maxRecDepth 20000 in
theorem ggX0_set_X0_requireRow : GoodIn wsX0_set wsX0_requireRow := goodIn_ca (goodIn_r _ [5, 6, 7] (by decide +kernel) (by decide +kernel)) (goodIn_sub (fun _ h => List.mem_cons_of_mem _ (List.mem_append_left _ (List.mem_append_right _ h))) (by decide +kernel))
set_option maxRecDepth 20000 in
theorem gX0_set_X0_requireRow : GoodIn wsX0_set (wsV RX0 59 RX0 yX0_requireRow wsX0_requireRow) := goodIn_app (goodIn_of _ (by decide +kernel)) ggX0_set_X0_requireRow
set_option maxRecDepth 20000 in
theorem ggX0_set_X0_requirePlace : GoodIn wsX0_set wsX0_requirePlace := goodIn_ca (goodIn_r _ [11, 6, 7, 12, 29, 30, 31, 32, 33, 34, 35] (by decide +kernel) (by decide +kernel)) (goodIn_sub (fun _ h => List.mem_cons_of_mem _ (List.mem_append_left _ (List.mem_append_right _ h))) (by decide +kernel))
set_option maxRecDepth 20000 in
theorem gX0_set_X0_requirePlace : GoodIn wsX0_set (wsV RX0 62 RX0 yX0_requirePlace wsX0_requirePlace) := goodIn_app (goodIn_of _ (by decide +kernel)) ggX0_set_X0_requirePlace
set_option maxRecDepth 20000 in
theorem ggX0_set_X0_requireNumber : GoodIn wsX0_set wsX0_requireNumber := goodIn_ca (goodIn_r _ [16, 17, 18, 19, 29, 30, 31, 32, 33, 34, 35] (by decide +kernel) (by decide +kernel)) (goodIn_sub (fun _ h => List.mem_cons_of_mem _ (List.mem_append_right _ h)) (by decide +kernel))
set_option maxRecDepth 20000 in
theorem gX0_set_X0_requireNumber : GoodIn wsX0_set (wsV RX0 65 RX0 yX0_requireNumber wsX0_requireNumber) := goodIn_app (goodIn_of _ (by decide +kernel)) ggX0_set_X0_requireNumber
set_option maxRecDepth 20000 in
theorem ggX0_set_X0_read : GoodIn wsX0_set wsX0_read := goodIn_r _ [23, 24, 29, 30, 31, 32, 33, 34, 35] (by decide +kernel) (by decide +kernel)
set_option maxRecDepth 20000 in
theorem gX0_set_X0_read : GoodIn wsX0_set (wsV RX0 68 RX0 yX0_read wsX0_read) := goodIn_app (goodIn_of _ (by decide +kernel)) ggX0_set_X0_read
set_option maxRecDepth 20000 in
theorem ggX0_set_X0_write : GoodIn wsX0_set wsX0_write := goodIn_r _ [28, 24, 29, 30, 31, 32, 33, 34, 35] (by decide +kernel) (by decide +kernel)
set_option maxRecDepth 20000 in
theorem gX0_set_X0_write : GoodIn wsX0_set (wsV RX0 71 RX0 yX0_write wsX0_write) := goodIn_app (goodIn_of _ (by decide +kernel)) ggX0_set_X0_write
theorem dX0_set_0 : decode cX0_set 0 = .ok (.aload_n 0, 1) := by decide +kernel
theorem dX0_set_1 : decode cX0_set 1 = .ok (.iload_n 1, 1) := by decide +kernel
theorem dX0_set_2 : decode cX0_set 2 = .ok (.invokevirtual 59, 3) := by decide +kernel
theorem dX0_set_5 : decode cX0_set 5 = .ok (.aload_n 0, 1) := by decide +kernel
theorem dX0_set_6 : decode cX0_set 6 = .ok (.iload_n 2, 1) := by decide +kernel
theorem dX0_set_7 : decode cX0_set 7 = .ok (.invokevirtual 62, 3) := by decide +kernel
theorem dX0_set_10 : decode cX0_set 10 = .ok (.aload_n 0, 1) := by decide +kernel
theorem dX0_set_11 : decode cX0_set 11 = .ok (.iload_n 3, 1) := by decide +kernel
theorem dX0_set_12 : decode cX0_set 12 = .ok (.invokevirtual 65, 3) := by decide +kernel
theorem dX0_set_15 : decode cX0_set 15 = .ok (.aload_n 0, 1) := by decide +kernel
theorem dX0_set_16 : decode cX0_set 16 = .ok (.iload_n 1, 1) := by decide +kernel
theorem dX0_set_17 : decode cX0_set 17 = .ok (.iload_n 2, 1) := by decide +kernel
theorem dX0_set_18 : decode cX0_set 18 = .ok (.invokevirtual 68, 3) := by decide +kernel
theorem dX0_set_21 : decode cX0_set 21 = .ok (.istore 4, 2) := by decide +kernel
theorem dX0_set_23 : decode cX0_set 23 = .ok (.aload_n 0, 1) := by decide +kernel
theorem dX0_set_24 : decode cX0_set 24 = .ok (.iload_n 1, 1) := by decide +kernel
theorem dX0_set_25 : decode cX0_set 25 = .ok (.iload_n 2, 1) := by decide +kernel
theorem dX0_set_26 : decode cX0_set 26 = .ok (.iload_n 3, 1) := by decide +kernel
theorem dX0_set_27 : decode cX0_set 27 = .ok (.invokevirtual 71, 3) := by decide +kernel
theorem dX0_set_30 : decode cX0_set 30 = .ok (.iload 4, 2) := by decide +kernel
theorem dX0_set_32 : decode cX0_set 32 = .ok (.ireturn, 1) := by decide +kernel
set_option maxRecDepth 20000 in
theorem ggX0_copy_X0_requireRow : GoodIn wsX0_copy wsX0_requireRow := goodIn_ca (goodIn_r _ [5, 6, 7] (by decide +kernel) (by decide +kernel)) (goodIn_sub (fun _ h => List.mem_cons_of_mem _ (List.mem_append_right _ h)) (by decide +kernel))
set_option maxRecDepth 20000 in
theorem gX0_copy_X0_requireRow : GoodIn wsX0_copy (wsV RX0 59 RX0 yX0_requireRow wsX0_requireRow) := goodIn_app (goodIn_of _ (by decide +kernel)) ggX0_copy_X0_requireRow
set_option maxRecDepth 20000 in
theorem ggX0_copy_X0_copyRow : GoodIn wsX0_copy wsX0_copyRow := goodIn_r _ [11, 12, 13, 14, 15, 4, 16, 17, 18, 19, 20, 21, 22, 23, 24, 25, 26, 27, 28] (by decide +kernel) (by decide +kernel)
set_option maxRecDepth 20000 in
theorem gX0_copy_X0_copyRow : GoodIn wsX0_copy (wsV RX0 75 RX0 yX0_copyRow wsX0_copyRow) := goodIn_app (goodIn_of _ (by decide +kernel)) ggX0_copy_X0_copyRow
theorem dX0_copy_0 : decode cX0_copy 0 = .ok (.aload_n 0, 1) := by decide +kernel
theorem dX0_copy_1 : decode cX0_copy 1 = .ok (.iload_n 1, 1) := by decide +kernel
theorem dX0_copy_2 : decode cX0_copy 2 = .ok (.invokevirtual 59, 3) := by decide +kernel
theorem dX0_copy_5 : decode cX0_copy 5 = .ok (.aload_n 0, 1) := by decide +kernel
theorem dX0_copy_6 : decode cX0_copy 6 = .ok (.iload_n 2, 1) := by decide +kernel
theorem dX0_copy_7 : decode cX0_copy 7 = .ok (.invokevirtual 59, 3) := by decide +kernel
theorem dX0_copy_10 : decode cX0_copy 10 = .ok (.aload_n 0, 1) := by decide +kernel
theorem dX0_copy_11 : decode cX0_copy 11 = .ok (.iload_n 1, 1) := by decide +kernel
theorem dX0_copy_12 : decode cX0_copy 12 = .ok (.iload_n 2, 1) := by decide +kernel
theorem dX0_copy_13 : decode cX0_copy 13 = .ok (.invokevirtual 75, 3) := by decide +kernel
theorem dX0_copy_16 : decode cX0_copy 16 = .ok (.ireturn, 1) := by decide +kernel
set_option maxRecDepth 20000 in
theorem ggX0_turn_X0_requireRow : GoodIn wsX0_turn wsX0_requireRow := goodIn_ca (goodIn_r _ [5, 6, 7] (by decide +kernel) (by decide +kernel)) (goodIn_sub (fun _ h => List.mem_cons_of_mem _ (List.mem_append_right _ h)) (by decide +kernel))
set_option maxRecDepth 20000 in
theorem gX0_turn_X0_requireRow : GoodIn wsX0_turn (wsV RX0 59 RX0 yX0_requireRow wsX0_requireRow) := goodIn_app (goodIn_of _ (by decide +kernel)) ggX0_turn_X0_requireRow
set_option maxRecDepth 20000 in
theorem ggX0_turn_X0_scratchTurnedBack : GoodIn wsX0_turn wsX0_scratchTurnedBack := goodIn_r _ [11, 12, 13, 14, 15, 16, 4, 17, 18, 19, 20, 21, 22, 23, 24, 25, 26, 27, 28, 29, 30, 31, 32, 33, 34, 35, 36, 37, 38, 39, 40, 50, 51, 52, 53, 54, 55, 56] (by decide +kernel) (by decide +kernel)
set_option maxRecDepth 20000 in
theorem gX0_turn_X0_scratchTurnedBack : GoodIn wsX0_turn (wsV RX0 78 RX0 yX0_scratchTurnedBack wsX0_scratchTurnedBack) := goodIn_app (goodIn_of _ (by decide +kernel)) ggX0_turn_X0_scratchTurnedBack
set_option maxRecDepth 20000 in
theorem ggX0_turn_X0_scratchTones : GoodIn wsX0_turn wsX0_scratchTones := goodIn_r _ [44, 45, 14, 15, 16, 4, 17, 18, 19, 20, 21, 22, 23, 24, 25, 26, 27, 28, 29, 30, 31, 32, 33, 34, 35, 36, 37, 38, 39, 40, 50, 51, 52, 53, 54, 55, 56] (by decide +kernel) (by decide +kernel)
set_option maxRecDepth 20000 in
theorem gX0_turn_X0_scratchTones : GoodIn wsX0_turn (wsV RX0 81 RX0 yX0_scratchTones wsX0_scratchTones) := goodIn_app (goodIn_of _ (by decide +kernel)) ggX0_turn_X0_scratchTones
set_option maxRecDepth 20000 in
theorem ggX0_turn_X0_copyRow : GoodIn wsX0_turn wsX0_copyRow := goodIn_r _ [49, 18, 23, 24, 25, 4, 26, 27, 37, 38, 39, 40, 50, 51, 52, 53, 54, 55, 56] (by decide +kernel) (by decide +kernel)
set_option maxRecDepth 20000 in
theorem gX0_turn_X0_copyRow : GoodIn wsX0_turn (wsV RX0 75 RX0 yX0_copyRow wsX0_copyRow) := goodIn_app (goodIn_of _ (by decide +kernel)) ggX0_turn_X0_copyRow
set_option maxRecDepth 20000 in
theorem ggX0_turn_X0_read : GoodIn wsX0_turn wsX0_read := goodIn_r _ [26, 27, 50, 51, 52, 53, 54, 55, 56] (by decide +kernel) (by decide +kernel)
set_option maxRecDepth 20000 in
theorem gX0_turn_X0_read : GoodIn wsX0_turn (wsV RX0 68 RX0 yX0_read wsX0_read) := goodIn_app (goodIn_of _ (by decide +kernel)) ggX0_turn_X0_read
theorem dX0_turn_0 : decode cX0_turn 0 = .ok (.aload_n 0, 1) := by decide +kernel
theorem dX0_turn_1 : decode cX0_turn 1 = .ok (.iload_n 1, 1) := by decide +kernel
theorem dX0_turn_2 : decode cX0_turn 2 = .ok (.invokevirtual 59, 3) := by decide +kernel
theorem dX0_turn_5 : decode cX0_turn 5 = .ok (.iload_n 2, 1) := by decide +kernel
theorem dX0_turn_6 : decode cX0_turn 6 = .ok (.ifCond .eq 11, 3) := by decide +kernel
theorem dX0_turn_9 : decode cX0_turn 9 = .ok (.aload_n 0, 1) := by decide +kernel
theorem dX0_turn_10 : decode cX0_turn 10 = .ok (.iload_n 1, 1) := by decide +kernel
theorem dX0_turn_11 : decode cX0_turn 11 = .ok (.invokevirtual 78, 3) := by decide +kernel
theorem dX0_turn_14 : decode cX0_turn 14 = .ok (.goto 8, 3) := by decide +kernel
theorem dX0_turn_17 : decode cX0_turn 17 = .ok (.aload_n 0, 1) := by decide +kernel
theorem dX0_turn_18 : decode cX0_turn 18 = .ok (.iload_n 1, 1) := by decide +kernel
theorem dX0_turn_19 : decode cX0_turn 19 = .ok (.invokevirtual 81, 3) := by decide +kernel
theorem dX0_turn_22 : decode cX0_turn 22 = .ok (.aload_n 0, 1) := by decide +kernel
theorem dX0_turn_23 : decode cX0_turn 23 = .ok (.iconst 4, 1) := by decide +kernel
theorem dX0_turn_24 : decode cX0_turn 24 = .ok (.iload_n 1, 1) := by decide +kernel
theorem dX0_turn_25 : decode cX0_turn 25 = .ok (.invokevirtual 75, 3) := by decide +kernel
theorem dX0_turn_28 : decode cX0_turn 28 = .ok (.pop, 1) := by decide +kernel
theorem dX0_turn_29 : decode cX0_turn 29 = .ok (.aload_n 0, 1) := by decide +kernel
theorem dX0_turn_30 : decode cX0_turn 30 = .ok (.iload_n 1, 1) := by decide +kernel
theorem dX0_turn_31 : decode cX0_turn 31 = .ok (.iconst 0, 1) := by decide +kernel
theorem dX0_turn_32 : decode cX0_turn 32 = .ok (.invokevirtual 68, 3) := by decide +kernel
theorem dX0_turn_35 : decode cX0_turn 35 = .ok (.ireturn, 1) := by decide +kernel
set_option maxRecDepth 20000 in
theorem ggX0_mirror_X0_requireRow : GoodIn wsX0_mirror wsX0_requireRow := goodIn_ca (goodIn_r _ [6, 7, 8] (by decide +kernel) (by decide +kernel)) (goodIn_sub (fun _ h => List.mem_cons_of_mem _ (List.mem_append_right _ h)) (by decide +kernel))
set_option maxRecDepth 20000 in
theorem gX0_mirror_X0_requireRow : GoodIn wsX0_mirror (wsV RX0 59 RX0 yX0_requireRow wsX0_requireRow) := goodIn_app (goodIn_of _ (by decide +kernel)) ggX0_mirror_X0_requireRow
set_option maxRecDepth 20000 in
theorem ggX0_mirror_X0_mirrored : GoodIn wsX0_mirror wsX0_mirrored := goodIn_r _ [12, 13, 27, 28, 29, 30, 31, 32, 33] (by decide +kernel) (by decide +kernel)
set_option maxRecDepth 20000 in
theorem gX0_mirror_X0_mirrored : GoodIn wsX0_mirror (wsV RX0 87 RX0 yX0_mirrored wsX0_mirrored) := goodIn_app (goodIn_of _ (by decide +kernel)) ggX0_mirror_X0_mirrored
set_option maxRecDepth 20000 in
theorem ggX0_mirror_X0_read : GoodIn wsX0_mirror wsX0_read := goodIn_r _ [17, 18, 27, 28, 29, 30, 31, 32, 33] (by decide +kernel) (by decide +kernel)
set_option maxRecDepth 20000 in
theorem gX0_mirror_X0_read : GoodIn wsX0_mirror (wsV RX0 68 RX0 yX0_read wsX0_read) := goodIn_app (goodIn_of _ (by decide +kernel)) ggX0_mirror_X0_read
set_option maxRecDepth 20000 in
theorem ggX0_mirror_X0_write : GoodIn wsX0_mirror wsX0_write := goodIn_r _ [22, 18, 27, 28, 29, 30, 31, 32, 33] (by decide +kernel) (by decide +kernel)
set_option maxRecDepth 20000 in
theorem gX0_mirror_X0_write : GoodIn wsX0_mirror (wsV RX0 71 RX0 yX0_write wsX0_write) := goodIn_app (goodIn_of _ (by decide +kernel)) ggX0_mirror_X0_write
set_option maxRecDepth 20000 in
theorem ggX0_mirror_X0_copyRow : GoodIn wsX0_mirror wsX0_copyRow := goodIn_r _ [26, 1, 14, 15, 16, 5, 17, 18, 19, 20, 21, 22, 27, 28, 29, 30, 31, 32, 33] (by decide +kernel) (by decide +kernel)
set_option maxRecDepth 20000 in
theorem gX0_mirror_X0_copyRow : GoodIn wsX0_mirror (wsV RX0 75 RX0 yX0_copyRow wsX0_copyRow) := goodIn_app (goodIn_of _ (by decide +kernel)) ggX0_mirror_X0_copyRow
theorem dX0_mirror_0 : decode cX0_mirror 0 = .ok (.aload_n 0, 1) := by decide +kernel
theorem dX0_mirror_1 : decode cX0_mirror 1 = .ok (.iload_n 1, 1) := by decide +kernel
theorem dX0_mirror_2 : decode cX0_mirror 2 = .ok (.invokevirtual 59, 3) := by decide +kernel
theorem dX0_mirror_5 : decode cX0_mirror 5 = .ok (.iconst 0, 1) := by decide +kernel
theorem dX0_mirror_6 : decode cX0_mirror 6 = .ok (.istore_n 2, 1) := by decide +kernel
theorem dX0_mirror_7 : decode cX0_mirror 7 = .ok (.iload_n 2, 1) := by decide +kernel
theorem dX0_mirror_8 : decode cX0_mirror 8 = .ok (.aload_n 0, 1) := by decide +kernel
theorem dX0_mirror_9 : decode cX0_mirror 9 = .ok (.getfield 84, 3) := by decide +kernel
theorem dX0_mirror_12 : decode cX0_mirror 12 = .ok (.if_icmp .ge 25, 3) := by decide +kernel
theorem dX0_mirror_15 : decode cX0_mirror 15 = .ok (.aload_n 0, 1) := by decide +kernel
theorem dX0_mirror_16 : decode cX0_mirror 16 = .ok (.iconst 4, 1) := by decide +kernel
theorem dX0_mirror_17 : decode cX0_mirror 17 = .ok (.aload_n 0, 1) := by decide +kernel
theorem dX0_mirror_18 : decode cX0_mirror 18 = .ok (.iload_n 2, 1) := by decide +kernel
theorem dX0_mirror_19 : decode cX0_mirror 19 = .ok (.invokevirtual 87, 3) := by decide +kernel
theorem dX0_mirror_22 : decode cX0_mirror 22 = .ok (.aload_n 0, 1) := by decide +kernel
theorem dX0_mirror_23 : decode cX0_mirror 23 = .ok (.iload_n 1, 1) := by decide +kernel
theorem dX0_mirror_24 : decode cX0_mirror 24 = .ok (.iload_n 2, 1) := by decide +kernel
theorem dX0_mirror_25 : decode cX0_mirror 25 = .ok (.invokevirtual 68, 3) := by decide +kernel
theorem dX0_mirror_28 : decode cX0_mirror 28 = .ok (.invokevirtual 71, 3) := by decide +kernel
theorem dX0_mirror_31 : decode cX0_mirror 31 = .ok (.iinc 2 1, 3) := by decide +kernel
theorem dX0_mirror_34 : decode cX0_mirror 34 = .ok (.goto (-27), 3) := by decide +kernel
theorem dX0_mirror_37 : decode cX0_mirror 37 = .ok (.aload_n 0, 1) := by decide +kernel
theorem dX0_mirror_38 : decode cX0_mirror 38 = .ok (.iconst 4, 1) := by decide +kernel
theorem dX0_mirror_39 : decode cX0_mirror 39 = .ok (.iload_n 1, 1) := by decide +kernel
theorem dX0_mirror_40 : decode cX0_mirror 40 = .ok (.invokevirtual 75, 3) := by decide +kernel
theorem dX0_mirror_43 : decode cX0_mirror 43 = .ok (.ireturn, 1) := by decide +kernel
set_option maxRecDepth 20000 in
theorem ggX0_stage_X0_requireRow : GoodIn wsX0_stage wsX0_requireRow := goodIn_ca (goodIn_r _ [10, 1, 2] (by decide +kernel) (by decide +kernel)) (goodIn_sub (fun _ h => List.mem_cons_of_mem _ (List.mem_append_right _ h)) (by decide +kernel))
set_option maxRecDepth 20000 in
theorem gX0_stage_X0_requireRow : GoodIn wsX0_stage (wsV RX0 59 RX0 yX0_requireRow wsX0_requireRow) := goodIn_app (goodIn_of _ (by decide +kernel)) ggX0_stage_X0_requireRow
set_option maxRecDepth 20000 in
theorem ggX0_stage_X0_powerOf : GoodIn wsX0_stage wsX0_powerOf := goodIn_r _ [14, 15, 16, 17, 9, 18, 19, 20, 21, 22, 23, 37, 38, 39, 40, 41, 42, 43] (by decide +kernel) (by decide +kernel)
set_option maxRecDepth 20000 in
theorem gX0_stage_X0_powerOf : GoodIn wsX0_stage (wsV RX0 55 RX0 yX0_powerOf wsX0_powerOf) := goodIn_app (goodIn_of _ (by decide +kernel)) ggX0_stage_X0_powerOf
set_option maxRecDepth 20000 in
theorem ggX0_stage_X0_butterfly : GoodIn wsX0_stage wsX0_butterfly := goodIn_r _ [27, 28, 29, 30, 9, 31, 32, 15, 16, 17, 18, 19, 20, 21, 22, 23, 33, 34, 35, 36, 37, 38, 39, 40, 41, 42, 43] (by decide +kernel) (by decide +kernel)
set_option maxRecDepth 20000 in
theorem gX0_stage_X0_butterfly : GoodIn wsX0_stage (wsV RX0 98 RX0 yX0_butterfly wsX0_butterfly) := goodIn_app (goodIn_of _ (by decide +kernel)) ggX0_stage_X0_butterfly
set_option maxRecDepth 20000 in
theorem ggX0_stage_X0_read : GoodIn wsX0_stage wsX0_read := goodIn_r _ [31, 32, 37, 38, 39, 40, 41, 42, 43] (by decide +kernel) (by decide +kernel)
set_option maxRecDepth 20000 in
theorem gX0_stage_X0_read : GoodIn wsX0_stage (wsV RX0 68 RX0 yX0_read wsX0_read) := goodIn_app (goodIn_of _ (by decide +kernel)) ggX0_stage_X0_read
theorem dX0_stage_0 : decode cX0_stage 0 = .ok (.aload_n 0, 1) := by decide +kernel
theorem dX0_stage_1 : decode cX0_stage 1 = .ok (.iload_n 1, 1) := by decide +kernel
theorem dX0_stage_2 : decode cX0_stage 2 = .ok (.invokevirtual 59, 3) := by decide +kernel
theorem dX0_stage_5 : decode cX0_stage 5 = .ok (.iload_n 2, 1) := by decide +kernel
theorem dX0_stage_6 : decode cX0_stage 6 = .ok (.ifCond .lt 11, 3) := by decide +kernel
theorem dX0_stage_9 : decode cX0_stage 9 = .ok (.iload_n 2, 1) := by decide +kernel
theorem dX0_stage_10 : decode cX0_stage 10 = .ok (.aload_n 0, 1) := by decide +kernel
theorem dX0_stage_11 : decode cX0_stage 11 = .ok (.getfield 90, 3) := by decide +kernel
theorem dX0_stage_14 : decode cX0_stage 14 = .ok (.if_icmp .lt 13, 3) := by decide +kernel
theorem dX0_stage_17 : decode cX0_stage 17 = .ok (.new 93, 3) := by decide +kernel
theorem dX0_stage_20 : decode cX0_stage 20 = .ok (.dup, 1) := by decide +kernel
theorem dX0_stage_21 : decode cX0_stage 21 = .ok (.ldc 95, 2) := by decide +kernel
theorem dX0_stage_23 : decode cX0_stage 23 = .ok (.invokespecial 97, 3) := by decide +kernel
theorem dX0_stage_26 : decode cX0_stage 26 = .ok (.athrow, 1) := by decide +kernel
theorem dX0_stage_27 : decode cX0_stage 27 = .ok (.iconst 1, 1) := by decide +kernel
theorem dX0_stage_28 : decode cX0_stage 28 = .ok (.iload_n 2, 1) := by decide +kernel
theorem dX0_stage_29 : decode cX0_stage 29 = .ok (.ishl, 1) := by decide +kernel
theorem dX0_stage_30 : decode cX0_stage 30 = .ok (.istore_n 3, 1) := by decide +kernel
theorem dX0_stage_31 : decode cX0_stage 31 = .ok (.iconst 0, 1) := by decide +kernel
theorem dX0_stage_32 : decode cX0_stage 32 = .ok (.istore 4, 2) := by decide +kernel
theorem dX0_stage_34 : decode cX0_stage 34 = .ok (.iload 4, 2) := by decide +kernel
theorem dX0_stage_36 : decode cX0_stage 36 = .ok (.aload_n 0, 1) := by decide +kernel
theorem dX0_stage_37 : decode cX0_stage 37 = .ok (.getfield 84, 3) := by decide +kernel
theorem dX0_stage_40 : decode cX0_stage 40 = .ok (.if_icmp .ge 69, 3) := by decide +kernel
theorem dX0_stage_43 : decode cX0_stage 43 = .ok (.iconst 0, 1) := by decide +kernel
theorem dX0_stage_44 : decode cX0_stage 44 = .ok (.istore 5, 2) := by decide +kernel
theorem dX0_stage_46 : decode cX0_stage 46 = .ok (.iload 5, 2) := by decide +kernel
theorem dX0_stage_48 : decode cX0_stage 48 = .ok (.iload_n 3, 1) := by decide +kernel
theorem dX0_stage_49 : decode cX0_stage 49 = .ok (.if_icmp .ge 49, 3) := by decide +kernel
theorem dX0_stage_52 : decode cX0_stage 52 = .ok (.aload_n 0, 1) := by decide +kernel
theorem dX0_stage_53 : decode cX0_stage 53 = .ok (.aload_n 0, 1) := by decide +kernel
theorem dX0_stage_54 : decode cX0_stage 54 = .ok (.getfield 35, 3) := by decide +kernel
theorem dX0_stage_57 : decode cX0_stage 57 = .ok (.iload 5, 2) := by decide +kernel
theorem dX0_stage_59 : decode cX0_stage 59 = .ok (.aload_n 0, 1) := by decide +kernel
theorem dX0_stage_60 : decode cX0_stage 60 = .ok (.getfield 84, 3) := by decide +kernel
theorem dX0_stage_63 : decode cX0_stage 63 = .ok (.iload_n 2, 1) := by decide +kernel
theorem dX0_stage_64 : decode cX0_stage 64 = .ok (.iconst 1, 1) := by decide +kernel
theorem dX0_stage_65 : decode cX0_stage 65 = .ok (.iadd, 1) := by decide +kernel
theorem dX0_stage_66 : decode cX0_stage 66 = .ok (.ishr, 1) := by decide +kernel
theorem dX0_stage_67 : decode cX0_stage 67 = .ok (.imul, 1) := by decide +kernel
theorem dX0_stage_68 : decode cX0_stage 68 = .ok (.invokevirtual 55, 3) := by decide +kernel
theorem dX0_stage_71 : decode cX0_stage 71 = .ok (.istore 6, 2) := by decide +kernel
theorem dX0_stage_73 : decode cX0_stage 73 = .ok (.aload_n 0, 1) := by decide +kernel
theorem dX0_stage_74 : decode cX0_stage 74 = .ok (.iload_n 1, 1) := by decide +kernel
theorem dX0_stage_75 : decode cX0_stage 75 = .ok (.iload 4, 2) := by decide +kernel
theorem dX0_stage_77 : decode cX0_stage 77 = .ok (.iload 5, 2) := by decide +kernel
theorem dX0_stage_79 : decode cX0_stage 79 = .ok (.iadd, 1) := by decide +kernel
theorem dX0_stage_80 : decode cX0_stage 80 = .ok (.iload 4, 2) := by decide +kernel
theorem dX0_stage_82 : decode cX0_stage 82 = .ok (.iload 5, 2) := by decide +kernel
theorem dX0_stage_84 : decode cX0_stage 84 = .ok (.iadd, 1) := by decide +kernel
theorem dX0_stage_85 : decode cX0_stage 85 = .ok (.iload_n 3, 1) := by decide +kernel
theorem dX0_stage_86 : decode cX0_stage 86 = .ok (.iadd, 1) := by decide +kernel
theorem dX0_stage_87 : decode cX0_stage 87 = .ok (.iload 6, 2) := by decide +kernel
theorem dX0_stage_89 : decode cX0_stage 89 = .ok (.invokevirtual 98, 3) := by decide +kernel
theorem dX0_stage_92 : decode cX0_stage 92 = .ok (.iinc 5 1, 3) := by decide +kernel
theorem dX0_stage_95 : decode cX0_stage 95 = .ok (.goto (-49), 3) := by decide +kernel
theorem dX0_stage_98 : decode cX0_stage 98 = .ok (.iload 4, 2) := by decide +kernel
theorem dX0_stage_100 : decode cX0_stage 100 = .ok (.iconst 2, 1) := by decide +kernel
theorem dX0_stage_101 : decode cX0_stage 101 = .ok (.iload_n 3, 1) := by decide +kernel
theorem dX0_stage_102 : decode cX0_stage 102 = .ok (.imul, 1) := by decide +kernel
theorem dX0_stage_103 : decode cX0_stage 103 = .ok (.iadd, 1) := by decide +kernel
theorem dX0_stage_104 : decode cX0_stage 104 = .ok (.istore 4, 2) := by decide +kernel
theorem dX0_stage_106 : decode cX0_stage 106 = .ok (.goto (-72), 3) := by decide +kernel
theorem dX0_stage_109 : decode cX0_stage 109 = .ok (.aload_n 0, 1) := by decide +kernel
theorem dX0_stage_110 : decode cX0_stage 110 = .ok (.iload_n 1, 1) := by decide +kernel
theorem dX0_stage_111 : decode cX0_stage 111 = .ok (.iconst 0, 1) := by decide +kernel
theorem dX0_stage_112 : decode cX0_stage 112 = .ok (.invokevirtual 68, 3) := by decide +kernel
theorem dX0_stage_115 : decode cX0_stage 115 = .ok (.ireturn, 1) := by decide +kernel
set_option maxRecDepth 20000 in
theorem ggX0_fold_X0_requireRow : GoodIn wsX0_fold wsX0_requireRow := goodIn_ca (goodIn_r _ [6, 7, 8] (by decide +kernel) (by decide +kernel)) (goodIn_sub (fun _ h => List.mem_cons_of_mem _ (List.mem_append_right _ h)) (by decide +kernel))
set_option maxRecDepth 20000 in
theorem gX0_fold_X0_requireRow : GoodIn wsX0_fold (wsV RX0 59 RX0 yX0_requireRow wsX0_requireRow) := goodIn_app (goodIn_of _ (by decide +kernel)) ggX0_fold_X0_requireRow
set_option maxRecDepth 20000 in
theorem ggX0_fold_X0_foldedAt : GoodIn wsX0_fold wsX0_foldedAt := goodIn_r _ [12, 1, 13, 14, 15, 5, 16, 17, 18, 19, 20, 21, 22, 23, 24, 25, 26, 27, 28, 29, 30, 39, 40, 41, 42, 43, 44, 45] (by decide +kernel) (by decide +kernel)
set_option maxRecDepth 20000 in
theorem gX0_fold_X0_foldedAt : GoodIn wsX0_fold (wsV RX0 102 RX0 yX0_foldedAt wsX0_foldedAt) := goodIn_app (goodIn_of _ (by decide +kernel)) ggX0_fold_X0_foldedAt
set_option maxRecDepth 20000 in
theorem ggX0_fold_X0_write : GoodIn wsX0_fold wsX0_write := goodIn_r _ [34, 17, 39, 40, 41, 42, 43, 44, 45] (by decide +kernel) (by decide +kernel)
set_option maxRecDepth 20000 in
theorem gX0_fold_X0_write : GoodIn wsX0_fold (wsV RX0 71 RX0 yX0_write wsX0_write) := goodIn_app (goodIn_of _ (by decide +kernel)) ggX0_fold_X0_write
set_option maxRecDepth 20000 in
theorem ggX0_fold_X0_copyRow : GoodIn wsX0_fold wsX0_copyRow := goodIn_r _ [38, 1, 13, 14, 15, 5, 16, 17, 31, 32, 33, 34, 39, 40, 41, 42, 43, 44, 45] (by decide +kernel) (by decide +kernel)
set_option maxRecDepth 20000 in
theorem gX0_fold_X0_copyRow : GoodIn wsX0_fold (wsV RX0 75 RX0 yX0_copyRow wsX0_copyRow) := goodIn_app (goodIn_of _ (by decide +kernel)) ggX0_fold_X0_copyRow
set_option maxRecDepth 20000 in
theorem ggX0_fold_X0_read : GoodIn wsX0_fold wsX0_read := goodIn_r _ [16, 17, 39, 40, 41, 42, 43, 44, 45] (by decide +kernel) (by decide +kernel)
set_option maxRecDepth 20000 in
theorem gX0_fold_X0_read : GoodIn wsX0_fold (wsV RX0 68 RX0 yX0_read wsX0_read) := goodIn_app (goodIn_of _ (by decide +kernel)) ggX0_fold_X0_read
theorem dX0_fold_0 : decode cX0_fold 0 = .ok (.aload_n 0, 1) := by decide +kernel
theorem dX0_fold_1 : decode cX0_fold 1 = .ok (.iload_n 1, 1) := by decide +kernel
theorem dX0_fold_2 : decode cX0_fold 2 = .ok (.invokevirtual 59, 3) := by decide +kernel
theorem dX0_fold_5 : decode cX0_fold 5 = .ok (.aload_n 0, 1) := by decide +kernel
theorem dX0_fold_6 : decode cX0_fold 6 = .ok (.iload_n 2, 1) := by decide +kernel
theorem dX0_fold_7 : decode cX0_fold 7 = .ok (.invokevirtual 59, 3) := by decide +kernel
theorem dX0_fold_10 : decode cX0_fold 10 = .ok (.iconst 0, 1) := by decide +kernel
theorem dX0_fold_11 : decode cX0_fold 11 = .ok (.istore_n 3, 1) := by decide +kernel
theorem dX0_fold_12 : decode cX0_fold 12 = .ok (.iload_n 3, 1) := by decide +kernel
theorem dX0_fold_13 : decode cX0_fold 13 = .ok (.aload_n 0, 1) := by decide +kernel
theorem dX0_fold_14 : decode cX0_fold 14 = .ok (.getfield 84, 3) := by decide +kernel
theorem dX0_fold_17 : decode cX0_fold 17 = .ok (.if_icmp .ge 22, 3) := by decide +kernel
theorem dX0_fold_20 : decode cX0_fold 20 = .ok (.aload_n 0, 1) := by decide +kernel
theorem dX0_fold_21 : decode cX0_fold 21 = .ok (.iconst 4, 1) := by decide +kernel
theorem dX0_fold_22 : decode cX0_fold 22 = .ok (.iload_n 3, 1) := by decide +kernel
theorem dX0_fold_23 : decode cX0_fold 23 = .ok (.aload_n 0, 1) := by decide +kernel
theorem dX0_fold_24 : decode cX0_fold 24 = .ok (.iload_n 1, 1) := by decide +kernel
theorem dX0_fold_25 : decode cX0_fold 25 = .ok (.iload_n 2, 1) := by decide +kernel
theorem dX0_fold_26 : decode cX0_fold 26 = .ok (.iload_n 3, 1) := by decide +kernel
theorem dX0_fold_27 : decode cX0_fold 27 = .ok (.invokevirtual 102, 3) := by decide +kernel
theorem dX0_fold_30 : decode cX0_fold 30 = .ok (.invokevirtual 71, 3) := by decide +kernel
theorem dX0_fold_33 : decode cX0_fold 33 = .ok (.iinc 3 1, 3) := by decide +kernel
theorem dX0_fold_36 : decode cX0_fold 36 = .ok (.goto (-24), 3) := by decide +kernel
theorem dX0_fold_39 : decode cX0_fold 39 = .ok (.aload_n 0, 1) := by decide +kernel
theorem dX0_fold_40 : decode cX0_fold 40 = .ok (.iconst 4, 1) := by decide +kernel
theorem dX0_fold_41 : decode cX0_fold 41 = .ok (.iload_n 1, 1) := by decide +kernel
theorem dX0_fold_42 : decode cX0_fold 42 = .ok (.invokevirtual 75, 3) := by decide +kernel
theorem dX0_fold_45 : decode cX0_fold 45 = .ok (.pop, 1) := by decide +kernel
theorem dX0_fold_46 : decode cX0_fold 46 = .ok (.aload_n 0, 1) := by decide +kernel
theorem dX0_fold_47 : decode cX0_fold 47 = .ok (.iload_n 1, 1) := by decide +kernel
theorem dX0_fold_48 : decode cX0_fold 48 = .ok (.iconst 0, 1) := by decide +kernel
theorem dX0_fold_49 : decode cX0_fold 49 = .ok (.invokevirtual 68, 3) := by decide +kernel
theorem dX0_fold_52 : decode cX0_fold 52 = .ok (.ireturn, 1) := by decide +kernel
set_option maxRecDepth 20000 in
theorem ggX0_join_X0_requireRow : GoodIn wsX0_join wsX0_requireRow := goodIn_ca (goodIn_r _ [8, 1, 2] (by decide +kernel) (by decide +kernel)) (goodIn_sub (fun _ h => List.mem_cons_of_mem _ (List.mem_append_right _ h)) (by decide +kernel))
set_option maxRecDepth 20000 in
theorem gX0_join_X0_requireRow : GoodIn wsX0_join (wsV RX0 59 RX0 yX0_requireRow wsX0_requireRow) := goodIn_app (goodIn_of _ (by decide +kernel)) ggX0_join_X0_requireRow
set_option maxRecDepth 20000 in
theorem ggX0_join_X0_read : GoodIn wsX0_join wsX0_read := goodIn_r _ [12, 13, 35, 36, 37, 38, 39, 40, 41] (by decide +kernel) (by decide +kernel)
set_option maxRecDepth 20000 in
theorem gX0_join_X0_read : GoodIn wsX0_join (wsV RX0 68 RX0 yX0_read wsX0_read) := goodIn_app (goodIn_of _ (by decide +kernel)) ggX0_join_X0_read
set_option maxRecDepth 20000 in
theorem ggX0_join_X0_joined : GoodIn wsX0_join wsX0_joined := goodIn_r _ [17, 18, 19, 20, 7, 21, 22, 23, 24, 25, 26, 35, 36, 37, 38, 39, 40, 41] (by decide +kernel) (by decide +kernel)
set_option maxRecDepth 20000 in
theorem gX0_join_X0_joined : GoodIn wsX0_join (wsV RX0 108 RX0 yX0_joined wsX0_joined) := goodIn_app (goodIn_of _ (by decide +kernel)) ggX0_join_X0_joined
set_option maxRecDepth 20000 in
theorem ggX0_join_X0_write : GoodIn wsX0_join wsX0_write := goodIn_r _ [30, 13, 35, 36, 37, 38, 39, 40, 41] (by decide +kernel) (by decide +kernel)
set_option maxRecDepth 20000 in
theorem gX0_join_X0_write : GoodIn wsX0_join (wsV RX0 71 RX0 yX0_write wsX0_write) := goodIn_app (goodIn_of _ (by decide +kernel)) ggX0_join_X0_write
set_option maxRecDepth 20000 in
theorem ggX0_join_X0_nonZeros : GoodIn wsX0_join wsX0_nonZeros := goodIn_r _ [34, 3, 9, 10, 11, 7, 12, 13, 35, 36, 37, 38, 39, 40, 41] (by decide +kernel) (by decide +kernel)
set_option maxRecDepth 20000 in
theorem gX0_join_X0_nonZeros : GoodIn wsX0_join (wsV RX0 111 RX0 yX0_nonZeros wsX0_nonZeros) := goodIn_app (goodIn_of _ (by decide +kernel)) ggX0_join_X0_nonZeros
theorem dX0_join_0 : decode cX0_join 0 = .ok (.aload_n 0, 1) := by decide +kernel
theorem dX0_join_1 : decode cX0_join 1 = .ok (.iload_n 1, 1) := by decide +kernel
theorem dX0_join_2 : decode cX0_join 2 = .ok (.invokevirtual 59, 3) := by decide +kernel
theorem dX0_join_5 : decode cX0_join 5 = .ok (.aload_n 0, 1) := by decide +kernel
theorem dX0_join_6 : decode cX0_join 6 = .ok (.iload_n 2, 1) := by decide +kernel
theorem dX0_join_7 : decode cX0_join 7 = .ok (.invokevirtual 59, 3) := by decide +kernel
theorem dX0_join_10 : decode cX0_join 10 = .ok (.iload_n 3, 1) := by decide +kernel
theorem dX0_join_11 : decode cX0_join 11 = .ok (.ifCond .lt 8, 3) := by decide +kernel
theorem dX0_join_14 : decode cX0_join 14 = .ok (.iload_n 3, 1) := by decide +kernel
theorem dX0_join_15 : decode cX0_join 15 = .ok (.iconst 3, 1) := by decide +kernel
theorem dX0_join_16 : decode cX0_join 16 = .ok (.if_icmp .lt 13, 3) := by decide +kernel
theorem dX0_join_19 : decode cX0_join 19 = .ok (.new 93, 3) := by decide +kernel
theorem dX0_join_22 : decode cX0_join 22 = .ok (.dup, 1) := by decide +kernel
theorem dX0_join_23 : decode cX0_join 23 = .ok (.ldc 106, 2) := by decide +kernel
theorem dX0_join_25 : decode cX0_join 25 = .ok (.invokespecial 97, 3) := by decide +kernel
theorem dX0_join_28 : decode cX0_join 28 = .ok (.athrow, 1) := by decide +kernel
theorem dX0_join_29 : decode cX0_join 29 = .ok (.iconst 0, 1) := by decide +kernel
theorem dX0_join_30 : decode cX0_join 30 = .ok (.istore 4, 2) := by decide +kernel
theorem dX0_join_32 : decode cX0_join 32 = .ok (.iload 4, 2) := by decide +kernel
theorem dX0_join_34 : decode cX0_join 34 = .ok (.aload_n 0, 1) := by decide +kernel
theorem dX0_join_35 : decode cX0_join 35 = .ok (.getfield 84, 3) := by decide +kernel
theorem dX0_join_38 : decode cX0_join 38 = .ok (.if_icmp .ge 35, 3) := by decide +kernel
theorem dX0_join_41 : decode cX0_join 41 = .ok (.aload_n 0, 1) := by decide +kernel
theorem dX0_join_42 : decode cX0_join 42 = .ok (.iload_n 1, 1) := by decide +kernel
theorem dX0_join_43 : decode cX0_join 43 = .ok (.iload 4, 2) := by decide +kernel
theorem dX0_join_45 : decode cX0_join 45 = .ok (.aload_n 0, 1) := by decide +kernel
theorem dX0_join_46 : decode cX0_join 46 = .ok (.aload_n 0, 1) := by decide +kernel
theorem dX0_join_47 : decode cX0_join 47 = .ok (.iload_n 1, 1) := by decide +kernel
theorem dX0_join_48 : decode cX0_join 48 = .ok (.iload 4, 2) := by decide +kernel
theorem dX0_join_50 : decode cX0_join 50 = .ok (.invokevirtual 68, 3) := by decide +kernel
theorem dX0_join_53 : decode cX0_join 53 = .ok (.aload_n 0, 1) := by decide +kernel
theorem dX0_join_54 : decode cX0_join 54 = .ok (.iload_n 2, 1) := by decide +kernel
theorem dX0_join_55 : decode cX0_join 55 = .ok (.iload 4, 2) := by decide +kernel
theorem dX0_join_57 : decode cX0_join 57 = .ok (.invokevirtual 68, 3) := by decide +kernel
theorem dX0_join_60 : decode cX0_join 60 = .ok (.iload_n 3, 1) := by decide +kernel
theorem dX0_join_61 : decode cX0_join 61 = .ok (.invokevirtual 108, 3) := by decide +kernel
theorem dX0_join_64 : decode cX0_join 64 = .ok (.invokevirtual 71, 3) := by decide +kernel
theorem dX0_join_67 : decode cX0_join 67 = .ok (.iinc 4 1, 3) := by decide +kernel
theorem dX0_join_70 : decode cX0_join 70 = .ok (.goto (-38), 3) := by decide +kernel
theorem dX0_join_73 : decode cX0_join 73 = .ok (.aload_n 0, 1) := by decide +kernel
theorem dX0_join_74 : decode cX0_join 74 = .ok (.iload_n 1, 1) := by decide +kernel
theorem dX0_join_75 : decode cX0_join 75 = .ok (.invokevirtual 111, 3) := by decide +kernel
theorem dX0_join_78 : decode cX0_join 78 = .ok (.ireturn, 1) := by decide +kernel
set_option maxRecDepth 20000 in
theorem ggX0_move_X0_requireRow : GoodIn wsX0_move wsX0_requireRow := goodIn_ca (goodIn_r _ [8, 9, 10] (by decide +kernel) (by decide +kernel)) (goodIn_sub (fun _ h => List.mem_cons_of_mem _ (List.mem_append_right _ h)) (by decide +kernel))
set_option maxRecDepth 20000 in
theorem gX0_move_X0_requireRow : GoodIn wsX0_move (wsV RX0 59 RX0 yX0_requireRow wsX0_requireRow) := goodIn_app (goodIn_of _ (by decide +kernel)) ggX0_move_X0_requireRow
set_option maxRecDepth 20000 in
theorem ggX0_move_X0_wrapped : GoodIn wsX0_move wsX0_wrapped := goodIn_r _ [14, 3, 28, 29, 30, 31, 32, 33, 34] (by decide +kernel) (by decide +kernel)
set_option maxRecDepth 20000 in
theorem gX0_move_X0_wrapped : GoodIn wsX0_move (wsV RX0 116 RX0 yX0_wrapped wsX0_wrapped) := goodIn_app (goodIn_of _ (by decide +kernel)) ggX0_move_X0_wrapped
set_option maxRecDepth 20000 in
theorem ggX0_move_X0_read : GoodIn wsX0_move wsX0_read := goodIn_r _ [18, 19, 28, 29, 30, 31, 32, 33, 34] (by decide +kernel) (by decide +kernel)
set_option maxRecDepth 20000 in
theorem gX0_move_X0_read : GoodIn wsX0_move (wsV RX0 68 RX0 yX0_read wsX0_read) := goodIn_app (goodIn_of _ (by decide +kernel)) ggX0_move_X0_read
set_option maxRecDepth 20000 in
theorem ggX0_move_X0_write : GoodIn wsX0_move wsX0_write := goodIn_r _ [23, 19, 28, 29, 30, 31, 32, 33, 34] (by decide +kernel) (by decide +kernel)
set_option maxRecDepth 20000 in
theorem gX0_move_X0_write : GoodIn wsX0_move (wsV RX0 71 RX0 yX0_write wsX0_write) := goodIn_app (goodIn_of _ (by decide +kernel)) ggX0_move_X0_write
set_option maxRecDepth 20000 in
theorem ggX0_move_X0_copyRow : GoodIn wsX0_move wsX0_copyRow := goodIn_r _ [27, 3, 15, 16, 17, 7, 18, 19, 20, 21, 22, 23, 28, 29, 30, 31, 32, 33, 34] (by decide +kernel) (by decide +kernel)
set_option maxRecDepth 20000 in
theorem gX0_move_X0_copyRow : GoodIn wsX0_move (wsV RX0 75 RX0 yX0_copyRow wsX0_copyRow) := goodIn_app (goodIn_of _ (by decide +kernel)) ggX0_move_X0_copyRow
theorem dX0_move_0 : decode cX0_move 0 = .ok (.aload_n 0, 1) := by decide +kernel
theorem dX0_move_1 : decode cX0_move 1 = .ok (.iload_n 1, 1) := by decide +kernel
theorem dX0_move_2 : decode cX0_move 2 = .ok (.invokevirtual 59, 3) := by decide +kernel
theorem dX0_move_5 : decode cX0_move 5 = .ok (.iload_n 2, 1) := by decide +kernel
theorem dX0_move_6 : decode cX0_move 6 = .ok (.ifCond .lt 11, 3) := by decide +kernel
theorem dX0_move_9 : decode cX0_move 9 = .ok (.iload_n 2, 1) := by decide +kernel
theorem dX0_move_10 : decode cX0_move 10 = .ok (.aload_n 0, 1) := by decide +kernel
theorem dX0_move_11 : decode cX0_move 11 = .ok (.getfield 84, 3) := by decide +kernel
theorem dX0_move_14 : decode cX0_move 14 = .ok (.if_icmp .lt 13, 3) := by decide +kernel
theorem dX0_move_17 : decode cX0_move 17 = .ok (.new 28, 3) := by decide +kernel
theorem dX0_move_20 : decode cX0_move 20 = .ok (.dup, 1) := by decide +kernel
theorem dX0_move_21 : decode cX0_move 21 = .ok (.ldc 114, 2) := by decide +kernel
theorem dX0_move_23 : decode cX0_move 23 = .ok (.invokespecial 32, 3) := by decide +kernel
theorem dX0_move_26 : decode cX0_move 26 = .ok (.athrow, 1) := by decide +kernel
theorem dX0_move_27 : decode cX0_move 27 = .ok (.iconst 0, 1) := by decide +kernel
theorem dX0_move_28 : decode cX0_move 28 = .ok (.istore_n 3, 1) := by decide +kernel
theorem dX0_move_29 : decode cX0_move 29 = .ok (.iload_n 3, 1) := by decide +kernel
theorem dX0_move_30 : decode cX0_move 30 = .ok (.aload_n 0, 1) := by decide +kernel
theorem dX0_move_31 : decode cX0_move 31 = .ok (.getfield 84, 3) := by decide +kernel
theorem dX0_move_34 : decode cX0_move 34 = .ok (.if_icmp .ge 27, 3) := by decide +kernel
theorem dX0_move_37 : decode cX0_move 37 = .ok (.aload_n 0, 1) := by decide +kernel
theorem dX0_move_38 : decode cX0_move 38 = .ok (.iconst 4, 1) := by decide +kernel
theorem dX0_move_39 : decode cX0_move 39 = .ok (.aload_n 0, 1) := by decide +kernel
theorem dX0_move_40 : decode cX0_move 40 = .ok (.iload_n 3, 1) := by decide +kernel
theorem dX0_move_41 : decode cX0_move 41 = .ok (.iload_n 2, 1) := by decide +kernel
theorem dX0_move_42 : decode cX0_move 42 = .ok (.iadd, 1) := by decide +kernel
theorem dX0_move_43 : decode cX0_move 43 = .ok (.invokevirtual 116, 3) := by decide +kernel
theorem dX0_move_46 : decode cX0_move 46 = .ok (.aload_n 0, 1) := by decide +kernel
theorem dX0_move_47 : decode cX0_move 47 = .ok (.iload_n 1, 1) := by decide +kernel
theorem dX0_move_48 : decode cX0_move 48 = .ok (.iload_n 3, 1) := by decide +kernel
theorem dX0_move_49 : decode cX0_move 49 = .ok (.invokevirtual 68, 3) := by decide +kernel
theorem dX0_move_52 : decode cX0_move 52 = .ok (.invokevirtual 71, 3) := by decide +kernel
theorem dX0_move_55 : decode cX0_move 55 = .ok (.iinc 3 1, 3) := by decide +kernel
theorem dX0_move_58 : decode cX0_move 58 = .ok (.goto (-29), 3) := by decide +kernel
theorem dX0_move_61 : decode cX0_move 61 = .ok (.aload_n 0, 1) := by decide +kernel
theorem dX0_move_62 : decode cX0_move 62 = .ok (.iconst 4, 1) := by decide +kernel
theorem dX0_move_63 : decode cX0_move 63 = .ok (.iload_n 1, 1) := by decide +kernel
theorem dX0_move_64 : decode cX0_move 64 = .ok (.invokevirtual 75, 3) := by decide +kernel
theorem dX0_move_67 : decode cX0_move 67 = .ok (.pop, 1) := by decide +kernel
theorem dX0_move_68 : decode cX0_move 68 = .ok (.aload_n 0, 1) := by decide +kernel
theorem dX0_move_69 : decode cX0_move 69 = .ok (.iload_n 1, 1) := by decide +kernel
theorem dX0_move_70 : decode cX0_move 70 = .ok (.iconst 0, 1) := by decide +kernel
theorem dX0_move_71 : decode cX0_move 71 = .ok (.invokevirtual 68, 3) := by decide +kernel
theorem dX0_move_74 : decode cX0_move 74 = .ok (.ireturn, 1) := by decide +kernel
set_option maxRecDepth 20000 in
theorem ggX0_times_X0_requireRow : GoodIn wsX0_times wsX0_requireRow := goodIn_ca (goodIn_r _ [6, 7, 8] (by decide +kernel) (by decide +kernel)) (goodIn_sub (fun _ h => List.mem_cons_of_mem _ (List.mem_append_left _ (List.mem_append_right _ h))) (by decide +kernel))
set_option maxRecDepth 20000 in
theorem gX0_times_X0_requireRow : GoodIn wsX0_times (wsV RX0 59 RX0 yX0_requireRow wsX0_requireRow) := goodIn_app (goodIn_of _ (by decide +kernel)) ggX0_times_X0_requireRow
set_option maxRecDepth 20000 in
theorem ggX0_times_X0_requireNumber : GoodIn wsX0_times wsX0_requireNumber := goodIn_ca (goodIn_r _ [12, 13, 14, 15, 37, 38, 39, 40, 41, 42, 43] (by decide +kernel) (by decide +kernel)) (goodIn_sub (fun _ h => List.mem_cons_of_mem _ (List.mem_append_right _ h)) (by decide +kernel))
set_option maxRecDepth 20000 in
theorem gX0_times_X0_requireNumber : GoodIn wsX0_times (wsV RX0 65 RX0 yX0_requireNumber wsX0_requireNumber) := goodIn_app (goodIn_of _ (by decide +kernel)) ggX0_times_X0_requireNumber
set_option maxRecDepth 20000 in
theorem ggX0_times_X0_read : GoodIn wsX0_times wsX0_read := goodIn_r _ [19, 20, 37, 38, 39, 40, 41, 42, 43] (by decide +kernel) (by decide +kernel)
set_option maxRecDepth 20000 in
theorem gX0_times_X0_read : GoodIn wsX0_times (wsV RX0 68 RX0 yX0_read wsX0_read) := goodIn_app (goodIn_of _ (by decide +kernel)) ggX0_times_X0_read
set_option maxRecDepth 20000 in
theorem ggX0_times_X0_reduced : GoodIn wsX0_times wsX0_reduced := goodIn_r _ [24, 15, 25, 26, 27, 28, 37, 38, 39, 40, 41, 42, 43] (by decide +kernel) (by decide +kernel)
set_option maxRecDepth 20000 in
theorem gX0_times_X0_reduced : GoodIn wsX0_times (wsV RX0 46 RX0 yX0_reduced wsX0_reduced) := goodIn_app (goodIn_of _ (by decide +kernel)) ggX0_times_X0_reduced
set_option maxRecDepth 20000 in
theorem ggX0_times_X0_write : GoodIn wsX0_times wsX0_write := goodIn_r _ [32, 20, 37, 38, 39, 40, 41, 42, 43] (by decide +kernel) (by decide +kernel)
set_option maxRecDepth 20000 in
theorem gX0_times_X0_write : GoodIn wsX0_times (wsV RX0 71 RX0 yX0_write wsX0_write) := goodIn_app (goodIn_of _ (by decide +kernel)) ggX0_times_X0_write
set_option maxRecDepth 20000 in
theorem ggX0_times_X0_nonZeros : GoodIn wsX0_times wsX0_nonZeros := goodIn_r _ [36, 1, 16, 17, 18, 5, 19, 20, 37, 38, 39, 40, 41, 42, 43] (by decide +kernel) (by decide +kernel)
set_option maxRecDepth 20000 in
theorem gX0_times_X0_nonZeros : GoodIn wsX0_times (wsV RX0 111 RX0 yX0_nonZeros wsX0_nonZeros) := goodIn_app (goodIn_of _ (by decide +kernel)) ggX0_times_X0_nonZeros
theorem dX0_times_0 : decode cX0_times 0 = .ok (.aload_n 0, 1) := by decide +kernel
theorem dX0_times_1 : decode cX0_times 1 = .ok (.iload_n 1, 1) := by decide +kernel
theorem dX0_times_2 : decode cX0_times 2 = .ok (.invokevirtual 59, 3) := by decide +kernel
theorem dX0_times_5 : decode cX0_times 5 = .ok (.aload_n 0, 1) := by decide +kernel
theorem dX0_times_6 : decode cX0_times 6 = .ok (.iload_n 2, 1) := by decide +kernel
theorem dX0_times_7 : decode cX0_times 7 = .ok (.invokevirtual 65, 3) := by decide +kernel
theorem dX0_times_10 : decode cX0_times 10 = .ok (.iconst 0, 1) := by decide +kernel
theorem dX0_times_11 : decode cX0_times 11 = .ok (.istore_n 3, 1) := by decide +kernel
theorem dX0_times_12 : decode cX0_times 12 = .ok (.iload_n 3, 1) := by decide +kernel
theorem dX0_times_13 : decode cX0_times 13 = .ok (.aload_n 0, 1) := by decide +kernel
theorem dX0_times_14 : decode cX0_times 14 = .ok (.getfield 84, 3) := by decide +kernel
theorem dX0_times_17 : decode cX0_times 17 = .ok (.if_icmp .ge 27, 3) := by decide +kernel
theorem dX0_times_20 : decode cX0_times 20 = .ok (.aload_n 0, 1) := by decide +kernel
theorem dX0_times_21 : decode cX0_times 21 = .ok (.iload_n 1, 1) := by decide +kernel
theorem dX0_times_22 : decode cX0_times 22 = .ok (.iload_n 3, 1) := by decide +kernel
theorem dX0_times_23 : decode cX0_times 23 = .ok (.aload_n 0, 1) := by decide +kernel
theorem dX0_times_24 : decode cX0_times 24 = .ok (.aload_n 0, 1) := by decide +kernel
theorem dX0_times_25 : decode cX0_times 25 = .ok (.iload_n 1, 1) := by decide +kernel
theorem dX0_times_26 : decode cX0_times 26 = .ok (.iload_n 3, 1) := by decide +kernel
theorem dX0_times_27 : decode cX0_times 27 = .ok (.invokevirtual 68, 3) := by decide +kernel
theorem dX0_times_30 : decode cX0_times 30 = .ok (.iload_n 2, 1) := by decide +kernel
theorem dX0_times_31 : decode cX0_times 31 = .ok (.imul, 1) := by decide +kernel
theorem dX0_times_32 : decode cX0_times 32 = .ok (.invokevirtual 46, 3) := by decide +kernel
theorem dX0_times_35 : decode cX0_times 35 = .ok (.invokevirtual 71, 3) := by decide +kernel
theorem dX0_times_38 : decode cX0_times 38 = .ok (.iinc 3 1, 3) := by decide +kernel
theorem dX0_times_41 : decode cX0_times 41 = .ok (.goto (-29), 3) := by decide +kernel
theorem dX0_times_44 : decode cX0_times 44 = .ok (.aload_n 0, 1) := by decide +kernel
theorem dX0_times_45 : decode cX0_times 45 = .ok (.iload_n 1, 1) := by decide +kernel
theorem dX0_times_46 : decode cX0_times 46 = .ok (.invokevirtual 111, 3) := by decide +kernel
theorem dX0_times_49 : decode cX0_times 49 = .ok (.ireturn, 1) := by decide +kernel
set_option maxRecDepth 20000 in
theorem ggX0_at_X0_requireRow : GoodIn wsX0_at wsX0_requireRow := goodIn_ca (goodIn_r _ [5, 6, 7] (by decide +kernel) (by decide +kernel)) (goodIn_sub (fun _ h => List.mem_cons_of_mem _ (List.mem_append_right _ h)) (by decide +kernel))
set_option maxRecDepth 20000 in
theorem gX0_at_X0_requireRow : GoodIn wsX0_at (wsV RX0 59 RX0 yX0_requireRow wsX0_requireRow) := goodIn_app (goodIn_of _ (by decide +kernel)) ggX0_at_X0_requireRow
set_option maxRecDepth 20000 in
theorem ggX0_at_X0_requirePlace : GoodIn wsX0_at wsX0_requirePlace := goodIn_ca (goodIn_r _ [11, 6, 7, 12, 18, 19, 20, 21, 22, 23, 24] (by decide +kernel) (by decide +kernel)) (goodIn_sub (fun _ h => List.mem_cons_of_mem _ (List.mem_append_right _ h)) (by decide +kernel))
set_option maxRecDepth 20000 in
theorem gX0_at_X0_requirePlace : GoodIn wsX0_at (wsV RX0 62 RX0 yX0_requirePlace wsX0_requirePlace) := goodIn_app (goodIn_of _ (by decide +kernel)) ggX0_at_X0_requirePlace
set_option maxRecDepth 20000 in
theorem ggX0_at_X0_read : GoodIn wsX0_at wsX0_read := goodIn_r _ [16, 17, 18, 19, 20, 21, 22, 23, 24] (by decide +kernel) (by decide +kernel)
set_option maxRecDepth 20000 in
theorem gX0_at_X0_read : GoodIn wsX0_at (wsV RX0 68 RX0 yX0_read wsX0_read) := goodIn_app (goodIn_of _ (by decide +kernel)) ggX0_at_X0_read
theorem dX0_at_0 : decode cX0_at 0 = .ok (.aload_n 0, 1) := by decide +kernel
theorem dX0_at_1 : decode cX0_at 1 = .ok (.iload_n 1, 1) := by decide +kernel
theorem dX0_at_2 : decode cX0_at 2 = .ok (.invokevirtual 59, 3) := by decide +kernel
theorem dX0_at_5 : decode cX0_at 5 = .ok (.aload_n 0, 1) := by decide +kernel
theorem dX0_at_6 : decode cX0_at 6 = .ok (.iload_n 2, 1) := by decide +kernel
theorem dX0_at_7 : decode cX0_at 7 = .ok (.invokevirtual 62, 3) := by decide +kernel
theorem dX0_at_10 : decode cX0_at 10 = .ok (.aload_n 0, 1) := by decide +kernel
theorem dX0_at_11 : decode cX0_at 11 = .ok (.iload_n 1, 1) := by decide +kernel
theorem dX0_at_12 : decode cX0_at 12 = .ok (.iload_n 2, 1) := by decide +kernel
theorem dX0_at_13 : decode cX0_at 13 = .ok (.invokevirtual 68, 3) := by decide +kernel
theorem dX0_at_16 : decode cX0_at 16 = .ok (.ireturn, 1) := by decide +kernel
set_option maxRecDepth 20000 in
theorem ggX0_point_X0_requireRow : GoodIn wsX0_point wsX0_requireRow := goodIn_ca (goodIn_r _ [5, 6, 7] (by decide +kernel) (by decide +kernel)) (goodIn_sub (fun _ h => List.mem_cons_of_mem _ (List.mem_append_left _ (List.mem_append_right _ h))) (by decide +kernel))
set_option maxRecDepth 20000 in
theorem gX0_point_X0_requireRow : GoodIn wsX0_point (wsV RX0 59 RX0 yX0_requireRow wsX0_requireRow) := goodIn_app (goodIn_of _ (by decide +kernel)) ggX0_point_X0_requireRow
set_option maxRecDepth 20000 in
theorem ggX0_point_X0_requireNumber : GoodIn wsX0_point wsX0_requireNumber := goodIn_ca (goodIn_r _ [11, 12, 13, 14, 33, 34, 35, 36, 37, 38, 39] (by decide +kernel) (by decide +kernel)) (goodIn_sub (fun _ h => List.mem_cons_of_mem _ (List.mem_append_right _ h)) (by decide +kernel))
set_option maxRecDepth 20000 in
theorem gX0_point_X0_requireNumber : GoodIn wsX0_point (wsV RX0 65 RX0 yX0_requireNumber wsX0_requireNumber) := goodIn_app (goodIn_of _ (by decide +kernel)) ggX0_point_X0_requireNumber
set_option maxRecDepth 20000 in
theorem ggX0_point_X0_valueAt : GoodIn wsX0_point wsX0_valueAt := goodIn_r _ [18, 19, 20, 21, 22, 4, 23, 24, 25, 26, 27, 28, 14, 29, 30, 31, 32, 33, 34, 35, 36, 37, 38, 39] (by decide +kernel) (by decide +kernel)
set_option maxRecDepth 20000 in
theorem gX0_point_X0_valueAt : GoodIn wsX0_point (wsV RX0 119 RX0 yX0_valueAt wsX0_valueAt) := goodIn_app (goodIn_of _ (by decide +kernel)) ggX0_point_X0_valueAt
theorem dX0_point_0 : decode cX0_point 0 = .ok (.aload_n 0, 1) := by decide +kernel
theorem dX0_point_1 : decode cX0_point 1 = .ok (.iload_n 1, 1) := by decide +kernel
theorem dX0_point_2 : decode cX0_point 2 = .ok (.invokevirtual 59, 3) := by decide +kernel
theorem dX0_point_5 : decode cX0_point 5 = .ok (.aload_n 0, 1) := by decide +kernel
theorem dX0_point_6 : decode cX0_point 6 = .ok (.iload_n 2, 1) := by decide +kernel
theorem dX0_point_7 : decode cX0_point 7 = .ok (.invokevirtual 65, 3) := by decide +kernel
theorem dX0_point_10 : decode cX0_point 10 = .ok (.aload_n 0, 1) := by decide +kernel
theorem dX0_point_11 : decode cX0_point 11 = .ok (.iload_n 1, 1) := by decide +kernel
theorem dX0_point_12 : decode cX0_point 12 = .ok (.iload_n 2, 1) := by decide +kernel
theorem dX0_point_13 : decode cX0_point 13 = .ok (.invokevirtual 119, 3) := by decide +kernel
theorem dX0_point_16 : decode cX0_point 16 = .ok (.ireturn, 1) := by decide +kernel
set_option maxRecDepth 20000 in
theorem ggX0_about_X0_requireRow : GoodIn wsX0_about wsX0_requireRow := goodIn_ca (goodIn_r _ [7, 1, 2] (by decide +kernel) (by decide +kernel)) (goodIn_sub (fun _ h => List.mem_cons_of_mem _ (List.mem_append_right _ h)) (by decide +kernel))
set_option maxRecDepth 20000 in
theorem gX0_about_X0_requireRow : GoodIn wsX0_about (wsV RX0 59 RX0 yX0_requireRow wsX0_requireRow) := goodIn_app (goodIn_of _ (by decide +kernel)) ggX0_about_X0_requireRow
set_option maxRecDepth 20000 in
theorem ggX0_about_X0_told : GoodIn wsX0_about wsX0_told := goodIn_r _ [11, 12, 13, 14, 6, 15, 16, 17, 18, 19, 20, 21, 22, 23, 24, 25, 26, 27, 28, 29, 30, 31, 32, 33, 34, 35, 36, 37, 38, 39, 40, 41, 42, 43, 44, 45, 46, 47, 48, 49, 50, 51, 52, 53, 54, 55, 56, 57, 58, 59, 60, 61, 62, 63, 64, 65] (by decide +kernel) (by decide +kernel)
set_option maxRecDepth 20000 in
theorem gX0_about_X0_told : GoodIn wsX0_about (wsV RX0 124 RX0 yX0_told wsX0_told) := goodIn_app (goodIn_of _ (by decide +kernel)) ggX0_about_X0_told
theorem dX0_about_0 : decode cX0_about 0 = .ok (.aload_n 0, 1) := by decide +kernel
theorem dX0_about_1 : decode cX0_about 1 = .ok (.iload_n 1, 1) := by decide +kernel
theorem dX0_about_2 : decode cX0_about 2 = .ok (.invokevirtual 59, 3) := by decide +kernel
theorem dX0_about_5 : decode cX0_about 5 = .ok (.iload_n 2, 1) := by decide +kernel
theorem dX0_about_6 : decode cX0_about 6 = .ok (.ifCond .lt 8, 3) := by decide +kernel
theorem dX0_about_9 : decode cX0_about 9 = .ok (.iload_n 2, 1) := by decide +kernel
theorem dX0_about_10 : decode cX0_about 10 = .ok (.iconst 5, 1) := by decide +kernel
theorem dX0_about_11 : decode cX0_about 11 = .ok (.if_icmp .lt 13, 3) := by decide +kernel
theorem dX0_about_14 : decode cX0_about 14 = .ok (.new 93, 3) := by decide +kernel
theorem dX0_about_17 : decode cX0_about 17 = .ok (.dup, 1) := by decide +kernel
theorem dX0_about_18 : decode cX0_about 18 = .ok (.ldc 122, 2) := by decide +kernel
theorem dX0_about_20 : decode cX0_about 20 = .ok (.invokespecial 97, 3) := by decide +kernel
theorem dX0_about_23 : decode cX0_about 23 = .ok (.athrow, 1) := by decide +kernel
theorem dX0_about_24 : decode cX0_about 24 = .ok (.aload_n 0, 1) := by decide +kernel
theorem dX0_about_25 : decode cX0_about 25 = .ok (.iload_n 1, 1) := by decide +kernel
theorem dX0_about_26 : decode cX0_about 26 = .ok (.iload_n 2, 1) := by decide +kernel
theorem dX0_about_27 : decode cX0_about 27 = .ok (.invokevirtual 124, 3) := by decide +kernel
theorem dX0_about_30 : decode cX0_about 30 = .ok (.ireturn, 1) := by decide +kernel
set_option maxRecDepth 20000 in
theorem ggX0_count_X0_counted : GoodIn wsX0_count wsX0_counted := goodIn_r _ [7, 8, 9, 10, 11, 12, 13, 14, 15, 16, 17, 18, 19, 20] (by decide +kernel) (by decide +kernel)
set_option maxRecDepth 20000 in
theorem gX0_count_X0_counted : GoodIn wsX0_count (wsV RX0 129 RX0 yX0_counted wsX0_counted) := goodIn_app (goodIn_of _ (by decide +kernel)) ggX0_count_X0_counted
theorem dX0_count_0 : decode cX0_count 0 = .ok (.iload_n 1, 1) := by decide +kernel
theorem dX0_count_1 : decode cX0_count 1 = .ok (.ifCond .lt 9, 3) := by decide +kernel
theorem dX0_count_4 : decode cX0_count 4 = .ok (.iload_n 1, 1) := by decide +kernel
theorem dX0_count_5 : decode cX0_count 5 = .ok (.bipush 6, 2) := by decide +kernel
theorem dX0_count_7 : decode cX0_count 7 = .ok (.if_icmp .lt 13, 3) := by decide +kernel
theorem dX0_count_10 : decode cX0_count 10 = .ok (.new 93, 3) := by decide +kernel
theorem dX0_count_13 : decode cX0_count 13 = .ok (.dup, 1) := by decide +kernel
theorem dX0_count_14 : decode cX0_count 14 = .ok (.ldc 127, 2) := by decide +kernel
theorem dX0_count_16 : decode cX0_count 16 = .ok (.invokespecial 97, 3) := by decide +kernel
theorem dX0_count_19 : decode cX0_count 19 = .ok (.athrow, 1) := by decide +kernel
theorem dX0_count_20 : decode cX0_count 20 = .ok (.aload_n 0, 1) := by decide +kernel
theorem dX0_count_21 : decode cX0_count 21 = .ok (.iload_n 1, 1) := by decide +kernel
theorem dX0_count_22 : decode cX0_count 22 = .ok (.invokevirtual 129, 3) := by decide +kernel
theorem dX0_count_25 : decode cX0_count 25 = .ok (.ireturn, 1) := by decide +kernel
set_option maxRecDepth 20000 in
theorem ggX0_would_X0_requireRow : GoodIn wsX0_would wsX0_requireRow := goodIn_ca (goodIn_r _ [5, 6, 7] (by decide +kernel) (by decide +kernel)) (goodIn_sub (fun _ h => List.mem_cons_of_mem _ (List.mem_append_right _ h)) (by decide +kernel))
set_option maxRecDepth 20000 in
theorem gX0_would_X0_requireRow : GoodIn wsX0_would (wsV RX0 59 RX0 yX0_requireRow wsX0_requireRow) := goodIn_app (goodIn_of _ (by decide +kernel)) ggX0_would_X0_requireRow
set_option maxRecDepth 20000 in
theorem ggX0_would_X0_requirePlace : GoodIn wsX0_would wsX0_requirePlace := goodIn_ca (goodIn_r _ [11, 6, 7, 12, 35, 36, 37, 38, 39, 40, 41] (by decide +kernel) (by decide +kernel)) (goodIn_sub (fun _ h => List.mem_cons_of_mem _ (List.mem_append_right _ h)) (by decide +kernel))
set_option maxRecDepth 20000 in
theorem gX0_would_X0_requirePlace : GoodIn wsX0_would (wsV RX0 62 RX0 yX0_requirePlace wsX0_requirePlace) := goodIn_app (goodIn_of _ (by decide +kernel)) ggX0_would_X0_requirePlace
set_option maxRecDepth 20000 in
theorem ggX0_would_X0_foldedAt : GoodIn wsX0_would wsX0_foldedAt := goodIn_r _ [16, 12, 17, 18, 19, 4, 20, 21, 22, 23, 24, 25, 26, 27, 28, 29, 30, 31, 32, 33, 34, 35, 36, 37, 38, 39, 40, 41] (by decide +kernel) (by decide +kernel)
set_option maxRecDepth 20000 in
theorem gX0_would_X0_foldedAt : GoodIn wsX0_would (wsV RX0 102 RX0 yX0_foldedAt wsX0_foldedAt) := goodIn_app (goodIn_of _ (by decide +kernel)) ggX0_would_X0_foldedAt
theorem dX0_would_0 : decode cX0_would 0 = .ok (.aload_n 0, 1) := by decide +kernel
theorem dX0_would_1 : decode cX0_would 1 = .ok (.iload_n 1, 1) := by decide +kernel
theorem dX0_would_2 : decode cX0_would 2 = .ok (.invokevirtual 59, 3) := by decide +kernel
theorem dX0_would_5 : decode cX0_would 5 = .ok (.aload_n 0, 1) := by decide +kernel
theorem dX0_would_6 : decode cX0_would 6 = .ok (.iload_n 2, 1) := by decide +kernel
theorem dX0_would_7 : decode cX0_would 7 = .ok (.invokevirtual 59, 3) := by decide +kernel
theorem dX0_would_10 : decode cX0_would 10 = .ok (.aload_n 0, 1) := by decide +kernel
theorem dX0_would_11 : decode cX0_would 11 = .ok (.iload_n 3, 1) := by decide +kernel
theorem dX0_would_12 : decode cX0_would 12 = .ok (.invokevirtual 62, 3) := by decide +kernel
theorem dX0_would_15 : decode cX0_would 15 = .ok (.aload_n 0, 1) := by decide +kernel
theorem dX0_would_16 : decode cX0_would 16 = .ok (.iload_n 1, 1) := by decide +kernel
theorem dX0_would_17 : decode cX0_would 17 = .ok (.iload_n 2, 1) := by decide +kernel
theorem dX0_would_18 : decode cX0_would 18 = .ok (.iload_n 3, 1) := by decide +kernel
theorem dX0_would_19 : decode cX0_would 19 = .ok (.invokevirtual 102, 3) := by decide +kernel
theorem dX0_would_22 : decode cX0_would 22 = .ok (.ireturn, 1) := by decide +kernel
set_option maxRecDepth 20000 in
theorem ggX0_comes_X0_requireRow : GoodIn wsX0_comes wsX0_requireRow := goodIn_ca (goodIn_r _ [6, 7, 8] (by decide +kernel) (by decide +kernel)) (goodIn_sub (fun _ h => List.mem_cons_of_mem _ (List.mem_append_right _ h)) (by decide +kernel))
set_option maxRecDepth 20000 in
theorem gX0_comes_X0_requireRow : GoodIn wsX0_comes (wsV RX0 59 RX0 yX0_requireRow wsX0_requireRow) := goodIn_app (goodIn_of _ (by decide +kernel)) ggX0_comes_X0_requireRow
set_option maxRecDepth 20000 in
theorem ggX0_comes_X0_isWhenMoved : GoodIn wsX0_comes wsX0_isWhenMoved := goodIn_r _ [12, 1, 13, 14, 15, 5, 16, 17, 18, 19, 20, 21, 22, 23, 24, 25, 26, 27, 28] (by decide +kernel) (by decide +kernel)
set_option maxRecDepth 20000 in
theorem gX0_comes_X0_isWhenMoved : GoodIn wsX0_comes (wsV RX0 132 RX0 yX0_isWhenMoved wsX0_isWhenMoved) := goodIn_app (goodIn_of _ (by decide +kernel)) ggX0_comes_X0_isWhenMoved
theorem dX0_comes_0 : decode cX0_comes 0 = .ok (.aload_n 0, 1) := by decide +kernel
theorem dX0_comes_1 : decode cX0_comes 1 = .ok (.iload_n 1, 1) := by decide +kernel
theorem dX0_comes_2 : decode cX0_comes 2 = .ok (.invokevirtual 59, 3) := by decide +kernel
theorem dX0_comes_5 : decode cX0_comes 5 = .ok (.aload_n 0, 1) := by decide +kernel
theorem dX0_comes_6 : decode cX0_comes 6 = .ok (.iload_n 2, 1) := by decide +kernel
theorem dX0_comes_7 : decode cX0_comes 7 = .ok (.invokevirtual 59, 3) := by decide +kernel
theorem dX0_comes_10 : decode cX0_comes 10 = .ok (.iconst 0, 1) := by decide +kernel
theorem dX0_comes_11 : decode cX0_comes 11 = .ok (.istore_n 3, 1) := by decide +kernel
theorem dX0_comes_12 : decode cX0_comes 12 = .ok (.iload_n 3, 1) := by decide +kernel
theorem dX0_comes_13 : decode cX0_comes 13 = .ok (.aload_n 0, 1) := by decide +kernel
theorem dX0_comes_14 : decode cX0_comes 14 = .ok (.getfield 84, 3) := by decide +kernel
theorem dX0_comes_17 : decode cX0_comes 17 = .ok (.if_icmp .ge 21, 3) := by decide +kernel
theorem dX0_comes_20 : decode cX0_comes 20 = .ok (.aload_n 0, 1) := by decide +kernel
theorem dX0_comes_21 : decode cX0_comes 21 = .ok (.iload_n 1, 1) := by decide +kernel
theorem dX0_comes_22 : decode cX0_comes 22 = .ok (.iload_n 3, 1) := by decide +kernel
theorem dX0_comes_23 : decode cX0_comes 23 = .ok (.iload_n 2, 1) := by decide +kernel
theorem dX0_comes_24 : decode cX0_comes 24 = .ok (.invokevirtual 132, 3) := by decide +kernel
theorem dX0_comes_27 : decode cX0_comes 27 = .ok (.ifCond .eq 5, 3) := by decide +kernel
theorem dX0_comes_30 : decode cX0_comes 30 = .ok (.iload_n 3, 1) := by decide +kernel
theorem dX0_comes_31 : decode cX0_comes 31 = .ok (.ireturn, 1) := by decide +kernel
theorem dX0_comes_32 : decode cX0_comes 32 = .ok (.iinc 3 1, 3) := by decide +kernel
theorem dX0_comes_35 : decode cX0_comes 35 = .ok (.goto (-23), 3) := by decide +kernel
theorem dX0_comes_38 : decode cX0_comes 38 = .ok (.iconst (-1), 1) := by decide +kernel
theorem dX0_comes_39 : decode cX0_comes 39 = .ok (.ireturn, 1) := by decide +kernel
set_option maxRecDepth 20000 in
theorem ggX0_tones_X0_requireRow : GoodIn wsX0_tones wsX0_requireRow := goodIn_ca (goodIn_r _ [5, 6, 7] (by decide +kernel) (by decide +kernel)) (goodIn_sub (fun _ h => List.mem_cons_of_mem _ (List.mem_append_right _ h)) (by decide +kernel))
set_option maxRecDepth 20000 in
theorem gX0_tones_X0_requireRow : GoodIn wsX0_tones (wsV RX0 59 RX0 yX0_requireRow wsX0_requireRow) := goodIn_app (goodIn_of _ (by decide +kernel)) ggX0_tones_X0_requireRow
set_option maxRecDepth 20000 in
theorem ggX0_tones_X0_scratchTones : GoodIn wsX0_tones wsX0_scratchTones := goodIn_r _ [11, 12, 13, 14, 15, 4, 16, 17, 18, 19, 20, 21, 22, 23, 24, 25, 26, 27, 28, 29, 30, 31, 32, 33, 34, 35, 36, 37, 38, 39, 48, 49, 50, 51, 52, 53, 54] (by decide +kernel) (by decide +kernel)
set_option maxRecDepth 20000 in
theorem gX0_tones_X0_scratchTones : GoodIn wsX0_tones (wsV RX0 81 RX0 yX0_scratchTones wsX0_scratchTones) := goodIn_app (goodIn_of _ (by decide +kernel)) ggX0_tones_X0_scratchTones
set_option maxRecDepth 20000 in
theorem ggX0_tones_X0_isWhenMoved : GoodIn wsX0_tones wsX0_isWhenMoved := goodIn_r _ [43, 17, 44, 45, 46, 4, 47, 22, 23, 24, 25, 26, 48, 49, 50, 51, 52, 53, 54] (by decide +kernel) (by decide +kernel)
set_option maxRecDepth 20000 in
theorem gX0_tones_X0_isWhenMoved : GoodIn wsX0_tones (wsV RX0 132 RX0 yX0_isWhenMoved wsX0_isWhenMoved) := goodIn_app (goodIn_of _ (by decide +kernel)) ggX0_tones_X0_isWhenMoved
theorem dX0_tones_0 : decode cX0_tones 0 = .ok (.aload_n 0, 1) := by decide +kernel
theorem dX0_tones_1 : decode cX0_tones 1 = .ok (.iload_n 1, 1) := by decide +kernel
theorem dX0_tones_2 : decode cX0_tones 2 = .ok (.invokevirtual 59, 3) := by decide +kernel
theorem dX0_tones_5 : decode cX0_tones 5 = .ok (.aload_n 0, 1) := by decide +kernel
theorem dX0_tones_6 : decode cX0_tones 6 = .ok (.iload_n 2, 1) := by decide +kernel
theorem dX0_tones_7 : decode cX0_tones 7 = .ok (.invokevirtual 59, 3) := by decide +kernel
theorem dX0_tones_10 : decode cX0_tones 10 = .ok (.aload_n 0, 1) := by decide +kernel
theorem dX0_tones_11 : decode cX0_tones 11 = .ok (.iload_n 1, 1) := by decide +kernel
theorem dX0_tones_12 : decode cX0_tones 12 = .ok (.invokevirtual 81, 3) := by decide +kernel
theorem dX0_tones_15 : decode cX0_tones 15 = .ok (.aload_n 0, 1) := by decide +kernel
theorem dX0_tones_16 : decode cX0_tones 16 = .ok (.iconst 4, 1) := by decide +kernel
theorem dX0_tones_17 : decode cX0_tones 17 = .ok (.iconst 0, 1) := by decide +kernel
theorem dX0_tones_18 : decode cX0_tones 18 = .ok (.iload_n 2, 1) := by decide +kernel
theorem dX0_tones_19 : decode cX0_tones 19 = .ok (.invokevirtual 132, 3) := by decide +kernel
theorem dX0_tones_22 : decode cX0_tones 22 = .ok (.ireturn, 1) := by decide +kernel
set_option maxRecDepth 20000 in
theorem ggX0_mean_X0_requireRow : GoodIn wsX0_mean wsX0_requireRow := goodIn_ca (goodIn_r _ [6, 7, 8] (by decide +kernel) (by decide +kernel)) (goodIn_sub (fun _ h => List.mem_cons_of_mem _ (List.mem_append_right _ h)) (by decide +kernel))
set_option maxRecDepth 20000 in
theorem gX0_mean_X0_requireRow : GoodIn wsX0_mean (wsV RX0 59 RX0 yX0_requireRow wsX0_requireRow) := goodIn_app (goodIn_of _ (by decide +kernel)) ggX0_mean_X0_requireRow
set_option maxRecDepth 20000 in
theorem ggX0_mean_X0_plainSum : GoodIn wsX0_mean wsX0_plainSum := goodIn_r _ [12, 1, 13, 14, 15, 5, 16, 17, 18, 19, 20, 21, 22, 23, 24] (by decide +kernel) (by decide +kernel)
set_option maxRecDepth 20000 in
theorem gX0_mean_X0_plainSum : GoodIn wsX0_mean (wsV RX0 139 RX0 yX0_plainSum wsX0_plainSum) := goodIn_app (goodIn_of _ (by decide +kernel)) ggX0_mean_X0_plainSum
theorem dX0_mean_0 : decode cX0_mean 0 = .ok (.aload_n 0, 1) := by decide +kernel
theorem dX0_mean_1 : decode cX0_mean 1 = .ok (.iload_n 1, 1) := by decide +kernel
theorem dX0_mean_2 : decode cX0_mean 2 = .ok (.invokevirtual 59, 3) := by decide +kernel
theorem dX0_mean_5 : decode cX0_mean 5 = .ok (.aload_n 0, 1) := by decide +kernel
theorem dX0_mean_6 : decode cX0_mean 6 = .ok (.getfield 84, 3) := by decide +kernel
theorem dX0_mean_9 : decode cX0_mean 9 = .ok (.ifCond .le 18, 3) := by decide +kernel
theorem dX0_mean_12 : decode cX0_mean 12 = .ok (.aload_n 0, 1) := by decide +kernel
theorem dX0_mean_13 : decode cX0_mean 13 = .ok (.iload_n 1, 1) := by decide +kernel
theorem dX0_mean_14 : decode cX0_mean 14 = .ok (.invokevirtual 139, 3) := by decide +kernel
theorem dX0_mean_17 : decode cX0_mean 17 = .ok (.i2d, 1) := by decide +kernel
theorem dX0_mean_18 : decode cX0_mean 18 = .ok (.aload_n 0, 1) := by decide +kernel
theorem dX0_mean_19 : decode cX0_mean 19 = .ok (.getfield 84, 3) := by decide +kernel
theorem dX0_mean_22 : decode cX0_mean 22 = .ok (.i2d, 1) := by decide +kernel
theorem dX0_mean_23 : decode cX0_mean 23 = .ok (.ddiv, 1) := by decide +kernel
theorem dX0_mean_24 : decode cX0_mean 24 = .ok (.goto 4, 3) := by decide +kernel
theorem dX0_mean_27 : decode cX0_mean 27 = .ok (.dconst 0, 1) := by decide +kernel
theorem dX0_mean_28 : decode cX0_mean 28 = .ok (.dreturn, 1) := by decide +kernel
set_option maxRecDepth 20000 in
theorem ggX0_digest_X0_counted : GoodIn wsX0_digest wsX0_counted := goodIn_r _ [7, 8, 9, 10, 11, 12, 13, 83, 84, 85, 86, 87, 88, 89] (by decide +kernel) (by decide +kernel)
set_option maxRecDepth 20000 in
theorem gX0_digest_X0_counted : GoodIn wsX0_digest (wsV RX0 129 RX0 yX0_counted wsX0_counted) := goodIn_app (goodIn_of _ (by decide +kernel)) ggX0_digest_X0_counted
set_option maxRecDepth 20000 in
theorem ggX0_digest_X0_digestRow : GoodIn wsX0_digest wsX0_digestRow := goodIn_r _ [17, 8, 2, 18, 19, 20, 6, 21, 22, 83, 84, 85, 86, 87, 88, 89] (by decide +kernel) (by decide +kernel)
set_option maxRecDepth 20000 in
theorem gX0_digest_X0_digestRow : GoodIn wsX0_digest (wsV RX0 146 RX0 yX0_digestRow wsX0_digestRow) := goodIn_app (goodIn_of _ (by decide +kernel)) ggX0_digest_X0_digestRow
set_option maxRecDepth 20000 in
theorem ggX0_digest_X0_told : GoodIn wsX0_digest wsX0_told := goodIn_r _ [26, 27, 28, 29, 6, 30, 8, 18, 19, 20, 21, 22, 31, 32, 33, 34, 9, 35, 36, 37, 38, 39, 40, 41, 42, 43, 44, 45, 46, 47, 48, 49, 50, 51, 52, 53, 54, 55, 56, 57, 58, 59, 60, 61, 62, 63, 64, 65, 66, 83, 84, 85, 86, 87, 88, 89] (by decide +kernel) (by decide +kernel)
set_option maxRecDepth 20000 in
theorem gX0_digest_X0_told : GoodIn wsX0_digest (wsV RX0 124 RX0 yX0_told wsX0_told) := goodIn_app (goodIn_of _ (by decide +kernel)) ggX0_digest_X0_told
set_option maxRecDepth 20000 in
theorem ggX0_digest_X0_scratchTones : GoodIn wsX0_digest wsX0_scratchTones := goodIn_r _ [70, 10, 71, 72, 73, 6, 74, 8, 75, 76, 77, 78, 18, 19, 20, 21, 22, 31, 32, 33, 34, 9, 35, 36, 37, 38, 79, 80, 81, 82, 83, 84, 85, 86, 87, 88, 89] (by decide +kernel) (by decide +kernel)
set_option maxRecDepth 20000 in
theorem gX0_digest_X0_scratchTones : GoodIn wsX0_digest (wsV RX0 81 RX0 yX0_scratchTones wsX0_scratchTones) := goodIn_app (goodIn_of _ (by decide +kernel)) ggX0_digest_X0_scratchTones
theorem dX0_digest_0 : decode cX0_digest 0 = .ok (.ldc2_w 142, 3) := by decide +kernel
theorem dX0_digest_3 : decode cX0_digest 3 = .ok (.lstore_n 1, 1) := by decide +kernel
theorem dX0_digest_4 : decode cX0_digest 4 = .ok (.iconst 0, 1) := by decide +kernel
theorem dX0_digest_5 : decode cX0_digest 5 = .ok (.istore_n 3, 1) := by decide +kernel
theorem dX0_digest_6 : decode cX0_digest 6 = .ok (.iload_n 3, 1) := by decide +kernel
theorem dX0_digest_7 : decode cX0_digest 7 = .ok (.bipush 6, 2) := by decide +kernel
theorem dX0_digest_9 : decode cX0_digest 9 = .ok (.if_icmp .ge 22, 3) := by decide +kernel
theorem dX0_digest_12 : decode cX0_digest 12 = .ok (.lload_n 1, 1) := by decide +kernel
theorem dX0_digest_13 : decode cX0_digest 13 = .ok (.ldc2_w 144, 3) := by decide +kernel
theorem dX0_digest_16 : decode cX0_digest 16 = .ok (.lmul, 1) := by decide +kernel
theorem dX0_digest_17 : decode cX0_digest 17 = .ok (.aload_n 0, 1) := by decide +kernel
theorem dX0_digest_18 : decode cX0_digest 18 = .ok (.iload_n 3, 1) := by decide +kernel
theorem dX0_digest_19 : decode cX0_digest 19 = .ok (.invokevirtual 129, 3) := by decide +kernel
theorem dX0_digest_22 : decode cX0_digest 22 = .ok (.i2l, 1) := by decide +kernel
theorem dX0_digest_23 : decode cX0_digest 23 = .ok (.ladd, 1) := by decide +kernel
theorem dX0_digest_24 : decode cX0_digest 24 = .ok (.lstore_n 1, 1) := by decide +kernel
theorem dX0_digest_25 : decode cX0_digest 25 = .ok (.iinc 3 1, 3) := by decide +kernel
theorem dX0_digest_28 : decode cX0_digest 28 = .ok (.goto (-22), 3) := by decide +kernel
theorem dX0_digest_31 : decode cX0_digest 31 = .ok (.iconst 0, 1) := by decide +kernel
theorem dX0_digest_32 : decode cX0_digest 32 = .ok (.istore_n 3, 1) := by decide +kernel
theorem dX0_digest_33 : decode cX0_digest 33 = .ok (.iload_n 3, 1) := by decide +kernel
theorem dX0_digest_34 : decode cX0_digest 34 = .ok (.iconst 4, 1) := by decide +kernel
theorem dX0_digest_35 : decode cX0_digest 35 = .ok (.if_icmp .ge 58, 3) := by decide +kernel
theorem dX0_digest_38 : decode cX0_digest 38 = .ok (.aload_n 0, 1) := by decide +kernel
theorem dX0_digest_39 : decode cX0_digest 39 = .ok (.lload_n 1, 1) := by decide +kernel
theorem dX0_digest_40 : decode cX0_digest 40 = .ok (.iload_n 3, 1) := by decide +kernel
theorem dX0_digest_41 : decode cX0_digest 41 = .ok (.invokevirtual 146, 3) := by decide +kernel
theorem dX0_digest_44 : decode cX0_digest 44 = .ok (.lstore_n 1, 1) := by decide +kernel
theorem dX0_digest_45 : decode cX0_digest 45 = .ok (.iconst 0, 1) := by decide +kernel
theorem dX0_digest_46 : decode cX0_digest 46 = .ok (.istore 4, 2) := by decide +kernel
theorem dX0_digest_48 : decode cX0_digest 48 = .ok (.iload 4, 2) := by decide +kernel
theorem dX0_digest_50 : decode cX0_digest 50 = .ok (.iconst 5, 1) := by decide +kernel
theorem dX0_digest_51 : decode cX0_digest 51 = .ok (.if_icmp .ge 24, 3) := by decide +kernel
theorem dX0_digest_54 : decode cX0_digest 54 = .ok (.lload_n 1, 1) := by decide +kernel
theorem dX0_digest_55 : decode cX0_digest 55 = .ok (.ldc2_w 144, 3) := by decide +kernel
theorem dX0_digest_58 : decode cX0_digest 58 = .ok (.lmul, 1) := by decide +kernel
theorem dX0_digest_59 : decode cX0_digest 59 = .ok (.aload_n 0, 1) := by decide +kernel
theorem dX0_digest_60 : decode cX0_digest 60 = .ok (.iload_n 3, 1) := by decide +kernel
theorem dX0_digest_61 : decode cX0_digest 61 = .ok (.iload 4, 2) := by decide +kernel
theorem dX0_digest_63 : decode cX0_digest 63 = .ok (.invokevirtual 124, 3) := by decide +kernel
theorem dX0_digest_66 : decode cX0_digest 66 = .ok (.i2l, 1) := by decide +kernel
theorem dX0_digest_67 : decode cX0_digest 67 = .ok (.ladd, 1) := by decide +kernel
theorem dX0_digest_68 : decode cX0_digest 68 = .ok (.lstore_n 1, 1) := by decide +kernel
theorem dX0_digest_69 : decode cX0_digest 69 = .ok (.iinc 4 1, 3) := by decide +kernel
theorem dX0_digest_72 : decode cX0_digest 72 = .ok (.goto (-24), 3) := by decide +kernel
theorem dX0_digest_75 : decode cX0_digest 75 = .ok (.aload_n 0, 1) := by decide +kernel
theorem dX0_digest_76 : decode cX0_digest 76 = .ok (.iload_n 3, 1) := by decide +kernel
theorem dX0_digest_77 : decode cX0_digest 77 = .ok (.invokevirtual 81, 3) := by decide +kernel
theorem dX0_digest_80 : decode cX0_digest 80 = .ok (.aload_n 0, 1) := by decide +kernel
theorem dX0_digest_81 : decode cX0_digest 81 = .ok (.lload_n 1, 1) := by decide +kernel
theorem dX0_digest_82 : decode cX0_digest 82 = .ok (.iconst 4, 1) := by decide +kernel
theorem dX0_digest_83 : decode cX0_digest 83 = .ok (.invokevirtual 146, 3) := by decide +kernel
theorem dX0_digest_86 : decode cX0_digest 86 = .ok (.lstore_n 1, 1) := by decide +kernel
theorem dX0_digest_87 : decode cX0_digest 87 = .ok (.iinc 3 1, 3) := by decide +kernel
theorem dX0_digest_90 : decode cX0_digest 90 = .ok (.goto (-57), 3) := by decide +kernel
theorem dX0_digest_93 : decode cX0_digest 93 = .ok (.lload_n 1, 1) := by decide +kernel
theorem dX0_digest_94 : decode cX0_digest 94 = .ok (.lreturn, 1) := by decide +kernel
theorem dX0_requireRow_0 : decode cX0_requireRow 0 = .ok (.iload_n 1, 1) := by decide +kernel
theorem dX0_requireRow_1 : decode cX0_requireRow 1 = .ok (.ifCond .lt 8, 3) := by decide +kernel
theorem dX0_requireRow_4 : decode cX0_requireRow 4 = .ok (.iload_n 1, 1) := by decide +kernel
theorem dX0_requireRow_5 : decode cX0_requireRow 5 = .ok (.iconst 4, 1) := by decide +kernel
theorem dX0_requireRow_6 : decode cX0_requireRow 6 = .ok (.if_icmp .lt 13, 3) := by decide +kernel
theorem dX0_requireRow_9 : decode cX0_requireRow 9 = .ok (.new 93, 3) := by decide +kernel
theorem dX0_requireRow_12 : decode cX0_requireRow 12 = .ok (.dup, 1) := by decide +kernel
theorem dX0_requireRow_13 : decode cX0_requireRow 13 = .ok (.ldc 150, 2) := by decide +kernel
theorem dX0_requireRow_15 : decode cX0_requireRow 15 = .ok (.invokespecial 97, 3) := by decide +kernel
theorem dX0_requireRow_18 : decode cX0_requireRow 18 = .ok (.athrow, 1) := by decide +kernel
theorem dX0_requireRow_19 : decode cX0_requireRow 19 = .ok (.return_, 1) := by decide +kernel
theorem dX0_requirePlace_0 : decode cX0_requirePlace 0 = .ok (.iload_n 1, 1) := by decide +kernel
theorem dX0_requirePlace_1 : decode cX0_requirePlace 1 = .ok (.ifCond .lt 11, 3) := by decide +kernel
theorem dX0_requirePlace_4 : decode cX0_requirePlace 4 = .ok (.iload_n 1, 1) := by decide +kernel
theorem dX0_requirePlace_5 : decode cX0_requirePlace 5 = .ok (.aload_n 0, 1) := by decide +kernel
theorem dX0_requirePlace_6 : decode cX0_requirePlace 6 = .ok (.getfield 84, 3) := by decide +kernel
theorem dX0_requirePlace_9 : decode cX0_requirePlace 9 = .ok (.if_icmp .lt 13, 3) := by decide +kernel
theorem dX0_requirePlace_12 : decode cX0_requirePlace 12 = .ok (.new 93, 3) := by decide +kernel
theorem dX0_requirePlace_15 : decode cX0_requirePlace 15 = .ok (.dup, 1) := by decide +kernel
theorem dX0_requirePlace_16 : decode cX0_requirePlace 16 = .ok (.ldc 152, 2) := by decide +kernel
theorem dX0_requirePlace_18 : decode cX0_requirePlace 18 = .ok (.invokespecial 97, 3) := by decide +kernel
theorem dX0_requirePlace_21 : decode cX0_requirePlace 21 = .ok (.athrow, 1) := by decide +kernel
theorem dX0_requirePlace_22 : decode cX0_requirePlace 22 = .ok (.return_, 1) := by decide +kernel
theorem dX0_requireNumber_0 : decode cX0_requireNumber 0 = .ok (.iload_n 1, 1) := by decide +kernel
theorem dX0_requireNumber_1 : decode cX0_requireNumber 1 = .ok (.ifCond .lt 11, 3) := by decide +kernel
theorem dX0_requireNumber_4 : decode cX0_requireNumber 4 = .ok (.iload_n 1, 1) := by decide +kernel
theorem dX0_requireNumber_5 : decode cX0_requireNumber 5 = .ok (.aload_n 0, 1) := by decide +kernel
theorem dX0_requireNumber_6 : decode cX0_requireNumber 6 = .ok (.getfield 43, 3) := by decide +kernel
theorem dX0_requireNumber_9 : decode cX0_requireNumber 9 = .ok (.if_icmp .lt 13, 3) := by decide +kernel
theorem dX0_requireNumber_12 : decode cX0_requireNumber 12 = .ok (.new 28, 3) := by decide +kernel
theorem dX0_requireNumber_15 : decode cX0_requireNumber 15 = .ok (.dup, 1) := by decide +kernel
theorem dX0_requireNumber_16 : decode cX0_requireNumber 16 = .ok (.ldc 154, 2) := by decide +kernel
theorem dX0_requireNumber_18 : decode cX0_requireNumber 18 = .ok (.invokespecial 32, 3) := by decide +kernel
theorem dX0_requireNumber_21 : decode cX0_requireNumber 21 = .ok (.athrow, 1) := by decide +kernel
theorem dX0_requireNumber_22 : decode cX0_requireNumber 22 = .ok (.return_, 1) := by decide +kernel
theorem dX0_requireInvertible_0 : decode cX0_requireInvertible 0 = .ok (.iload_n 1, 1) := by decide +kernel
theorem dX0_requireInvertible_1 : decode cX0_requireInvertible 1 = .ok (.iconst 1, 1) := by decide +kernel
theorem dX0_requireInvertible_2 : decode cX0_requireInvertible 2 = .ok (.if_icmp .lt 11, 3) := by decide +kernel
theorem dX0_requireInvertible_5 : decode cX0_requireInvertible 5 = .ok (.iload_n 1, 1) := by decide +kernel
theorem dX0_requireInvertible_6 : decode cX0_requireInvertible 6 = .ok (.aload_n 0, 1) := by decide +kernel
theorem dX0_requireInvertible_7 : decode cX0_requireInvertible 7 = .ok (.getfield 43, 3) := by decide +kernel
theorem dX0_requireInvertible_10 : decode cX0_requireInvertible 10 = .ok (.if_icmp .lt 13, 3) := by decide +kernel
theorem dX0_requireInvertible_13 : decode cX0_requireInvertible 13 = .ok (.new 28, 3) := by decide +kernel
theorem dX0_requireInvertible_16 : decode cX0_requireInvertible 16 = .ok (.dup, 1) := by decide +kernel
theorem dX0_requireInvertible_17 : decode cX0_requireInvertible 17 = .ok (.ldc 156, 2) := by decide +kernel
theorem dX0_requireInvertible_19 : decode cX0_requireInvertible 19 = .ok (.invokespecial 32, 3) := by decide +kernel
theorem dX0_requireInvertible_22 : decode cX0_requireInvertible 22 = .ok (.athrow, 1) := by decide +kernel
theorem dX0_requireInvertible_23 : decode cX0_requireInvertible 23 = .ok (.return_, 1) := by decide +kernel
theorem dX0_isLength_0 : decode cX0_isLength 0 = .ok (.iload_n 0, 1) := by decide +kernel
theorem dX0_isLength_1 : decode cX0_isLength 1 = .ok (.iconst 4, 1) := by decide +kernel
theorem dX0_isLength_2 : decode cX0_isLength 2 = .ok (.if_icmp .eq 15, 3) := by decide +kernel
theorem dX0_isLength_5 : decode cX0_isLength 5 = .ok (.iload_n 0, 1) := by decide +kernel
theorem dX0_isLength_6 : decode cX0_isLength 6 = .ok (.bipush 8, 2) := by decide +kernel
theorem dX0_isLength_8 : decode cX0_isLength 8 = .ok (.if_icmp .eq 9, 3) := by decide +kernel
theorem dX0_isLength_11 : decode cX0_isLength 11 = .ok (.iload_n 0, 1) := by decide +kernel
theorem dX0_isLength_12 : decode cX0_isLength 12 = .ok (.bipush 16, 2) := by decide +kernel
theorem dX0_isLength_14 : decode cX0_isLength 14 = .ok (.if_icmp .ne 7, 3) := by decide +kernel
theorem dX0_isLength_17 : decode cX0_isLength 17 = .ok (.iconst 1, 1) := by decide +kernel
theorem dX0_isLength_18 : decode cX0_isLength 18 = .ok (.goto 4, 3) := by decide +kernel
theorem dX0_isLength_21 : decode cX0_isLength 21 = .ok (.iconst 0, 1) := by decide +kernel
theorem dX0_isLength_22 : decode cX0_isLength 22 = .ok (.ireturn, 1) := by decide +kernel
set_option maxRecDepth 20000 in
theorem ggX0_isPrimeOfRing_X0_divides : GoodIn wsX0_isPrimeOfRing wsX0_divides := goodIn_r _ [4] (by decide +kernel) (by decide +kernel)
set_option maxRecDepth 20000 in
theorem gX0_isPrimeOfRing_X0_divides : GoodIn wsX0_isPrimeOfRing (va_wsS RX0 24 yX0_divides wsX0_divides) := goodIn_app (goodIn_of _ (by decide +kernel)) ggX0_isPrimeOfRing_X0_divides
theorem dX0_isPrimeOfRing_0 : decode cX0_isPrimeOfRing 0 = .ok (.iload_n 0, 1) := by decide +kernel
theorem dX0_isPrimeOfRing_1 : decode cX0_isPrimeOfRing 1 = .ok (.iconst 5, 1) := by decide +kernel
theorem dX0_isPrimeOfRing_2 : decode cX0_isPrimeOfRing 2 = .ok (.if_icmp .lt 10, 3) := by decide +kernel
theorem dX0_isPrimeOfRing_5 : decode cX0_isPrimeOfRing 5 = .ok (.iload_n 0, 1) := by decide +kernel
theorem dX0_isPrimeOfRing_6 : decode cX0_isPrimeOfRing 6 = .ok (.sipush 499, 3) := by decide +kernel
theorem dX0_isPrimeOfRing_9 : decode cX0_isPrimeOfRing 9 = .ok (.if_icmp .le 5, 3) := by decide +kernel
theorem dX0_isPrimeOfRing_12 : decode cX0_isPrimeOfRing 12 = .ok (.iconst 0, 1) := by decide +kernel
theorem dX0_isPrimeOfRing_13 : decode cX0_isPrimeOfRing 13 = .ok (.ireturn, 1) := by decide +kernel
theorem dX0_isPrimeOfRing_14 : decode cX0_isPrimeOfRing 14 = .ok (.iconst 2, 1) := by decide +kernel
theorem dX0_isPrimeOfRing_15 : decode cX0_isPrimeOfRing 15 = .ok (.istore_n 1, 1) := by decide +kernel
theorem dX0_isPrimeOfRing_16 : decode cX0_isPrimeOfRing 16 = .ok (.iload_n 1, 1) := by decide +kernel
theorem dX0_isPrimeOfRing_17 : decode cX0_isPrimeOfRing 17 = .ok (.iload_n 1, 1) := by decide +kernel
theorem dX0_isPrimeOfRing_18 : decode cX0_isPrimeOfRing 18 = .ok (.imul, 1) := by decide +kernel
theorem dX0_isPrimeOfRing_19 : decode cX0_isPrimeOfRing 19 = .ok (.iload_n 0, 1) := by decide +kernel
theorem dX0_isPrimeOfRing_20 : decode cX0_isPrimeOfRing 20 = .ok (.if_icmp .gt 19, 3) := by decide +kernel
theorem dX0_isPrimeOfRing_23 : decode cX0_isPrimeOfRing 23 = .ok (.iload_n 1, 1) := by decide +kernel
theorem dX0_isPrimeOfRing_24 : decode cX0_isPrimeOfRing 24 = .ok (.iload_n 0, 1) := by decide +kernel
theorem dX0_isPrimeOfRing_25 : decode cX0_isPrimeOfRing 25 = .ok (.invokestatic 24, 3) := by decide +kernel
theorem dX0_isPrimeOfRing_28 : decode cX0_isPrimeOfRing 28 = .ok (.ifCond .eq 5, 3) := by decide +kernel
theorem dX0_isPrimeOfRing_31 : decode cX0_isPrimeOfRing 31 = .ok (.iconst 0, 1) := by decide +kernel
theorem dX0_isPrimeOfRing_32 : decode cX0_isPrimeOfRing 32 = .ok (.ireturn, 1) := by decide +kernel
theorem dX0_isPrimeOfRing_33 : decode cX0_isPrimeOfRing 33 = .ok (.iinc 1 1, 3) := by decide +kernel
theorem dX0_isPrimeOfRing_36 : decode cX0_isPrimeOfRing 36 = .ok (.goto (-20), 3) := by decide +kernel
theorem dX0_isPrimeOfRing_39 : decode cX0_isPrimeOfRing 39 = .ok (.iconst 1, 1) := by decide +kernel
theorem dX0_isPrimeOfRing_40 : decode cX0_isPrimeOfRing 40 = .ok (.ireturn, 1) := by decide +kernel
theorem dX0_divides_0 : decode cX0_divides 0 = .ok (.iload_n 0, 1) := by decide +kernel
theorem dX0_divides_1 : decode cX0_divides 1 = .ok (.ifCond .le 13, 3) := by decide +kernel
theorem dX0_divides_4 : decode cX0_divides 4 = .ok (.iload_n 1, 1) := by decide +kernel
theorem dX0_divides_5 : decode cX0_divides 5 = .ok (.iload_n 0, 1) := by decide +kernel
theorem dX0_divides_6 : decode cX0_divides 6 = .ok (.irem, 1) := by decide +kernel
theorem dX0_divides_7 : decode cX0_divides 7 = .ok (.ifCond .ne 7, 3) := by decide +kernel
theorem dX0_divides_10 : decode cX0_divides 10 = .ok (.iconst 1, 1) := by decide +kernel
theorem dX0_divides_11 : decode cX0_divides 11 = .ok (.goto 4, 3) := by decide +kernel
theorem dX0_divides_14 : decode cX0_divides 14 = .ok (.iconst 0, 1) := by decide +kernel
theorem dX0_divides_15 : decode cX0_divides 15 = .ok (.ireturn, 1) := by decide +kernel
set_option maxRecDepth 20000 in
theorem ggX0_takeRing_X0_smallestRoot : GoodIn wsX0_takeRing wsX0_smallestRoot := goodIn_r _ [12, 2, 1, 13, 14, 15, 11, 16, 17, 18, 19, 20, 21, 22, 23, 24, 29, 30, 31, 32, 33, 34, 35] (by decide +kernel) (by decide +kernel)
set_option maxRecDepth 20000 in
theorem gX0_takeRing_X0_smallestRoot : GoodIn wsX0_takeRing (wsV RX0 158 RX0 yX0_smallestRoot wsX0_smallestRoot) := goodIn_app (goodIn_of _ (by decide +kernel)) ggX0_takeRing_X0_smallestRoot
set_option maxRecDepth 20000 in
theorem ggX0_takeRing_X0_inverseOf : GoodIn wsX0_takeRing wsX0_inverseOf := goodIn_r _ [28, 2, 13, 14, 15, 11, 16, 17, 18, 19, 20, 21, 22, 23, 24, 29, 30, 31, 32, 33, 34, 35] (by decide +kernel) (by decide +kernel)
set_option maxRecDepth 20000 in
theorem gX0_takeRing_X0_inverseOf : GoodIn wsX0_takeRing (wsV RX0 50 RX0 yX0_inverseOf wsX0_inverseOf) := goodIn_app (goodIn_of _ (by decide +kernel)) ggX0_takeRing_X0_inverseOf
theorem dX0_takeRing_0 : decode cX0_takeRing 0 = .ok (.aload_n 0, 1) := by decide +kernel
theorem dX0_takeRing_1 : decode cX0_takeRing 1 = .ok (.iload_n 1, 1) := by decide +kernel
theorem dX0_takeRing_2 : decode cX0_takeRing 2 = .ok (.putfield 84, 3) := by decide +kernel
theorem dX0_takeRing_5 : decode cX0_takeRing 5 = .ok (.aload_n 0, 1) := by decide +kernel
theorem dX0_takeRing_6 : decode cX0_takeRing 6 = .ok (.iload_n 2, 1) := by decide +kernel
theorem dX0_takeRing_7 : decode cX0_takeRing 7 = .ok (.putfield 43, 3) := by decide +kernel
theorem dX0_takeRing_10 : decode cX0_takeRing 10 = .ok (.aload_n 0, 1) := by decide +kernel
theorem dX0_takeRing_11 : decode cX0_takeRing 11 = .ok (.iload_n 1, 1) := by decide +kernel
theorem dX0_takeRing_12 : decode cX0_takeRing 12 = .ok (.iconst 4, 1) := by decide +kernel
theorem dX0_takeRing_13 : decode cX0_takeRing 13 = .ok (.if_icmp .ne 7, 3) := by decide +kernel
theorem dX0_takeRing_16 : decode cX0_takeRing 16 = .ok (.iconst 2, 1) := by decide +kernel
theorem dX0_takeRing_17 : decode cX0_takeRing 17 = .ok (.goto 14, 3) := by decide +kernel
theorem dX0_takeRing_20 : decode cX0_takeRing 20 = .ok (.iload_n 1, 1) := by decide +kernel
theorem dX0_takeRing_21 : decode cX0_takeRing 21 = .ok (.bipush 8, 2) := by decide +kernel
theorem dX0_takeRing_23 : decode cX0_takeRing 23 = .ok (.if_icmp .ne 7, 3) := by decide +kernel
theorem dX0_takeRing_26 : decode cX0_takeRing 26 = .ok (.iconst 3, 1) := by decide +kernel
theorem dX0_takeRing_27 : decode cX0_takeRing 27 = .ok (.goto 4, 3) := by decide +kernel
theorem dX0_takeRing_30 : decode cX0_takeRing 30 = .ok (.iconst 4, 1) := by decide +kernel
theorem dX0_takeRing_31 : decode cX0_takeRing 31 = .ok (.putfield 90, 3) := by decide +kernel
theorem dX0_takeRing_34 : decode cX0_takeRing 34 = .ok (.aload_n 0, 1) := by decide +kernel
theorem dX0_takeRing_35 : decode cX0_takeRing 35 = .ok (.aload_n 0, 1) := by decide +kernel
theorem dX0_takeRing_36 : decode cX0_takeRing 36 = .ok (.invokevirtual 158, 3) := by decide +kernel
theorem dX0_takeRing_39 : decode cX0_takeRing 39 = .ok (.putfield 35, 3) := by decide +kernel
theorem dX0_takeRing_42 : decode cX0_takeRing 42 = .ok (.aload_n 0, 1) := by decide +kernel
theorem dX0_takeRing_43 : decode cX0_takeRing 43 = .ok (.aload_n 0, 1) := by decide +kernel
theorem dX0_takeRing_44 : decode cX0_takeRing 44 = .ok (.aload_n 0, 1) := by decide +kernel
theorem dX0_takeRing_45 : decode cX0_takeRing 45 = .ok (.getfield 35, 3) := by decide +kernel
theorem dX0_takeRing_48 : decode cX0_takeRing 48 = .ok (.invokevirtual 50, 3) := by decide +kernel
theorem dX0_takeRing_51 : decode cX0_takeRing 51 = .ok (.putfield 162, 3) := by decide +kernel
theorem dX0_takeRing_54 : decode cX0_takeRing 54 = .ok (.aload_n 0, 1) := by decide +kernel
theorem dX0_takeRing_55 : decode cX0_takeRing 55 = .ok (.aload_n 0, 1) := by decide +kernel
theorem dX0_takeRing_56 : decode cX0_takeRing 56 = .ok (.iload_n 1, 1) := by decide +kernel
theorem dX0_takeRing_57 : decode cX0_takeRing 57 = .ok (.invokevirtual 50, 3) := by decide +kernel
theorem dX0_takeRing_60 : decode cX0_takeRing 60 = .ok (.putfield 165, 3) := by decide +kernel
theorem dX0_takeRing_63 : decode cX0_takeRing 63 = .ok (.iconst 0, 1) := by decide +kernel
theorem dX0_takeRing_64 : decode cX0_takeRing 64 = .ok (.istore_n 3, 1) := by decide +kernel
theorem dX0_takeRing_65 : decode cX0_takeRing 65 = .ok (.iload_n 3, 1) := by decide +kernel
theorem dX0_takeRing_66 : decode cX0_takeRing 66 = .ok (.aload_n 0, 1) := by decide +kernel
theorem dX0_takeRing_67 : decode cX0_takeRing 67 = .ok (.getfield 9, 3) := by decide +kernel
theorem dX0_takeRing_70 : decode cX0_takeRing 70 = .ok (.arraylength, 1) := by decide +kernel
theorem dX0_takeRing_71 : decode cX0_takeRing 71 = .ok (.if_icmp .ge 16, 3) := by decide +kernel
theorem dX0_takeRing_74 : decode cX0_takeRing 74 = .ok (.aload_n 0, 1) := by decide +kernel
theorem dX0_takeRing_75 : decode cX0_takeRing 75 = .ok (.getfield 9, 3) := by decide +kernel
theorem dX0_takeRing_78 : decode cX0_takeRing 78 = .ok (.iload_n 3, 1) := by decide +kernel
theorem dX0_takeRing_79 : decode cX0_takeRing 79 = .ok (.iconst 0, 1) := by decide +kernel
theorem dX0_takeRing_80 : decode cX0_takeRing 80 = .ok (.iastore, 1) := by decide +kernel
theorem dX0_takeRing_81 : decode cX0_takeRing 81 = .ok (.iinc 3 1, 3) := by decide +kernel
theorem dX0_takeRing_84 : decode cX0_takeRing 84 = .ok (.goto (-19), 3) := by decide +kernel
theorem dX0_takeRing_87 : decode cX0_takeRing 87 = .ok (.return_, 1) := by decide +kernel
set_option maxRecDepth 20000 in
theorem ggX0_smallestRoot_X0_powerOf : GoodIn wsX0_smallestRoot wsX0_powerOf := goodIn_r _ [7, 8, 9, 10, 6, 11, 1, 12, 13, 14, 15, 16, 17, 18, 19, 20, 21, 22] (by decide +kernel) (by decide +kernel)
set_option maxRecDepth 20000 in
theorem gX0_smallestRoot_X0_powerOf : GoodIn wsX0_smallestRoot (wsV RX0 55 RX0 yX0_powerOf wsX0_powerOf) := goodIn_app (goodIn_of _ (by decide +kernel)) ggX0_smallestRoot_X0_powerOf
theorem dX0_smallestRoot_0 : decode cX0_smallestRoot 0 = .ok (.iconst 2, 1) := by decide +kernel
theorem dX0_smallestRoot_1 : decode cX0_smallestRoot 1 = .ok (.istore_n 1, 1) := by decide +kernel
theorem dX0_smallestRoot_2 : decode cX0_smallestRoot 2 = .ok (.iload_n 1, 1) := by decide +kernel
theorem dX0_smallestRoot_3 : decode cX0_smallestRoot 3 = .ok (.aload_n 0, 1) := by decide +kernel
theorem dX0_smallestRoot_4 : decode cX0_smallestRoot 4 = .ok (.getfield 43, 3) := by decide +kernel
theorem dX0_smallestRoot_7 : decode cX0_smallestRoot 7 = .ok (.iconst 1, 1) := by decide +kernel
theorem dX0_smallestRoot_8 : decode cX0_smallestRoot 8 = .ok (.isub, 1) := by decide +kernel
theorem dX0_smallestRoot_9 : decode cX0_smallestRoot 9 = .ok (.if_icmp .ge 29, 3) := by decide +kernel
theorem dX0_smallestRoot_12 : decode cX0_smallestRoot 12 = .ok (.aload_n 0, 1) := by decide +kernel
theorem dX0_smallestRoot_13 : decode cX0_smallestRoot 13 = .ok (.iload_n 1, 1) := by decide +kernel
theorem dX0_smallestRoot_14 : decode cX0_smallestRoot 14 = .ok (.aload_n 0, 1) := by decide +kernel
theorem dX0_smallestRoot_15 : decode cX0_smallestRoot 15 = .ok (.getfield 84, 3) := by decide +kernel
theorem dX0_smallestRoot_18 : decode cX0_smallestRoot 18 = .ok (.iconst 1, 1) := by decide +kernel
theorem dX0_smallestRoot_19 : decode cX0_smallestRoot 19 = .ok (.ishr, 1) := by decide +kernel
theorem dX0_smallestRoot_20 : decode cX0_smallestRoot 20 = .ok (.invokevirtual 55, 3) := by decide +kernel
theorem dX0_smallestRoot_23 : decode cX0_smallestRoot 23 = .ok (.aload_n 0, 1) := by decide +kernel
theorem dX0_smallestRoot_24 : decode cX0_smallestRoot 24 = .ok (.getfield 43, 3) := by decide +kernel
theorem dX0_smallestRoot_27 : decode cX0_smallestRoot 27 = .ok (.iconst 1, 1) := by decide +kernel
theorem dX0_smallestRoot_28 : decode cX0_smallestRoot 28 = .ok (.isub, 1) := by decide +kernel
theorem dX0_smallestRoot_29 : decode cX0_smallestRoot 29 = .ok (.if_icmp .eq 9, 3) := by decide +kernel
theorem dX0_smallestRoot_32 : decode cX0_smallestRoot 32 = .ok (.iinc 1 1, 3) := by decide +kernel
theorem dX0_smallestRoot_35 : decode cX0_smallestRoot 35 = .ok (.goto (-33), 3) := by decide +kernel
theorem dX0_smallestRoot_38 : decode cX0_smallestRoot 38 = .ok (.iload_n 1, 1) := by decide +kernel
theorem dX0_smallestRoot_39 : decode cX0_smallestRoot 39 = .ok (.ireturn, 1) := by decide +kernel
set_option maxRecDepth 20000 in
theorem ggX0_reduced_J9_floorMod_7cf53 : GoodIn wsX0_reduced wsJ9_floorMod_7cf53 := goodIn_r _ [5] (by decide +kernel) (by decide +kernel)
set_option maxRecDepth 20000 in
theorem gX0_reduced_J9_floorMod_7cf53 : GoodIn wsX0_reduced (va_wsS RX0 168 yJ9_floorMod_7cf53 wsJ9_floorMod_7cf53) := goodIn_app (goodIn_of _ (by decide +kernel)) ggX0_reduced_J9_floorMod_7cf53
theorem dX0_reduced_0 : decode cX0_reduced 0 = .ok (.aload_n 0, 1) := by decide +kernel
theorem dX0_reduced_1 : decode cX0_reduced 1 = .ok (.getfield 43, 3) := by decide +kernel
theorem dX0_reduced_4 : decode cX0_reduced 4 = .ok (.ifCond .le 14, 3) := by decide +kernel
theorem dX0_reduced_7 : decode cX0_reduced 7 = .ok (.iload_n 1, 1) := by decide +kernel
theorem dX0_reduced_8 : decode cX0_reduced 8 = .ok (.aload_n 0, 1) := by decide +kernel
theorem dX0_reduced_9 : decode cX0_reduced 9 = .ok (.getfield 43, 3) := by decide +kernel
theorem dX0_reduced_12 : decode cX0_reduced 12 = .ok (.invokestatic 168, 3) := by decide +kernel
theorem dX0_reduced_15 : decode cX0_reduced 15 = .ok (.goto 4, 3) := by decide +kernel
theorem dX0_reduced_18 : decode cX0_reduced 18 = .ok (.iconst 0, 1) := by decide +kernel
theorem dX0_reduced_19 : decode cX0_reduced 19 = .ok (.ireturn, 1) := by decide +kernel
set_option maxRecDepth 20000 in
theorem ggX0_powerOf_X0_reduced : GoodIn wsX0_powerOf wsX0_reduced := goodIn_r _ [5, 6, 7, 8, 9, 10, 11, 12, 13, 14, 15, 16, 17] (by decide +kernel) (by decide +kernel)
set_option maxRecDepth 20000 in
theorem gX0_powerOf_X0_reduced : GoodIn wsX0_powerOf (wsV RX0 46 RX0 yX0_reduced wsX0_reduced) := goodIn_app (goodIn_of _ (by decide +kernel)) ggX0_powerOf_X0_reduced
theorem dX0_powerOf_0 : decode cX0_powerOf 0 = .ok (.iconst 1, 1) := by decide +kernel
theorem dX0_powerOf_1 : decode cX0_powerOf 1 = .ok (.istore_n 3, 1) := by decide +kernel
theorem dX0_powerOf_2 : decode cX0_powerOf 2 = .ok (.iload_n 1, 1) := by decide +kernel
theorem dX0_powerOf_3 : decode cX0_powerOf 3 = .ok (.istore 4, 2) := by decide +kernel
theorem dX0_powerOf_5 : decode cX0_powerOf 5 = .ok (.iload_n 2, 1) := by decide +kernel
theorem dX0_powerOf_6 : decode cX0_powerOf 6 = .ok (.istore 5, 2) := by decide +kernel
theorem dX0_powerOf_8 : decode cX0_powerOf 8 = .ok (.iload 5, 2) := by decide +kernel
theorem dX0_powerOf_10 : decode cX0_powerOf 10 = .ok (.ifCond .le 40, 3) := by decide +kernel
theorem dX0_powerOf_13 : decode cX0_powerOf 13 = .ok (.iload 5, 2) := by decide +kernel
theorem dX0_powerOf_15 : decode cX0_powerOf 15 = .ok (.iconst 1, 1) := by decide +kernel
theorem dX0_powerOf_16 : decode cX0_powerOf 16 = .ok (.iand, 1) := by decide +kernel
theorem dX0_powerOf_17 : decode cX0_powerOf 17 = .ok (.iconst 1, 1) := by decide +kernel
theorem dX0_powerOf_18 : decode cX0_powerOf 18 = .ok (.if_icmp .ne 12, 3) := by decide +kernel
theorem dX0_powerOf_21 : decode cX0_powerOf 21 = .ok (.aload_n 0, 1) := by decide +kernel
theorem dX0_powerOf_22 : decode cX0_powerOf 22 = .ok (.iload_n 3, 1) := by decide +kernel
theorem dX0_powerOf_23 : decode cX0_powerOf 23 = .ok (.iload 4, 2) := by decide +kernel
theorem dX0_powerOf_25 : decode cX0_powerOf 25 = .ok (.imul, 1) := by decide +kernel
theorem dX0_powerOf_26 : decode cX0_powerOf 26 = .ok (.invokevirtual 46, 3) := by decide +kernel
theorem dX0_powerOf_29 : decode cX0_powerOf 29 = .ok (.istore_n 3, 1) := by decide +kernel
theorem dX0_powerOf_30 : decode cX0_powerOf 30 = .ok (.aload_n 0, 1) := by decide +kernel
theorem dX0_powerOf_31 : decode cX0_powerOf 31 = .ok (.iload 4, 2) := by decide +kernel
theorem dX0_powerOf_33 : decode cX0_powerOf 33 = .ok (.iload 4, 2) := by decide +kernel
theorem dX0_powerOf_35 : decode cX0_powerOf 35 = .ok (.imul, 1) := by decide +kernel
theorem dX0_powerOf_36 : decode cX0_powerOf 36 = .ok (.invokevirtual 46, 3) := by decide +kernel
theorem dX0_powerOf_39 : decode cX0_powerOf 39 = .ok (.istore 4, 2) := by decide +kernel
theorem dX0_powerOf_41 : decode cX0_powerOf 41 = .ok (.iload 5, 2) := by decide +kernel
theorem dX0_powerOf_43 : decode cX0_powerOf 43 = .ok (.iconst 1, 1) := by decide +kernel
theorem dX0_powerOf_44 : decode cX0_powerOf 44 = .ok (.ishr, 1) := by decide +kernel
theorem dX0_powerOf_45 : decode cX0_powerOf 45 = .ok (.istore 5, 2) := by decide +kernel
theorem dX0_powerOf_47 : decode cX0_powerOf 47 = .ok (.goto (-39), 3) := by decide +kernel
theorem dX0_powerOf_50 : decode cX0_powerOf 50 = .ok (.iload_n 3, 1) := by decide +kernel
theorem dX0_powerOf_51 : decode cX0_powerOf 51 = .ok (.ireturn, 1) := by decide +kernel
set_option maxRecDepth 20000 in
theorem ggX0_inverseOf_X0_powerOf : GoodIn wsX0_inverseOf wsX0_powerOf := goodIn_r _ [6, 7, 8, 9, 5, 10, 1, 11, 12, 13, 14, 15, 16, 17, 18, 19, 20, 21] (by decide +kernel) (by decide +kernel)
set_option maxRecDepth 20000 in
theorem gX0_inverseOf_X0_powerOf : GoodIn wsX0_inverseOf (wsV RX0 55 RX0 yX0_powerOf wsX0_powerOf) := goodIn_app (goodIn_of _ (by decide +kernel)) ggX0_inverseOf_X0_powerOf
theorem dX0_inverseOf_0 : decode cX0_inverseOf 0 = .ok (.aload_n 0, 1) := by decide +kernel
theorem dX0_inverseOf_1 : decode cX0_inverseOf 1 = .ok (.iload_n 1, 1) := by decide +kernel
theorem dX0_inverseOf_2 : decode cX0_inverseOf 2 = .ok (.aload_n 0, 1) := by decide +kernel
theorem dX0_inverseOf_3 : decode cX0_inverseOf 3 = .ok (.getfield 43, 3) := by decide +kernel
theorem dX0_inverseOf_6 : decode cX0_inverseOf 6 = .ok (.iconst 2, 1) := by decide +kernel
theorem dX0_inverseOf_7 : decode cX0_inverseOf 7 = .ok (.isub, 1) := by decide +kernel
theorem dX0_inverseOf_8 : decode cX0_inverseOf 8 = .ok (.invokevirtual 55, 3) := by decide +kernel
theorem dX0_inverseOf_11 : decode cX0_inverseOf 11 = .ok (.ireturn, 1) := by decide +kernel
set_option maxRecDepth 20000 in
theorem ggX0_joined_X0_reduced : GoodIn wsX0_joined wsX0_reduced := goodIn_r _ [5, 6, 7, 8, 9, 10, 11, 12, 13, 14, 15, 16, 17] (by decide +kernel) (by decide +kernel)
set_option maxRecDepth 20000 in
theorem gX0_joined_X0_reduced : GoodIn wsX0_joined (wsV RX0 46 RX0 yX0_reduced wsX0_reduced) := goodIn_app (goodIn_of _ (by decide +kernel)) ggX0_joined_X0_reduced
theorem dX0_joined_0 : decode cX0_joined 0 = .ok (.iload_n 3, 1) := by decide +kernel
theorem dX0_joined_1 : decode cX0_joined 1 = .ok (.ifCond .ne 11, 3) := by decide +kernel
theorem dX0_joined_4 : decode cX0_joined 4 = .ok (.aload_n 0, 1) := by decide +kernel
theorem dX0_joined_5 : decode cX0_joined 5 = .ok (.iload_n 1, 1) := by decide +kernel
theorem dX0_joined_6 : decode cX0_joined 6 = .ok (.iload_n 2, 1) := by decide +kernel
theorem dX0_joined_7 : decode cX0_joined 7 = .ok (.iadd, 1) := by decide +kernel
theorem dX0_joined_8 : decode cX0_joined 8 = .ok (.invokevirtual 46, 3) := by decide +kernel
theorem dX0_joined_11 : decode cX0_joined 11 = .ok (.ireturn, 1) := by decide +kernel
theorem dX0_joined_12 : decode cX0_joined 12 = .ok (.iload_n 3, 1) := by decide +kernel
theorem dX0_joined_13 : decode cX0_joined 13 = .ok (.iconst 1, 1) := by decide +kernel
theorem dX0_joined_14 : decode cX0_joined 14 = .ok (.if_icmp .ne 11, 3) := by decide +kernel
theorem dX0_joined_17 : decode cX0_joined 17 = .ok (.aload_n 0, 1) := by decide +kernel
theorem dX0_joined_18 : decode cX0_joined 18 = .ok (.iload_n 1, 1) := by decide +kernel
theorem dX0_joined_19 : decode cX0_joined 19 = .ok (.iload_n 2, 1) := by decide +kernel
theorem dX0_joined_20 : decode cX0_joined 20 = .ok (.isub, 1) := by decide +kernel
theorem dX0_joined_21 : decode cX0_joined 21 = .ok (.invokevirtual 46, 3) := by decide +kernel
theorem dX0_joined_24 : decode cX0_joined 24 = .ok (.ireturn, 1) := by decide +kernel
theorem dX0_joined_25 : decode cX0_joined 25 = .ok (.aload_n 0, 1) := by decide +kernel
theorem dX0_joined_26 : decode cX0_joined 26 = .ok (.iload_n 1, 1) := by decide +kernel
theorem dX0_joined_27 : decode cX0_joined 27 = .ok (.iload_n 2, 1) := by decide +kernel
theorem dX0_joined_28 : decode cX0_joined 28 = .ok (.imul, 1) := by decide +kernel
theorem dX0_joined_29 : decode cX0_joined 29 = .ok (.invokevirtual 46, 3) := by decide +kernel
theorem dX0_joined_32 : decode cX0_joined 32 = .ok (.ireturn, 1) := by decide +kernel
theorem dX0_wrapped_0 : decode cX0_wrapped 0 = .ok (.iload_n 1, 1) := by decide +kernel
theorem dX0_wrapped_1 : decode cX0_wrapped 1 = .ok (.aload_n 0, 1) := by decide +kernel
theorem dX0_wrapped_2 : decode cX0_wrapped 2 = .ok (.getfield 84, 3) := by decide +kernel
theorem dX0_wrapped_5 : decode cX0_wrapped 5 = .ok (.iconst 1, 1) := by decide +kernel
theorem dX0_wrapped_6 : decode cX0_wrapped 6 = .ok (.isub, 1) := by decide +kernel
theorem dX0_wrapped_7 : decode cX0_wrapped 7 = .ok (.iand, 1) := by decide +kernel
theorem dX0_wrapped_8 : decode cX0_wrapped 8 = .ok (.ireturn, 1) := by decide +kernel
theorem dX0_mirrored_0 : decode cX0_mirrored 0 = .ok (.iconst 0, 1) := by decide +kernel
theorem dX0_mirrored_1 : decode cX0_mirrored 1 = .ok (.istore_n 2, 1) := by decide +kernel
theorem dX0_mirrored_2 : decode cX0_mirrored 2 = .ok (.iconst 0, 1) := by decide +kernel
theorem dX0_mirrored_3 : decode cX0_mirrored 3 = .ok (.istore_n 3, 1) := by decide +kernel
theorem dX0_mirrored_4 : decode cX0_mirrored 4 = .ok (.iload_n 3, 1) := by decide +kernel
theorem dX0_mirrored_5 : decode cX0_mirrored 5 = .ok (.aload_n 0, 1) := by decide +kernel
theorem dX0_mirrored_6 : decode cX0_mirrored 6 = .ok (.getfield 90, 3) := by decide +kernel
theorem dX0_mirrored_9 : decode cX0_mirrored 9 = .ok (.if_icmp .ge 19, 3) := by decide +kernel
theorem dX0_mirrored_12 : decode cX0_mirrored 12 = .ok (.iload_n 2, 1) := by decide +kernel
theorem dX0_mirrored_13 : decode cX0_mirrored 13 = .ok (.iconst 1, 1) := by decide +kernel
theorem dX0_mirrored_14 : decode cX0_mirrored 14 = .ok (.ishl, 1) := by decide +kernel
theorem dX0_mirrored_15 : decode cX0_mirrored 15 = .ok (.iload_n 1, 1) := by decide +kernel
theorem dX0_mirrored_16 : decode cX0_mirrored 16 = .ok (.iload_n 3, 1) := by decide +kernel
theorem dX0_mirrored_17 : decode cX0_mirrored 17 = .ok (.ishr, 1) := by decide +kernel
theorem dX0_mirrored_18 : decode cX0_mirrored 18 = .ok (.iconst 1, 1) := by decide +kernel
theorem dX0_mirrored_19 : decode cX0_mirrored 19 = .ok (.iand, 1) := by decide +kernel
theorem dX0_mirrored_20 : decode cX0_mirrored 20 = .ok (.ior, 1) := by decide +kernel
theorem dX0_mirrored_21 : decode cX0_mirrored 21 = .ok (.istore_n 2, 1) := by decide +kernel
theorem dX0_mirrored_22 : decode cX0_mirrored 22 = .ok (.iinc 3 1, 3) := by decide +kernel
theorem dX0_mirrored_25 : decode cX0_mirrored 25 = .ok (.goto (-21), 3) := by decide +kernel
theorem dX0_mirrored_28 : decode cX0_mirrored 28 = .ok (.iload_n 2, 1) := by decide +kernel
theorem dX0_mirrored_29 : decode cX0_mirrored 29 = .ok (.ireturn, 1) := by decide +kernel
theorem dX0_read_0 : decode cX0_read 0 = .ok (.iload_n 1, 1) := by decide +kernel
theorem dX0_read_1 : decode cX0_read 1 = .ok (.bipush 16, 2) := by decide +kernel
theorem dX0_read_3 : decode cX0_read 3 = .ok (.imul, 1) := by decide +kernel
theorem dX0_read_4 : decode cX0_read 4 = .ok (.iload_n 2, 1) := by decide +kernel
theorem dX0_read_5 : decode cX0_read 5 = .ok (.iadd, 1) := by decide +kernel
theorem dX0_read_6 : decode cX0_read 6 = .ok (.istore_n 3, 1) := by decide +kernel
theorem dX0_read_7 : decode cX0_read 7 = .ok (.iload_n 3, 1) := by decide +kernel
theorem dX0_read_8 : decode cX0_read 8 = .ok (.ifCond .lt 21, 3) := by decide +kernel
theorem dX0_read_11 : decode cX0_read 11 = .ok (.iload_n 3, 1) := by decide +kernel
theorem dX0_read_12 : decode cX0_read 12 = .ok (.aload_n 0, 1) := by decide +kernel
theorem dX0_read_13 : decode cX0_read 13 = .ok (.getfield 9, 3) := by decide +kernel
theorem dX0_read_16 : decode cX0_read 16 = .ok (.arraylength, 1) := by decide +kernel
theorem dX0_read_17 : decode cX0_read 17 = .ok (.if_icmp .ge 12, 3) := by decide +kernel
theorem dX0_read_20 : decode cX0_read 20 = .ok (.aload_n 0, 1) := by decide +kernel
theorem dX0_read_21 : decode cX0_read 21 = .ok (.getfield 9, 3) := by decide +kernel
theorem dX0_read_24 : decode cX0_read 24 = .ok (.iload_n 3, 1) := by decide +kernel
theorem dX0_read_25 : decode cX0_read 25 = .ok (.iaload, 1) := by decide +kernel
theorem dX0_read_26 : decode cX0_read 26 = .ok (.goto 4, 3) := by decide +kernel
theorem dX0_read_29 : decode cX0_read 29 = .ok (.iconst 0, 1) := by decide +kernel
theorem dX0_read_30 : decode cX0_read 30 = .ok (.ireturn, 1) := by decide +kernel
theorem dX0_write_0 : decode cX0_write 0 = .ok (.iload_n 1, 1) := by decide +kernel
theorem dX0_write_1 : decode cX0_write 1 = .ok (.bipush 16, 2) := by decide +kernel
theorem dX0_write_3 : decode cX0_write 3 = .ok (.imul, 1) := by decide +kernel
theorem dX0_write_4 : decode cX0_write 4 = .ok (.iload_n 2, 1) := by decide +kernel
theorem dX0_write_5 : decode cX0_write 5 = .ok (.iadd, 1) := by decide +kernel
theorem dX0_write_6 : decode cX0_write 6 = .ok (.istore 4, 2) := by decide +kernel
theorem dX0_write_8 : decode cX0_write 8 = .ok (.iload 4, 2) := by decide +kernel
theorem dX0_write_10 : decode cX0_write 10 = .ok (.ifCond .lt 21, 3) := by decide +kernel
theorem dX0_write_13 : decode cX0_write 13 = .ok (.iload 4, 2) := by decide +kernel
theorem dX0_write_15 : decode cX0_write 15 = .ok (.aload_n 0, 1) := by decide +kernel
theorem dX0_write_16 : decode cX0_write 16 = .ok (.getfield 9, 3) := by decide +kernel
theorem dX0_write_19 : decode cX0_write 19 = .ok (.arraylength, 1) := by decide +kernel
theorem dX0_write_20 : decode cX0_write 20 = .ok (.if_icmp .ge 11, 3) := by decide +kernel
theorem dX0_write_23 : decode cX0_write 23 = .ok (.aload_n 0, 1) := by decide +kernel
theorem dX0_write_24 : decode cX0_write 24 = .ok (.getfield 9, 3) := by decide +kernel
theorem dX0_write_27 : decode cX0_write 27 = .ok (.iload 4, 2) := by decide +kernel
theorem dX0_write_29 : decode cX0_write 29 = .ok (.iload_n 3, 1) := by decide +kernel
theorem dX0_write_30 : decode cX0_write 30 = .ok (.iastore, 1) := by decide +kernel
theorem dX0_write_31 : decode cX0_write 31 = .ok (.return_, 1) := by decide +kernel
set_option maxRecDepth 20000 in
theorem ggX0_copyRow_X0_read : GoodIn wsX0_copyRow wsX0_read := goodIn_r _ [6, 7, 12, 13, 14, 15, 16, 17, 18] (by decide +kernel) (by decide +kernel)
set_option maxRecDepth 20000 in
theorem gX0_copyRow_X0_read : GoodIn wsX0_copyRow (wsV RX0 68 RX0 yX0_read wsX0_read) := goodIn_app (goodIn_of _ (by decide +kernel)) ggX0_copyRow_X0_read
set_option maxRecDepth 20000 in
theorem ggX0_copyRow_X0_write : GoodIn wsX0_copyRow wsX0_write := goodIn_r _ [11, 7, 12, 13, 14, 15, 16, 17, 18] (by decide +kernel) (by decide +kernel)
set_option maxRecDepth 20000 in
theorem gX0_copyRow_X0_write : GoodIn wsX0_copyRow (wsV RX0 71 RX0 yX0_write wsX0_write) := goodIn_app (goodIn_of _ (by decide +kernel)) ggX0_copyRow_X0_write
theorem dX0_copyRow_0 : decode cX0_copyRow 0 = .ok (.iconst 0, 1) := by decide +kernel
theorem dX0_copyRow_1 : decode cX0_copyRow 1 = .ok (.istore_n 3, 1) := by decide +kernel
theorem dX0_copyRow_2 : decode cX0_copyRow 2 = .ok (.iconst 0, 1) := by decide +kernel
theorem dX0_copyRow_3 : decode cX0_copyRow 3 = .ok (.istore 4, 2) := by decide +kernel
theorem dX0_copyRow_5 : decode cX0_copyRow 5 = .ok (.iload 4, 2) := by decide +kernel
theorem dX0_copyRow_7 : decode cX0_copyRow 7 = .ok (.aload_n 0, 1) := by decide +kernel
theorem dX0_copyRow_8 : decode cX0_copyRow 8 = .ok (.getfield 84, 3) := by decide +kernel
theorem dX0_copyRow_11 : decode cX0_copyRow 11 = .ok (.if_icmp .ge 42, 3) := by decide +kernel
theorem dX0_copyRow_14 : decode cX0_copyRow 14 = .ok (.aload_n 0, 1) := by decide +kernel
theorem dX0_copyRow_15 : decode cX0_copyRow 15 = .ok (.iload_n 1, 1) := by decide +kernel
theorem dX0_copyRow_16 : decode cX0_copyRow 16 = .ok (.iload 4, 2) := by decide +kernel
theorem dX0_copyRow_18 : decode cX0_copyRow 18 = .ok (.invokevirtual 68, 3) := by decide +kernel
theorem dX0_copyRow_21 : decode cX0_copyRow 21 = .ok (.istore 5, 2) := by decide +kernel
theorem dX0_copyRow_23 : decode cX0_copyRow 23 = .ok (.aload_n 0, 1) := by decide +kernel
theorem dX0_copyRow_24 : decode cX0_copyRow 24 = .ok (.iload_n 2, 1) := by decide +kernel
theorem dX0_copyRow_25 : decode cX0_copyRow 25 = .ok (.iload 4, 2) := by decide +kernel
theorem dX0_copyRow_27 : decode cX0_copyRow 27 = .ok (.invokevirtual 68, 3) := by decide +kernel
theorem dX0_copyRow_30 : decode cX0_copyRow 30 = .ok (.iload 5, 2) := by decide +kernel
theorem dX0_copyRow_32 : decode cX0_copyRow 32 = .ok (.if_icmp .eq 6, 3) := by decide +kernel
theorem dX0_copyRow_35 : decode cX0_copyRow 35 = .ok (.iinc 3 1, 3) := by decide +kernel
theorem dX0_copyRow_38 : decode cX0_copyRow 38 = .ok (.aload_n 0, 1) := by decide +kernel
theorem dX0_copyRow_39 : decode cX0_copyRow 39 = .ok (.iload_n 2, 1) := by decide +kernel
theorem dX0_copyRow_40 : decode cX0_copyRow 40 = .ok (.iload 4, 2) := by decide +kernel
theorem dX0_copyRow_42 : decode cX0_copyRow 42 = .ok (.iload 5, 2) := by decide +kernel
theorem dX0_copyRow_44 : decode cX0_copyRow 44 = .ok (.invokevirtual 71, 3) := by decide +kernel
theorem dX0_copyRow_47 : decode cX0_copyRow 47 = .ok (.iinc 4 1, 3) := by decide +kernel
theorem dX0_copyRow_50 : decode cX0_copyRow 50 = .ok (.goto (-45), 3) := by decide +kernel
theorem dX0_copyRow_53 : decode cX0_copyRow 53 = .ok (.iload_n 3, 1) := by decide +kernel
theorem dX0_copyRow_54 : decode cX0_copyRow 54 = .ok (.ireturn, 1) := by decide +kernel
set_option maxRecDepth 20000 in
theorem ggX0_butterfly_X0_read : GoodIn wsX0_butterfly wsX0_read := goodIn_r _ [5, 6, 20, 21, 22, 23, 24, 25, 26] (by decide +kernel) (by decide +kernel)
set_option maxRecDepth 20000 in
theorem gX0_butterfly_X0_read : GoodIn wsX0_butterfly (wsV RX0 68 RX0 yX0_read wsX0_read) := goodIn_app (goodIn_of _ (by decide +kernel)) ggX0_butterfly_X0_read
set_option maxRecDepth 20000 in
theorem ggX0_butterfly_X0_reduced : GoodIn wsX0_butterfly wsX0_reduced := goodIn_r _ [10, 11, 12, 13, 14, 15, 20, 21, 22, 23, 24, 25, 26] (by decide +kernel) (by decide +kernel)
set_option maxRecDepth 20000 in
theorem gX0_butterfly_X0_reduced : GoodIn wsX0_butterfly (wsV RX0 46 RX0 yX0_reduced wsX0_reduced) := goodIn_app (goodIn_of _ (by decide +kernel)) ggX0_butterfly_X0_reduced
set_option maxRecDepth 20000 in
theorem ggX0_butterfly_X0_write : GoodIn wsX0_butterfly wsX0_write := goodIn_r _ [19, 6, 20, 21, 22, 23, 24, 25, 26] (by decide +kernel) (by decide +kernel)
set_option maxRecDepth 20000 in
theorem gX0_butterfly_X0_write : GoodIn wsX0_butterfly (wsV RX0 71 RX0 yX0_write wsX0_write) := goodIn_app (goodIn_of _ (by decide +kernel)) ggX0_butterfly_X0_write
theorem dX0_butterfly_0 : decode cX0_butterfly 0 = .ok (.aload_n 0, 1) := by decide +kernel
theorem dX0_butterfly_1 : decode cX0_butterfly 1 = .ok (.iload_n 1, 1) := by decide +kernel
theorem dX0_butterfly_2 : decode cX0_butterfly 2 = .ok (.iload_n 2, 1) := by decide +kernel
theorem dX0_butterfly_3 : decode cX0_butterfly 3 = .ok (.invokevirtual 68, 3) := by decide +kernel
theorem dX0_butterfly_6 : decode cX0_butterfly 6 = .ok (.istore 5, 2) := by decide +kernel
theorem dX0_butterfly_8 : decode cX0_butterfly 8 = .ok (.aload_n 0, 1) := by decide +kernel
theorem dX0_butterfly_9 : decode cX0_butterfly 9 = .ok (.aload_n 0, 1) := by decide +kernel
theorem dX0_butterfly_10 : decode cX0_butterfly 10 = .ok (.iload_n 1, 1) := by decide +kernel
theorem dX0_butterfly_11 : decode cX0_butterfly 11 = .ok (.iload_n 3, 1) := by decide +kernel
theorem dX0_butterfly_12 : decode cX0_butterfly 12 = .ok (.invokevirtual 68, 3) := by decide +kernel
theorem dX0_butterfly_15 : decode cX0_butterfly 15 = .ok (.iload 4, 2) := by decide +kernel
theorem dX0_butterfly_17 : decode cX0_butterfly 17 = .ok (.imul, 1) := by decide +kernel
theorem dX0_butterfly_18 : decode cX0_butterfly 18 = .ok (.invokevirtual 46, 3) := by decide +kernel
theorem dX0_butterfly_21 : decode cX0_butterfly 21 = .ok (.istore 6, 2) := by decide +kernel
theorem dX0_butterfly_23 : decode cX0_butterfly 23 = .ok (.aload_n 0, 1) := by decide +kernel
theorem dX0_butterfly_24 : decode cX0_butterfly 24 = .ok (.iload_n 1, 1) := by decide +kernel
theorem dX0_butterfly_25 : decode cX0_butterfly 25 = .ok (.iload_n 2, 1) := by decide +kernel
theorem dX0_butterfly_26 : decode cX0_butterfly 26 = .ok (.aload_n 0, 1) := by decide +kernel
theorem dX0_butterfly_27 : decode cX0_butterfly 27 = .ok (.iload 5, 2) := by decide +kernel
theorem dX0_butterfly_29 : decode cX0_butterfly 29 = .ok (.iload 6, 2) := by decide +kernel
theorem dX0_butterfly_31 : decode cX0_butterfly 31 = .ok (.iadd, 1) := by decide +kernel
theorem dX0_butterfly_32 : decode cX0_butterfly 32 = .ok (.invokevirtual 46, 3) := by decide +kernel
theorem dX0_butterfly_35 : decode cX0_butterfly 35 = .ok (.invokevirtual 71, 3) := by decide +kernel
theorem dX0_butterfly_38 : decode cX0_butterfly 38 = .ok (.aload_n 0, 1) := by decide +kernel
theorem dX0_butterfly_39 : decode cX0_butterfly 39 = .ok (.iload_n 1, 1) := by decide +kernel
theorem dX0_butterfly_40 : decode cX0_butterfly 40 = .ok (.iload_n 3, 1) := by decide +kernel
theorem dX0_butterfly_41 : decode cX0_butterfly 41 = .ok (.aload_n 0, 1) := by decide +kernel
theorem dX0_butterfly_42 : decode cX0_butterfly 42 = .ok (.iload 5, 2) := by decide +kernel
theorem dX0_butterfly_44 : decode cX0_butterfly 44 = .ok (.iload 6, 2) := by decide +kernel
theorem dX0_butterfly_46 : decode cX0_butterfly 46 = .ok (.isub, 1) := by decide +kernel
theorem dX0_butterfly_47 : decode cX0_butterfly 47 = .ok (.invokevirtual 46, 3) := by decide +kernel
theorem dX0_butterfly_50 : decode cX0_butterfly 50 = .ok (.invokevirtual 71, 3) := by decide +kernel
theorem dX0_butterfly_53 : decode cX0_butterfly 53 = .ok (.return_, 1) := by decide +kernel
set_option maxRecDepth 20000 in
theorem ggX0_valueAt_X0_read : GoodIn wsX0_valueAt wsX0_read := goodIn_r _ [6, 7, 17, 18, 19, 20, 21, 22, 23] (by decide +kernel) (by decide +kernel)
set_option maxRecDepth 20000 in
theorem gX0_valueAt_X0_read : GoodIn wsX0_valueAt (wsV RX0 68 RX0 yX0_read wsX0_read) := goodIn_app (goodIn_of _ (by decide +kernel)) ggX0_valueAt_X0_read
set_option maxRecDepth 20000 in
theorem ggX0_valueAt_X0_reduced : GoodIn wsX0_valueAt wsX0_reduced := goodIn_r _ [11, 12, 13, 14, 15, 16, 17, 18, 19, 20, 21, 22, 23] (by decide +kernel) (by decide +kernel)
set_option maxRecDepth 20000 in
theorem gX0_valueAt_X0_reduced : GoodIn wsX0_valueAt (wsV RX0 46 RX0 yX0_reduced wsX0_reduced) := goodIn_app (goodIn_of _ (by decide +kernel)) ggX0_valueAt_X0_reduced
theorem dX0_valueAt_0 : decode cX0_valueAt 0 = .ok (.iconst 0, 1) := by decide +kernel
theorem dX0_valueAt_1 : decode cX0_valueAt 1 = .ok (.istore_n 3, 1) := by decide +kernel
theorem dX0_valueAt_2 : decode cX0_valueAt 2 = .ok (.aload_n 0, 1) := by decide +kernel
theorem dX0_valueAt_3 : decode cX0_valueAt 3 = .ok (.getfield 84, 3) := by decide +kernel
theorem dX0_valueAt_6 : decode cX0_valueAt 6 = .ok (.iconst 1, 1) := by decide +kernel
theorem dX0_valueAt_7 : decode cX0_valueAt 7 = .ok (.isub, 1) := by decide +kernel
theorem dX0_valueAt_8 : decode cX0_valueAt 8 = .ok (.istore 4, 2) := by decide +kernel
theorem dX0_valueAt_10 : decode cX0_valueAt 10 = .ok (.iload 4, 2) := by decide +kernel
theorem dX0_valueAt_12 : decode cX0_valueAt 12 = .ok (.ifCond .lt 25, 3) := by decide +kernel
theorem dX0_valueAt_15 : decode cX0_valueAt 15 = .ok (.aload_n 0, 1) := by decide +kernel
theorem dX0_valueAt_16 : decode cX0_valueAt 16 = .ok (.iload_n 3, 1) := by decide +kernel
theorem dX0_valueAt_17 : decode cX0_valueAt 17 = .ok (.iload_n 2, 1) := by decide +kernel
theorem dX0_valueAt_18 : decode cX0_valueAt 18 = .ok (.imul, 1) := by decide +kernel
theorem dX0_valueAt_19 : decode cX0_valueAt 19 = .ok (.aload_n 0, 1) := by decide +kernel
theorem dX0_valueAt_20 : decode cX0_valueAt 20 = .ok (.iload_n 1, 1) := by decide +kernel
theorem dX0_valueAt_21 : decode cX0_valueAt 21 = .ok (.iload 4, 2) := by decide +kernel
theorem dX0_valueAt_23 : decode cX0_valueAt 23 = .ok (.invokevirtual 68, 3) := by decide +kernel
theorem dX0_valueAt_26 : decode cX0_valueAt 26 = .ok (.iadd, 1) := by decide +kernel
theorem dX0_valueAt_27 : decode cX0_valueAt 27 = .ok (.invokevirtual 46, 3) := by decide +kernel
theorem dX0_valueAt_30 : decode cX0_valueAt 30 = .ok (.istore_n 3, 1) := by decide +kernel
theorem dX0_valueAt_31 : decode cX0_valueAt 31 = .ok (.iinc 4 (-1), 3) := by decide +kernel
theorem dX0_valueAt_34 : decode cX0_valueAt 34 = .ok (.goto (-24), 3) := by decide +kernel
theorem dX0_valueAt_37 : decode cX0_valueAt 37 = .ok (.iload_n 3, 1) := by decide +kernel
theorem dX0_valueAt_38 : decode cX0_valueAt 38 = .ok (.ireturn, 1) := by decide +kernel
set_option maxRecDepth 20000 in
theorem ggX0_scratchTones_X0_scratchValues : GoodIn wsX0_scratchTones wsX0_scratchValues := goodIn_r _ [6, 7, 8, 9, 10, 5, 11, 12, 13, 14, 15, 16, 17, 18, 19, 20, 21, 22, 23, 24, 25, 26, 27, 28, 29, 30, 31, 32, 33, 34, 35, 36] (by decide +kernel) (by decide +kernel)
set_option maxRecDepth 20000 in
theorem gX0_scratchTones_X0_scratchValues : GoodIn wsX0_scratchTones (wsV RX0 173 RX0 yX0_scratchValues wsX0_scratchValues) := goodIn_app (goodIn_of _ (by decide +kernel)) ggX0_scratchTones_X0_scratchValues
theorem dX0_scratchTones_0 : decode cX0_scratchTones 0 = .ok (.aload_n 0, 1) := by decide +kernel
theorem dX0_scratchTones_1 : decode cX0_scratchTones 1 = .ok (.iload_n 1, 1) := by decide +kernel
theorem dX0_scratchTones_2 : decode cX0_scratchTones 2 = .ok (.aload_n 0, 1) := by decide +kernel
theorem dX0_scratchTones_3 : decode cX0_scratchTones 3 = .ok (.getfield 35, 3) := by decide +kernel
theorem dX0_scratchTones_6 : decode cX0_scratchTones 6 = .ok (.iconst 1, 1) := by decide +kernel
theorem dX0_scratchTones_7 : decode cX0_scratchTones 7 = .ok (.invokevirtual 173, 3) := by decide +kernel
theorem dX0_scratchTones_10 : decode cX0_scratchTones 10 = .ok (.return_, 1) := by decide +kernel
set_option maxRecDepth 20000 in
theorem ggX0_scratchTurnedBack_X0_scratchValues : GoodIn wsX0_scratchTurnedBack wsX0_scratchValues := goodIn_r _ [7, 8, 9, 10, 11, 6, 12, 13, 14, 15, 16, 17, 18, 19, 20, 21, 22, 23, 24, 25, 26, 27, 28, 29, 30, 31, 32, 33, 34, 35, 36, 37] (by decide +kernel) (by decide +kernel)
set_option maxRecDepth 20000 in
theorem gX0_scratchTurnedBack_X0_scratchValues : GoodIn wsX0_scratchTurnedBack (wsV RX0 173 RX0 yX0_scratchValues wsX0_scratchValues) := goodIn_app (goodIn_of _ (by decide +kernel)) ggX0_scratchTurnedBack_X0_scratchValues
theorem dX0_scratchTurnedBack_0 : decode cX0_scratchTurnedBack 0 = .ok (.aload_n 0, 1) := by decide +kernel
theorem dX0_scratchTurnedBack_1 : decode cX0_scratchTurnedBack 1 = .ok (.iload_n 1, 1) := by decide +kernel
theorem dX0_scratchTurnedBack_2 : decode cX0_scratchTurnedBack 2 = .ok (.aload_n 0, 1) := by decide +kernel
theorem dX0_scratchTurnedBack_3 : decode cX0_scratchTurnedBack 3 = .ok (.getfield 162, 3) := by decide +kernel
theorem dX0_scratchTurnedBack_6 : decode cX0_scratchTurnedBack 6 = .ok (.aload_n 0, 1) := by decide +kernel
theorem dX0_scratchTurnedBack_7 : decode cX0_scratchTurnedBack 7 = .ok (.getfield 165, 3) := by decide +kernel
theorem dX0_scratchTurnedBack_10 : decode cX0_scratchTurnedBack 10 = .ok (.invokevirtual 173, 3) := by decide +kernel
theorem dX0_scratchTurnedBack_13 : decode cX0_scratchTurnedBack 13 = .ok (.return_, 1) := by decide +kernel
set_option maxRecDepth 20000 in
theorem ggX0_scratchValues_X0_valueAt : GoodIn wsX0_scratchValues wsX0_valueAt := goodIn_r _ [6, 1, 7, 8, 9, 5, 10, 11, 12, 13, 14, 15, 16, 17, 18, 19, 20, 25, 26, 27, 28, 29, 30, 31] (by decide +kernel) (by decide +kernel)
set_option maxRecDepth 20000 in
theorem gX0_scratchValues_X0_valueAt : GoodIn wsX0_scratchValues (wsV RX0 119 RX0 yX0_valueAt wsX0_valueAt) := goodIn_app (goodIn_of _ (by decide +kernel)) ggX0_scratchValues_X0_valueAt
set_option maxRecDepth 20000 in
theorem ggX0_scratchValues_X0_reduced : GoodIn wsX0_scratchValues wsX0_reduced := goodIn_r _ [15, 16, 17, 18, 19, 20, 25, 26, 27, 28, 29, 30, 31] (by decide +kernel) (by decide +kernel)
set_option maxRecDepth 20000 in
theorem gX0_scratchValues_X0_reduced : GoodIn wsX0_scratchValues (wsV RX0 46 RX0 yX0_reduced wsX0_reduced) := goodIn_app (goodIn_of _ (by decide +kernel)) ggX0_scratchValues_X0_reduced
set_option maxRecDepth 20000 in
theorem ggX0_scratchValues_X0_write : GoodIn wsX0_scratchValues wsX0_write := goodIn_r _ [24, 11, 25, 26, 27, 28, 29, 30, 31] (by decide +kernel) (by decide +kernel)
set_option maxRecDepth 20000 in
theorem gX0_scratchValues_X0_write : GoodIn wsX0_scratchValues (wsV RX0 71 RX0 yX0_write wsX0_write) := goodIn_app (goodIn_of _ (by decide +kernel)) ggX0_scratchValues_X0_write
theorem dX0_scratchValues_0 : decode cX0_scratchValues 0 = .ok (.iconst 1, 1) := by decide +kernel
theorem dX0_scratchValues_1 : decode cX0_scratchValues 1 = .ok (.istore 4, 2) := by decide +kernel
theorem dX0_scratchValues_3 : decode cX0_scratchValues 3 = .ok (.iconst 0, 1) := by decide +kernel
theorem dX0_scratchValues_4 : decode cX0_scratchValues 4 = .ok (.istore 5, 2) := by decide +kernel
theorem dX0_scratchValues_6 : decode cX0_scratchValues 6 = .ok (.iload 5, 2) := by decide +kernel
theorem dX0_scratchValues_8 : decode cX0_scratchValues 8 = .ok (.aload_n 0, 1) := by decide +kernel
theorem dX0_scratchValues_9 : decode cX0_scratchValues 9 = .ok (.getfield 84, 3) := by decide +kernel
theorem dX0_scratchValues_12 : decode cX0_scratchValues 12 = .ok (.if_icmp .ge 39, 3) := by decide +kernel
theorem dX0_scratchValues_15 : decode cX0_scratchValues 15 = .ok (.aload_n 0, 1) := by decide +kernel
theorem dX0_scratchValues_16 : decode cX0_scratchValues 16 = .ok (.iconst 4, 1) := by decide +kernel
theorem dX0_scratchValues_17 : decode cX0_scratchValues 17 = .ok (.iload 5, 2) := by decide +kernel
theorem dX0_scratchValues_19 : decode cX0_scratchValues 19 = .ok (.aload_n 0, 1) := by decide +kernel
theorem dX0_scratchValues_20 : decode cX0_scratchValues 20 = .ok (.aload_n 0, 1) := by decide +kernel
theorem dX0_scratchValues_21 : decode cX0_scratchValues 21 = .ok (.iload_n 1, 1) := by decide +kernel
theorem dX0_scratchValues_22 : decode cX0_scratchValues 22 = .ok (.iload 4, 2) := by decide +kernel
theorem dX0_scratchValues_24 : decode cX0_scratchValues 24 = .ok (.invokevirtual 119, 3) := by decide +kernel
theorem dX0_scratchValues_27 : decode cX0_scratchValues 27 = .ok (.iload_n 3, 1) := by decide +kernel
theorem dX0_scratchValues_28 : decode cX0_scratchValues 28 = .ok (.imul, 1) := by decide +kernel
theorem dX0_scratchValues_29 : decode cX0_scratchValues 29 = .ok (.invokevirtual 46, 3) := by decide +kernel
theorem dX0_scratchValues_32 : decode cX0_scratchValues 32 = .ok (.invokevirtual 71, 3) := by decide +kernel
theorem dX0_scratchValues_35 : decode cX0_scratchValues 35 = .ok (.aload_n 0, 1) := by decide +kernel
theorem dX0_scratchValues_36 : decode cX0_scratchValues 36 = .ok (.iload 4, 2) := by decide +kernel
theorem dX0_scratchValues_38 : decode cX0_scratchValues 38 = .ok (.iload_n 2, 1) := by decide +kernel
theorem dX0_scratchValues_39 : decode cX0_scratchValues 39 = .ok (.imul, 1) := by decide +kernel
theorem dX0_scratchValues_40 : decode cX0_scratchValues 40 = .ok (.invokevirtual 46, 3) := by decide +kernel
theorem dX0_scratchValues_43 : decode cX0_scratchValues 43 = .ok (.istore 4, 2) := by decide +kernel
theorem dX0_scratchValues_45 : decode cX0_scratchValues 45 = .ok (.iinc 5 1, 3) := by decide +kernel
theorem dX0_scratchValues_48 : decode cX0_scratchValues 48 = .ok (.goto (-42), 3) := by decide +kernel
theorem dX0_scratchValues_51 : decode cX0_scratchValues 51 = .ok (.return_, 1) := by decide +kernel
set_option maxRecDepth 20000 in
theorem ggX0_foldedAt_X0_read : GoodIn wsX0_foldedAt wsX0_read := goodIn_r _ [6, 7, 21, 22, 23, 24, 25, 26, 27] (by decide +kernel) (by decide +kernel)
set_option maxRecDepth 20000 in
theorem gX0_foldedAt_X0_read : GoodIn wsX0_foldedAt (wsV RX0 68 RX0 yX0_read wsX0_read) := goodIn_app (goodIn_of _ (by decide +kernel)) ggX0_foldedAt_X0_read
set_option maxRecDepth 20000 in
theorem ggX0_foldedAt_X0_wrapped : GoodIn wsX0_foldedAt wsX0_wrapped := goodIn_r _ [11, 1, 21, 22, 23, 24, 25, 26, 27] (by decide +kernel) (by decide +kernel)
set_option maxRecDepth 20000 in
theorem gX0_foldedAt_X0_wrapped : GoodIn wsX0_foldedAt (wsV RX0 116 RX0 yX0_wrapped wsX0_wrapped) := goodIn_app (goodIn_of _ (by decide +kernel)) ggX0_foldedAt_X0_wrapped
set_option maxRecDepth 20000 in
theorem ggX0_foldedAt_X0_reduced : GoodIn wsX0_foldedAt wsX0_reduced := goodIn_r _ [15, 16, 17, 18, 19, 20, 21, 22, 23, 24, 25, 26, 27] (by decide +kernel) (by decide +kernel)
set_option maxRecDepth 20000 in
theorem gX0_foldedAt_X0_reduced : GoodIn wsX0_foldedAt (wsV RX0 46 RX0 yX0_reduced wsX0_reduced) := goodIn_app (goodIn_of _ (by decide +kernel)) ggX0_foldedAt_X0_reduced
theorem dX0_foldedAt_0 : decode cX0_foldedAt 0 = .ok (.iconst 0, 1) := by decide +kernel
theorem dX0_foldedAt_1 : decode cX0_foldedAt 1 = .ok (.istore 4, 2) := by decide +kernel
theorem dX0_foldedAt_3 : decode cX0_foldedAt 3 = .ok (.iconst 0, 1) := by decide +kernel
theorem dX0_foldedAt_4 : decode cX0_foldedAt 4 = .ok (.istore 5, 2) := by decide +kernel
theorem dX0_foldedAt_6 : decode cX0_foldedAt 6 = .ok (.iload 5, 2) := by decide +kernel
theorem dX0_foldedAt_8 : decode cX0_foldedAt 8 = .ok (.aload_n 0, 1) := by decide +kernel
theorem dX0_foldedAt_9 : decode cX0_foldedAt 9 = .ok (.getfield 84, 3) := by decide +kernel
theorem dX0_foldedAt_12 : decode cX0_foldedAt 12 = .ok (.if_icmp .ge 39, 3) := by decide +kernel
theorem dX0_foldedAt_15 : decode cX0_foldedAt 15 = .ok (.aload_n 0, 1) := by decide +kernel
theorem dX0_foldedAt_16 : decode cX0_foldedAt 16 = .ok (.iload 4, 2) := by decide +kernel
theorem dX0_foldedAt_18 : decode cX0_foldedAt 18 = .ok (.aload_n 0, 1) := by decide +kernel
theorem dX0_foldedAt_19 : decode cX0_foldedAt 19 = .ok (.iload_n 1, 1) := by decide +kernel
theorem dX0_foldedAt_20 : decode cX0_foldedAt 20 = .ok (.iload 5, 2) := by decide +kernel
theorem dX0_foldedAt_22 : decode cX0_foldedAt 22 = .ok (.invokevirtual 68, 3) := by decide +kernel
theorem dX0_foldedAt_25 : decode cX0_foldedAt 25 = .ok (.aload_n 0, 1) := by decide +kernel
theorem dX0_foldedAt_26 : decode cX0_foldedAt 26 = .ok (.iload_n 2, 1) := by decide +kernel
theorem dX0_foldedAt_27 : decode cX0_foldedAt 27 = .ok (.aload_n 0, 1) := by decide +kernel
theorem dX0_foldedAt_28 : decode cX0_foldedAt 28 = .ok (.iload_n 3, 1) := by decide +kernel
theorem dX0_foldedAt_29 : decode cX0_foldedAt 29 = .ok (.iload 5, 2) := by decide +kernel
theorem dX0_foldedAt_31 : decode cX0_foldedAt 31 = .ok (.isub, 1) := by decide +kernel
theorem dX0_foldedAt_32 : decode cX0_foldedAt 32 = .ok (.invokevirtual 116, 3) := by decide +kernel
theorem dX0_foldedAt_35 : decode cX0_foldedAt 35 = .ok (.invokevirtual 68, 3) := by decide +kernel
theorem dX0_foldedAt_38 : decode cX0_foldedAt 38 = .ok (.imul, 1) := by decide +kernel
theorem dX0_foldedAt_39 : decode cX0_foldedAt 39 = .ok (.iadd, 1) := by decide +kernel
theorem dX0_foldedAt_40 : decode cX0_foldedAt 40 = .ok (.invokevirtual 46, 3) := by decide +kernel
theorem dX0_foldedAt_43 : decode cX0_foldedAt 43 = .ok (.istore 4, 2) := by decide +kernel
theorem dX0_foldedAt_45 : decode cX0_foldedAt 45 = .ok (.iinc 5 1, 3) := by decide +kernel
theorem dX0_foldedAt_48 : decode cX0_foldedAt 48 = .ok (.goto (-42), 3) := by decide +kernel
theorem dX0_foldedAt_51 : decode cX0_foldedAt 51 = .ok (.iload 4, 2) := by decide +kernel
theorem dX0_foldedAt_53 : decode cX0_foldedAt 53 = .ok (.ireturn, 1) := by decide +kernel
set_option maxRecDepth 20000 in
theorem ggX0_isWhenMoved_X0_wrapped : GoodIn wsX0_isWhenMoved wsX0_wrapped := goodIn_r _ [6, 1, 12, 13, 14, 15, 16, 17, 18] (by decide +kernel) (by decide +kernel)
set_option maxRecDepth 20000 in
theorem gX0_isWhenMoved_X0_wrapped : GoodIn wsX0_isWhenMoved (wsV RX0 116 RX0 yX0_wrapped wsX0_wrapped) := goodIn_app (goodIn_of _ (by decide +kernel)) ggX0_isWhenMoved_X0_wrapped
set_option maxRecDepth 20000 in
theorem ggX0_isWhenMoved_X0_read : GoodIn wsX0_isWhenMoved wsX0_read := goodIn_r _ [10, 11, 12, 13, 14, 15, 16, 17, 18] (by decide +kernel) (by decide +kernel)
set_option maxRecDepth 20000 in
theorem gX0_isWhenMoved_X0_read : GoodIn wsX0_isWhenMoved (wsV RX0 68 RX0 yX0_read wsX0_read) := goodIn_app (goodIn_of _ (by decide +kernel)) ggX0_isWhenMoved_X0_read
theorem dX0_isWhenMoved_0 : decode cX0_isWhenMoved 0 = .ok (.iconst 0, 1) := by decide +kernel
theorem dX0_isWhenMoved_1 : decode cX0_isWhenMoved 1 = .ok (.istore 4, 2) := by decide +kernel
theorem dX0_isWhenMoved_3 : decode cX0_isWhenMoved 3 = .ok (.iload 4, 2) := by decide +kernel
theorem dX0_isWhenMoved_5 : decode cX0_isWhenMoved 5 = .ok (.aload_n 0, 1) := by decide +kernel
theorem dX0_isWhenMoved_6 : decode cX0_isWhenMoved 6 = .ok (.getfield 84, 3) := by decide +kernel
theorem dX0_isWhenMoved_9 : decode cX0_isWhenMoved 9 = .ok (.if_icmp .ge 34, 3) := by decide +kernel
theorem dX0_isWhenMoved_12 : decode cX0_isWhenMoved 12 = .ok (.aload_n 0, 1) := by decide +kernel
theorem dX0_isWhenMoved_13 : decode cX0_isWhenMoved 13 = .ok (.iload_n 3, 1) := by decide +kernel
theorem dX0_isWhenMoved_14 : decode cX0_isWhenMoved 14 = .ok (.aload_n 0, 1) := by decide +kernel
theorem dX0_isWhenMoved_15 : decode cX0_isWhenMoved 15 = .ok (.iload 4, 2) := by decide +kernel
theorem dX0_isWhenMoved_17 : decode cX0_isWhenMoved 17 = .ok (.iload_n 2, 1) := by decide +kernel
theorem dX0_isWhenMoved_18 : decode cX0_isWhenMoved 18 = .ok (.iadd, 1) := by decide +kernel
theorem dX0_isWhenMoved_19 : decode cX0_isWhenMoved 19 = .ok (.invokevirtual 116, 3) := by decide +kernel
theorem dX0_isWhenMoved_22 : decode cX0_isWhenMoved 22 = .ok (.invokevirtual 68, 3) := by decide +kernel
theorem dX0_isWhenMoved_25 : decode cX0_isWhenMoved 25 = .ok (.aload_n 0, 1) := by decide +kernel
theorem dX0_isWhenMoved_26 : decode cX0_isWhenMoved 26 = .ok (.iload_n 1, 1) := by decide +kernel
theorem dX0_isWhenMoved_27 : decode cX0_isWhenMoved 27 = .ok (.iload 4, 2) := by decide +kernel
theorem dX0_isWhenMoved_29 : decode cX0_isWhenMoved 29 = .ok (.invokevirtual 68, 3) := by decide +kernel
theorem dX0_isWhenMoved_32 : decode cX0_isWhenMoved 32 = .ok (.if_icmp .eq 5, 3) := by decide +kernel
theorem dX0_isWhenMoved_35 : decode cX0_isWhenMoved 35 = .ok (.iconst 0, 1) := by decide +kernel
theorem dX0_isWhenMoved_36 : decode cX0_isWhenMoved 36 = .ok (.ireturn, 1) := by decide +kernel
theorem dX0_isWhenMoved_37 : decode cX0_isWhenMoved 37 = .ok (.iinc 4 1, 3) := by decide +kernel
theorem dX0_isWhenMoved_40 : decode cX0_isWhenMoved 40 = .ok (.goto (-37), 3) := by decide +kernel
theorem dX0_isWhenMoved_43 : decode cX0_isWhenMoved 43 = .ok (.iconst 1, 1) := by decide +kernel
theorem dX0_isWhenMoved_44 : decode cX0_isWhenMoved 44 = .ok (.ireturn, 1) := by decide +kernel
theorem dX0_counted_0 : decode cX0_counted 0 = .ok (.iload_n 1, 1) := by decide +kernel
theorem dX0_counted_1 : decode cX0_counted 1 = .ok (.tableswitch 60 0 4 #[35, 40, 45, 50, 55], 35) := by decide +kernel
theorem dX0_counted_36 : decode cX0_counted 36 = .ok (.aload_n 0, 1) := by decide +kernel
theorem dX0_counted_37 : decode cX0_counted 37 = .ok (.getfield 84, 3) := by decide +kernel
theorem dX0_counted_40 : decode cX0_counted 40 = .ok (.ireturn, 1) := by decide +kernel
theorem dX0_counted_41 : decode cX0_counted 41 = .ok (.aload_n 0, 1) := by decide +kernel
theorem dX0_counted_42 : decode cX0_counted 42 = .ok (.getfield 43, 3) := by decide +kernel
theorem dX0_counted_45 : decode cX0_counted 45 = .ok (.ireturn, 1) := by decide +kernel
theorem dX0_counted_46 : decode cX0_counted 46 = .ok (.aload_n 0, 1) := by decide +kernel
theorem dX0_counted_47 : decode cX0_counted 47 = .ok (.getfield 35, 3) := by decide +kernel
theorem dX0_counted_50 : decode cX0_counted 50 = .ok (.ireturn, 1) := by decide +kernel
theorem dX0_counted_51 : decode cX0_counted 51 = .ok (.aload_n 0, 1) := by decide +kernel
theorem dX0_counted_52 : decode cX0_counted 52 = .ok (.getfield 162, 3) := by decide +kernel
theorem dX0_counted_55 : decode cX0_counted 55 = .ok (.ireturn, 1) := by decide +kernel
theorem dX0_counted_56 : decode cX0_counted 56 = .ok (.aload_n 0, 1) := by decide +kernel
theorem dX0_counted_57 : decode cX0_counted 57 = .ok (.getfield 165, 3) := by decide +kernel
theorem dX0_counted_60 : decode cX0_counted 60 = .ok (.ireturn, 1) := by decide +kernel
theorem dX0_counted_61 : decode cX0_counted 61 = .ok (.aload_n 0, 1) := by decide +kernel
theorem dX0_counted_62 : decode cX0_counted 62 = .ok (.getfield 90, 3) := by decide +kernel
theorem dX0_counted_65 : decode cX0_counted 65 = .ok (.ireturn, 1) := by decide +kernel
set_option maxRecDepth 20000 in
theorem ggX0_told_X0_plainSum : GoodIn wsX0_told wsX0_plainSum := goodIn_r _ [5, 6, 7, 8, 9, 4, 10, 11, 49, 50, 51, 52, 53, 54, 55] (by decide +kernel) (by decide +kernel)
set_option maxRecDepth 20000 in
theorem gX0_told_X0_plainSum : GoodIn wsX0_told (wsV RX0 139 RX0 yX0_plainSum wsX0_plainSum) := goodIn_app (goodIn_of _ (by decide +kernel)) ggX0_told_X0_plainSum
set_option maxRecDepth 20000 in
theorem ggX0_told_X0_reduced : GoodIn wsX0_told wsX0_reduced := goodIn_r _ [15, 16, 17, 18, 19, 20, 49, 50, 51, 52, 53, 54, 55] (by decide +kernel) (by decide +kernel)
set_option maxRecDepth 20000 in
theorem gX0_told_X0_reduced : GoodIn wsX0_told (wsV RX0 46 RX0 yX0_reduced wsX0_reduced) := goodIn_app (goodIn_of _ (by decide +kernel)) ggX0_told_X0_reduced
set_option maxRecDepth 20000 in
theorem ggX0_told_X0_nonZeros : GoodIn wsX0_told wsX0_nonZeros := goodIn_r _ [24, 6, 7, 8, 9, 4, 10, 11, 49, 50, 51, 52, 53, 54, 55] (by decide +kernel) (by decide +kernel)
set_option maxRecDepth 20000 in
theorem gX0_told_X0_nonZeros : GoodIn wsX0_told (wsV RX0 111 RX0 yX0_nonZeros wsX0_nonZeros) := goodIn_app (goodIn_of _ (by decide +kernel)) ggX0_told_X0_nonZeros
set_option maxRecDepth 20000 in
theorem ggX0_told_X0_lastNonZero : GoodIn wsX0_told wsX0_lastNonZero := goodIn_r _ [28, 6, 7, 8, 9, 4, 10, 11, 49, 50, 51, 52, 53, 54, 55] (by decide +kernel) (by decide +kernel)
set_option maxRecDepth 20000 in
theorem gX0_told_X0_lastNonZero : GoodIn wsX0_told (wsV RX0 176 RX0 yX0_lastNonZero wsX0_lastNonZero) := goodIn_app (goodIn_of _ (by decide +kernel)) ggX0_told_X0_lastNonZero
set_option maxRecDepth 20000 in
theorem ggX0_told_X0_period : GoodIn wsX0_told wsX0_period := goodIn_r _ [32, 6, 33, 34, 35, 4, 36, 37, 38, 39, 40, 7, 8, 9, 10, 11, 49, 50, 51, 52, 53, 54, 55] (by decide +kernel) (by decide +kernel)
set_option maxRecDepth 20000 in
theorem gX0_told_X0_period : GoodIn wsX0_told (wsV RX0 179 RX0 yX0_period wsX0_period) := goodIn_app (goodIn_of _ (by decide +kernel)) ggX0_told_X0_period
set_option maxRecDepth 20000 in
theorem ggX0_told_X0_greatestNumber : GoodIn wsX0_told wsX0_greatestNumber := goodIn_r _ [44, 6, 45, 46, 47, 48, 7, 8, 9, 4, 10, 11, 49, 50, 51, 52, 53, 54, 55] (by decide +kernel) (by decide +kernel)
set_option maxRecDepth 20000 in
theorem gX0_told_X0_greatestNumber : GoodIn wsX0_told (wsV RX0 182 RX0 yX0_greatestNumber wsX0_greatestNumber) := goodIn_app (goodIn_of _ (by decide +kernel)) ggX0_told_X0_greatestNumber
theorem dX0_told_0 : decode cX0_told 0 = .ok (.iload_n 2, 1) := by decide +kernel
theorem dX0_told_1 : decode cX0_told 1 = .ok (.tableswitch 59 0 3 #[31, 41, 47, 53], 31) := by decide +kernel
theorem dX0_told_32 : decode cX0_told 32 = .ok (.aload_n 0, 1) := by decide +kernel
theorem dX0_told_33 : decode cX0_told 33 = .ok (.aload_n 0, 1) := by decide +kernel
theorem dX0_told_34 : decode cX0_told 34 = .ok (.iload_n 1, 1) := by decide +kernel
theorem dX0_told_35 : decode cX0_told 35 = .ok (.invokevirtual 139, 3) := by decide +kernel
theorem dX0_told_38 : decode cX0_told 38 = .ok (.invokevirtual 46, 3) := by decide +kernel
theorem dX0_told_41 : decode cX0_told 41 = .ok (.ireturn, 1) := by decide +kernel
theorem dX0_told_42 : decode cX0_told 42 = .ok (.aload_n 0, 1) := by decide +kernel
theorem dX0_told_43 : decode cX0_told 43 = .ok (.iload_n 1, 1) := by decide +kernel
theorem dX0_told_44 : decode cX0_told 44 = .ok (.invokevirtual 111, 3) := by decide +kernel
theorem dX0_told_47 : decode cX0_told 47 = .ok (.ireturn, 1) := by decide +kernel
theorem dX0_told_48 : decode cX0_told 48 = .ok (.aload_n 0, 1) := by decide +kernel
theorem dX0_told_49 : decode cX0_told 49 = .ok (.iload_n 1, 1) := by decide +kernel
theorem dX0_told_50 : decode cX0_told 50 = .ok (.invokevirtual 176, 3) := by decide +kernel
theorem dX0_told_53 : decode cX0_told 53 = .ok (.ireturn, 1) := by decide +kernel
theorem dX0_told_54 : decode cX0_told 54 = .ok (.aload_n 0, 1) := by decide +kernel
theorem dX0_told_55 : decode cX0_told 55 = .ok (.iload_n 1, 1) := by decide +kernel
theorem dX0_told_56 : decode cX0_told 56 = .ok (.invokevirtual 179, 3) := by decide +kernel
theorem dX0_told_59 : decode cX0_told 59 = .ok (.ireturn, 1) := by decide +kernel
theorem dX0_told_60 : decode cX0_told 60 = .ok (.aload_n 0, 1) := by decide +kernel
theorem dX0_told_61 : decode cX0_told 61 = .ok (.iload_n 1, 1) := by decide +kernel
theorem dX0_told_62 : decode cX0_told 62 = .ok (.invokevirtual 182, 3) := by decide +kernel
theorem dX0_told_65 : decode cX0_told 65 = .ok (.ireturn, 1) := by decide +kernel
set_option maxRecDepth 20000 in
theorem ggX0_plainSum_X0_read : GoodIn wsX0_plainSum wsX0_read := goodIn_r _ [6, 7, 8, 9, 10, 11, 12, 13, 14] (by decide +kernel) (by decide +kernel)
set_option maxRecDepth 20000 in
theorem gX0_plainSum_X0_read : GoodIn wsX0_plainSum (wsV RX0 68 RX0 yX0_read wsX0_read) := goodIn_app (goodIn_of _ (by decide +kernel)) ggX0_plainSum_X0_read
theorem dX0_plainSum_0 : decode cX0_plainSum 0 = .ok (.iconst 0, 1) := by decide +kernel
theorem dX0_plainSum_1 : decode cX0_plainSum 1 = .ok (.istore_n 2, 1) := by decide +kernel
theorem dX0_plainSum_2 : decode cX0_plainSum 2 = .ok (.iconst 0, 1) := by decide +kernel
theorem dX0_plainSum_3 : decode cX0_plainSum 3 = .ok (.istore_n 3, 1) := by decide +kernel
theorem dX0_plainSum_4 : decode cX0_plainSum 4 = .ok (.iload_n 3, 1) := by decide +kernel
theorem dX0_plainSum_5 : decode cX0_plainSum 5 = .ok (.aload_n 0, 1) := by decide +kernel
theorem dX0_plainSum_6 : decode cX0_plainSum 6 = .ok (.getfield 84, 3) := by decide +kernel
theorem dX0_plainSum_9 : decode cX0_plainSum 9 = .ok (.if_icmp .ge 18, 3) := by decide +kernel
theorem dX0_plainSum_12 : decode cX0_plainSum 12 = .ok (.iload_n 2, 1) := by decide +kernel
theorem dX0_plainSum_13 : decode cX0_plainSum 13 = .ok (.aload_n 0, 1) := by decide +kernel
theorem dX0_plainSum_14 : decode cX0_plainSum 14 = .ok (.iload_n 1, 1) := by decide +kernel
theorem dX0_plainSum_15 : decode cX0_plainSum 15 = .ok (.iload_n 3, 1) := by decide +kernel
theorem dX0_plainSum_16 : decode cX0_plainSum 16 = .ok (.invokevirtual 68, 3) := by decide +kernel
theorem dX0_plainSum_19 : decode cX0_plainSum 19 = .ok (.iadd, 1) := by decide +kernel
theorem dX0_plainSum_20 : decode cX0_plainSum 20 = .ok (.istore_n 2, 1) := by decide +kernel
theorem dX0_plainSum_21 : decode cX0_plainSum 21 = .ok (.iinc 3 1, 3) := by decide +kernel
theorem dX0_plainSum_24 : decode cX0_plainSum 24 = .ok (.goto (-20), 3) := by decide +kernel
theorem dX0_plainSum_27 : decode cX0_plainSum 27 = .ok (.iload_n 2, 1) := by decide +kernel
theorem dX0_plainSum_28 : decode cX0_plainSum 28 = .ok (.ireturn, 1) := by decide +kernel
set_option maxRecDepth 20000 in
theorem ggX0_nonZeros_X0_read : GoodIn wsX0_nonZeros wsX0_read := goodIn_r _ [6, 7, 8, 9, 10, 11, 12, 13, 14] (by decide +kernel) (by decide +kernel)
set_option maxRecDepth 20000 in
theorem gX0_nonZeros_X0_read : GoodIn wsX0_nonZeros (wsV RX0 68 RX0 yX0_read wsX0_read) := goodIn_app (goodIn_of _ (by decide +kernel)) ggX0_nonZeros_X0_read
theorem dX0_nonZeros_0 : decode cX0_nonZeros 0 = .ok (.iconst 0, 1) := by decide +kernel
theorem dX0_nonZeros_1 : decode cX0_nonZeros 1 = .ok (.istore_n 2, 1) := by decide +kernel
theorem dX0_nonZeros_2 : decode cX0_nonZeros 2 = .ok (.iconst 0, 1) := by decide +kernel
theorem dX0_nonZeros_3 : decode cX0_nonZeros 3 = .ok (.istore_n 3, 1) := by decide +kernel
theorem dX0_nonZeros_4 : decode cX0_nonZeros 4 = .ok (.iload_n 3, 1) := by decide +kernel
theorem dX0_nonZeros_5 : decode cX0_nonZeros 5 = .ok (.aload_n 0, 1) := by decide +kernel
theorem dX0_nonZeros_6 : decode cX0_nonZeros 6 = .ok (.getfield 84, 3) := by decide +kernel
theorem dX0_nonZeros_9 : decode cX0_nonZeros 9 = .ok (.if_icmp .ge 21, 3) := by decide +kernel
theorem dX0_nonZeros_12 : decode cX0_nonZeros 12 = .ok (.aload_n 0, 1) := by decide +kernel
theorem dX0_nonZeros_13 : decode cX0_nonZeros 13 = .ok (.iload_n 1, 1) := by decide +kernel
theorem dX0_nonZeros_14 : decode cX0_nonZeros 14 = .ok (.iload_n 3, 1) := by decide +kernel
theorem dX0_nonZeros_15 : decode cX0_nonZeros 15 = .ok (.invokevirtual 68, 3) := by decide +kernel
theorem dX0_nonZeros_18 : decode cX0_nonZeros 18 = .ok (.ifCond .eq 6, 3) := by decide +kernel
theorem dX0_nonZeros_21 : decode cX0_nonZeros 21 = .ok (.iinc 2 1, 3) := by decide +kernel
theorem dX0_nonZeros_24 : decode cX0_nonZeros 24 = .ok (.iinc 3 1, 3) := by decide +kernel
theorem dX0_nonZeros_27 : decode cX0_nonZeros 27 = .ok (.goto (-23), 3) := by decide +kernel
theorem dX0_nonZeros_30 : decode cX0_nonZeros 30 = .ok (.iload_n 2, 1) := by decide +kernel
theorem dX0_nonZeros_31 : decode cX0_nonZeros 31 = .ok (.ireturn, 1) := by decide +kernel
set_option maxRecDepth 20000 in
theorem ggX0_lastNonZero_X0_read : GoodIn wsX0_lastNonZero wsX0_read := goodIn_r _ [6, 7, 8, 9, 10, 11, 12, 13, 14] (by decide +kernel) (by decide +kernel)
set_option maxRecDepth 20000 in
theorem gX0_lastNonZero_X0_read : GoodIn wsX0_lastNonZero (wsV RX0 68 RX0 yX0_read wsX0_read) := goodIn_app (goodIn_of _ (by decide +kernel)) ggX0_lastNonZero_X0_read
theorem dX0_lastNonZero_0 : decode cX0_lastNonZero 0 = .ok (.aload_n 0, 1) := by decide +kernel
theorem dX0_lastNonZero_1 : decode cX0_lastNonZero 1 = .ok (.getfield 84, 3) := by decide +kernel
theorem dX0_lastNonZero_4 : decode cX0_lastNonZero 4 = .ok (.iconst 1, 1) := by decide +kernel
theorem dX0_lastNonZero_5 : decode cX0_lastNonZero 5 = .ok (.isub, 1) := by decide +kernel
theorem dX0_lastNonZero_6 : decode cX0_lastNonZero 6 = .ok (.istore_n 2, 1) := by decide +kernel
theorem dX0_lastNonZero_7 : decode cX0_lastNonZero 7 = .ok (.iload_n 2, 1) := by decide +kernel
theorem dX0_lastNonZero_8 : decode cX0_lastNonZero 8 = .ok (.ifCond .lt 20, 3) := by decide +kernel
theorem dX0_lastNonZero_11 : decode cX0_lastNonZero 11 = .ok (.aload_n 0, 1) := by decide +kernel
theorem dX0_lastNonZero_12 : decode cX0_lastNonZero 12 = .ok (.iload_n 1, 1) := by decide +kernel
theorem dX0_lastNonZero_13 : decode cX0_lastNonZero 13 = .ok (.iload_n 2, 1) := by decide +kernel
theorem dX0_lastNonZero_14 : decode cX0_lastNonZero 14 = .ok (.invokevirtual 68, 3) := by decide +kernel
theorem dX0_lastNonZero_17 : decode cX0_lastNonZero 17 = .ok (.ifCond .eq 5, 3) := by decide +kernel
theorem dX0_lastNonZero_20 : decode cX0_lastNonZero 20 = .ok (.iload_n 2, 1) := by decide +kernel
theorem dX0_lastNonZero_21 : decode cX0_lastNonZero 21 = .ok (.ireturn, 1) := by decide +kernel
theorem dX0_lastNonZero_22 : decode cX0_lastNonZero 22 = .ok (.iinc 2 (-1), 3) := by decide +kernel
theorem dX0_lastNonZero_25 : decode cX0_lastNonZero 25 = .ok (.goto (-18), 3) := by decide +kernel
theorem dX0_lastNonZero_28 : decode cX0_lastNonZero 28 = .ok (.iconst (-1), 1) := by decide +kernel
theorem dX0_lastNonZero_29 : decode cX0_lastNonZero 29 = .ok (.ireturn, 1) := by decide +kernel
set_option maxRecDepth 20000 in
theorem ggX0_period_X0_isWhenMoved : GoodIn wsX0_period wsX0_isWhenMoved := goodIn_r _ [6, 1, 7, 8, 9, 5, 10, 11, 12, 13, 14, 15, 16, 17, 18, 19, 20, 21, 22] (by decide +kernel) (by decide +kernel)
set_option maxRecDepth 20000 in
theorem gX0_period_X0_isWhenMoved : GoodIn wsX0_period (wsV RX0 132 RX0 yX0_isWhenMoved wsX0_isWhenMoved) := goodIn_app (goodIn_of _ (by decide +kernel)) ggX0_period_X0_isWhenMoved
theorem dX0_period_0 : decode cX0_period 0 = .ok (.iconst 1, 1) := by decide +kernel
theorem dX0_period_1 : decode cX0_period 1 = .ok (.istore_n 2, 1) := by decide +kernel
theorem dX0_period_2 : decode cX0_period 2 = .ok (.iload_n 2, 1) := by decide +kernel
theorem dX0_period_3 : decode cX0_period 3 = .ok (.aload_n 0, 1) := by decide +kernel
theorem dX0_period_4 : decode cX0_period 4 = .ok (.getfield 84, 3) := by decide +kernel
theorem dX0_period_7 : decode cX0_period 7 = .ok (.if_icmp .ge 21, 3) := by decide +kernel
theorem dX0_period_10 : decode cX0_period 10 = .ok (.aload_n 0, 1) := by decide +kernel
theorem dX0_period_11 : decode cX0_period 11 = .ok (.iload_n 1, 1) := by decide +kernel
theorem dX0_period_12 : decode cX0_period 12 = .ok (.iload_n 2, 1) := by decide +kernel
theorem dX0_period_13 : decode cX0_period 13 = .ok (.iload_n 1, 1) := by decide +kernel
theorem dX0_period_14 : decode cX0_period 14 = .ok (.invokevirtual 132, 3) := by decide +kernel
theorem dX0_period_17 : decode cX0_period 17 = .ok (.ifCond .eq 5, 3) := by decide +kernel
theorem dX0_period_20 : decode cX0_period 20 = .ok (.iload_n 2, 1) := by decide +kernel
theorem dX0_period_21 : decode cX0_period 21 = .ok (.ireturn, 1) := by decide +kernel
theorem dX0_period_22 : decode cX0_period 22 = .ok (.iinc 2 1, 3) := by decide +kernel
theorem dX0_period_25 : decode cX0_period 25 = .ok (.goto (-23), 3) := by decide +kernel
theorem dX0_period_28 : decode cX0_period 28 = .ok (.aload_n 0, 1) := by decide +kernel
theorem dX0_period_29 : decode cX0_period 29 = .ok (.getfield 84, 3) := by decide +kernel
theorem dX0_period_32 : decode cX0_period 32 = .ok (.ireturn, 1) := by decide +kernel
set_option maxRecDepth 20000 in
theorem ggX0_greatestNumber_X0_read : GoodIn wsX0_greatestNumber wsX0_read := goodIn_r _ [10, 11, 12, 13, 14, 15, 16, 17, 18] (by decide +kernel) (by decide +kernel)
set_option maxRecDepth 20000 in
theorem gX0_greatestNumber_X0_read : GoodIn wsX0_greatestNumber (wsV RX0 68 RX0 yX0_read wsX0_read) := goodIn_app (goodIn_of _ (by decide +kernel)) ggX0_greatestNumber_X0_read
theorem dX0_greatestNumber_0 : decode cX0_greatestNumber 0 = .ok (.iconst 0, 1) := by decide +kernel
theorem dX0_greatestNumber_1 : decode cX0_greatestNumber 1 = .ok (.istore_n 2, 1) := by decide +kernel
theorem dX0_greatestNumber_2 : decode cX0_greatestNumber 2 = .ok (.iconst 0, 1) := by decide +kernel
theorem dX0_greatestNumber_3 : decode cX0_greatestNumber 3 = .ok (.istore_n 3, 1) := by decide +kernel
theorem dX0_greatestNumber_4 : decode cX0_greatestNumber 4 = .ok (.iload_n 3, 1) := by decide +kernel
theorem dX0_greatestNumber_5 : decode cX0_greatestNumber 5 = .ok (.aload_n 0, 1) := by decide +kernel
theorem dX0_greatestNumber_6 : decode cX0_greatestNumber 6 = .ok (.getfield 84, 3) := by decide +kernel
theorem dX0_greatestNumber_9 : decode cX0_greatestNumber 9 = .ok (.if_icmp .ge 20, 3) := by decide +kernel
theorem dX0_greatestNumber_12 : decode cX0_greatestNumber 12 = .ok (.iload_n 2, 1) := by decide +kernel
theorem dX0_greatestNumber_13 : decode cX0_greatestNumber 13 = .ok (.aload_n 0, 1) := by decide +kernel
theorem dX0_greatestNumber_14 : decode cX0_greatestNumber 14 = .ok (.iload_n 1, 1) := by decide +kernel
theorem dX0_greatestNumber_15 : decode cX0_greatestNumber 15 = .ok (.iload_n 3, 1) := by decide +kernel
theorem dX0_greatestNumber_16 : decode cX0_greatestNumber 16 = .ok (.invokevirtual 68, 3) := by decide +kernel
theorem dX0_greatestNumber_19 : decode cX0_greatestNumber 19 = .ok (.invokestatic 185, 3) := by decide +kernel
theorem dX0_greatestNumber_22 : decode cX0_greatestNumber 22 = .ok (.istore_n 2, 1) := by decide +kernel
theorem dX0_greatestNumber_23 : decode cX0_greatestNumber 23 = .ok (.iinc 3 1, 3) := by decide +kernel
theorem dX0_greatestNumber_26 : decode cX0_greatestNumber 26 = .ok (.goto (-22), 3) := by decide +kernel
theorem dX0_greatestNumber_29 : decode cX0_greatestNumber 29 = .ok (.iload_n 2, 1) := by decide +kernel
theorem dX0_greatestNumber_30 : decode cX0_greatestNumber 30 = .ok (.ireturn, 1) := by decide +kernel
set_option maxRecDepth 20000 in
theorem ggX0_digestRow_X0_read : GoodIn wsX0_digestRow wsX0_read := goodIn_r _ [7, 8, 9, 10, 11, 12, 13, 14, 15] (by decide +kernel) (by decide +kernel)
set_option maxRecDepth 20000 in
theorem gX0_digestRow_X0_read : GoodIn wsX0_digestRow (wsV RX0 68 RX0 yX0_read wsX0_read) := goodIn_app (goodIn_of _ (by decide +kernel)) ggX0_digestRow_X0_read
theorem dX0_digestRow_0 : decode cX0_digestRow 0 = .ok (.lload_n 1, 1) := by decide +kernel
theorem dX0_digestRow_1 : decode cX0_digestRow 1 = .ok (.lstore 4, 2) := by decide +kernel
theorem dX0_digestRow_3 : decode cX0_digestRow 3 = .ok (.iconst 0, 1) := by decide +kernel
theorem dX0_digestRow_4 : decode cX0_digestRow 4 = .ok (.istore 6, 2) := by decide +kernel
theorem dX0_digestRow_6 : decode cX0_digestRow 6 = .ok (.iload 6, 2) := by decide +kernel
theorem dX0_digestRow_8 : decode cX0_digestRow 8 = .ok (.aload_n 0, 1) := by decide +kernel
theorem dX0_digestRow_9 : decode cX0_digestRow 9 = .ok (.getfield 84, 3) := by decide +kernel
theorem dX0_digestRow_12 : decode cX0_digestRow 12 = .ok (.if_icmp .ge 26, 3) := by decide +kernel
theorem dX0_digestRow_15 : decode cX0_digestRow 15 = .ok (.lload 4, 2) := by decide +kernel
theorem dX0_digestRow_17 : decode cX0_digestRow 17 = .ok (.ldc2_w 144, 3) := by decide +kernel
theorem dX0_digestRow_20 : decode cX0_digestRow 20 = .ok (.lmul, 1) := by decide +kernel
theorem dX0_digestRow_21 : decode cX0_digestRow 21 = .ok (.aload_n 0, 1) := by decide +kernel
theorem dX0_digestRow_22 : decode cX0_digestRow 22 = .ok (.iload_n 3, 1) := by decide +kernel
theorem dX0_digestRow_23 : decode cX0_digestRow 23 = .ok (.iload 6, 2) := by decide +kernel
theorem dX0_digestRow_25 : decode cX0_digestRow 25 = .ok (.invokevirtual 68, 3) := by decide +kernel
theorem dX0_digestRow_28 : decode cX0_digestRow 28 = .ok (.i2l, 1) := by decide +kernel
theorem dX0_digestRow_29 : decode cX0_digestRow 29 = .ok (.ladd, 1) := by decide +kernel
theorem dX0_digestRow_30 : decode cX0_digestRow 30 = .ok (.lstore 4, 2) := by decide +kernel
theorem dX0_digestRow_32 : decode cX0_digestRow 32 = .ok (.iinc 6 1, 3) := by decide +kernel
theorem dX0_digestRow_35 : decode cX0_digestRow 35 = .ok (.goto (-29), 3) := by decide +kernel
theorem dX0_digestRow_38 : decode cX0_digestRow 38 = .ok (.lload 4, 2) := by decide +kernel
theorem dX0_digestRow_40 : decode cX0_digestRow 40 = .ok (.lreturn, 1) := by decide +kernel
theorem dJ9_floorMod_7cf53_0 : decode cJ9_floorMod_7cf53 0 = .ok (.iload_n 0, 1) := by decide +kernel
theorem dJ9_floorMod_7cf53_1 : decode cJ9_floorMod_7cf53 1 = .ok (.iload_n 1, 1) := by decide +kernel
theorem dJ9_floorMod_7cf53_2 : decode cJ9_floorMod_7cf53 2 = .ok (.irem, 1) := by decide +kernel
theorem dJ9_floorMod_7cf53_3 : decode cJ9_floorMod_7cf53 3 = .ok (.istore_n 2, 1) := by decide +kernel
theorem dJ9_floorMod_7cf53_4 : decode cJ9_floorMod_7cf53 4 = .ok (.iload_n 0, 1) := by decide +kernel
theorem dJ9_floorMod_7cf53_5 : decode cJ9_floorMod_7cf53 5 = .ok (.iload_n 1, 1) := by decide +kernel
theorem dJ9_floorMod_7cf53_6 : decode cJ9_floorMod_7cf53 6 = .ok (.ixor, 1) := by decide +kernel
theorem dJ9_floorMod_7cf53_7 : decode cJ9_floorMod_7cf53 7 = .ok (.ifCond .ge 11, 3) := by decide +kernel
theorem dJ9_floorMod_7cf53_10 : decode cJ9_floorMod_7cf53 10 = .ok (.iload_n 2, 1) := by decide +kernel
theorem dJ9_floorMod_7cf53_11 : decode cJ9_floorMod_7cf53 11 = .ok (.ifCond .eq 7, 3) := by decide +kernel
theorem dJ9_floorMod_7cf53_14 : decode cJ9_floorMod_7cf53 14 = .ok (.iload_n 2, 1) := by decide +kernel
theorem dJ9_floorMod_7cf53_15 : decode cJ9_floorMod_7cf53 15 = .ok (.iload_n 1, 1) := by decide +kernel
theorem dJ9_floorMod_7cf53_16 : decode cJ9_floorMod_7cf53 16 = .ok (.iadd, 1) := by decide +kernel
theorem dJ9_floorMod_7cf53_17 : decode cJ9_floorMod_7cf53 17 = .ok (.ireturn, 1) := by decide +kernel
theorem dJ9_floorMod_7cf53_18 : decode cJ9_floorMod_7cf53 18 = .ok (.iload_n 2, 1) := by decide +kernel
theorem dJ9_floorMod_7cf53_19 : decode cJ9_floorMod_7cf53 19 = .ok (.ireturn, 1) := by decide +kernel
theorem dJ9_max_7cf53_0 : decode cJ9_max_7cf53 0 = .ok (.iload_n 0, 1) := by decide +kernel
theorem dJ9_max_7cf53_1 : decode cJ9_max_7cf53 1 = .ok (.iload_n 1, 1) := by decide +kernel
theorem dJ9_max_7cf53_2 : decode cJ9_max_7cf53 2 = .ok (.if_icmp .lt 7, 3) := by decide +kernel
theorem dJ9_max_7cf53_5 : decode cJ9_max_7cf53 5 = .ok (.iload_n 0, 1) := by decide +kernel
theorem dJ9_max_7cf53_6 : decode cJ9_max_7cf53 6 = .ok (.goto 4, 3) := by decide +kernel
theorem dJ9_max_7cf53_9 : decode cJ9_max_7cf53 9 = .ok (.iload_n 1, 1) := by decide +kernel
theorem dJ9_max_7cf53_10 : decode cJ9_max_7cf53 10 = .ok (.ireturn, 1) := by decide +kernel
end
section
/-! ===== the numbers: what class and model both reckon, over Nat ===== -/
theorem mb {a b c : Nat} (h1 : a < 500) (h2 : b < 500) (h3 : c < 250000) : a * b + c < 2147483648 := by
  have h := Nat.mul_le_mul (Nat.le_of_lt_succ h1) (Nat.le_of_lt_succ h2)
  omega
theorem mb0 {a b : Nat} (h1 : a < 500) (h2 : b < 500) : a * b < 2147483648 := by
  have h := Nat.mul_le_mul (Nat.le_of_lt_succ h1) (Nat.le_of_lt_succ h2)
  omega
theorem mb' {a b c : Nat} (h1 : a < 500) (h2 : b < 500) (h3 : c < 250000) : c + a * b < 2147483648 := by
  have h := Nat.mul_le_mul (Nat.le_of_lt_succ h1) (Nat.le_of_lt_succ h2)
  omega
theorem ml {x p : Nat} (hp : 0 < p) (h5 : p < 500) : x % p < 500 := Nat.lt_trans (Nat.mod_lt x hp) h5
/-- the value at x of row r, the last j places taken -/
def hr (p n : Nat) (A : Nat → Nat) (r x : Nat) : Nat → Nat
  | 0 => 0
  | j + 1 => (hr p n A r x j * x + A (16 * r + (n - 1 - j))) % p
def pv (p n : Nat) (A : Nat → Nat) (r x : Nat) : Nat := hr p n A r x n
theorem hr_lt {p n : Nat} {A : Nat → Nat} {r x : Nat} (hp : 0 < p) : ∀ j, hr p n A r x j < p
  | 0 => hp
  | _ + 1 => Nat.mod_lt _ hp
theorem hr_cg {p n : Nat} {A B : Nat → Nat} {r x : Nat} : ∀ j, j ≤ n → (∀ k, k < n → A (16 * r + k) = B (16 * r + k)) → hr p n A r x j = hr p n B r x j
  | 0, _, _ => rfl
  | j + 1, hj, h => by
    rw [hr, hr, hr_cg j (by omega) h, h (n - 1 - j) (by omega)]
theorem pv_cg {p n : Nat} {A B : Nat → Nat} {r x : Nat} (h : ∀ k, k < n → A (16 * r + k) = B (16 * r + k)) : pv p n A r x = pv p n B r x := hr_cg n (Nat.le_refl _) h
theorem pv_lt {p n : Nat} {A : Nat → Nat} {r x : Nat} (hp : 0 < p) : pv p n A r x < p := hr_lt hp n
/-- powers by the remainder -/
def pw (p b : Nat) : Nat → Nat
  | 0 => 1
  | k + 1 => (pw p b k * b) % p
theorem pw_lt {p b : Nat} (hp : 1 < p) : ∀ k, pw p b k < p
  | 0 => hp
  | _ + 1 => Nat.mod_lt _ (by omega)
/-- how many of the first ones -/
def cc (P : Nat → Bool) : Nat → Nat
  | 0 => 0
  | k + 1 => cc P k + (if P k = true then 1 else 0)
theorem cc_le (P : Nat → Bool) : ∀ k, cc P k ≤ k
  | 0 => Nat.le_refl 0
  | k + 1 => by
    have := cc_le P k
    rw [cc]; split <;> omega
theorem cc_cg {P Q : Nat → Bool} : ∀ k, (∀ j, j < k → P j = Q j) → cc P k = cc Q k
  | 0, _ => rfl
  | k + 1, h => by rw [cc, cc, cc_cg k (fun j hj => h j (by omega)), h k (by omega)]
theorem cc_t {P : Nat → Bool} {k : Nat} (h : P k = true) : cc P (k + 1) = cc P k + 1 := by rw [cc, if_pos h]
theorem cc_f {P : Nat → Bool} {k : Nat} (h : P k = false) : cc P (k + 1) = cc P k := by rw [cc, h]; rfl
/-- a row folded with another at a place; two rows sounding together; the plain sum; the greatest; the last other than 0 -/
def fo (p n : Nat) (A : Nat → Nat) (a b q : Nat) : Nat → Nat
  | 0 => 0
  | k + 1 => (fo p n A a b q k + A (16 * a + k) * A (16 * b + (q + n - k) % n)) % p
def so (p n : Nat) (A : Nat → Nat) (a b q : Nat) : Nat → Nat
  | 0 => 0
  | k + 1 => (so p n A a b q k + A (16 * a + k) * A (16 * b + (k + q) % n)) % p
def sm (A : Nat → Nat) (r : Nat) : Nat → Nat
  | 0 => 0
  | k + 1 => sm A r k + A (16 * r + k)
def gr (A : Nat → Nat) (r : Nat) : Nat → Nat
  | 0 => 0
  | k + 1 => if gr A r k < A (16 * r + k) then A (16 * r + k) else gr A r k
def ln (A : Nat → Nat) (r : Nat) : Nat → Int
  | 0 => -1
  | j + 1 => if A (16 * r + j) = 0 then ln A r j else (j : Int)
theorem fo_lt {p n : Nat} {A : Nat → Nat} {a b q : Nat} (hp : 0 < p) : ∀ j, fo p n A a b q j < p
  | 0 => hp
  | _ + 1 => Nat.mod_lt _ hp
theorem so_lt {p n : Nat} {A : Nat → Nat} {a b q : Nat} (hp : 0 < p) : ∀ j, so p n A a b q j < p
  | 0 => hp
  | _ + 1 => Nat.mod_lt _ hp
theorem sm_le {A : Nat → Nat} {r : Nat} (hA : ∀ j, A j < 500) : ∀ j, sm A r j ≤ 499 * j
  | 0 => Nat.le_refl 0
  | j + 1 => by
    have h1 := sm_le (r := r) hA j
    have h2 := hA (16 * r + j)
    rw [sm]; omega
theorem gr_lt {A : Nat → Nat} {r : Nat} (hA : ∀ j, A j < 500) : ∀ j, gr A r j < 500
  | 0 => show 0 < 500 from by decide
  | j + 1 => by
    have h1 := gr_lt (r := r) hA j
    have h2 := hA (16 * r + j)
    rw [gr]; split <;> assumption
theorem ln_rg {A : Nat → Nat} {r : Nat} : ∀ j, -1 ≤ ln A r j ∧ ln A r j < (j : Int)
  | 0 => show (-1 : Int) ≤ -1 ∧ (-1 : Int) < ((0 : Nat) : Int) from by decide
  | j + 1 => by
    have h1 := ln_rg (A := A) (r := r) j
    rw [ln]; split <;> omega
/-- row b is row a moved by q -/
def im (n : Nat) (A : Nat → Nat) (a b q : Nat) : Bool := decide (∀ k, k < n → A (16 * a + k) = A (16 * b + (k + q) % n))
theorem im_t {n : Nat} {A : Nat → Nat} {a b q : Nat} (h : ∀ k, k < n → A (16 * a + k) = A (16 * b + (k + q) % n)) : im n A a b q = true := decide_eq_true h
theorem im_f {n : Nat} {A : Nat → Nat} {a b q k : Nat} (hk : k < n) (h : ¬ A (16 * a + k) = A (16 * b + (k + q) % n)) : im n A a b q = false := decide_eq_false (fun z => h (z k hk))
/-- the first from k on of which P holds, k + c without one -/
def fs (P : Nat → Bool) : Nat → Nat → Nat
  | 0, k => k
  | c + 1, k => if P k = true then k else fs P c (k + 1)
theorem fs_t {P : Nat → Bool} {c k : Nat} (h : P k = true) : fs P (c + 1) k = k := by rw [fs, if_pos h]
theorem fs_f {P : Nat → Bool} {c k : Nat} (h : P k = false) : fs P (c + 1) k = fs P c (k + 1) := by rw [fs, h]; rfl
theorem fs_le {P : Nat → Bool} : ∀ c k, k ≤ fs P c k ∧ fs P c k ≤ k + c
  | 0, k => ⟨Nat.le_refl _, Nat.le_refl _⟩
  | c + 1, k => by
    have h := fs_le (P := P) c (k + 1)
    rw [fs]; split <;> omega
def pe (n : Nat) (A : Nat → Nat) (r : Nat) : Nat := fs (im n A r r) (n - 1) 1
def cm (n : Nat) (A : Nat → Nat) (a b : Nat) : Int := if fs (im n A a b) n 0 < n then ((fs (im n A a b) n 0 : Nat) : Int) else -1
/-- the first of the greatest -/
def am (f : Nat → Nat) : Nat → Nat
  | 0 => 0
  | k + 1 => if f (am f k) < f k then k else am f k
/-- what counted and told say -/
def ct (n p b w wi ni : Nat) : Nat → Nat
  | 0 => n
  | 1 => p
  | 2 => w
  | 3 => wi
  | 4 => ni
  | _ => b
def tl (p n : Nat) (A : Nat → Nat) (r : Nat) : Nat → Int
  | 0 => ((sm A r n % p : Nat) : Int)
  | 1 => ((cc (fun k => decide (A (16 * r + k) ≠ 0)) n : Nat) : Int)
  | 2 => ln A r n
  | 3 => ((pe n A r : Nat) : Int)
  | _ => ((gr A r n : Nat) : Int)
/-- a row copied over another, k places of it -/
def cp (A : Nat → Nat) (f t k : Nat) : Nat → Nat := fun j => if 16 * t ≤ j ∧ j < 16 * t + k then A (16 * f + (j - 16 * t)) else A j
theorem cp_0 (A : Nat → Nat) (f t : Nat) : cp A f t 0 = A := by
  funext j; unfold cp; rw [if_neg (by omega)]
theorem cp_at {A : Nat → Nat} {f t k : Nat} (hk : k < 16) : cp A f t k (16 * f + k) = A (16 * f + k) := by
  unfold cp
  by_cases h : 16 * t ≤ 16 * f + k ∧ 16 * f + k < 16 * t + k
  · exfalso; omega
  · rw [if_neg h]
theorem cp_to {A : Nat → Nat} {f t k : Nat} : cp A f t k (16 * t + k) = A (16 * t + k) := by
  unfold cp; rw [if_neg (by omega)]
theorem cp_s {A : Nat → Nat} {f t k v : Nat} (hv : v = A (16 * f + k)) : va_up (cp A f t k) (16 * t + k) v = cp A f t (k + 1) := by
  funext j; unfold va_up cp
  by_cases h : j = 16 * t + k
  · rw [if_pos h, if_pos (by omega), hv]; congr 1; omega
  · rw [if_neg h]
    by_cases h2 : 16 * t ≤ j ∧ j < 16 * t + k
    · rw [if_pos h2, if_pos (by omega)]
    · rw [if_neg h2, if_neg (by omega)]
theorem cp_lt {A : Nat → Nat} {f t k : Nat} (hA : ∀ j, A j < 500) : ∀ j, cp A f t k j < 500 := fun j => by
  unfold cp; split <;> exact hA _
/-- the scratch row filled, k places of it, by what g says of a place -/
def sv (A : Nat → Nat) (g : Nat → Nat) (k : Nat) : Nat → Nat := fun j => if 64 ≤ j ∧ j < 64 + k then g (j - 64) else A j
theorem sv_0 (A g : Nat → Nat) : sv A g 0 = A := by
  funext j; unfold sv; rw [if_neg (by omega)]
theorem sv_s {A g : Nat → Nat} {k v : Nat} (hv : v = g k) : va_up (sv A g k) (16 * 4 + k) v = sv A g (k + 1) := by
  funext j; unfold va_up sv
  by_cases h : j = 16 * 4 + k
  · rw [if_pos h, if_pos (by omega), hv]; congr 1; omega
  · rw [if_neg h]
    by_cases h2 : 64 ≤ j ∧ j < 64 + k
    · rw [if_pos h2, if_pos (by omega)]
    · rw [if_neg h2, if_neg (by omega)]
theorem sv_lo {A g : Nat → Nat} {k j : Nat} (h : j < 64) : sv A g k j = A j := by unfold sv; rw [if_neg (by omega)]
theorem sv_lt {A g : Nat → Nat} {k : Nat} (hA : ∀ j, A j < 500) (hg : ∀ j, j < k → g j < 500) : ∀ j, sv A g k j < 500 := fun j => by
  unfold sv; split
  · exact hg _ (by omega)
  · exact hA _
/-- tones of row r by the base w, times f -/
def tn (p n : Nat) (A : Nat → Nat) (r w f : Nat) : Nat → Nat := fun k => (pv p n A r (pw p w k) * f) % p
theorem xor_ge {x y : Int} (hx : -2147483648 ≤ x ∧ x < 2147483648) (hy : 0 < y ∧ y < 2147483648) : 0 ≤ (iI x ^^^ iI y).toInt ↔ 0 ≤ x := by
  have e1 : (iI x ^^^ iI y).toInt = ((iI x).toBitVec ^^^ (iI y).toBitVec).toInt := by rw [← Int32.toBitVec_xor]; rfl
  have m1 : (iI x).toBitVec.msb = decide (x < 0) := by
    rw [BitVec.msb_eq_toInt, show (iI x).toBitVec.toInt = x from iI_ti hx]
  have m2 : (iI y).toBitVec.msb = false := by
    rw [BitVec.msb_eq_toInt, show (iI y).toBitVec.toInt = y from iI_ti (by omega)]
    exact decide_eq_false (by omega)
  have m3 := BitVec.msb_eq_toInt (x := (iI x).toBitVec ^^^ (iI y).toBitVec)
  rw [BitVec.msb_xor, m1, m2, Bool.xor_false, ← e1] at m3
  have m4 : (x < 0) ↔ ((iI x ^^^ iI y).toInt < 0) := by
    constructor
    · intro h; rw [decide_eq_true h] at m3; exact of_decide_eq_true m3.symm
    · intro h; rw [decide_eq_true h] at m3; exact of_decide_eq_true m3
  omega
theorem em_pos {x y : Int} (hx : 0 ≤ x) : x.tmod y = x % y := Int.tmod_eq_emod_of_nonneg hx
theorem em_0 {x y : Int} (h : x.tmod y = 0) : (0 : Int) = x % y := (Int.emod_eq_zero_of_dvd (Int.dvd_of_tmod_eq_zero h)).symm
theorem em_neg {x y : Int} (hy : 0 < y) (hx : x < 0) (h : ¬ x.tmod y = 0) : x.tmod y + y = x % y := by
  have h1 : x % y = x.tmod y % y := by
    conv => lhs; rw [← Int.mul_tdiv_add_tmod x y]
    rw [Int.mul_add_emod_self_left]
  have h2 : x.tmod y = -((-x).tmod y) := by rw [Int.neg_tmod]; omega
  have h3 : (-x).tmod y = (-x) % y := em_pos (by omega)
  have h4 := Int.emod_lt_of_pos (-x) hy
  have h5 := Int.emod_nonneg (-x) (show y ≠ 0 by omega)
  have h6 : x.tmod y % y = (x.tmod y + y) % y := by rw [Int.add_emod_right]
  rw [h1, h6, Int.emod_eq_of_lt (by omega) (by omega)]
theorem and_mask {z : Int} {n m : Nat} (hn : n = 4 ∨ n = 8 ∨ n = 16) (h : z % (n : Int) = (m : Int)) : iI z &&& iI ((n : Int) - 1) = iI (m : Int) := by
  have hz : (iI z).toBitVec.toNat = (z % 4294967296).toNat := by
    show (BitVec.ofInt 32 z).toNat = _
    rw [BitVec.toNat_ofInt]; rfl
  rcases hn with rfl | rfl | rfl
  · rw [pk_and (iI z) (m := iI (((4 : Nat) : Int) - 1)) 2 (by decide), hz, iI_nI]; congr 1; omega
  · rw [pk_and (iI z) (m := iI (((8 : Nat) : Int) - 1)) 3 (by decide), hz, iI_nI]; congr 1; omega
  · rw [pk_and (iI z) (m := iI (((16 : Nat) : Int) - 1)) 4 (by decide), hz, iI_nI]; congr 1; omega
theorem lt3 {n : Nat} (hn : n = 4 ∨ n = 8 ∨ n = 16) : 4 ≤ n ∧ n ≤ 16 := by omega
end
section
section XW2
variable {φ : Fx} {l : Launch} {D : va_G} {cl : List vw_C} {tys : List (ClassId × FieldType)} {R : Room} {cc : ByteArray} {own : String} {Ts : List Cond} {nL k n : Nat} {w : va_W} {pc : Nat} {lv : List (Nat × Value)} {st rest : List Value}
theorem xw_tabN (C : xc φ l R D cl tys nL cc own Ts) {dflt lo hi : Int} {offs : Array Int} {len a : Nat} {off : Int} {tgt : Nat} (d : decode cc pc = .ok (.tableswitch dflt lo hi offs, len)) (ha : a < 2147483648) (h1 : ¬ (a : Int) < lo) (h2 : ¬ hi < (a : Int)) (ho : offs[((a : Int) - lo).toNat]? = some off) (ht : (pc : Int) + off = (tgt : Int)) (kk : xw φ k n w tgt lv (st)) : xw φ k n w pc lv (nV a :: st) := by
  obtain ⟨p, l, e, R, s, m, args, below, meth, c, Q, D, cl, tys, A, nL⟩ := φ
  obtain ⟨rfl, rfl, rfl, rfl, rfl, rfl, hx, hb, hml, hown, hts, hK, hA⟩ := C
  intro H locs ls hP hD hS h
  have e1 : (iI (a : Int)).toInt = (a : Int) := iI_ti (by omega)
  exact lv_tableIn hx hb d (by rw [e1]; exact h1) (by rw [e1]; exact h2) (by rw [e1]; exact ho) ht (kk H locs ls hP hD hS h)
theorem xw_tabO (C : xc φ l R D cl tys nL cc own Ts) {dflt lo hi : Int} {offs : Array Int} {len a : Nat} {tgt : Nat} (d : decode cc pc = .ok (.tableswitch dflt lo hi offs, len)) (ha : a < 2147483648) (h1 : (a : Int) < lo ∨ hi < (a : Int)) (ht : (pc : Int) + dflt = (tgt : Int)) (kk : xw φ k n w tgt lv (st)) : xw φ k n w pc lv (nV a :: st) := by
  obtain ⟨p, l, e, R, s, m, args, below, meth, c, Q, D, cl, tys, A, nL⟩ := φ
  obtain ⟨rfl, rfl, rfl, rfl, rfl, rfl, hx, hb, hml, hown, hts, hK, hA⟩ := C
  intro H locs ls hP hD hS h
  have e1 : (iI (a : Int)).toInt = (a : Int) := iI_ti (by omega)
  exact lv_tableOut hx hb d (by rw [e1]; exact h1) ht (kk H locs ls hP hD hS h)
theorem xw_max (C : xc φ l R D cl tys nL cc own Ts) {index a b : Nat} (hw1 : Cond.methodLink own index Lib.Math.max.name ∈ Ts) (hw2 : Cond.static Lib.Math.max.name ∈ Ts) (hw3 : Cond.initialized "java/lang/Math" ∈ Ts) (hw4 : Cond.code Lib.Math.max.name Lib.Math.max.code 2 (some .int) ∈ Ts) (hf : 1 ≤ R.frames) (hlo : (st.map fun v => v.category).sum + 13 ≤ R.locals) (hc : k ≤ R.cells) (hsl : n ≤ R.slots) (ha : a < 2147483648) (hbb : b < 2147483648) (d : decode cc pc = .ok (.invokestatic index, 3)) (kk : xw φ k n w (pc + 3) lv (nV (if a < b then b else a) :: st)) : xw φ k n w pc lv (nV b :: nV a :: st) := by
  obtain ⟨p, l, e, R, s, m, args, below, meth, c, Q, D, cl, tys, A, nL⟩ := φ
  obtain ⟨rfl, rfl, rfl, rfl, rfl, rfl, hx, hb, hml, hown, hts, hK, hA⟩ := C
  intro H locs ls hP hD hS h
  refine va_mmax hx hb (hml.trans h.1.symm) hown (hts _ hw1) (hts _ hw2) (hts _ hw3) (hts _ hw4) hf hlo hc hsl d ?_
  have e : (if iI (a : Int) < iI (b : Int) then iI (b : Int) else iI (a : Int)) = iI ((if a < b then b else a : Nat) : Int) := by
    have e2 := iI_lt (a := (a : Int)) (b := (b : Int)) (by omega) (by omega)
    by_cases q : a < b
    · rw [if_pos (e2.mpr (by omega)), if_pos q]
    · rw [if_neg (fun z => q (by have := e2.mp z; omega)), if_neg q]
  rw [e]
  exact kk H locs ls hP hD hS h
theorem fN_cpy (B M : Nat → Nat) (sp dp n : Nat) : va_cpy (fN B) (fN M) sp dp n = fN (va_cpy B M sp dp n) := by
  funext i
  unfold va_cpy fN
  by_cases h : dp ≤ i ∧ i < dp + n
  · simp [h]
  · simp [h]
theorem xw_copy (C : xc φ l R D cl tys nL cc own Ts) {index a0 a N0 N1 sp dp mm : Nat} {cA : ClassId} {B M : Nat → Nat} {w' : va_W} (q0 q1 t0 : Nat) (hw1 : Cond.methodLink own index arraycopyName ∈ Ts) (hw2 : Cond.native arraycopyName ∈ Ts) (hw3 : Cond.static arraycopyName ∈ Ts) (hw4 : Cond.initialized "java/lang/System" ∈ Ts)
    (ha0 : w[q0]? = some (a0, .inl (cA, N0, .inl (fN B)))) (ha1 : w[q1]? = some (a, .inl (cA, N1, .inl (fN M)))) (ht : tys[t0]? = some (cA, .int)) (h1 : sp + mm ≤ N0) (h2 : dp + mm ≤ N1) (hN0 : N0 < 2147483648) (hN1 : N1 < 2147483648) (hf : 1 ≤ R.frames) (hlo : (st.map fun v => v.category).sum + 18 ≤ R.locals) (hw : w.set q1 (a, .inl (cA, N1, .inl (fN (va_cpy B M sp dp mm)))) = w') (d : decode cc pc = .ok (.invokestatic index, 3))
    (kk : xw φ k n w' (pc + 3) lv st) : xw φ k n w pc lv (nV mm :: nV dp :: .ref a :: nV sp :: .ref a0 :: st) := by
  obtain ⟨p, l, e, R, s, m, args, below, meth, c, Q, D, cl, tys, A, nL⟩ := φ
  obtain ⟨rfl, rfl, rfl, rfl, rfl, rfl, hx, hb, hml, hown, hts, hK, hA⟩ := C
  intro H locs ls hP hD hS h
  have e1 : (iI (sp : Int)).toNatClampNeg = sp := iI_cl (by omega)
  have e2 : (iI (dp : Int)).toNatClampNeg = dp := iI_cl (by omega)
  have e3 : (iI (mm : Int)).toNatClampNeg = mm := iI_cl (by omega)
  have g : ∀ q : Nat, q < 2147483648 → ¬ iI (q : Int) < 0 := fun q hq z => by
    have := (iI_lt (b := 0) (by omega) (by omega)).mp z
    omega
  refine va_copyi hx hb (hml.trans h.1.symm) hown (hts _ hw1) (hts _ hw2) (hts _ hw3) (hts _ hw4) hK hP hD hS q0 q1 t0 t0 ha0 ha1 ht ht rfl (g sp (by omega)) (g dp (by omega)) (g mm (by omega)) (by rw [e1, e3]; exact h1) (by rw [e2, e3]; exact h2) (fun i _ => rfl) hf hlo d (fun H1 locs1 hP hD hS => ?_)
  rw [e1, e2, e3, fN_cpy, hw] at hP hD
  exact kk H1 locs1 ls hP hD hS h
theorem xw_i2l (C : xc φ l R D cl tys nL cc own Ts) {x : Int32} (d : decode cc pc = .ok (.i2l, 1)) (kk : xw φ k n w (pc + 1) lv (.long x.toInt64 :: st)) : xw φ k n w pc lv (.int x :: st) := by
  obtain ⟨p, l, e, R, s, m, args, below, meth, c, Q, D, cl, tys, A, nL⟩ := φ
  obtain ⟨rfl, rfl, rfl, rfl, rfl, rfl, hx, hb, hml, hown, hts, hK, hA⟩ := C
  intro H locs ls hP hD hS h
  exact lv_i2l hx hb d rfl (kk H locs ls hP hD hS h)
theorem xw_i2d (C : xc φ l R D cl tys nL cc own Ts) {x : Int32} (d : decode cc pc = .ok (.i2d, 1)) (kk : xw φ k n w (pc + 1) lv (.double (FP.i2d x) :: st)) : xw φ k n w pc lv (.int x :: st) := by
  obtain ⟨p, l, e, R, s, m, args, below, meth, c, Q, D, cl, tys, A, nL⟩ := φ
  obtain ⟨rfl, rfl, rfl, rfl, rfl, rfl, hx, hb, hml, hown, hts, hK, hA⟩ := C
  intro H locs ls hP hD hS h
  exact lv_i2d hx hb d (kk H locs ls hP hD hS h)
theorem xw_lmul (C : xc φ l R D cl tys nL cc own Ts) {x y : Int64} (d : decode cc pc = .ok (.lmul, 1)) (kk : xw φ k n w (pc + 1) lv (.long (x * y) :: st)) : xw φ k n w pc lv (.long y :: .long x :: st) := by
  obtain ⟨p, l, e, R, s, m, args, below, meth, c, Q, D, cl, tys, A, nL⟩ := φ
  obtain ⟨rfl, rfl, rfl, rfl, rfl, rfl, hx, hb, hml, hown, hts, hK, hA⟩ := C
  intro H locs ls hP hD hS h
  exact lv_lmul hx hb d (kk H locs ls hP hD hS h)
theorem xw_ladd (C : xc φ l R D cl tys nL cc own Ts) {x y : Int64} (d : decode cc pc = .ok (.ladd, 1)) (kk : xw φ k n w (pc + 1) lv (.long (x + y) :: st)) : xw φ k n w pc lv (.long y :: .long x :: st) := by
  obtain ⟨p, l, e, R, s, m, args, below, meth, c, Q, D, cl, tys, A, nL⟩ := φ
  obtain ⟨rfl, rfl, rfl, rfl, rfl, rfl, hx, hb, hml, hown, hts, hK, hA⟩ := C
  intro H locs ls hP hD hS h
  exact lv_ladd hx hb d (kk H locs ls hP hD hS h)
theorem xw_ddiv (C : xc φ l R D cl tys nL cc own Ts) {x y : UInt64} (d : decode cc pc = .ok (.ddiv, 1)) (hne : vf_n64 (FP.ddiv x y)) (kk : xw φ k n w (pc + 1) lv (.double (FP.ddiv x y) :: st)) : xw φ k n w pc lv (.double y :: .double x :: st) := by
  obtain ⟨p, l, e, R, s, m, args, below, meth, c, Q, D, cl, tys, A, nL⟩ := φ
  obtain ⟨rfl, rfl, rfl, rfl, rfl, rfl, hx, hb, hml, hown, hts, hK, hA⟩ := C
  intro H locs ls hP hD hS h
  exact lv_ddiv hx hb d hne (kk H locs ls hP hD hS h)
theorem xw_ldc2 (C : xc φ l R D cl tys nL cc own Ts) {index : Nat} {v : Int64} (hw : Cond.constantLong own index v ∈ Ts) (d : decode cc pc = .ok (.ldc2_w index, 3)) (kk : xw φ k n w (pc + 3) lv (.long v :: st)) : xw φ k n w pc lv (st) := by
  obtain ⟨p, l, e, R, s, m, args, below, meth, c, Q, D, cl, tys, A, nL⟩ := φ
  obtain ⟨rfl, rfl, rfl, rfl, rfl, rfl, hx, hb, hml, hown, hts, hK, hA⟩ := C
  intro H locs ls hP hD hS h
  exact lv_ldc2 hx hb hown (hts _ hw) d (kk H locs ls hP hD hS h)
theorem xw_lconst (C : xc φ l R D cl tys nL cc own Ts) {v : Int64} {z : Fin 2} (d : decode cc pc = .ok (.lconst z, 1)) (hv : Int64.ofNat (z : Nat) = v) (kk : xw φ k n w (pc + 1) lv (.long v :: st)) : xw φ k n w pc lv (st) := by
  obtain ⟨p, l, e, R, s, m, args, below, meth, c, Q, D, cl, tys, A, nL⟩ := φ
  obtain ⟨rfl, rfl, rfl, rfl, rfl, rfl, hx, hb, hml, hown, hts, hK, hA⟩ := C
  intro H locs ls hP hD hS h
  exact lv_lconst hx hb d hv (kk H locs ls hP hD hS h)
end XW2
theorem sub_em {a b p : Nat} (h : b ≤ p) : ((a : Int) - (b : Int)) % (p : Int) = (((a + p - b) % p : Nat) : Int) := by
  rw [Int.natCast_emod, Int.ofNat_sub (by omega), Int.natCast_add]
  rw [show ((a : Int) + p - b) = (a : Int) - b + p by omega, Int.add_emod_right]
def dgs (d : Int64) (z : Int) : Int64 := d * 31 + (iI z).toInt64
def dgr (A : Nat → Nat) (r : Nat) (d : Int64) : Nat → Int64
  | 0 => d
  | k + 1 => dgs (dgr A r d k) (A (16 * r + k))
/-- what a butterfly leaves -/
def bf (p : Nat) (A : Nat → Nat) (r u v t : Nat) : Nat → Nat := va_up (va_up A (16 * r + u) ((A (16 * r + u) + A (16 * r + v) * t % p) % p)) (16 * r + v) ((A (16 * r + u) + p - A (16 * r + v) * t % p) % p)
end
section
theorem mm3 (a b p : Nat) : a % p * b % p = a * b % p := by rw [Nat.mul_mod, Nat.mod_mod, ← Nat.mul_mod]
theorem mm4 (a b p : Nat) : a * (b % p) % p = a * b % p := by rw [Nat.mul_comm, mm3, Nat.mul_comm]
theorem pq_odd {a s m p : Nat} : (a * s % p) * (s * s % p) ^ m % p = a * s ^ (2 * m + 1) % p := by
  rw [mm3, ← mm4 (a * s), ← Nat.pow_mod, mm4]
  congr 1
  rw [Nat.pow_add, Nat.pow_mul, Nat.pow_one, Nat.pow_two, Nat.mul_assoc, Nat.mul_comm s]
theorem pq_even {a s m p : Nat} : a * (s * s % p) ^ m % p = a * s ^ (2 * m) % p := by
  rw [← mm4 a, ← Nat.pow_mod, mm4, Nat.pow_mul, Nat.pow_two]
theorem pw_pow {p b : Nat} (hp : 1 < p) : ∀ k, pw p b k = b ^ k % p
  | 0 => by rw [pw, Nat.pow_zero, Nat.mod_eq_of_lt hp]
  | k + 1 => by rw [pw, pw_pow hp k, mm3, Nat.pow_succ]
theorem and_1 {x : Nat} (h : x < 2147483648) : iI (x : Int) &&& iI ((1 : Nat) : Int) = iI ((x % 2 : Nat) : Int) := by
  have h9 : (iI (x : Int)).toBitVec.toNat = x := by rw [iI_nI]; exact pk_tn (by omega)
  rw [pk_and (iI (x : Int)) (m := iI ((1 : Nat) : Int)) 1 (by decide), h9, iI_nI]
theorem shr_1 {x : Nat} (h : x < 2147483648) : iI (x : Int) >>> (iI ((1 : Nat) : Int) &&& 31) = iI ((x / 2 : Nat) : Int) := by
  rw [iI_nI x, pk_shrN h _ 1 (by decide), iI_nI]
theorem shr_k : ∀ x, x < 16 → ∀ k, k < 4 → iI ((x : Nat) : Int) >>> (iI ((k : Nat) : Int) &&& 31) = iI ((x / 2 ^ k : Nat) : Int) := by decide +kernel
theorem shl_1 : ∀ x, x < 16 → iI ((x : Nat) : Int) <<< (iI ((1 : Nat) : Int) &&& 31) = iI ((x * 2 : Nat) : Int) := by decide +kernel
theorem or_b : ∀ x, x < 16 → ∀ b, b < 2 → iI ((x * 2 : Nat) : Int) ||| iI ((b : Nat) : Int) = iI ((x * 2 + b : Nat) : Int) := by decide +kernel
/-- places mirrored -/
def mi (q : Nat) : Nat → Nat
  | 0 => 0
  | k + 1 => mi q k * 2 + q / 2 ^ k % 2
theorem mi_lt (q : Nat) : ∀ k, mi q k < 2 ^ k
  | 0 => show 0 < 2 ^ 0 from by decide
  | k + 1 => by
    have h1 := mi_lt q k
    have h2 := Nat.mod_lt (q / 2 ^ k) (show 2 > 0 by omega)
    rw [mi, Nat.pow_succ]; omega
/-- two numbers joined -/
def jn (p x y : Nat) : Nat → Nat
  | 0 => (x + y) % p
  | 1 => (x + p - y) % p
  | _ => x * y % p
theorem jn_lt {p x y : Nat} (hp : 0 < p) : ∀ w, jn p x y w < p
  | 0 => Nat.mod_lt _ hp
  | 1 => Nat.mod_lt _ hp
  | _ + 2 => Nat.mod_lt _ hp
/-- the ring -/
def prm (v : Nat) : Bool := (List.range 23).all (fun k => decide (¬ (2 ≤ k ∧ k * k ≤ v ∧ v % k = 0)))
def rt (n p : Nat) : Nat := fs (fun c => decide (c ^ (n / 2) % p = p - 1)) (p - 3) 2
def bt (n : Nat) : Nat := if n = 4 then 2 else if n = 8 then 3 else 4
def zf (A : Nat → Nat) (k : Nat) : Nat → Nat := fun j => if j < k then 0 else A j
theorem zf_0 (A : Nat → Nat) : zf A 0 = A := by
  funext j; unfold zf; rw [if_neg (by omega)]
theorem zf_s (A : Nat → Nat) (k : Nat) : va_up (zf A k) k 0 = zf A (k + 1) := by
  funext j; unfold va_up zf
  by_cases h : j = k
  · rw [if_pos h, if_pos (by omega)]
  · rw [if_neg h]
    by_cases h2 : j < k
    · rw [if_pos h2, if_pos (by omega)]
    · rw [if_neg h2, if_neg (by omega)]
theorem zf_lt {A : Nat → Nat} {k : Nat} (hA : ∀ j, A j < 500) : ∀ j, zf A k j < 500 := fun j => by
  unfold zf; split
  · decide
  · exact hA _
theorem sq_lt {k v : Nat} (hv : v < 500) (h : k * k ≤ v) : k < 23 := by
  rcases Nat.lt_or_ge k 23 with z | z
  · exact z
  · have := Nat.mul_le_mul z z; omega
theorem prm_t {v k : Nat} (h : ∀ j, 2 ≤ j → j < k → ¬ v % j = 0) (hk : v < k * k) : prm v = true := by
  refine List.all_eq_true.mpr (fun j _ => decide_eq_true (fun ⟨h2, h3, h4⟩ => h j h2 ?_ h4))
  rcases Nat.lt_or_ge j k with z | z
  · exact z
  · have := Nat.mul_le_mul z z; omega
theorem prm_s {v : Nat} (h : prm v = true) {k : Nat} (h23 : k < 23) (h2 : 2 ≤ k) (hk : k * k ≤ v) : ¬ v % k = 0 := fun z =>
  of_decide_eq_true (List.all_eq_true.mp h k (List.mem_range.mpr h23)) ⟨h2, hk, z⟩
theorem prm_f {v k : Nat} (h23 : k < 23) (h2 : 2 ≤ k) (hk : k * k ≤ v) (h : v % k = 0) : prm v = false := by
  cases e : prm v
  · rfl
  · exact absurd h (prm_s e h23 h2 hk)
end
section
/-- a row whose first k places are what g says -/
def mr (A : Nat → Nat) (r : Nat) (g : Nat → Nat) (k : Nat) : Nat → Nat := fun j => if 16 * r ≤ j ∧ j < 16 * r + k then g (j - 16 * r) else A j
theorem mr_0 (A : Nat → Nat) (r : Nat) (g : Nat → Nat) : mr A r g 0 = A := by
  funext j; unfold mr; rw [if_neg (by omega)]
theorem mr_s {A : Nat → Nat} {r k v : Nat} {g : Nat → Nat} (hv : v = g k) : va_up (mr A r g k) (16 * r + k) v = mr A r g (k + 1) := by
  funext j; unfold va_up mr
  by_cases h : j = 16 * r + k
  · rw [if_pos h, if_pos (by omega), hv]; congr 1; omega
  · rw [if_neg h]
    by_cases h2 : 16 * r ≤ j ∧ j < 16 * r + k
    · rw [if_pos h2, if_pos (by omega)]
    · rw [if_neg h2, if_neg (by omega)]
theorem mr_at {A : Nat → Nat} {r q k : Nat} {g : Nat → Nat} (hk : k < 16) : mr A r g k (16 * q + k) = A (16 * q + k) := by
  unfold mr
  by_cases h : 16 * r ≤ 16 * q + k ∧ 16 * q + k < 16 * r + k
  · exfalso; omega
  · rw [if_neg h]
theorem mr_lt {A : Nat → Nat} {r k : Nat} {g : Nat → Nat} (hA : ∀ j, A j < 500) (hg : ∀ j, j < k → g j < 500) : ∀ j, mr A r g k j < 500 := fun j => by
  unfold mr; split
  · exact hg _ (by omega)
  · exact hA _
theorem mr_in {A : Nat → Nat} {r k i : Nat} {g : Nat → Nat} (hi : i < k) : mr A r g k (16 * r + i) = g i := by
  unfold mr; rw [if_pos (by omega)]; congr 1; omega
/-- the scratch row filled in another order: place m by step s m -/
def pf (A : Nat → Nat) (n : Nat) (s g : Nat → Nat) (k : Nat) : Nat → Nat := fun j => if 64 ≤ j ∧ j < 64 + n ∧ s (j - 64) < k then g (s (j - 64)) else A j
theorem pf_0 (A : Nat → Nat) (n : Nat) (s g : Nat → Nat) : pf A n s g 0 = A := by
  funext j; unfold pf; rw [if_neg (by omega)]
theorem pf_s {A : Nat → Nat} {n k v q : Nat} {s g : Nat → Nat} (hv : v = g k) (hq : q < n) (h1 : s q = k) (h2 : ∀ m, m < n → s m = k → m = q) : va_up (pf A n s g k) (16 * 4 + q) v = pf A n s g (k + 1) := by
  funext j; unfold va_up pf
  by_cases h : j = 16 * 4 + q
  · have e : j - 64 = q := by omega
    rw [if_pos h, e, h1, if_pos (by omega), hv]
  · rw [if_neg h]
    by_cases h3 : 64 ≤ j ∧ j < 64 + n ∧ s (j - 64) < k
    · rw [if_pos h3, if_pos (by omega)]
    · by_cases h4 : 64 ≤ j ∧ j < 64 + n ∧ s (j - 64) < k + 1
      · exact absurd (h2 (j - 64) (by omega) (by omega)) (by omega)
      · rw [if_neg h3, if_neg h4]
theorem pf_n {A : Nat → Nat} {n : Nat} {s g : Nat → Nat} (hs : ∀ m, m < n → s m < n) : pf A n s g n = sv A (fun m => g (s m)) n := by
  funext j; unfold pf sv
  by_cases h : 64 ≤ j ∧ j < 64 + n
  · rw [if_pos ⟨h.1, h.2, hs _ (by omega)⟩, if_pos h]
  · rw [if_neg (fun z => h ⟨z.1, z.2.1⟩), if_neg h]
theorem pf_lo {A : Nat → Nat} {n k j : Nat} {s g : Nat → Nat} (h : j < 64) : pf A n s g k j = A j := by unfold pf; rw [if_neg (by omega)]
theorem pf_lt {A : Nat → Nat} {n k : Nat} {s g : Nat → Nat} (hA : ∀ j, A j < 500) (hg : ∀ j, j < k → g j < 500) : ∀ j, pf A n s g k j < 500 := fun j => by
  unfold pf; split
  · rename_i h; exact hg _ h.2.2
  · exact hA _
/-- the scratch row laid over row r -/
def ly (A : Nat → Nat) (g : Nat → Nat) (r n : Nat) : Nat → Nat := cp (sv A g n) 4 r n
theorem ly_lo {A g : Nat → Nat} {r n : Nat} (hn : n ≤ 16) (j : Nat) (hj : j < 64) : ly A g r n j = mr A r g n j := by
  unfold ly cp mr sv
  by_cases h : 16 * r ≤ j ∧ j < 16 * r + n
  · rw [if_pos h, if_pos h, if_pos (by omega)]; congr 1; omega
  · rw [if_neg h, if_neg h, if_neg (by omega)]
theorem ly_lt {A g : Nat → Nat} {r n : Nat} (hA : ∀ j, A j < 500) (hg : ∀ j, j < n → g j < 500) : ∀ j, ly A g r n j < 500 := cp_lt (sv_lt hA hg)
theorem ly_at {A g : Nat → Nat} {r n i : Nat} (hi : i < n) : ly A g r n (16 * r + i) = g i := by
  unfold ly cp
  rw [if_pos (by omega)]
  unfold sv
  rw [if_pos (by omega)]; congr 1; omega
theorem ly_cc {A g : Nat → Nat} {r n : Nat} (hn : n ≤ 16) (hr : r < 4) : cc (fun j => decide (sv A g n (16 * r + j) ≠ sv A g n (16 * 4 + j))) n = cc (fun j => decide (A (16 * r + j) ≠ g j)) n := by
  refine cc_cg n (fun j hj => ?_)
  have e1 : sv A g n (16 * r + j) = A (16 * r + j) := sv_lo (by omega)
  have e2 : sv A g n (16 * 4 + j) = g j := by unfold sv; rw [if_pos (by omega)]; congr 1; omega
  show decide (sv A g n (16 * r + j) ≠ sv A g n (16 * 4 + j)) = _
  rw [e1, e2]
theorem fo_cg {p n : Nat} {A B : Nat → Nat} {a b q : Nat} (hn : 0 < n) (ha : ∀ k, k < n → A (16 * a + k) = B (16 * a + k)) (hb : ∀ k, k < n → A (16 * b + k) = B (16 * b + k)) : ∀ k, k ≤ n → fo p n A a b q k = fo p n B a b q k
  | 0, _ => rfl
  | k + 1, h => by rw [fo, fo, fo_cg hn ha hb k (by omega), ha k (by omega), hb _ (Nat.mod_lt _ hn)]
theorem so_cg {p n : Nat} {A B : Nat → Nat} {a b q : Nat} (hn : 0 < n) (ha : ∀ k, k < n → A (16 * a + k) = B (16 * a + k)) (hb : ∀ k, k < n → A (16 * b + k) = B (16 * b + k)) : ∀ k, k ≤ n → so p n A a b q k = so p n B a b q k
  | 0, _ => rfl
  | k + 1, h => by rw [so, so, so_cg hn ha hb k (by omega), ha k (by omega), hb _ (Nat.mod_lt _ hn)]
theorem sm_cg {A B : Nat → Nat} {r : Nat} : ∀ k, (∀ j, j < k → A (16 * r + j) = B (16 * r + j)) → sm A r k = sm B r k
  | 0, _ => rfl
  | k + 1, h => by rw [sm, sm, sm_cg k (fun j hj => h j (by omega)), h k (by omega)]
theorem gr_cg {A B : Nat → Nat} {r : Nat} : ∀ k, (∀ j, j < k → A (16 * r + j) = B (16 * r + j)) → gr A r k = gr B r k
  | 0, _ => rfl
  | k + 1, h => by rw [gr, gr, gr_cg k (fun j hj => h j (by omega)), h k (by omega)]
theorem ln_cg {A B : Nat → Nat} {r : Nat} : ∀ k, (∀ j, j < k → A (16 * r + j) = B (16 * r + j)) → ln A r k = ln B r k
  | 0, _ => rfl
  | k + 1, h => by rw [ln, ln, ln_cg k (fun j hj => h j (by omega)), h k (by omega)]
theorem im_cg {n : Nat} {A B : Nat → Nat} {a b q : Nat} (hn : 0 < n) (ha : ∀ k, k < n → A (16 * a + k) = B (16 * a + k)) (hb : ∀ k, k < n → A (16 * b + k) = B (16 * b + k)) : im n A a b q = im n B a b q := by
  unfold im
  congr 1
  apply propext
  constructor
  · intro h k hk; rw [← ha k hk, ← hb _ (Nat.mod_lt _ hn)]; exact h k hk
  · intro h k hk; rw [ha k hk, hb _ (Nat.mod_lt _ hn)]; exact h k hk
theorem fs_cg {P Q : Nat → Bool} (h : ∀ k, P k = Q k) : ∀ c k, fs P c k = fs Q c k := by
  have e : P = Q := funext h
  intro c k; rw [e]
theorem pe_cg {n : Nat} {A B : Nat → Nat} {r : Nat} (hn : 0 < n) (h : ∀ k, k < n → A (16 * r + k) = B (16 * r + k)) : pe n A r = pe n B r := fs_cg (fun k => im_cg hn h h) _ _
theorem tl_cg {p n : Nat} {A B : Nat → Nat} {r : Nat} (hn : 0 < n) (h : ∀ k, k < n → A (16 * r + k) = B (16 * r + k)) : ∀ q, tl p n A r q = tl p n B r q
  | 0 => by show (((sm A r n % p : Nat) : Int)) = _; rw [sm_cg n h]; rfl
  | 1 => by show (((cc (fun k => decide (A (16 * r + k) ≠ 0)) n : Nat) : Int)) = _; rw [cc_cg (Q := fun k => decide (B (16 * r + k) ≠ 0)) n (fun j hj => by show decide (A (16 * r + j) ≠ 0) = _; rw [h j hj])]; rfl
  | 2 => by show ln A r n = _; rw [ln_cg n h]; rfl
  | 3 => by show ((pe n A r : Nat) : Int) = _; rw [pe_cg hn h]; rfl
  | _ + 4 => by show ((gr A r n : Nat) : Int) = _; rw [gr_cg n h]; rfl
theorem tn_cg {p n : Nat} {A B : Nat → Nat} {r w f : Nat} (h : ∀ k, k < n → A (16 * r + k) = B (16 * r + k)) : tn p n A r w f = tn p n B r w f := by
  funext k; unfold tn; rw [pv_cg h]
/-- the checksum on, by f -/
def dgc (f : Nat → Int) (d : Int64) : Nat → Int64
  | 0 => d
  | k + 1 => dgs (dgc f d k) (f k)
theorem dgc_cg {f g : Nat → Int} {d : Int64} : ∀ k, (∀ j, j < k → f j = g j) → dgc f d k = dgc g d k
  | 0, _ => rfl
  | k + 1, h => by rw [dgc, dgc, dgc_cg k (fun j hj => h j (by omega)), h k (by omega)]
/-- a row's share of the checksum -/
def dro (p n w : Nat) (A : Nat → Nat) (r : Nat) (d : Int64) : Int64 := dgc (fun k => ((tn p n A r w 1 k : Nat) : Int)) (dgc (tl p n A r) (dgc (fun k => ((A (16 * r + k) : Nat) : Int)) d n) 5) n
theorem dro_cg {p n w : Nat} {A B : Nat → Nat} {r : Nat} {d : Int64} (hn : 0 < n) (h : ∀ k, k < n → A (16 * r + k) = B (16 * r + k)) : dro p n w A r d = dro p n w B r d := by
  unfold dro
  rw [tn_cg h, dgc_cg (g := tl p n B r) 5 (fun j _ => tl_cg hn h j), dgc_cg (f := fun k => ((A (16 * r + k) : Nat) : Int)) (g := fun k => ((B (16 * r + k) : Nat) : Int)) n (fun j hj => by show ((A (16 * r + j) : Nat) : Int) = _; rw [h j hj])]
def drs (p n w : Nat) (A : Nat → Nat) (d : Int64) : Nat → Int64
  | 0 => d
  | r + 1 => dro p n w A r (drs p n w A d r)
theorem drs_cg {p n w : Nat} {A B : Nat → Nat} {d : Int64} (hn : 0 < n) (hn16 : n ≤ 16) (h : ∀ j, j < 64 → A j = B j) : ∀ r, r ≤ 4 → drs p n w A d r = drs p n w B d r
  | 0, _ => rfl
  | r + 1, hr => by rw [drs, drs, drs_cg hn hn16 h r (by omega), dro_cg hn (fun k hk => h _ (by omega))]
theorem shl_k : ∀ k, k < 5 → iI ((1 : Nat) : Int) <<< (iI ((k : Nat) : Int) &&& 31) = iI ((2 ^ k : Nat) : Int) := by decide +kernel
theorem shr_k5 : ∀ x, x < 17 → ∀ k, k < 5 → iI ((x : Nat) : Int) >>> (iI ((k : Nat) : Int) &&& 31) = iI ((x / 2 ^ k : Nat) : Int) := by decide +kernel
/-- what a stage leaves at place k; half h, by p -/
def sg (p n w : Nat) (A : Nat → Nat) (r h : Nat) : Nat → Nat := fun k =>
  if k / h % 2 = 0 then (A (16 * r + k) + A (16 * r + (k + h)) * (w ^ (k % h * (n / (2 * h))) % p) % p) % p
  else (A (16 * r + (k - h)) + p - A (16 * r + k) * (w ^ (k % h * (n / (2 * h))) % p) % p) % p
def stg (p n w : Nat) (A : Nat → Nat) (r h bk j : Nat) : Nat → Nat := fun x =>
  if 16 * r ≤ x ∧ x < 16 * r + n ∧ (x - 16 * r < bk ∨ (x - 16 * r < bk + 2 * h ∧ (x - 16 * r) % h < j)) then sg p n w A r h (x - 16 * r) else A x
theorem stg_0 {p n w : Nat} {A : Nat → Nat} {r h : Nat} : stg p n w A r h 0 0 = A := by
  funext x; unfold stg; rw [if_neg (by omega)]
theorem stg_o {p n w : Nat} {A : Nat → Nat} {r h bk : Nat} (hh : 0 < h) : stg p n w A r h bk h = stg p n w A r h (bk + 2 * h) 0 := by
  funext x; unfold stg
  have hm := Nat.mod_lt (x - 16 * r) hh
  by_cases h1 : 16 * r ≤ x ∧ x < 16 * r + n ∧ x - 16 * r < bk + 2 * h
  · rw [if_pos ⟨h1.1, h1.2.1, Or.inr ⟨h1.2.2, hm⟩⟩, if_pos ⟨h1.1, h1.2.1, Or.inl h1.2.2⟩]
  · rw [if_neg (by omega), if_neg (by omega)]
theorem stg_n {p n w : Nat} {A : Nat → Nat} {r h : Nat} : stg p n w A r h n 0 = mr A r (sg p n w A r h) n := by
  funext x; unfold stg mr
  by_cases h1 : 16 * r ≤ x ∧ x < 16 * r + n
  · rw [if_pos ⟨h1.1, h1.2, Or.inl (by omega)⟩, if_pos h1]
  · rw [if_neg (fun z => h1 ⟨z.1, z.2.1⟩), if_neg h1]
theorem sg_lt {p n w : Nat} {A : Nat → Nat} {r h : Nat} (hp : 0 < p) : ∀ k, sg p n w A r h k < p := fun k => by
  unfold sg; split <;> exact Nat.mod_lt _ hp
theorem stg_lt {p n w : Nat} {A : Nat → Nat} {r h bk j : Nat} (hp : 0 < p) (hp5 : p < 500) (hA : ∀ j, A j < 500) : ∀ x, stg p n w A r h bk j x < 500 := fun x => by
  unfold stg; split
  · exact Nat.lt_trans (sg_lt hp _) hp5
  · exact hA _
theorem stg_s {p n w : Nat} {A : Nat → Nat} {r h bk j c : Nat} (hh : h = 1 ∨ h = 2 ∨ h = 4 ∨ h = 8) (hbk : bk = 2 * h * c) (hj : j < h) (hn : bk + 2 * h ≤ n) :
    bf p (stg p n w A r h bk j) r (bk + j) (bk + j + h) (w ^ (j * (n / (2 * h))) % p) = stg p n w A r h bk (j + 1) := by
  have m1 : (bk + j) % h = j := by rcases hh with rfl | rfl | rfl | rfl <;> omega
  have m2 : (bk + j + h) % h = j := by rcases hh with rfl | rfl | rfl | rfl <;> omega
  have d1 : (bk + j) / h % 2 = 0 := by rcases hh with rfl | rfl | rfl | rfl <;> omega
  have d2 : ¬ (bk + j + h) / h % 2 = 0 := by rcases hh with rfl | rfl | rfl | rfl <;> omega
  have v1 : stg p n w A r h bk j (16 * r + (bk + j)) = A (16 * r + (bk + j)) := by
    unfold stg; rw [if_neg]; rw [show 16 * r + (bk + j) - 16 * r = bk + j by omega, m1]; omega
  have v2 : stg p n w A r h bk j (16 * r + (bk + j + h)) = A (16 * r + (bk + j + h)) := by
    unfold stg; rw [if_neg]; rw [show 16 * r + (bk + j + h) - 16 * r = bk + j + h by omega, m2]; omega
  unfold bf
  rw [v1, v2]
  funext x
  unfold va_up
  by_cases h1 : x = 16 * r + (bk + j + h)
  · rw [if_pos h1]; unfold stg
    have e : x - 16 * r = bk + j + h := by omega
    rw [e, m2, if_pos (by omega)]
    unfold sg
    rw [if_neg d2, m2, show bk + j + h - h = bk + j by omega]
  · rw [if_neg h1]
    by_cases h2 : x = 16 * r + (bk + j)
    · rw [if_pos h2]; unfold stg
      have e : x - 16 * r = bk + j := by omega
      rw [e, m1, if_pos (by omega)]
      unfold sg
      rw [if_pos d1, m1]
    · rw [if_neg h2]; unfold stg
      by_cases h3 : 16 * r ≤ x ∧ x < 16 * r + n ∧ (x - 16 * r < bk ∨ (x - 16 * r < bk + 2 * h ∧ (x - 16 * r) % h < j))
      · rw [if_pos h3, if_pos (by omega)]
      · rw [if_neg h3, if_neg]
        intro h4
        obtain ⟨a1, a2, a3⟩ := h4
        obtain ⟨y, rfl⟩ : ∃ y, x = 16 * r + y := ⟨x - 16 * r, by omega⟩
        rw [show 16 * r + y - 16 * r = y by omega] at a3 h3
        rcases hh with rfl | rfl | rfl | rfl <;> omega
theorem mi_p : ∀ n, n < 17 → (n = 4 ∨ n = 8 ∨ n = 16) → ∀ m, m < 16 → m < n → mi m (bt n) < n ∧ mi (mi m (bt n)) (bt n) = m := by decide +kernel
theorem mv_p {n q k : Nat} (hq : q < n) (hk : k < n) : ((k + q) % n + n - q) % n = k ∧ ((k + n - q) % n + q) % n = k := by
  constructor
  · rcases Nat.lt_or_ge (k + q) n with h | h
    · rw [Nat.mod_eq_of_lt h, show k + q + n - q = k + n by omega, Nat.add_mod_right, Nat.mod_eq_of_lt hk]
    · rw [show k + q = (k + q - n) + n by omega, Nat.add_mod_right, Nat.mod_eq_of_lt (show k + q - n < n by omega), show k + q - n + n - q = k by omega, Nat.mod_eq_of_lt hk]
  · rcases Nat.lt_or_ge k q with h | h
    · rw [Nat.mod_eq_of_lt (show k + n - q < n by omega), show k + n - q + q = k + n by omega, Nat.add_mod_right, Nat.mod_eq_of_lt hk]
    · rw [show k + n - q = (k - q) + n by omega, Nat.add_mod_right, Nat.mod_eq_of_lt (show k - q < n by omega), show k - q + q = k by omega, Nat.mod_eq_of_lt hk]
end
section
theorem stH (n : Nat) (hn : n = 4 ∨ n = 8 ∨ n = 16) (st : Nat) (h : st < bt n) (hf : Nat) (hhf : hf = 2 ^ st) : (hf = 1 ∨ hf = 2 ∨ hf = 4 ∨ hf = 8) ∧ 2 * hf ≤ n ∧ n % (2 * hf) = 0 ∧ st < 4 := by
  subst hhf
  rcases hn with rfl | rfl | rfl
  · have h2 : st < 2 := h
    rcases (show st = 0 ∨ st = 1 by omega) with rfl | rfl <;> decide
  · have h2 : st < 3 := h
    rcases (show st = 0 ∨ st = 1 ∨ st = 2 by omega) with rfl | rfl | rfl <;> decide
  · have h2 : st < 4 := h
    rcases (show st = 0 ∨ st = 1 ∨ st = 2 ∨ st = 3 by omega) with rfl | rfl | rfl | rfl <;> decide
end
section
/-! the mean is never a NaN, and a double that is none is equal to itself: by trial of all sums and lengths -/
def dq (s n : Nat) : UInt64 := FP.ddiv (FP.i2d (iI (s : Int))) (FP.i2d (iI (n : Int)))
def dok (s n : Nat) : Bool := decide (dq s n &&& 0x7fffffffffffffff ≤ 0x7ff0000000000000) && decide (FP.dcmp (dq s n) (dq s n) = some .eq)
set_option maxRecDepth 100000 in
theorem dok_4_0 : (List.range 500).all (fun s => dok (s + 0) 4) = true := by decide +kernel
set_option maxRecDepth 100000 in
theorem dok_4_1 : (List.range 500).all (fun s => dok (s + 500) 4) = true := by decide +kernel
set_option maxRecDepth 100000 in
theorem dok_4_2 : (List.range 500).all (fun s => dok (s + 1000) 4) = true := by decide +kernel
set_option maxRecDepth 100000 in
theorem dok_4_3 : (List.range 500).all (fun s => dok (s + 1500) 4) = true := by decide +kernel
set_option maxRecDepth 100000 in
theorem dok_4_4 : (List.range 500).all (fun s => dok (s + 2000) 4) = true := by decide +kernel
set_option maxRecDepth 100000 in
theorem dok_4_5 : (List.range 500).all (fun s => dok (s + 2500) 4) = true := by decide +kernel
set_option maxRecDepth 100000 in
theorem dok_4_6 : (List.range 500).all (fun s => dok (s + 3000) 4) = true := by decide +kernel
set_option maxRecDepth 100000 in
theorem dok_4_7 : (List.range 500).all (fun s => dok (s + 3500) 4) = true := by decide +kernel
set_option maxRecDepth 100000 in
theorem dok_4_8 : (List.range 500).all (fun s => dok (s + 4000) 4) = true := by decide +kernel
set_option maxRecDepth 100000 in
theorem dok_4_9 : (List.range 500).all (fun s => dok (s + 4500) 4) = true := by decide +kernel
set_option maxRecDepth 100000 in
theorem dok_4_10 : (List.range 500).all (fun s => dok (s + 5000) 4) = true := by decide +kernel
set_option maxRecDepth 100000 in
theorem dok_4_11 : (List.range 500).all (fun s => dok (s + 5500) 4) = true := by decide +kernel
set_option maxRecDepth 100000 in
theorem dok_4_12 : (List.range 500).all (fun s => dok (s + 6000) 4) = true := by decide +kernel
set_option maxRecDepth 100000 in
theorem dok_4_13 : (List.range 500).all (fun s => dok (s + 6500) 4) = true := by decide +kernel
set_option maxRecDepth 100000 in
theorem dok_4_14 : (List.range 500).all (fun s => dok (s + 7000) 4) = true := by decide +kernel
set_option maxRecDepth 100000 in
theorem dok_4_15 : (List.range 500).all (fun s => dok (s + 7500) 4) = true := by decide +kernel
set_option maxRecDepth 100000 in
theorem dok_8_0 : (List.range 500).all (fun s => dok (s + 0) 8) = true := by decide +kernel
set_option maxRecDepth 100000 in
theorem dok_8_1 : (List.range 500).all (fun s => dok (s + 500) 8) = true := by decide +kernel
set_option maxRecDepth 100000 in
theorem dok_8_2 : (List.range 500).all (fun s => dok (s + 1000) 8) = true := by decide +kernel
set_option maxRecDepth 100000 in
theorem dok_8_3 : (List.range 500).all (fun s => dok (s + 1500) 8) = true := by decide +kernel
set_option maxRecDepth 100000 in
theorem dok_8_4 : (List.range 500).all (fun s => dok (s + 2000) 8) = true := by decide +kernel
set_option maxRecDepth 100000 in
theorem dok_8_5 : (List.range 500).all (fun s => dok (s + 2500) 8) = true := by decide +kernel
set_option maxRecDepth 100000 in
theorem dok_8_6 : (List.range 500).all (fun s => dok (s + 3000) 8) = true := by decide +kernel
set_option maxRecDepth 100000 in
theorem dok_8_7 : (List.range 500).all (fun s => dok (s + 3500) 8) = true := by decide +kernel
set_option maxRecDepth 100000 in
theorem dok_8_8 : (List.range 500).all (fun s => dok (s + 4000) 8) = true := by decide +kernel
set_option maxRecDepth 100000 in
theorem dok_8_9 : (List.range 500).all (fun s => dok (s + 4500) 8) = true := by decide +kernel
set_option maxRecDepth 100000 in
theorem dok_8_10 : (List.range 500).all (fun s => dok (s + 5000) 8) = true := by decide +kernel
set_option maxRecDepth 100000 in
theorem dok_8_11 : (List.range 500).all (fun s => dok (s + 5500) 8) = true := by decide +kernel
set_option maxRecDepth 100000 in
theorem dok_8_12 : (List.range 500).all (fun s => dok (s + 6000) 8) = true := by decide +kernel
set_option maxRecDepth 100000 in
theorem dok_8_13 : (List.range 500).all (fun s => dok (s + 6500) 8) = true := by decide +kernel
set_option maxRecDepth 100000 in
theorem dok_8_14 : (List.range 500).all (fun s => dok (s + 7000) 8) = true := by decide +kernel
set_option maxRecDepth 100000 in
theorem dok_8_15 : (List.range 500).all (fun s => dok (s + 7500) 8) = true := by decide +kernel
set_option maxRecDepth 100000 in
theorem dok_16_0 : (List.range 500).all (fun s => dok (s + 0) 16) = true := by decide +kernel
set_option maxRecDepth 100000 in
theorem dok_16_1 : (List.range 500).all (fun s => dok (s + 500) 16) = true := by decide +kernel
set_option maxRecDepth 100000 in
theorem dok_16_2 : (List.range 500).all (fun s => dok (s + 1000) 16) = true := by decide +kernel
set_option maxRecDepth 100000 in
theorem dok_16_3 : (List.range 500).all (fun s => dok (s + 1500) 16) = true := by decide +kernel
set_option maxRecDepth 100000 in
theorem dok_16_4 : (List.range 500).all (fun s => dok (s + 2000) 16) = true := by decide +kernel
set_option maxRecDepth 100000 in
theorem dok_16_5 : (List.range 500).all (fun s => dok (s + 2500) 16) = true := by decide +kernel
set_option maxRecDepth 100000 in
theorem dok_16_6 : (List.range 500).all (fun s => dok (s + 3000) 16) = true := by decide +kernel
set_option maxRecDepth 100000 in
theorem dok_16_7 : (List.range 500).all (fun s => dok (s + 3500) 16) = true := by decide +kernel
set_option maxRecDepth 100000 in
theorem dok_16_8 : (List.range 500).all (fun s => dok (s + 4000) 16) = true := by decide +kernel
set_option maxRecDepth 100000 in
theorem dok_16_9 : (List.range 500).all (fun s => dok (s + 4500) 16) = true := by decide +kernel
set_option maxRecDepth 100000 in
theorem dok_16_10 : (List.range 500).all (fun s => dok (s + 5000) 16) = true := by decide +kernel
set_option maxRecDepth 100000 in
theorem dok_16_11 : (List.range 500).all (fun s => dok (s + 5500) 16) = true := by decide +kernel
set_option maxRecDepth 100000 in
theorem dok_16_12 : (List.range 500).all (fun s => dok (s + 6000) 16) = true := by decide +kernel
set_option maxRecDepth 100000 in
theorem dok_16_13 : (List.range 500).all (fun s => dok (s + 6500) 16) = true := by decide +kernel
set_option maxRecDepth 100000 in
theorem dok_16_14 : (List.range 500).all (fun s => dok (s + 7000) 16) = true := by decide +kernel
set_option maxRecDepth 100000 in
theorem dok_16_15 : (List.range 500).all (fun s => dok (s + 7500) 16) = true := by decide +kernel
theorem dok_c {n c s : Nat} (h : (List.range 500).all (fun s => dok (s + c) n) = true) (h1 : c ≤ s) (h2 : s < c + 500) : dok s n = true := by
  have h3 := List.all_eq_true.mp h (s - c) (List.mem_range.mpr (by omega))
  rwa [show s - c + c = s by omega] at h3
theorem dok_4 {s : Nat} (hs : s < 8000) : dok s 4 = true := by
  rcases (show (0 ≤ s ∧ s < 0 + 500) ∨ (500 ≤ s ∧ s < 500 + 500) ∨ (1000 ≤ s ∧ s < 1000 + 500) ∨ (1500 ≤ s ∧ s < 1500 + 500) ∨ (2000 ≤ s ∧ s < 2000 + 500) ∨ (2500 ≤ s ∧ s < 2500 + 500) ∨ (3000 ≤ s ∧ s < 3000 + 500) ∨ (3500 ≤ s ∧ s < 3500 + 500) ∨ (4000 ≤ s ∧ s < 4000 + 500) ∨ (4500 ≤ s ∧ s < 4500 + 500) ∨ (5000 ≤ s ∧ s < 5000 + 500) ∨ (5500 ≤ s ∧ s < 5500 + 500) ∨ (6000 ≤ s ∧ s < 6000 + 500) ∨ (6500 ≤ s ∧ s < 6500 + 500) ∨ (7000 ≤ s ∧ s < 7000 + 500) ∨ (7500 ≤ s ∧ s < 7500 + 500) by omega) with h | h | h | h | h | h | h | h | h | h | h | h | h | h | h | h
  · exact dok_c dok_4_0 h.1 h.2
  · exact dok_c dok_4_1 h.1 h.2
  · exact dok_c dok_4_2 h.1 h.2
  · exact dok_c dok_4_3 h.1 h.2
  · exact dok_c dok_4_4 h.1 h.2
  · exact dok_c dok_4_5 h.1 h.2
  · exact dok_c dok_4_6 h.1 h.2
  · exact dok_c dok_4_7 h.1 h.2
  · exact dok_c dok_4_8 h.1 h.2
  · exact dok_c dok_4_9 h.1 h.2
  · exact dok_c dok_4_10 h.1 h.2
  · exact dok_c dok_4_11 h.1 h.2
  · exact dok_c dok_4_12 h.1 h.2
  · exact dok_c dok_4_13 h.1 h.2
  · exact dok_c dok_4_14 h.1 h.2
  · exact dok_c dok_4_15 h.1 h.2
theorem dok_8 {s : Nat} (hs : s < 8000) : dok s 8 = true := by
  rcases (show (0 ≤ s ∧ s < 0 + 500) ∨ (500 ≤ s ∧ s < 500 + 500) ∨ (1000 ≤ s ∧ s < 1000 + 500) ∨ (1500 ≤ s ∧ s < 1500 + 500) ∨ (2000 ≤ s ∧ s < 2000 + 500) ∨ (2500 ≤ s ∧ s < 2500 + 500) ∨ (3000 ≤ s ∧ s < 3000 + 500) ∨ (3500 ≤ s ∧ s < 3500 + 500) ∨ (4000 ≤ s ∧ s < 4000 + 500) ∨ (4500 ≤ s ∧ s < 4500 + 500) ∨ (5000 ≤ s ∧ s < 5000 + 500) ∨ (5500 ≤ s ∧ s < 5500 + 500) ∨ (6000 ≤ s ∧ s < 6000 + 500) ∨ (6500 ≤ s ∧ s < 6500 + 500) ∨ (7000 ≤ s ∧ s < 7000 + 500) ∨ (7500 ≤ s ∧ s < 7500 + 500) by omega) with h | h | h | h | h | h | h | h | h | h | h | h | h | h | h | h
  · exact dok_c dok_8_0 h.1 h.2
  · exact dok_c dok_8_1 h.1 h.2
  · exact dok_c dok_8_2 h.1 h.2
  · exact dok_c dok_8_3 h.1 h.2
  · exact dok_c dok_8_4 h.1 h.2
  · exact dok_c dok_8_5 h.1 h.2
  · exact dok_c dok_8_6 h.1 h.2
  · exact dok_c dok_8_7 h.1 h.2
  · exact dok_c dok_8_8 h.1 h.2
  · exact dok_c dok_8_9 h.1 h.2
  · exact dok_c dok_8_10 h.1 h.2
  · exact dok_c dok_8_11 h.1 h.2
  · exact dok_c dok_8_12 h.1 h.2
  · exact dok_c dok_8_13 h.1 h.2
  · exact dok_c dok_8_14 h.1 h.2
  · exact dok_c dok_8_15 h.1 h.2
theorem dok_16 {s : Nat} (hs : s < 8000) : dok s 16 = true := by
  rcases (show (0 ≤ s ∧ s < 0 + 500) ∨ (500 ≤ s ∧ s < 500 + 500) ∨ (1000 ≤ s ∧ s < 1000 + 500) ∨ (1500 ≤ s ∧ s < 1500 + 500) ∨ (2000 ≤ s ∧ s < 2000 + 500) ∨ (2500 ≤ s ∧ s < 2500 + 500) ∨ (3000 ≤ s ∧ s < 3000 + 500) ∨ (3500 ≤ s ∧ s < 3500 + 500) ∨ (4000 ≤ s ∧ s < 4000 + 500) ∨ (4500 ≤ s ∧ s < 4500 + 500) ∨ (5000 ≤ s ∧ s < 5000 + 500) ∨ (5500 ≤ s ∧ s < 5500 + 500) ∨ (6000 ≤ s ∧ s < 6000 + 500) ∨ (6500 ≤ s ∧ s < 6500 + 500) ∨ (7000 ≤ s ∧ s < 7000 + 500) ∨ (7500 ≤ s ∧ s < 7500 + 500) by omega) with h | h | h | h | h | h | h | h | h | h | h | h | h | h | h | h
  · exact dok_c dok_16_0 h.1 h.2
  · exact dok_c dok_16_1 h.1 h.2
  · exact dok_c dok_16_2 h.1 h.2
  · exact dok_c dok_16_3 h.1 h.2
  · exact dok_c dok_16_4 h.1 h.2
  · exact dok_c dok_16_5 h.1 h.2
  · exact dok_c dok_16_6 h.1 h.2
  · exact dok_c dok_16_7 h.1 h.2
  · exact dok_c dok_16_8 h.1 h.2
  · exact dok_c dok_16_9 h.1 h.2
  · exact dok_c dok_16_10 h.1 h.2
  · exact dok_c dok_16_11 h.1 h.2
  · exact dok_c dok_16_12 h.1 h.2
  · exact dok_c dok_16_13 h.1 h.2
  · exact dok_c dok_16_14 h.1 h.2
  · exact dok_c dok_16_15 h.1 h.2
end
section
theorem dok_n {s n : Nat} (hs : s < 8000) (hn : n = 4 ∨ n = 8 ∨ n = 16) : dok s n = true := by
  rcases hn with rfl | rfl | rfl
  · exact dok_4 hs
  · exact dok_8 hs
  · exact dok_16 hs
theorem dq_n {s n : Nat} (hs : s < 8000) (hn : n = 4 ∨ n = 8 ∨ n = 16) : vf_n64 (FP.ddiv (FP.i2d (iI (s : Int))) (FP.i2d (iI (n : Int)))) := by
  have h := dok_n hs hn
  unfold dok at h
  rw [Bool.and_eq_true] at h
  have h1 : dq s n &&& 0x7fffffffffffffff ≤ 0x7ff0000000000000 := of_decide_eq_true h.1
  exact h1
theorem dq_e {s n : Nat} (hs : s < 8000) (hn : n = 4 ∨ n = 8 ∨ n = 16) : FP.dcmp (dq s n) (dq s n) = some .eq := by
  have h := dok_n hs hn
  unfold dok at h
  rw [Bool.and_eq_true] at h
  exact of_decide_eq_true h.2
end
section
/-! ===== the layer over throws: contracts of calls that always throw, their end, their catching ===== -/
abbrev nIAE : String := "java/lang/IllegalArgumentException"
abbrev nIOB : String := "java/lang/IndexOutOfBoundsException"
abbrev nUp : List String := ["java/lang/RuntimeException", "java/lang/Exception"]
def xB : List Cond := (vx_atS RX0 32 nIAE nUp).filter (fun w => !goodWord w) ++ (vx_atS RX0 97 nIOB nUp).filter (fun w => !goodWord w)
def xS : List (Nat × String) := [(30, "no such ring"), (53, "no such power"), (95, "no such stage"), (106, "no such way to join"), (114, "no such number of places"), (122, "no such thing to tell about a row"), (127, "no such thing to count"), (150, "no such row"), (152, "no such place"), (154, "no number of the ring"), (156, "no number of the ring other than 0")]
theorem xB_ok : ∀ w ∈ xB, (w.keepsFace && w.onTables) = true := List.all_eq_true.mp (by decide +kernel)
/-- what a throw finds: two statics of Throwable, words on the tables, the texts -/
def xz (A : Nat → Prop) (U : State) : Prop := vx_Zq Bundle.tN "UNASSIGNED_STACK" Bundle.steD A U U.heap ∧ vx_Zq Bundle.tN "SUPPRESSED_SENTINEL" Bundle.listD A U U.heap ∧ (∀ w ∈ xB, w.before #[] U = true) ∧ (∀ q ∈ xS, ∃ sa : Nat, vk_R RX0 q.1 q.2 sa U) ∧ va_Nc nIAE nIOB U
theorem xz_call {A B : Nat → Prop} {s U : State} {H : Heap} {locs : List Loc} (h : xz A s) (hU : U.heap = H) (hW : s.WarmedH U.vm) (hS : va_S A s.heap H locs) (hB : ∀ q, B q → A q) : xz B U := by
  obtain ⟨h1, h2, h3, h4, h5⟩ := h
  refine ⟨?_, ?_, fun w hw => ?_, fun q hq => ?_, h5.moved hW.alike⟩
  · rw [hU]; exact ((h1.moved hW.alike).kept hS.2.1).narrow hB
  · rw [hU]; exact ((h2.moved hW.alike).kept hS.2.1).narrow hB
  · have h9 := xB_ok w hw
    rw [Bool.and_eq_true] at h9
    exact va_tabs h9.2 (u := s.setVm U.vm) rfl (Cond.before_shiftedFace (State.Shifted.of_warmed hW) w h9.1 (h3 w hw))
  · obtain ⟨sa, hsa⟩ := h4 q hq
    exact ⟨sa, hsa.warm hW⟩
theorem xz_blind {A : Nat → Prop} {U : State} {g : JFrame} {mk : MethodId} {a : Array Value} (h : xz A U) : xz A (U.calling g mk a) := by
  obtain ⟨h1, h2, h3, h4, h5⟩ := h
  refine ⟨h1.moved (Vm.Alike.refl U.vm), h2.moved (Vm.Alike.refl U.vm), fun w hw => ?_, fun q hq => ?_, h5.moved (Vm.Alike.refl U.vm)⟩
  · have h9 := xB_ok w hw
    rw [Bool.and_eq_true] at h9
    exact va_tabs h9.2 (u := U) rfl (h3 w hw)
  · obtain ⟨sa, hsa⟩ := h4 q hq
    exact ⟨sa, hsa.same rfl⟩
def cxP (D : va_G) (cl : List vw_C) (tys : List (ClassId × FieldType)) (av : List Value) (w0 : va_W) (sz : Nat) : Array Value → State → Prop := va_Pc av (fun U => (U.heap.size = sz ∧ va_P D cl w0 U.heap ∧ va_K D cl tys U ∧ va_D (fun _ => True) w0) ∧ xz (va_A w0 sz) U)
theorem cx_blind {D : va_G} {cl : List vw_C} {tys : List (ClassId × FieldType)} {av : List Value} {w0 : va_W} {sz : Nat} : FrameBlind (cxP D cl tys av w0 sz) := fun a U g mk q => by
  obtain ⟨q0, ⟨q1, qP, qK, qD⟩, qz⟩ := q
  exact ⟨q0, ⟨q1, qP, va_K.moved (u := U) (U := U.calling g mk a) (Vm.Alike.refl U.vm) qK, qD⟩, xz_blind qz⟩
def cxX (D : va_G) (cl : List vw_C) (w0 : va_W) (sz : Nat) (E : String) : String → State → State → Prop := fun E' st t => E' = E ∧ va_P D cl w0 t.heap ∧ va_F (va_A w0 sz) st t
/-- a CONTRACT: called so, y always throws an E, the world as it was -/
def CX (l : Launch) (y : MethodName) (ws : List Cond) (rm : Room) (D : va_G) (cl : List vw_C) (tys : List (ClassId × FieldType)) (av : List Value) (w0 : va_W) (E : String) (mc ms : Nat) : Prop :=
  ∀ sz : Nat, vx_Met l y ws rm (cxP D cl tys av w0 sz) (fun _ _ _ _ => False) (cxX D cl w0 sz E) mc ms (va_A w0 sz)
/-- a contract of a method that catches -/
def CZ (l : Launch) (y : MethodName) (ws : List Cond) (rm : Room) (D : va_G) (cl : List vw_C) (tys : List (ClassId × FieldType)) (av : List Value) (w0 : va_W) (Post : Option Value → va_W → Prop) (mc ms : Nat) : Prop :=
  ∀ sz : Nat, Met l y ws rm (cxP D cl tys av w0 sz) (ctQ D cl w0 sz Post) mc ms (va_A w0 sz)
def xzc : Fx → Prop
  | (_, _, _, _, s, _, _, _, _, _, _, _, _, _, A, _) => xz A s
def xq : Fx → va_W → String → Nat → Nat → Prop
  | (_, _, _, _, s, _, args, below, meth, c, Q, D, cl, _, A, _), w0, E, mc, ms => meth.locks = false ∧ A = va_A w0 s.heap.size ∧ Q = vx_MQ below (fun _ _ _ _ => False) (cxX D cl w0 s.heap.size E) args s mc ms (va_A w0 s.heap.size) ∧ ∀ x ∈ c.exceptionTable.toList, False
def xh : Fx → List (Nat × Nat × Nat × Nat) → Prop
  | (_, _, _, _, _, _, _, _, _, c, _, _, _, _, _, _), hh => c.exceptionTable.toList = tableOf hh
/-- a word on which the tables alone decide, of the frame's start -/
def xn : Fx → String → String → Prop
  | (_, _, _, _, s, _, _, _, _, _, _, _, _, _, _, _), E, nm => va_Nc E nm s
def xk : Fx → String → String → Prop
  | (_, _, _, _, s, _, _, _, _, _, _, _, _, _, _, _), E, nm => (Cond.castable E nm).before #[] s = true
set_option maxHeartbeats 4000000 in
theorem ct_ofX {l : Launch} {y : MethodName} {ws ws' : List Cond} {rm : Room} {D : va_G} {cl : List vw_C} {tys : List (ClassId × FieldType)} {av : List Value} {w0 : va_W} {E : String} {mc ms : Nat} {cc : ByteArray} {maxL : Nat} {ret : Option FieldType}
    (hy : plainName y.cls = true) (hw : ws = Cond.code y cc maxL ret :: ws') (hlen : (lg_sl av).length ≤ maxL)
    (body : ∀ φ : Fx, xc φ l rm D cl tys maxL cc y.cls ws → xzc φ → xq φ w0 E mc ms → xw φ 0 0 w0 0 (lv_args 0 av) []) : CX l y ws rm D cl tys av w0 E mc ms := by
  intro sz
  refine vx_ofW (cc := cc) (maxL := maxL) (ret := ret) hy hw ?_
  intro p e s m args below meth c s₁ B hml hno hv
  obtain ⟨rfl, ⟨hsz, hP, hK, hD0⟩, hz⟩ := hv
  have hts := atoms_spec (ws := ws) B.pre
  have hown : s.vm.findClass y.cls = some m.cls := findClass_of_methodNamed B.named
  subst hsz
  rw [lg_entry_eq]
  exact body (p, l, e, rm, s, m, av.toArray, below, meth, c, vx_MQ below (fun _ _ _ _ => False) (cxX D cl w0 s.heap.size E) av.toArray s mc ms (va_A w0 s.heap.size), D, cl, tys, va_A w0 s.heap.size, maxL)
    ⟨rfl, rfl, rfl, rfl, rfl, rfl, B.exec, B.bytes, hml, hown, hts, hK, fun q h => Or.inr h⟩ hz ⟨B.notSynchronized, rfl, rfl, hno⟩ s.heap [] _ hP hD0.self va_S.rf (lv_entry av hlen)
set_option maxHeartbeats 4000000 in
theorem ct_ofH {l : Launch} {y : MethodName} {ws ws' : List Cond} {rm : Room} {D : va_G} {cl : List vw_C} {tys : List (ClassId × FieldType)} {av : List Value} {w0 : va_W} {Post : Option Value → va_W → Prop} {mc ms : Nat} {cc : ByteArray} {maxL : Nat} {ret : Option FieldType} {hh : List (Nat × Nat × Nat × Nat)}
    (hy : plainName y.cls = true) (hw : ws = Cond.codeWith y cc maxL ret hh :: ws') (hlen : (lg_sl av).length ≤ maxL)
    (body : ∀ φ : Fx, xc φ l rm D cl tys maxL cc y.cls ws → xr φ w0 Post ret mc ms → xzc φ → xh φ hh → xw φ 0 0 w0 0 (lv_args 0 av) []) : CZ l y ws rm D cl tys av w0 Post mc ms := by
  intro sz
  refine va_MetW (cc := cc) (maxL := maxL) (ret := ret) (hh := hh) hy hw ?_
  intro p e s m args below meth c s₁ B hml hv
  obtain ⟨rfl, ⟨hsz, hP, hK, hD0⟩, hz⟩ := hv
  have hts := atoms_spec (ws := ws) B.pre
  have hown : s.vm.findClass y.cls = some m.cls := findClass_of_methodNamed B.named
  have htb : c.exceptionTable.toList = tableOf hh := vx_table (x := y) B (hts _ (by rw [hw]; exact List.mem_cons_self))
  subst hsz
  rw [lg_entry_eq]
  exact body (p, l, e, rm, s, m, av.toArray, below, meth, c, MQ below (ctQ D cl w0 s.heap.size Post) av.toArray s mc ms (va_A w0 s.heap.size), D, cl, tys, va_A w0 s.heap.size, maxL)
    ⟨rfl, rfl, rfl, rfl, rfl, rfl, B.exec, B.bytes, hml, hown, hts, hK, fun q h => Or.inr h⟩ ⟨B.returns, B.notSynchronized, rfl, rfl⟩ hz htb s.heap [] _ hP hD0.self va_S.rf (lv_entry av hlen)
section XX
variable {φ : Fx} {l : Launch} {D : va_G} {cl : List vw_C} {tys : List (ClassId × FieldType)} {R : Room} {cc : ByteArray} {own : String} {Ts : List Cond} {nL k n : Nat} {w : va_W} {pc : Nat} {lv : List (Nat × Value)} {st rest : List Value}
/-- the places written, behind a call -/
theorem xw_S1 {A : Nat → Prop} {H0 H H1 : Heap} {locs L : List Loc} {wc : va_W} (hS : va_S A H0 H locs) (hF : ∀ q, va_A wc H.size q → A q) (hz : H.size ≤ H1.size) (hk : ∀ q : Nat, q < H.size → ¬ va_A wc H.size q → H1[q]? = H[q]?) (hL : ∀ q ∈ L, va_A wc H.size q.base) : va_S A H0 H1 (locs ++ L) :=
  ⟨Nat.le_trans hS.1 hz, fun q h1 h2 => by rw [hk q (Nat.lt_of_lt_of_le h1 hS.1) (fun z => h2 (hF q z))]; exact hS.2.1 q h1 h2, fun q hq => by
    rcases List.mem_append.mp hq with h | h
    · exact hS.2.2 q h
    · exact hF _ (hL q h)⟩
set_option maxHeartbeats 4000000 in
/-- a virtual call that throws, not caught here -/
theorem xt_V (C : xc φ l R D cl tys nL cc own Ts) (Zc : xzc φ) {E : String} {mc' ms' : Nat} (X : xq φ w E mc' ms') {Cn : String} {T : u_T} {N : Nat} {index b ci q0 maxL mc ms : Nat} {y : MethodName} {ws ws' : List Cond} {bytes : ByteArray} {ret : Option FieldType} {rm : Room} {As fs : List Value}
    (hM : CX l y ws rm D cl tys (.ref b :: As) w E mc ms) (hg : GoodIn Ts (wsV own index Cn y ws)) (hw : ws = .code y bytes maxL ret :: ws') (hrc : rm.cells = mc) (hrs : rm.slots = ms) {na : Nat} (hna : As.length = na)
    (hy : y.cls = Cn ∧ y.cls ≠ "java/lang/invoke/MethodHandle" ∧ y.cls ≠ "java/lang/invoke/VarHandle" ∧ (parseMethodDescriptor y.desc).map (fun d => d.parameters.length) = some na) (hR : rm.frames + 1 ≤ R.frames ∧ 8 + (maxL + 11) + rm.locals ≤ R.locals)
    (hrecv : w[q0]? = some (b, .inr (ci, fs))) (hci : cl[ci]? = some (Cn, T, N)) (hst : st = As.reverse ++ .ref b :: rest) (hcat : (rest.map fun v => v.category).sum ≤ 8) (d : decode cc pc = .ok (.invokevirtual index, 3)) (hf : k + mc ≤ R.cells ∧ n + ms ≤ R.slots) (hmc : k + mc ≤ mc' ∧ n + ms ≤ ms') : xw φ k n w pc lv st := by
  obtain ⟨p, l, e, R, s, m, args, below, meth, c, Q, D, cl, tys, A, nL⟩ := φ
  obtain ⟨rfl, rfl, rfl, rfl, rfl, rfl, hx, hb, hml, hown, hts, hK, hA⟩ := C
  intro H locs ls hP hD hS h
  obtain ⟨hlocks, rfl, rfl, hno⟩ := X
  have hF := va_selfree hD hS hA
  have hr := vx_runV (As := As) (rest := rest) (b := b) (C := Cn) (g := F0 m pc ls st) (e := e) (below := below) (meth := meth) (H := H) (locs := locs) (cells := k) (slots := n) ⟨hx, hb, hml, hown, hts⟩ (hM H.size) (cwV na hts hg hw hrc hrs hy hR) ⟨cx_blind, va_recv hK hP hci hrecv, fun U hU hW => ⟨rfl, ⟨by rw [hU], by rw [hU]; exact hP, va_K.moved hW.alike hK, hD.weaken (fun _ _ _ _ => trivial)⟩, xz_call Zc hU hW hS hF⟩⟩ rfl hna h.1 hst (lv_room hcat) d hf
  intro T0 hT X0
  rcases hr T0 hT X0 with ⟨v, st₀, t, T', L, h0, X', hL, e1, e2, hq, stp⟩ | ⟨q, st₀, t, T', L, E', ce, h0, X', hL, e1, e2, hX, hce, hcv, hcl, stp⟩
  · exact hq.elim
  · obtain ⟨rfl, hP1, hz, hk⟩ := hX
    rw [h0] at hz hk
    have hS1 : va_S (va_A w s.heap.size) s.heap T'.heap (locs ++ L) := xw_S1 hS hF (by rw [e1]; exact hz) (fun q h1 h2 => by rw [e1]; exact hk q h1 h2) hL
    obtain ⟨t2, a1, b1⟩ := vx_out (p := p) (l := l) (e := e) (R := R) (s := s) (m := m) (args := args) (below := below) (meth := meth) (c := c) (H := T'.heap) (locs := locs ++ L) (cells := k + mc) (slots := n + ms) (pc := pc) (ls := ls) (rest := rest) (Qc := fun _ _ _ _ => False) (XC := cxX D cl w s.heap.size E') (mc := mc') (ms := ms') (free := va_A w s.heap.size) (fun x hx => (hno x hx).elim) hlocks (by rw [e1]; exact hce) hcv hcl (fun t3 ht3 _ => ⟨rfl, by rw [ht3, e1]; exact hP1, hS1.F ht3⟩) hS1.2.2 hmc.1 hmc.2 T' rfl X'
    exact ⟨t2, stp.trans a1, b1⟩
set_option maxHeartbeats 4000000 in
/-- 'throw new E("text")' -/
theorem xt_throw (C : xc φ l R D cl tys nL cc RX0 Ts) (Zc : xzc φ) {E : String} {mc' ms' : Nat} (X : xq φ w E mc' ms') {ik is ic : Nat} {text : String} (hl : l.stackTraces = false)
    (hcls : Bundle.fit E = true) (hk : Cond.classLink RX0 ik E ∈ Ts) (hini : Cond.initialized E ∈ Ts) (hat1 : ∀ w ∈ (vx_atS RX0 ic E nUp).filter goodWord, w ∈ Ts) (hat2 : ∀ w ∈ (vx_atS RX0 ic E nUp).filter (fun w => !goodWord w), w ∈ xB)
    (hgood : ∀ w ∈ Cond.classLink RX0 ik E :: Cond.initialized E :: vx_atS RX0 ic E nUp, vx_ot w = true) (hstr : (is, text) ∈ xS)
    (d0 : decode cc pc = .ok (.new ik, 3)) (d3 : decode cc (pc + 3) = .ok (.dup, 1)) (d4 : decode cc (pc + 4) = .ok (.ldc is, 2)) (d6 : decode cc (pc + 6) = .ok (.invokespecial ic, 3)) (d9 : decode cc (pc + 9) = .ok (.athrow, 1))
    (hRf : 5 < R.frames) (hRl : (st.map fun v => v.category).sum + 82 ≤ R.locals) (hRc : k + 1 ≤ R.cells) (hRs : n + 6 ≤ R.slots) (hc : k + 1 ≤ mc') (hs : n + 6 ≤ ms') : xw φ k n w pc lv st := by
  obtain ⟨p, l, e, R, s, m, args, below, meth, c, Q, D, cl, tys, A, nL⟩ := φ
  obtain ⟨rfl, rfl, rfl, rfl, rfl, rfl, hx, hb, hml, hown, hts, hK, hA⟩ := C
  intro H locs ls hP hD hS h
  obtain ⟨hlocks, rfl, rfl, hno⟩ := X
  obtain ⟨z1, z2, z3, z4, -⟩ := Zc
  obtain ⟨sa, hsa⟩ := z4 _ hstr
  refine vx_throwS (names := nUp) (ik := ik) (is := is) (ic := ic) (text := text) hx hb hl hown hcls (by decide) (hts _ hk) (hts _ hini) hsa (vx_hat (B := xB) (fun w hw => hts _ (hat1 w hw)) hat2 (fun w hw => ?_)) hgood z1 z2 hS (h.1.trans hml.symm) d0 d3 d4 d6 d9 (fun x hx => (hno x hx).elim) hRf hRl hRc hRs hlocks (fun t hv hz hq => ⟨rfl, ?_, ?_⟩) hS.2.2 hc hs
  · have h9 := xB_ok w hw
    rw [Bool.and_eq_true] at h9
    exact va_tabs h9.2 (u := s) rfl (z3 w hw)
  · intro j q hj
    have hlt := (hP j q hj).lt
    exact (hP j q hj).kept (hq _ hlt)
  · exact ⟨Nat.le_trans hS.1 hz, fun q h1 h2 => by rw [hq q (Nat.lt_of_lt_of_le h1 hS.1)]; exact hS.2.1 q h1 h2⟩
theorem xzc_n (Zc : xzc φ) : xn φ nIAE nIOB := by
  obtain ⟨p, l, e, R, s, m, args, below, meth, c, Q, D, cl, tys, A, nL⟩ := φ
  exact Zc.2.2.2.2
theorem xzc_k (Zc : xzc φ) {E : String} (h : Cond.castable E E ∈ xB) : xk φ E E := by
  obtain ⟨p, l, e, R, s, m, args, below, meth, c, Q, D, cl, tys, A, nL⟩ := φ
  exact Zc.2.2.1 _ h
theorem xw_sub {w' : va_W} (is : List Nat) (hn : va_nd is = true) (hs : is.map (fun i => w[i]?) = w'.map some) (hs2 : is.filterMap (fun i => w[i]?) = w') (kk : xw φ k n w' pc lv st) : xw φ k n w pc lv st := by
  obtain ⟨p, l, e, R, s, m, args, below, meth, c, Q, D, cl, tys, A, nL⟩ := φ
  exact fun H locs ls hP hD hS h => kk H locs ls (hP.sub is hs2) (hD.sub is hn hs) hS h
set_option maxHeartbeats 4000000 in
/-- a virtual call over a part of the world -/
theorem xw_VF (C : xc φ l R D cl tys nL cc own Ts) {Cn : String} {T : u_T} {N : Nat} {index b ci q0 maxL mc ms : Nat} {y : MethodName} {ws ws' : List Cond} {bytes : ByteArray} {ret : Option FieldType} {rm : Room} {As fs : List Value} {Post : Option Value → va_W → Prop} {wc wr : va_W} {tysC : List (ClassId × FieldType)} (isC isR isT : List Nat)
    (hM : CT l y ws rm D cl tysC (.ref b :: As) wc Post mc ms) (hg : GoodIn Ts (wsV own index Cn y ws)) (hw : ws = .code y bytes maxL ret :: ws') (hrc : rm.cells = mc) (hrs : rm.slots = ms) {na : Nat} (hna : As.length = na)
    (hy : y.cls = Cn ∧ y.cls ≠ "java/lang/invoke/MethodHandle" ∧ y.cls ≠ "java/lang/invoke/VarHandle" ∧ (parseMethodDescriptor y.desc).map (fun d => d.parameters.length) = some na) (hR : rm.frames + 1 ≤ R.frames ∧ 8 + (maxL + 11) + rm.locals ≤ R.locals)
    (hC : isC.map (fun i => w[i]?) = wc.map some) (hC2 : isC.filterMap (fun i => w[i]?) = wc) (hRr : isR.map (fun i => w[i]?) = wr.map some) (hnd : va_nd isC = true ∧ va_nd isR = true) (hdis : ∀ i ∈ isR, i ∉ isC) (hT : isT.filterMap (fun i => tys[i]?) = tysC)
    (hrecv : wc[q0]? = some (b, .inr (ci, fs))) (hci : cl[ci]? = some (Cn, T, N)) (hst : st = As.reverse ++ .ref b :: rest) (hcat : (rest.map fun v => v.category).sum ≤ 8) (d : decode cc pc = .ok (.invokevirtual index, 3)) (hf : k + mc ≤ R.cells ∧ n + ms ≤ R.slots)
    (kk : ∀ (v : Option Value) (w1 : va_W), Post v w1 → xw φ (k + mc) (n + ms) (wr ++ w1) (pc + 3) lv (v.toList ++ rest)) : xw φ k n w pc lv st := by
  obtain ⟨p, l, e, R, s, m, args, below, meth, c, Q, D, cl, tys, A, nL⟩ := φ
  obtain ⟨rfl, rfl, rfl, rfl, rfl, rfl, hx, hb, hml, hown, hts, hK, hA⟩ := C
  intro H locs ls hP hD hS h
  have hPc := hP.sub isC hC2
  have hDc := hD.sub isC hnd.1 hC
  have hKc := hK.sub isT hT
  have hF := va_free (wc := wc) hD hS hA isC hC
  refine xw_run (va_runV (As := As) (rest := rest) (b := b) (C := Cn) ⟨hx, hb, hml, hown, hts⟩ (hM H.size) (cwV na hts hg hw hrc hrs hy hR) ⟨ct_blind, va_recv hKc hPc hci hrecv, fun U hU hW => ⟨rfl, by rw [hU], by rw [hU]; exact hPc, va_K.moved hW.alike hKc, hDc.weaken (fun _ _ _ _ => trivial)⟩⟩ rfl hna h.1 hst (lv_room hcat) d hf) hS hF ?_
  intro v w1 H1 locs1 hp hP1 hD1 hk1 hS1
  obtain ⟨hP2, hD2⟩ := va_join (wr := wr) (w1 := w1) hP hD isC isR hC hRr hnd.2 hdis hk1 hF hP1 hD1
  exact kk v w1 hp H1 locs1 ls hP2 hD2 hS1 h
set_option maxHeartbeats 4000000 in
/-- a virtual call over a part of the world that throws, caught here -/
theorem xw_VX (C : xc φ l R D cl tys nL cc own Ts) (Zc : xzc φ) {hh : List (Nat × Nat × Nat × Nat)} (Hh : xh φ hh) {E name : String} {Cn : String} {T : u_T} {N : Nat} {index b ci q0 maxL mc ms : Nat} {y : MethodName} {ws ws' : List Cond} {bytes : ByteArray} {ret : Option FieldType} {rm : Room} {As fs : List Value} {wc wr : va_W} {tysC : List (ClassId × FieldType)} (isC isR isT : List Nat)
    (hM : CX l y ws rm D cl tysC (.ref b :: As) wc E mc ms) (hg : GoodIn Ts (wsV own index Cn y ws)) (hw : ws = .code y bytes maxL ret :: ws') (hrc : rm.cells = mc) (hrs : rm.slots = ms) {na : Nat} (hna : As.length = na)
    (hy : y.cls = Cn ∧ y.cls ≠ "java/lang/invoke/MethodHandle" ∧ y.cls ≠ "java/lang/invoke/VarHandle" ∧ (parseMethodDescriptor y.desc).map (fun d => d.parameters.length) = some na) (hR : rm.frames + 1 ≤ R.frames ∧ 8 + (maxL + 11) + rm.locals ≤ R.locals)
    (hC : isC.map (fun i => w[i]?) = wc.map some) (hC2 : isC.filterMap (fun i => w[i]?) = wc) (hRr : isR.map (fun i => w[i]?) = wr.map some) (hnd : va_nd isC = true ∧ va_nd isR = true) (hdis : ∀ i ∈ isR, i ∉ isC) (hT : isT.filterMap (fun i => tys[i]?) = tysC)
    (hrecv : wc[q0]? = some (b, .inr (ci, fs))) (hci : cl[ci]? = some (Cn, T, N)) (hst : st = As.reverse ++ .ref b :: rest) (hcat : (rest.map fun v => v.category).sum ≤ 8) (d : decode cc pc = .ok (.invokevirtual index, 3)) (hf : k + mc ≤ R.cells ∧ n + ms ≤ R.slots)
    (pre : List ExceptionTableEntry) (x : ExceptionTableEntry) (suf : List ExceptionTableEntry) (hsplit : tableOf hh = pre ++ x :: suf) (hpass : ∀ z ∈ pre, z.catchType ≠ 0 ∧ ∃ nm : String, Cond.classLink own z.catchType nm ∈ Ts ∧ xn φ E nm) (hcov : covers x pc = true) (h0 : x.catchType ≠ 0) (hlink : Cond.classLink own x.catchType name ∈ Ts) (hcast : xk φ E name) {hpc : Nat} (hpc2 : x.handlerPc = hpc)
    (kk : ∀ q : Nat, xw φ (k + mc) (n + ms) (wr ++ wc) hpc lv [.ref q]) : xw φ k n w pc lv st := by
  obtain ⟨p, l, e, R, s, m, args, below, meth, c, Q, D, cl, tys, A, nL⟩ := φ
  obtain ⟨rfl, rfl, rfl, rfl, rfl, rfl, hx, hb, hml, hown, hts, hK, hA⟩ := C
  intro H locs ls hP hD hS h
  have hPc := hP.sub isC hC2
  have hDc := hD.sub isC hnd.1 hC
  have hKc := hK.sub isT hT
  have hF := va_free (wc := wc) hD hS hA isC hC
  have hr := vx_runV (As := As) (rest := rest) (b := b) (C := Cn) (g := F0 m pc ls st) (e := e) (below := below) (meth := meth) (H := H) (locs := locs) (cells := k) (slots := n) ⟨hx, hb, hml, hown, hts⟩ (hM H.size) (cwV na hts hg hw hrc hrs hy hR) ⟨cx_blind, va_recv hKc hPc hci hrecv, fun U hU hW => ⟨rfl, ⟨by rw [hU], by rw [hU]; exact hPc, va_K.moved hW.alike hKc, hDc.weaken (fun _ _ _ _ => trivial)⟩, xz_call Zc hU hW hS hF⟩⟩ rfl hna h.1 hst (lv_room hcat) d hf
  intro T0 hT X0
  rcases hr T0 hT X0 with ⟨v, st₀, t, T', L, h0', X', hL, e1, e2, hq, stp⟩ | ⟨q, st₀, t, T', L, E', ce, h0', X', hL, e1, e2, hX, hce, hcv, hcl, stp⟩
  · exact hq.elim
  · obtain ⟨rfl, hP1, hz, hk⟩ := hX
    rw [h0'] at hz hk
    have hk1 : ∀ q : Nat, q < H.size → ¬ va_A wc H.size q → T'.heap[q]? = H[q]? := fun q h1 h2 => by rw [e1]; exact hk q h1 h2
    have hS1 : va_S A s.heap T'.heap (locs ++ L) := xw_S1 hS hF (by rw [e1]; exact hz) hk1 hL
    obtain ⟨hP2, hD2⟩ := va_join (wr := wr) (w1 := wc) hP hD isC isR hC hRr hnd.2 hdis hk1 hF (by rw [e1]; exact hP1) (hDc.self (sz := H.size))
    subst hpc2
    obtain ⟨t2, a1, b1⟩ := vx_catch (p := p) (l := l) (e := e) (R := R) (s := s) (m := m) (args := args) (below := below) (meth := meth) (c := c) (H := T'.heap) (locs := locs ++ L) (cells := k + mc) (slots := n + ms) (Q := Q) (pc := pc) (ls := ls) (rest := rest) hown pre x suf (Hh.trans hsplit) (fun z hz9 => Or.inr ⟨(hpass z hz9).1, (hpass z hz9).2.choose, hts _ (hpass z hz9).2.choose_spec.1, (hpass z hz9).2.choose_spec.2⟩) hcov h0 (hts _ hlink) (va_tabs (by rfl) rfl hcast) (by rw [e1]; exact hce) hcv hcl (kk q T'.heap (locs ++ L) ls hP2 hD2 hS1 h) T' rfl X'
    exact ⟨t2, stp.trans a1, b1⟩
set_option maxHeartbeats 4000000 in
/-- a static call of a method that catches, over a part of the world -/
theorem xw_Z (C : xc φ l R D cl tys nL cc own Ts) (Zc : xzc φ) {index maxL mc ms : Nat} {y : MethodName} {ws ws' : List Cond} {bytes : ByteArray} {ret : Option FieldType} {hh : List (Nat × Nat × Nat × Nat)} {rm : Room} {As : List Value} {Post : Option Value → va_W → Prop} {wc wr : va_W} {tysC : List (ClassId × FieldType)} (isC isR isT : List Nat)
    (hM : CZ l y ws rm D cl tysC As wc Post mc ms) (hg : GoodIn Ts (va_wsS own index y ws)) (hw : ws = .codeWith y bytes maxL ret hh :: ws') (hrc : rm.cells = mc) (hrs : rm.slots = ms) {na : Nat} (hna : As.length = na)
    (hy : y.cls ≠ "java/lang/invoke/MethodHandle" ∧ y.cls ≠ "java/lang/invoke/VarHandle" ∧ (parseMethodDescriptor y.desc).map (fun d => d.parameters.length) = some na) (hR : rm.frames + 1 ≤ R.frames ∧ 8 + (maxL + 11) + rm.locals ≤ R.locals)
    (hC : isC.map (fun i => w[i]?) = wc.map some) (hC2 : isC.filterMap (fun i => w[i]?) = wc) (hRr : isR.map (fun i => w[i]?) = wr.map some) (hnd : va_nd isC = true ∧ va_nd isR = true) (hdis : ∀ i ∈ isR, i ∉ isC) (hT : isT.filterMap (fun i => tys[i]?) = tysC)
    (hst : st = As.reverse ++ rest) (hcat : (rest.map fun v => v.category).sum ≤ 8) (d : decode cc pc = .ok (.invokestatic index, 3)) (hf : k + mc ≤ R.cells ∧ n + ms ≤ R.slots)
    (kk : ∀ (v : Option Value) (w1 : va_W), Post v w1 → xw φ (k + mc) (n + ms) (wr ++ w1) (pc + 3) lv (v.toList ++ rest)) : xw φ k n w pc lv st := by
  obtain ⟨p, l, e, R, s, m, args, below, meth, c, Q, D, cl, tys, A, nL⟩ := φ
  obtain ⟨rfl, rfl, rfl, rfl, rfl, rfl, hx, hb, hml, hown, hts, hK, hA⟩ := C
  intro H locs ls hP hD hS h
  have hPc := hP.sub isC hC2
  have hDc := hD.sub isC hnd.1 hC
  have hKc := hK.sub isT hT
  have hF := va_free (wc := wc) hD hS hA isC hC
  refine xw_run (vx_runSW (As := As) (rest := rest) ⟨hx, hb, hml, hown, hts⟩ (hM H.size) (vx_cwSW na hts hg hw hrc hrs hy hR) ⟨cx_blind, fun U hU hW => ⟨rfl, ⟨by rw [hU], by rw [hU]; exact hPc, va_K.moved hW.alike hKc, hDc.weaken (fun _ _ _ _ => trivial)⟩, xz_call Zc hU hW hS hF⟩⟩ rfl hna h.1 hst (lv_room hcat) d hf) hS hF ?_
  intro v w1 H1 locs1 hp hP1 hD1 hk1 hS1
  obtain ⟨hP2, hD2⟩ := va_join (wr := wr) (w1 := w1) hP hD isC isR hC hRr hnd.2 hdis hk1 hF hP1 hD1
  exact kk v w1 hp H1 locs1 ls hP2 hD2 hS1 h
theorem xw_last (C : xc φ l R D cl tys nL cc own Ts) {a : Nat} {cA : ClassId} {f : Nat → Int64} {x : Int64} {w' : va_W} (q0 t0 : Nat) (ha : w[q0]? = some (a, .inl (cA, 1, .inr (.inl f)))) (ht : tys[t0]? = some (cA, .long)) (hw : w.set q0 (a, .inl (cA, 1, .inr (.inl (vp_updL f 0 x)))) = w') (d : decode cc pc = .ok (.lastore, 1)) (kk : xw φ k n w' (pc + 1) lv st) : xw φ k n w pc lv (.long x :: nV 0 :: .ref a :: st) := by
  obtain ⟨p, l, e, R, s, m, args, below, meth, c, Q, D, cl, tys, A, nL⟩ := φ
  obtain ⟨rfl, rfl, rfl, rfl, rfl, rfl, hx, hb, hml, hown, hts, hK, hA⟩ := C
  intro H locs ls hP hD hS h
  refine va_last hx hb hK hP hD hS q0 t0 ha ht (iI_in (j := 0) (N := 1) (by decide) (by decide)) d (fun H1 locs1 hP hD hS => ?_)
  rw [iI_cl (j := 0) (by decide), hw] at hP hD
  exact kk H1 locs1 ls hP hD hS h
theorem xw_lald (C : xc φ l R D cl tys nL cc own Ts) {a : Nat} {cA : ClassId} {f : Nat → Int64} (q0 t0 : Nat) (ha : w[q0]? = some (a, .inl (cA, 1, .inr (.inl f)))) (ht : tys[t0]? = some (cA, .long)) (d : decode cc pc = .ok (.laload, 1)) (kk : xw φ k n w (pc + 1) lv (.long (f 0) :: st)) : xw φ k n w pc lv (nV 0 :: .ref a :: st) := by
  obtain ⟨p, l, e, R, s, m, args, below, meth, c, Q, D, cl, tys, A, nL⟩ := φ
  obtain ⟨rfl, rfl, rfl, rfl, rfl, rfl, hx, hb, hml, hown, hts, hK, hA⟩ := C
  intro H locs ls hP hD hS h
  refine va_lald hx hb hK hP q0 t0 ha ht (iI_in (j := 0) (N := 1) (by decide) (by decide)) d ?_
  rw [iI_cl (j := 0) (by decide)]
  exact kk H locs ls hP hD hS h
theorem xw_dast (C : xc φ l R D cl tys nL cc own Ts) {a : Nat} {cA : ClassId} {f : Nat → UInt64} {x : UInt64} {w' : va_W} (q0 t0 : Nat) (ha : w[q0]? = some (a, .inl (cA, 1, .inr (.inr (.inr (.inl f)))))) (ht : tys[t0]? = some (cA, .double)) (hw : w.set q0 (a, .inl (cA, 1, .inr (.inr (.inr (.inl (vf_upd f 0 x)))))) = w') (d : decode cc pc = .ok (.dastore, 1)) (kk : xw φ k n w' (pc + 1) lv st) : xw φ k n w pc lv (.double x :: nV 0 :: .ref a :: st) := by
  obtain ⟨p, l, e, R, s, m, args, below, meth, c, Q, D, cl, tys, A, nL⟩ := φ
  obtain ⟨rfl, rfl, rfl, rfl, rfl, rfl, hx, hb, hml, hown, hts, hK, hA⟩ := C
  intro H locs ls hP hD hS h
  refine va_dast hx hb hK hP hD hS q0 t0 ha ht (iI_in (j := 0) (N := 1) (by decide) (by decide)) d (fun H1 locs1 hP hD hS => ?_)
  rw [iI_cl (j := 0) (by decide), hw] at hP hD
  exact kk H1 locs1 ls hP hD hS h
theorem xw_dald (C : xc φ l R D cl tys nL cc own Ts) {a : Nat} {cA : ClassId} {f : Nat → UInt64} (q0 t0 : Nat) (ha : w[q0]? = some (a, .inl (cA, 1, .inr (.inr (.inr (.inl f)))))) (ht : tys[t0]? = some (cA, .double)) (d : decode cc pc = .ok (.daload, 1)) (kk : xw φ k n w (pc + 1) lv (.double (f 0) :: st)) : xw φ k n w pc lv (nV 0 :: .ref a :: st) := by
  obtain ⟨p, l, e, R, s, m, args, below, meth, c, Q, D, cl, tys, A, nL⟩ := φ
  obtain ⟨rfl, rfl, rfl, rfl, rfl, rfl, hx, hb, hml, hown, hts, hK, hA⟩ := C
  intro H locs ls hP hD hS h
  refine va_dald hx hb hK hP q0 t0 ha ht (iI_in (j := 0) (N := 1) (by decide) (by decide)) d ?_
  rw [iI_cl (j := 0) (by decide)]
  exact kk H locs ls hP hD hS h
theorem xw_lcmp (C : xc φ l R D cl tys nL cc own Ts) {x y : Int64} (hxy : x = y) (d : decode cc pc = .ok (.lcmp, 1)) (kk : xw φ k n w (pc + 1) lv (nV 0 :: st)) : xw φ k n w pc lv (.long y :: .long x :: st) := by
  obtain ⟨p, l, e, R, s, m, args, below, meth, c, Q, D, cl, tys, A, nL⟩ := φ
  obtain ⟨rfl, rfl, rfl, rfl, rfl, rfl, hx, hb, hml, hown, hts, hK, hA⟩ := C
  intro H locs ls hP hD hS h
  refine W.lcmp hx hb d ?_
  subst hxy
  have e9 : lg_cmp x x = iI ((0 : Nat) : Int) := by
    unfold lg_cmp
    rw [if_neg (by simp), if_pos rfl]; rfl
  rw [e9]
  exact kk H locs ls hP hD hS h
theorem xw_dcmp (C : xc φ l R D cl tys nL cc own Ts) {x y : UInt64} {op : CmpOp} (d : decode cc pc = .ok (.dcmp op, 1)) (he : FP.dcmp x y = some .eq) (kk : xw φ k n w (pc + 1) lv (nV 0 :: st)) : xw φ k n w pc lv (.double y :: .double x :: st) := by
  obtain ⟨p, l, e, R, s, m, args, below, meth, c, Q, D, cl, tys, A, nL⟩ := φ
  obtain ⟨rfl, rfl, rfl, rfl, rfl, rfl, hx, hb, hml, hown, hts, hK, hA⟩ := C
  intro H locs ls hP hD hS h
  refine lv_dcmp hx hb d ?_
  rw [he]
  cases op <;> exact kk H locs ls hP hD hS h
end XX
end
section
theorem rgN {x : Nat} (h : x < 2147483648) : -2147483648 ≤ ((x : Nat) : Int) ∧ ((x : Nat) : Int) < 2147483648 := by omega

theorem tm_rg {x y : Int} (hx : -2147483648 ≤ x ∧ x < 2147483648) (hy : 0 < y ∧ y < 2147483648) : -2147483648 ≤ x.tmod y ∧ x.tmod y < 2147483648 := by
  have h1 := Int.tmod_lt_of_pos x hy.1
  have h2 := Int.tmod_lt_of_pos (-x) hy.1
  rw [Int.neg_tmod] at h2
  omega
set_option maxHeartbeats 4000000 in
set_option maxRecDepth 100000 in
theorem m_floorMod {l : Launch} {D : va_G} {tys : List (ClassId × FieldType)} {w0 : va_W} (x y : Int) (hx : -2147483648 ≤ x ∧ x < 2147483648) (hy : 0 < y ∧ y < 2147483648) : CT l yJ9_floorMod_7cf53 wsJ9_floorMod_7cf53 (rmN 0 0) D vwCl tys [iV x, iV y] w0 (PD (some (iV (x % y))) w0) 0 0 := by
  refine ct_of (by decide +kernel) rfl (Nat.le_of_ble_eq_true rfl) (fun φ C rX => ?_)
  refine xw_le (lv' := [(0, iV x), (1, iV y)]) rfl ?_
  refine xw_iload_n (pc := 0) C 0 dJ9_floorMod_7cf53_0 rfl ?_
  refine xw_iload_n (pc := 1) C 1 dJ9_floorMod_7cf53_1 rfl ?_
  refine xw_irem (pc := 2) C dJ9_floorMod_7cf53_2 (hx) (hy) ?_
  refine xw_istore_n (pc := 3) (lv' := [(0, iV x), (1, iV y), (2, iV (Int.tmod x y))]) C [1, 2, 0] dJ9_floorMod_7cf53_3 rfl (by decide) rfl ?_
  refine xw_iload_n (pc := 4) C 0 dJ9_floorMod_7cf53_4 rfl ?_
  refine xw_iload_n (pc := 5) C 1 dJ9_floorMod_7cf53_5 rfl ?_
  refine xw_ixor (pc := 6) (r := iI ((iI x ^^^ iI y).toInt)) C dJ9_floorMod_7cf53_6 (iI_of _) ?_
  refine xw_if_ge (pc := 7) (tgt := 18) C dJ9_floorMod_7cf53_7 (by decide) (iI_rg _) (fun c_1 => ?_) (fun c_1 => ?_)
  ·
    refine xw_iload_n (pc := 18) C 2 dJ9_floorMod_7cf53_18 rfl ?_
    exact xw_iret (pc := 19) C rX (Nat.le_refl _) (Nat.le_refl _) dJ9_floorMod_7cf53_19 (PD.e (by rw [em_pos ((xor_ge hx hy).mp c_1)]) rfl)
  ·
    refine xw_iload_n (pc := 10) C 2 dJ9_floorMod_7cf53_10 rfl ?_
    refine xw_if_eq (pc := 11) (tgt := 18) C dJ9_floorMod_7cf53_11 (by decide) (tm_rg hx hy) (fun c_2 => ?_) (fun c_2 => ?_)
    ·
      refine xw_iload_n (pc := 18) C 2 dJ9_floorMod_7cf53_18 rfl ?_
      exact xw_iret (pc := 19) C rX (Nat.le_refl _) (Nat.le_refl _) dJ9_floorMod_7cf53_19 (PD.e (by rw [← em_0 c_2, c_2]) rfl)
    ·
      refine xw_iload_n (pc := 14) C 2 dJ9_floorMod_7cf53_14 rfl ?_
      refine xw_iload_n (pc := 15) C 1 dJ9_floorMod_7cf53_15 rfl ?_
      refine xw_iadd (pc := 16) C dJ9_floorMod_7cf53_16 ?_
      exact xw_iret (pc := 17) C rX (Nat.le_refl _) (Nat.le_refl _) dJ9_floorMod_7cf53_17 (PD.e (by rw [em_neg (by omega) (by have q := xor_ge hx hy; omega) c_2]) rfl)

set_option maxHeartbeats 4000000 in
set_option maxRecDepth 100000 in
theorem m_X0_reduced {l : Launch} {D : va_G} {cI : ClassId} {h a n p b w wi ni : Nat} {A : Nat → Nat} (hp : 0 < p) (hp5 : p < 500) (z : Int) (m : Nat) (hm : z % (p : Int) = (m : Int)) (hz : -2147483648 ≤ z ∧ z < 2147483648) : CT l yX0_reduced wsX0_reduced (rmN 1 22) D vwCl [(cI, .int)] [.ref h, iV z] (wX cI h a n p b w wi ni A) (PD (some (nV m)) (wX cI h a n p b w wi ni A)) 0 0 := by
  refine ct_of (plainFor_of_name (by decide)) rfl (Nat.le_of_ble_eq_true rfl) (fun φ C rX => ?_)
  have hin : ∀ w ∈ wsX00, w ∈ wsX0_reduced := by decide +kernel
  refine xw_le (lv' := [(0, .ref h), (1, iV z)]) rfl ?_
  refine xw_aload_n (pc := 0) C 0 dX0_reduced_0 rfl ?_
  refine xw_get (pc := 1) (T := TX0) (N := 7) (ref := "ToneButterflies") C hin 0 2 rfl rfl (by decide) (by decide +kernel) rfl rfl dX0_reduced_1 ?_
  refine xw_if_le_N (pc := 4) (tgt := 18) C dX0_reduced_4 (by decide) (by omega) (fun c_1 => (by exfalso; omega)) (fun c_1 => ?_)
  refine xw_iload_n (pc := 7) C 1 dX0_reduced_7 rfl ?_
  refine xw_aload_n (pc := 8) C 0 dX0_reduced_8 rfl ?_
  refine xw_get (pc := 9) (T := TX0) (N := 7) (ref := "ToneButterflies") C hin 0 2 rfl rfl (by decide) (by decide +kernel) rfl rfl dX0_reduced_9 ?_
  refine xw_Sd (pc := 12) (na := 2) (rest := []) (st' := [iV (z % (((p : Nat) : Int)))]) C (m_floorMod z (((p : Nat) : Int)) hz (by omega)) gX0_reduced_J9_floorMod_7cf53 rfl rfl rfl rfl (by decide +kernel) ⟨Nat.le_of_ble_eq_true rfl, Nat.le_of_ble_eq_true rfl⟩ rfl (Nat.le_of_ble_eq_true rfl) dX0_reduced_12 ⟨Nat.le_of_ble_eq_true rfl, Nat.le_of_ble_eq_true rfl⟩ rfl ?_
  refine xw_goto (pc := 15) (tgt := 19) C dX0_reduced_15 (by decide) ?_
  exact xw_iret (pc := 19) C rX (Nat.le_refl _) (Nat.le_refl _) dX0_reduced_19 (PD.e (by rw [hm]) rfl)

set_option maxHeartbeats 4000000 in
set_option maxRecDepth 100000 in
theorem m_X0_wrapped {l : Launch} {D : va_G} {cI : ClassId} {h a n p b w wi ni : Nat} {A : Nat → Nat} (hn : n = 4 ∨ n = 8 ∨ n = 16) (z : Int) (m : Nat) (hm : z % (n : Int) = (m : Int)) : CT l yX0_wrapped wsX0_wrapped (rmN 0 0) D vwCl [(cI, .int)] [.ref h, iV z] (wX cI h a n p b w wi ni A) (PD (some (nV m)) (wX cI h a n p b w wi ni A)) 0 0 := by
  refine ct_of (plainFor_of_name (by decide)) rfl (Nat.le_of_ble_eq_true rfl) (fun φ C rX => ?_)
  have hin : ∀ w ∈ wsX00, w ∈ wsX0_wrapped := by decide +kernel
  refine xw_le (lv' := [(0, .ref h), (1, iV z)]) rfl ?_
  refine xw_iload_n (pc := 0) C 1 dX0_wrapped_0 rfl ?_
  refine xw_aload_n (pc := 1) C 0 dX0_wrapped_1 rfl ?_
  refine xw_get (pc := 2) (T := TX0) (N := 7) (ref := "ToneButterflies") C hin 0 1 rfl rfl (by decide) (by decide +kernel) rfl rfl dX0_wrapped_2 ?_
  refine xw_iconst_N (pc := 5) C 1 dX0_wrapped_5 rfl ?_
  refine xw_isub (pc := 6) C dX0_wrapped_6 ?_
  refine xw_iand (pc := 7) (r := iI ((m : Nat) : Int)) C dX0_wrapped_7 (and_mask hn hm) ?_
  exact xw_iret (pc := 8) C rX (Nat.le_refl _) (Nat.le_refl _) dX0_wrapped_8 (PD.i)

set_option maxHeartbeats 4000000 in
set_option maxRecDepth 100000 in
theorem m_X0_read {l : Launch} {D : va_G} {cI : ClassId} {h a n p b w wi ni : Nat} {A : Nat → Nat} (row place : Nat) (hrw : row < 5) (hq : place < 16) : CT l yX0_read wsX0_read (rmN 0 0) D vwCl [(cI, .int)] [.ref h, nV row, nV place] (wX cI h a n p b w wi ni A) (PD (some (nV (A (16 * row + place)))) (wX cI h a n p b w wi ni A)) 0 0 := by
  refine ct_of (plainFor_of_name (by decide)) rfl (Nat.le_of_ble_eq_true rfl) (fun φ C rX => ?_)
  have hin : ∀ w ∈ wsX00, w ∈ wsX0_read := by decide +kernel
  refine xw_le (lv' := [(0, .ref h), (1, nV row), (2, nV place)]) rfl ?_
  refine xw_iload_n (pc := 0) C 1 dX0_read_0 rfl ?_
  refine xw_bipush_N (pc := 1) C 16 dX0_read_1 (by decide) ?_
  refine xw_imul_N (pc := 3) C dX0_read_3 ?_
  refine xw_iload_n (pc := 4) C 2 dX0_read_4 rfl ?_
  refine xw_iadd_N (pc := 5) C dX0_read_5 ?_
  refine xw_istore_n (pc := 6) (lv' := [(0, .ref h), (1, nV row), (2, nV place), (3, nV ((row * 16) + place))]) C [1, 2, 3, 0] dX0_read_6 rfl (by decide) rfl ?_
  refine xw_iload_n (pc := 7) C 3 dX0_read_7 rfl ?_
  refine xw_if_lt_N (pc := 8) (tgt := 29) C dX0_read_8 (by decide) (by omega) (fun c_1 => (by exfalso; omega)) (fun c_1 => ?_)
  refine xw_iload_n (pc := 11) C 3 dX0_read_11 rfl ?_
  refine xw_aload_n (pc := 12) C 0 dX0_read_12 rfl ?_
  refine xw_get (pc := 13) (T := TX0) (N := 7) (ref := "ToneButterflies") C hin 0 0 rfl rfl (by decide) (by decide +kernel) rfl rfl dX0_read_13 ?_
  refine xw_alen (pc := 16) C 1 0 rfl rfl dX0_read_16 ?_
  refine xw_icmp_ge_N (pc := 17) (tgt := 29) C dX0_read_17 (by decide) (by omega) (by omega) (fun c_2 => (by exfalso; omega)) (fun c_2 => ?_)
  refine xw_aload_n (pc := 20) C 0 dX0_read_20 rfl ?_
  refine xw_get (pc := 21) (T := TX0) (N := 7) (ref := "ToneButterflies") C hin 0 0 rfl rfl (by decide) (by decide +kernel) rfl rfl dX0_read_21 ?_
  refine xw_iload_n (pc := 24) C 3 dX0_read_24 rfl ?_
  refine xw_iald (pc := 25) C 1 0 (16 * row + place) rfl rfl (by omega) (by omega) (by decide) dX0_read_25 ?_
  refine xw_goto (pc := 26) (tgt := 30) C dX0_read_26 (by decide) ?_
  exact xw_iret (pc := 30) C rX (Nat.le_refl _) (Nat.le_refl _) dX0_read_30 (PD.i)

set_option maxHeartbeats 4000000 in
set_option maxRecDepth 100000 in
theorem m_X0_write {l : Launch} {D : va_G} {cI : ClassId} {h a n p b w wi ni : Nat} {A : Nat → Nat} (row place v : Nat) (hrw : row < 5) (hq : place < 16) : CT l yX0_write wsX0_write (rmN 0 0) D vwCl [(cI, .int)] [.ref h, nV row, nV place, nV v] (wX cI h a n p b w wi ni A) (PD (none) (wX cI h a n p b w wi ni (va_up A (16 * row + place) v))) 0 0 := by
  refine ct_of (plainFor_of_name (by decide)) rfl (Nat.le_of_ble_eq_true rfl) (fun φ C rX => ?_)
  have hin : ∀ w ∈ wsX00, w ∈ wsX0_write := by decide +kernel
  refine xw_le (lv' := [(0, .ref h), (1, nV row), (2, nV place), (3, nV v)]) rfl ?_
  refine xw_iload_n (pc := 0) C 1 dX0_write_0 rfl ?_
  refine xw_bipush_N (pc := 1) C 16 dX0_write_1 (by decide) ?_
  refine xw_imul_N (pc := 3) C dX0_write_3 ?_
  refine xw_iload_n (pc := 4) C 2 dX0_write_4 rfl ?_
  refine xw_iadd_N (pc := 5) C dX0_write_5 ?_
  refine xw_istore (pc := 6) (lv' := [(0, .ref h), (1, nV row), (2, nV place), (3, nV v), (4, nV ((row * 16) + place))]) C [1, 2, 3, 4, 0] dX0_write_6 (by decide) rfl ?_
  refine xw_iload (pc := 8) C 4 dX0_write_8 rfl ?_
  refine xw_if_lt_N (pc := 10) (tgt := 31) C dX0_write_10 (by decide) (by omega) (fun c_1 => (by exfalso; omega)) (fun c_1 => ?_)
  refine xw_iload (pc := 13) C 4 dX0_write_13 rfl ?_
  refine xw_aload_n (pc := 15) C 0 dX0_write_15 rfl ?_
  refine xw_get (pc := 16) (T := TX0) (N := 7) (ref := "ToneButterflies") C hin 0 0 rfl rfl (by decide) (by decide +kernel) rfl rfl dX0_write_16 ?_
  refine xw_alen (pc := 19) C 1 0 rfl rfl dX0_write_19 ?_
  refine xw_icmp_ge_N (pc := 20) (tgt := 31) C dX0_write_20 (by decide) (by omega) (by omega) (fun c_2 => (by exfalso; omega)) (fun c_2 => ?_)
  refine xw_aload_n (pc := 23) C 0 dX0_write_23 rfl ?_
  refine xw_get (pc := 24) (T := TX0) (N := 7) (ref := "ToneButterflies") C hin 0 0 rfl rfl (by decide) (by decide +kernel) rfl rfl dX0_write_24 ?_
  refine xw_iload (pc := 27) C 4 dX0_write_27 rfl ?_
  refine xw_iload_n (pc := 29) C 3 dX0_write_29 rfl ?_
  refine xw_iast (pc := 30) (w' := wX cI h a n p b w wi ni (va_up A (16 * row + place) v)) C 1 0 (16 * row + place) v rfl rfl (by omega) rfl (by omega) (by decide) rfl dX0_write_30 ?_
  exact xw_vret (pc := 31) C rX (Nat.le_refl _) (Nat.le_refl _) dX0_write_31 (PD.i)

set_option maxHeartbeats 4000000 in
set_option maxRecDepth 100000 in
theorem m_X0_valueAt {l : Launch} {D : va_G} {cI : ClassId} {h a n p b w wi ni : Nat} {A : Nat → Nat} (hp : 0 < p) (hp5 : p < 500) (hn : n = 4 ∨ n = 8 ∨ n = 16) (hA : ∀ j, A j < 500) (row x : Nat) (hrw : row < 5) (hx : x < 500) : CT l yX0_valueAt wsX0_valueAt (rmN 2 43) D vwCl [(cI, .int)] [.ref h, nV row, nV x] (wX cI h a n p b w wi ni A) (PD (some (nV (pv p n A row x))) (wX cI h a n p b w wi ni A)) 0 0 := by
  refine ct_of (plainFor_of_name (by decide)) rfl (Nat.le_of_ble_eq_true rfl) (fun φ C rX => ?_)
  have hin : ∀ w ∈ wsX00, w ∈ wsX0_valueAt := by decide +kernel
  refine xw_le (lv' := [(0, .ref h), (1, nV row), (2, nV x)]) rfl ?_
  refine xw_iconst_N (pc := 0) C 0 dX0_valueAt_0 rfl ?_
  refine xw_istore_n (pc := 1) (lv' := [(0, .ref h), (1, nV row), (2, nV x), (3, nV 0)]) C [1, 2, 3, 0] dX0_valueAt_1 rfl (by decide) rfl ?_
  refine xw_aload_n (pc := 2) C 0 dX0_valueAt_2 rfl ?_
  refine xw_get (pc := 3) (T := TX0) (N := 7) (ref := "ToneButterflies") C hin 0 1 rfl rfl (by decide) (by decide +kernel) rfl rfl dX0_valueAt_3 ?_
  refine xw_iconst_N (pc := 6) C 1 dX0_valueAt_6 rfl ?_
  refine xw_isub (pc := 7) C dX0_valueAt_7 ?_
  refine xw_istore (pc := 8) (lv' := [(0, .ref h), (1, nV row), (2, nV x), (3, nV 0), (4, iV ((((n : Nat) : Int)) - (((1 : Nat) : Int))))]) C [1, 2, 3, 4, 0] dX0_valueAt_8 (by decide) rfl ?_
  have L10 : ∀ (fuel : Nat) (j acc : Nat) (q : Int), n < j + fuel → j ≤ n → q = (n : Int) - 1 - j → acc = hr p n A row x j → acc < 500 → xw φ 0 0 (wX cI h a n p b w wi ni A) 10 [(0, .ref h), (1, nV row), (2, nV x), (3, nV acc), (4, iV q)] [] := by
    intro fuel
    induction fuel with
    | zero =>
      intro j acc q hj hjn hq hacc hac
      omega
    | succ fuel ih10 =>
      intro j acc q hj hjn hq hacc hac
      refine xw_iload (pc := 10) C 4 dX0_valueAt_10 rfl ?_
      have hn3 := lt3 hn
      refine xw_if_lt (pc := 12) (tgt := 37) C dX0_valueAt_12 (by decide) (by omega) (fun c_1 => ?_) (fun c_1 => ?_)
      ·
        refine xw_iload_n (pc := 37) C 3 dX0_valueAt_37 rfl ?_
        exact xw_iret (pc := 38) C rX (Nat.le_refl _) (Nat.le_refl _) dX0_valueAt_38 (PD.e (by rw [hacc, show j = n by omega]; rfl) rfl)
      ·
        obtain ⟨i, rfl⟩ : ∃ i : Nat, q = (i : Int) := ⟨n - 1 - j, by omega⟩
        have hbA := hA (16 * row + i)
        refine xw_aload_n (pc := 15) C 0 dX0_valueAt_15 rfl ?_
        refine xw_iload_n (pc := 16) C 3 dX0_valueAt_16 rfl ?_
        refine xw_iload_n (pc := 17) C 2 dX0_valueAt_17 rfl ?_
        refine xw_imul_N (pc := 18) C dX0_valueAt_18 ?_
        refine xw_aload_n (pc := 19) C 0 dX0_valueAt_19 rfl ?_
        refine xw_iload_n (pc := 20) C 1 dX0_valueAt_20 rfl ?_
        refine xw_iload (pc := 21) C 4 dX0_valueAt_21 rfl ?_
        refine xw_Vd (pc := 23) (q0 := 0) (na := 2) (rest := [nV (acc * x), .ref h]) (st' := [nV (A (16 * row + i)), nV (acc * x), .ref h]) C (m_X0_read row i (by omega) (by omega)) gX0_valueAt_X0_read rfl rfl rfl rfl (by decide +kernel) ⟨Nat.le_of_ble_eq_true rfl, Nat.le_of_ble_eq_true rfl⟩ rfl rfl rfl (Nat.le_of_ble_eq_true rfl) dX0_valueAt_23 ⟨Nat.le_of_ble_eq_true rfl, Nat.le_of_ble_eq_true rfl⟩ rfl ?_
        refine xw_iadd_N (pc := 26) C dX0_valueAt_26 ?_
        refine xw_Vd (pc := 27) (q0 := 0) (na := 1) (rest := []) (st' := [nV (((acc * x) + (A (16 * row + i))) % p)]) C (m_X0_reduced hp hp5 (((acc * x) + (A (16 * row + i)) : Nat) : Int) (((acc * x) + (A (16 * row + i))) % p) (Int.natCast_emod _ _).symm (rgN (mb hac hx (by omega)))) gX0_valueAt_X0_reduced rfl rfl rfl rfl (by decide +kernel) ⟨Nat.le_of_ble_eq_true rfl, Nat.le_of_ble_eq_true rfl⟩ rfl rfl rfl (Nat.le_of_ble_eq_true rfl) dX0_valueAt_27 ⟨Nat.le_of_ble_eq_true rfl, Nat.le_of_ble_eq_true rfl⟩ rfl ?_
        refine xw_istore_n (pc := 30) (lv' := [(0, .ref h), (1, nV row), (2, nV x), (3, nV (((acc * x) + (A (16 * row + i))) % p)), (4, nV i)]) C [1, 2, 3, 0, 4] dX0_valueAt_30 rfl (by decide) rfl ?_
        refine xw_iinc (pc := 31) (lv' := [(0, .ref h), (1, nV row), (2, nV x), (3, nV (((acc * x) + (A (16 * row + i))) % p)), (4, iV ((((i : Nat) : Int)) + (-1)))]) C 4 [1, 2, 3, 4, 0] dX0_valueAt_31 rfl (by decide) rfl ?_
        refine xw_goto (pc := 34) (tgt := 10) C dX0_valueAt_34 (by decide) ?_
        exact ih10 (j + 1) _ _ (by omega) (by omega) (by omega) (by rw [hr, ← hacc, show n - 1 - j = i by omega]) (ml hp hp5)
  exact L10 (n + 1) 0 0 _ (by omega) (by omega) (by omega) rfl (by omega)

set_option maxHeartbeats 4000000 in
set_option maxRecDepth 100000 in
theorem m_X0_copyRow {l : Launch} {D : va_G} {cI : ClassId} {h a n p b w wi ni : Nat} {A : Nat → Nat} (hn : n = 4 ∨ n = 8 ∨ n = 16) (hA : ∀ j, A j < 500) (f t : Nat) (hf : f < 5) (ht : t < 5) : CT l yX0_copyRow wsX0_copyRow (rmN 1 24) D vwCl [(cI, .int)] [.ref h, nV f, nV t] (wX cI h a n p b w wi ni A) (PD (some (nV (cc (fun j => decide (A (16 * t + j) ≠ A (16 * f + j))) n))) (wX cI h a n p b w wi ni (cp A f t n))) 0 0 := by
  refine ct_of (plainFor_of_name (by decide)) rfl (Nat.le_of_ble_eq_true rfl) (fun φ C rX => ?_)
  have hin : ∀ w ∈ wsX00, w ∈ wsX0_copyRow := by decide +kernel
  refine xw_le (lv' := [(0, .ref h), (1, nV f), (2, nV t)]) rfl ?_
  have hn3 := lt3 hn
  have hcl := cc_le (fun j => decide (A (16 * t + j) ≠ A (16 * f + j)))
  refine xw_iconst_N (pc := 0) C 0 dX0_copyRow_0 rfl ?_
  refine xw_istore_n (pc := 1) (lv' := [(0, .ref h), (1, nV f), (2, nV t), (3, nV 0)]) C [1, 2, 3, 0] dX0_copyRow_1 rfl (by decide) rfl ?_
  refine xw_iconst_N (pc := 2) C 0 dX0_copyRow_2 rfl ?_
  refine xw_istore (pc := 3) (lv' := [(0, .ref h), (1, nV f), (2, nV t), (3, nV 0), (4, nV 0)]) C [1, 2, 3, 4, 0] dX0_copyRow_3 (by decide) rfl ?_
  have L5 : ∀ (fuel : Nat) (k ch : Nat), n < k + fuel → k ≤ n → ch = cc (fun j => decide (A (16 * t + j) ≠ A (16 * f + j))) k → xw φ 0 0 (wX cI h a n p b w wi ni (cp A f t k)) 5 [(0, .ref h), (1, nV f), (2, nV t), (3, nV ch), (4, nV k)] [] := by
    intro fuel
    induction fuel with
    | zero =>
      intro k ch hk hkn hch
      omega
    | succ fuel ih5 =>
      intro k ch hk hkn hch
      refine xw_iload (pc := 5) C 4 dX0_copyRow_5 rfl ?_
      refine xw_aload_n (pc := 7) C 0 dX0_copyRow_7 rfl ?_
      refine xw_get (pc := 8) (T := TX0) (N := 7) (ref := "ToneButterflies") C hin 0 1 rfl rfl (by decide) (by decide +kernel) rfl rfl dX0_copyRow_8 ?_
      have hcl2 := hcl k
      refine xw_icmp_ge_N (pc := 11) (tgt := 53) C dX0_copyRow_11 (by decide) (by omega) (by omega) (fun c_1 => ?_) (fun c_1 => ?_)
      ·
        obtain rfl : k = n := by omega
        refine xw_iload_n (pc := 53) C 3 dX0_copyRow_53 rfl ?_
        exact xw_iret (pc := 54) C rX (Nat.le_refl _) (Nat.le_refl _) dX0_copyRow_54 (PD.e (by rw [hch]) rfl)
      ·
        refine xw_aload_n (pc := 14) C 0 dX0_copyRow_14 rfl ?_
        refine xw_iload_n (pc := 15) C 1 dX0_copyRow_15 rfl ?_
        refine xw_iload (pc := 16) C 4 dX0_copyRow_16 rfl ?_
        refine xw_Vd (pc := 18) (q0 := 0) (na := 2) (rest := []) (st' := [nV ((cp A f t k) (16 * f + k))]) C (m_X0_read f k (by omega) (by omega)) gX0_copyRow_X0_read rfl rfl rfl rfl (by decide +kernel) ⟨Nat.le_of_ble_eq_true rfl, Nat.le_of_ble_eq_true rfl⟩ rfl rfl rfl (Nat.le_of_ble_eq_true rfl) dX0_copyRow_18 ⟨Nat.le_of_ble_eq_true rfl, Nat.le_of_ble_eq_true rfl⟩ rfl ?_
        refine xw_st (st' := [nV (A (16 * f + k))]) (by rw [cp_at (by omega)]) ?_
        have hb1 := hA (16 * f + k)
        refine xw_istore (pc := 21) (lv' := [(0, .ref h), (1, nV f), (2, nV t), (3, nV ch), (4, nV k), (5, nV (A (16 * f + k)))]) C [1, 2, 3, 4, 5, 0] dX0_copyRow_21 (by decide) rfl ?_
        refine xw_aload_n (pc := 23) C 0 dX0_copyRow_23 rfl ?_
        refine xw_iload_n (pc := 24) C 2 dX0_copyRow_24 rfl ?_
        refine xw_iload (pc := 25) C 4 dX0_copyRow_25 rfl ?_
        refine xw_Vd (pc := 27) (q0 := 0) (na := 2) (rest := []) (st' := [nV ((cp A f t k) (16 * t + k))]) C (m_X0_read t k (by omega) (by omega)) gX0_copyRow_X0_read rfl rfl rfl rfl (by decide +kernel) ⟨Nat.le_of_ble_eq_true rfl, Nat.le_of_ble_eq_true rfl⟩ rfl rfl rfl (Nat.le_of_ble_eq_true rfl) dX0_copyRow_27 ⟨Nat.le_of_ble_eq_true rfl, Nat.le_of_ble_eq_true rfl⟩ rfl ?_
        refine xw_st (st' := [nV (A (16 * t + k))]) (by rw [cp_to]) ?_
        have hb2 := hA (16 * t + k)
        refine xw_iload (pc := 30) C 5 dX0_copyRow_30 rfl ?_
        refine xw_icmp_eq_N (pc := 32) (tgt := 38) C dX0_copyRow_32 (by decide) (by omega) (by omega) (fun c_2 => ?_) (fun c_2 => ?_)
        ·
          refine xw_aload_n (pc := 38) C 0 dX0_copyRow_38 rfl ?_
          refine xw_iload_n (pc := 39) C 2 dX0_copyRow_39 rfl ?_
          refine xw_iload (pc := 40) C 4 dX0_copyRow_40 rfl ?_
          refine xw_iload (pc := 42) C 5 dX0_copyRow_42 rfl ?_
          refine xw_Vd (pc := 44) (q0 := 0) (na := 3) (rest := []) (st' := []) C (m_X0_write t k (A (16 * f + k)) (by omega) (by omega)) gX0_copyRow_X0_write rfl rfl rfl rfl (by decide +kernel) ⟨Nat.le_of_ble_eq_true rfl, Nat.le_of_ble_eq_true rfl⟩ rfl rfl rfl (Nat.le_of_ble_eq_true rfl) dX0_copyRow_44 ⟨Nat.le_of_ble_eq_true rfl, Nat.le_of_ble_eq_true rfl⟩ rfl ?_
          refine xw_wo (w' := wX cI h a n p b w wi ni (cp A f t (k + 1))) (by rw [cp_s rfl]) ?_
          refine xw_iinc_N (pc := 47) (b := k + 1) (lv' := [(0, .ref h), (1, nV f), (2, nV t), (3, nV ch), (4, nV (k + 1)), (5, nV (A (16 * f + k)))]) C 4 [1, 2, 3, 4, 0, 5] dX0_copyRow_47 rfl (by decide) rfl rfl ?_
          refine xw_goto (pc := 50) (tgt := 5) C dX0_copyRow_50 (by decide) ?_
          refine xw_lv (lv' := [(0, .ref h), (1, nV f), (2, nV t), (3, nV ch), (4, nV (k + 1))]) [0, 1, 2, 3, 4] rfl ?_
          exact ih5 (k + 1) _ (by omega) (by omega) (by rw [cc_f (decide_eq_false (fun z => z c_2)), ← hch])
        ·
          refine xw_iinc_N (pc := 35) (b := ch + 1) (lv' := [(0, .ref h), (1, nV f), (2, nV t), (3, nV (ch + 1)), (4, nV k), (5, nV (A (16 * f + k)))]) C 3 [1, 2, 3, 0, 4, 5] dX0_copyRow_35 rfl (by decide) rfl rfl ?_
          refine xw_aload_n (pc := 38) C 0 dX0_copyRow_38 rfl ?_
          refine xw_iload_n (pc := 39) C 2 dX0_copyRow_39 rfl ?_
          refine xw_iload (pc := 40) C 4 dX0_copyRow_40 rfl ?_
          refine xw_iload (pc := 42) C 5 dX0_copyRow_42 rfl ?_
          refine xw_Vd (pc := 44) (q0 := 0) (na := 3) (rest := []) (st' := []) C (m_X0_write t k (A (16 * f + k)) (by omega) (by omega)) gX0_copyRow_X0_write rfl rfl rfl rfl (by decide +kernel) ⟨Nat.le_of_ble_eq_true rfl, Nat.le_of_ble_eq_true rfl⟩ rfl rfl rfl (Nat.le_of_ble_eq_true rfl) dX0_copyRow_44 ⟨Nat.le_of_ble_eq_true rfl, Nat.le_of_ble_eq_true rfl⟩ rfl ?_
          refine xw_wo (w' := wX cI h a n p b w wi ni (cp A f t (k + 1))) (by rw [cp_s rfl]) ?_
          refine xw_iinc_N (pc := 47) (b := k + 1) (lv' := [(0, .ref h), (1, nV f), (2, nV t), (3, nV (ch + 1)), (4, nV (k + 1)), (5, nV (A (16 * f + k)))]) C 4 [1, 2, 3, 4, 0, 5] dX0_copyRow_47 rfl (by decide) rfl rfl ?_
          refine xw_goto (pc := 50) (tgt := 5) C dX0_copyRow_50 (by decide) ?_
          refine xw_lv (lv' := [(0, .ref h), (1, nV f), (2, nV t), (3, nV (ch + 1)), (4, nV (k + 1))]) [0, 1, 2, 3, 4] rfl ?_
          exact ih5 (k + 1) _ (by omega) (by omega) (by rw [cc_t (decide_eq_true c_2), ← hch])
  refine xw_wo (w' := wX cI h a n p b w wi ni (cp A f t 0)) (by rw [cp_0]) ?_
  exact L5 (n + 1) 0 0 (by omega) (by omega) rfl

set_option maxHeartbeats 4000000 in
set_option maxRecDepth 100000 in
theorem m_X0_butterfly {l : Launch} {D : va_G} {cI : ClassId} {h a n p b w wi ni : Nat} {A : Nat → Nat} (hp : 0 < p) (hp5 : p < 500) (hA : ∀ j, A j < 500) (row u v t : Nat) (hrw : row < 5) (hu : u < 16) (hv : v < 16) (ht : t < 500) : CT l yX0_butterfly wsX0_butterfly (rmN 2 43) D vwCl [(cI, .int)] [.ref h, nV row, nV u, nV v, nV t] (wX cI h a n p b w wi ni A) (PD (none) (wX cI h a n p b w wi ni (bf p A row u v t))) 0 0 := by
  refine ct_of (plainFor_of_name (by decide)) rfl (Nat.le_of_ble_eq_true rfl) (fun φ C rX => ?_)
  refine xw_le (lv' := [(0, .ref h), (1, nV row), (2, nV u), (3, nV v), (4, nV t)]) rfl ?_
  refine xw_aload_n (pc := 0) C 0 dX0_butterfly_0 rfl ?_
  refine xw_iload_n (pc := 1) C 1 dX0_butterfly_1 rfl ?_
  refine xw_iload_n (pc := 2) C 2 dX0_butterfly_2 rfl ?_
  refine xw_Vd (pc := 3) (q0 := 0) (na := 2) (rest := []) (st' := [nV (A (16 * row + u))]) C (m_X0_read row u (by omega) (by omega)) gX0_butterfly_X0_read rfl rfl rfl rfl (by decide +kernel) ⟨Nat.le_of_ble_eq_true rfl, Nat.le_of_ble_eq_true rfl⟩ rfl rfl rfl (Nat.le_of_ble_eq_true rfl) dX0_butterfly_3 ⟨Nat.le_of_ble_eq_true rfl, Nat.le_of_ble_eq_true rfl⟩ rfl ?_
  have hb1 := hA (16 * row + u)
  refine xw_istore (pc := 6) (lv' := [(0, .ref h), (1, nV row), (2, nV u), (3, nV v), (4, nV t), (5, nV (A (16 * row + u)))]) C [1, 2, 3, 4, 5, 0] dX0_butterfly_6 (by decide) rfl ?_
  refine xw_aload_n (pc := 8) C 0 dX0_butterfly_8 rfl ?_
  refine xw_aload_n (pc := 9) C 0 dX0_butterfly_9 rfl ?_
  refine xw_iload_n (pc := 10) C 1 dX0_butterfly_10 rfl ?_
  refine xw_iload_n (pc := 11) C 3 dX0_butterfly_11 rfl ?_
  refine xw_Vd (pc := 12) (q0 := 0) (na := 2) (rest := [.ref h]) (st' := [nV (A (16 * row + v)), .ref h]) C (m_X0_read row v (by omega) (by omega)) gX0_butterfly_X0_read rfl rfl rfl rfl (by decide +kernel) ⟨Nat.le_of_ble_eq_true rfl, Nat.le_of_ble_eq_true rfl⟩ rfl rfl rfl (Nat.le_of_ble_eq_true rfl) dX0_butterfly_12 ⟨Nat.le_of_ble_eq_true rfl, Nat.le_of_ble_eq_true rfl⟩ rfl ?_
  have hb2 := hA (16 * row + v)
  refine xw_iload (pc := 15) C 4 dX0_butterfly_15 rfl ?_
  refine xw_imul_N (pc := 17) C dX0_butterfly_17 ?_
  refine xw_Vd (pc := 18) (q0 := 0) (na := 1) (rest := []) (st' := [nV (((A (16 * row + v)) * t) % p)]) C (m_X0_reduced hp hp5 (((A (16 * row + v)) * t : Nat) : Int) (((A (16 * row + v)) * t) % p) (Int.natCast_emod _ _).symm (rgN (mb0 hb2 ht))) gX0_butterfly_X0_reduced rfl rfl rfl rfl (by decide +kernel) ⟨Nat.le_of_ble_eq_true rfl, Nat.le_of_ble_eq_true rfl⟩ rfl rfl rfl (Nat.le_of_ble_eq_true rfl) dX0_butterfly_18 ⟨Nat.le_of_ble_eq_true rfl, Nat.le_of_ble_eq_true rfl⟩ rfl ?_
  have hb3 := Nat.mod_lt (A (16 * row + v) * t) hp
  refine xw_istore (pc := 21) (lv' := [(0, .ref h), (1, nV row), (2, nV u), (3, nV v), (4, nV t), (5, nV (A (16 * row + u))), (6, nV (((A (16 * row + v)) * t) % p))]) C [1, 2, 3, 4, 5, 6, 0] dX0_butterfly_21 (by decide) rfl ?_
  refine xw_aload_n (pc := 23) C 0 dX0_butterfly_23 rfl ?_
  refine xw_iload_n (pc := 24) C 1 dX0_butterfly_24 rfl ?_
  refine xw_iload_n (pc := 25) C 2 dX0_butterfly_25 rfl ?_
  refine xw_aload_n (pc := 26) C 0 dX0_butterfly_26 rfl ?_
  refine xw_iload (pc := 27) C 5 dX0_butterfly_27 rfl ?_
  refine xw_iload (pc := 29) C 6 dX0_butterfly_29 rfl ?_
  refine xw_iadd_N (pc := 31) C dX0_butterfly_31 ?_
  refine xw_Vd (pc := 32) (q0 := 0) (na := 1) (rest := [nV u, nV row, .ref h]) (st' := [nV (((A (16 * row + u)) + (((A (16 * row + v)) * t) % p)) % p), nV u, nV row, .ref h]) C (m_X0_reduced hp hp5 (((A (16 * row + u)) + (((A (16 * row + v)) * t) % p) : Nat) : Int) (((A (16 * row + u)) + (((A (16 * row + v)) * t) % p)) % p) (Int.natCast_emod _ _).symm (rgN (by omega))) gX0_butterfly_X0_reduced rfl rfl rfl rfl (by decide +kernel) ⟨Nat.le_of_ble_eq_true rfl, Nat.le_of_ble_eq_true rfl⟩ rfl rfl rfl (Nat.le_of_ble_eq_true rfl) dX0_butterfly_32 ⟨Nat.le_of_ble_eq_true rfl, Nat.le_of_ble_eq_true rfl⟩ rfl ?_
  refine xw_Vd (pc := 35) (q0 := 0) (na := 3) (rest := []) (st' := []) C (m_X0_write row u (((A (16 * row + u)) + (((A (16 * row + v)) * t) % p)) % p) (by omega) (by omega)) gX0_butterfly_X0_write rfl rfl rfl rfl (by decide +kernel) ⟨Nat.le_of_ble_eq_true rfl, Nat.le_of_ble_eq_true rfl⟩ rfl rfl rfl (Nat.le_of_ble_eq_true rfl) dX0_butterfly_35 ⟨Nat.le_of_ble_eq_true rfl, Nat.le_of_ble_eq_true rfl⟩ rfl ?_
  refine xw_aload_n (pc := 38) C 0 dX0_butterfly_38 rfl ?_
  refine xw_iload_n (pc := 39) C 1 dX0_butterfly_39 rfl ?_
  refine xw_iload_n (pc := 40) C 3 dX0_butterfly_40 rfl ?_
  refine xw_aload_n (pc := 41) C 0 dX0_butterfly_41 rfl ?_
  refine xw_iload (pc := 42) C 5 dX0_butterfly_42 rfl ?_
  refine xw_iload (pc := 44) C 6 dX0_butterfly_44 rfl ?_
  refine xw_isub (pc := 46) C dX0_butterfly_46 ?_
  refine xw_Vd (pc := 47) (q0 := 0) (na := 1) (rest := [nV v, nV row, .ref h]) (st' := [nV ((A (16 * row + u) + p - A (16 * row + v) * t % p) % p), nV v, nV row, .ref h]) C (m_X0_reduced hp hp5 ((((A (16 * row + u) : Nat) : Int)) - (((((A (16 * row + v)) * t) % p : Nat) : Int))) ((A (16 * row + u) + p - A (16 * row + v) * t % p) % p) (sub_em (Nat.le_of_lt hb3)) (by omega)) gX0_butterfly_X0_reduced rfl rfl rfl rfl (by decide +kernel) ⟨Nat.le_of_ble_eq_true rfl, Nat.le_of_ble_eq_true rfl⟩ rfl rfl rfl (Nat.le_of_ble_eq_true rfl) dX0_butterfly_47 ⟨Nat.le_of_ble_eq_true rfl, Nat.le_of_ble_eq_true rfl⟩ rfl ?_
  refine xw_Vd (pc := 50) (q0 := 0) (na := 3) (rest := []) (st' := []) C (m_X0_write row v ((A (16 * row + u) + p - A (16 * row + v) * t % p) % p) (by omega) (by omega)) gX0_butterfly_X0_write rfl rfl rfl rfl (by decide +kernel) ⟨Nat.le_of_ble_eq_true rfl, Nat.le_of_ble_eq_true rfl⟩ rfl rfl rfl (Nat.le_of_ble_eq_true rfl) dX0_butterfly_50 ⟨Nat.le_of_ble_eq_true rfl, Nat.le_of_ble_eq_true rfl⟩ rfl ?_
  exact xw_vret (pc := 53) C rX (Nat.le_refl _) (Nat.le_refl _) dX0_butterfly_53 (PD.i)

set_option maxHeartbeats 4000000 in
set_option maxRecDepth 100000 in
theorem m_X0_scratchValues {l : Launch} {D : va_G} {cI : ClassId} {h a n p b w wi ni : Nat} {A : Nat → Nat} (hp : 0 < p) (hp5 : p < 500) (hn : n = 4 ∨ n = 8 ∨ n = 16) (hA : ∀ j, A j < 500) (row base f : Nat) (hrw : row < 4) (hb : base < 500) (hf : f < 500) : CT l yX0_scratchValues wsX0_scratchValues (rmN 3 67) D vwCl [(cI, .int)] [.ref h, nV row, nV base, nV f] (wX cI h a n p b w wi ni A) (PD (none) (wX cI h a n p b w wi ni (sv A (tn p n A row base f) n))) 0 0 := by
  refine ct_of (plainFor_of_name (by decide)) rfl (Nat.le_of_ble_eq_true rfl) (fun φ C rX => ?_)
  have hin : ∀ w ∈ wsX00, w ∈ wsX0_scratchValues := by decide +kernel
  refine xw_le (lv' := [(0, .ref h), (1, nV row), (2, nV base), (3, nV f)]) rfl ?_
  have hn3 := lt3 hn
  refine xw_iconst_N (pc := 0) C 1 dX0_scratchValues_0 rfl ?_
  refine xw_istore (pc := 1) (lv' := [(0, .ref h), (1, nV row), (2, nV base), (3, nV f), (4, nV 1)]) C [1, 2, 3, 4, 0] dX0_scratchValues_1 (by decide) rfl ?_
  refine xw_iconst_N (pc := 3) C 0 dX0_scratchValues_3 rfl ?_
  refine xw_istore (pc := 4) (lv' := [(0, .ref h), (1, nV row), (2, nV base), (3, nV f), (4, nV 1), (5, nV 0)]) C [1, 2, 3, 4, 5, 0] dX0_scratchValues_4 (by decide) rfl ?_
  have L6 : ∀ (fuel : Nat) (k x : Nat), n < k + fuel → k ≤ n → x = pw p base k → x < 500 → xw φ 0 0 (wX cI h a n p b w wi ni (sv A (tn p n A row base f) k)) 6 [(0, .ref h), (1, nV row), (2, nV base), (3, nV f), (4, nV x), (5, nV k)] [] := by
    intro fuel
    induction fuel with
    | zero =>
      intro k x hk hkn hx hx5
      omega
    | succ fuel ih6 =>
      intro k x hk hkn hx hx5
      refine xw_iload (pc := 6) C 5 dX0_scratchValues_6 rfl ?_
      refine xw_aload_n (pc := 8) C 0 dX0_scratchValues_8 rfl ?_
      refine xw_get (pc := 9) (T := TX0) (N := 7) (ref := "ToneButterflies") C hin 0 1 rfl rfl (by decide) (by decide +kernel) rfl rfl dX0_scratchValues_9 ?_
      refine xw_icmp_ge_N (pc := 12) (tgt := 51) C dX0_scratchValues_12 (by decide) (by omega) (by omega) (fun c_1 => ?_) (fun c_1 => ?_)
      ·
        obtain rfl : k = n := by omega
        exact xw_vret (pc := 51) C rX (Nat.le_refl _) (Nat.le_refl _) dX0_scratchValues_51 (PD.i)
      ·
        refine xw_aload_n (pc := 15) C 0 dX0_scratchValues_15 rfl ?_
        refine xw_iconst_N (pc := 16) C 4 dX0_scratchValues_16 rfl ?_
        refine xw_iload (pc := 17) C 5 dX0_scratchValues_17 rfl ?_
        refine xw_aload_n (pc := 19) C 0 dX0_scratchValues_19 rfl ?_
        refine xw_aload_n (pc := 20) C 0 dX0_scratchValues_20 rfl ?_
        refine xw_iload_n (pc := 21) C 1 dX0_scratchValues_21 rfl ?_
        refine xw_iload (pc := 22) C 4 dX0_scratchValues_22 rfl ?_
        refine xw_Vd (pc := 24) (q0 := 0) (na := 2) (rest := [.ref h, nV k, nV 4, .ref h]) (st' := [nV (pv p n (sv A (tn p n A row base f) k) row x), .ref h, nV k, nV 4, .ref h]) C (m_X0_valueAt hp hp5 hn (sv_lt (g := tn p n A row base f) hA (fun j _ => ml hp hp5)) row x (by omega) (by omega)) gX0_scratchValues_X0_valueAt rfl rfl rfl rfl (by decide +kernel) ⟨Nat.le_of_ble_eq_true rfl, Nat.le_of_ble_eq_true rfl⟩ rfl rfl rfl (Nat.le_of_ble_eq_true rfl) dX0_scratchValues_24 ⟨Nat.le_of_ble_eq_true rfl, Nat.le_of_ble_eq_true rfl⟩ rfl ?_
        refine xw_st (st' := [nV (pv p n A row x), .ref h, nV k, nV 4, .ref h]) (by rw [pv_cg (fun k9 hk9 => sv_lo (by omega))]) ?_
        refine xw_iload_n (pc := 27) C 3 dX0_scratchValues_27 rfl ?_
        have hb5 : pv p n A row x < 500 := Nat.lt_trans (pv_lt hp) hp5
        refine xw_imul_N (pc := 28) C dX0_scratchValues_28 ?_
        refine xw_Vd (pc := 29) (q0 := 0) (na := 1) (rest := [nV k, nV 4, .ref h]) (st' := [nV (((pv p n A row x) * f) % p), nV k, nV 4, .ref h]) C (m_X0_reduced hp hp5 (((pv p n A row x) * f : Nat) : Int) (((pv p n A row x) * f) % p) (Int.natCast_emod _ _).symm (rgN (mb0 hb5 hf))) gX0_scratchValues_X0_reduced rfl rfl rfl rfl (by decide +kernel) ⟨Nat.le_of_ble_eq_true rfl, Nat.le_of_ble_eq_true rfl⟩ rfl rfl rfl (Nat.le_of_ble_eq_true rfl) dX0_scratchValues_29 ⟨Nat.le_of_ble_eq_true rfl, Nat.le_of_ble_eq_true rfl⟩ rfl ?_
        refine xw_Vd (pc := 32) (q0 := 0) (na := 3) (rest := []) (st' := []) C (m_X0_write 4 k (((pv p n A row x) * f) % p) (by omega) (by omega)) gX0_scratchValues_X0_write rfl rfl rfl rfl (by decide +kernel) ⟨Nat.le_of_ble_eq_true rfl, Nat.le_of_ble_eq_true rfl⟩ rfl rfl rfl (Nat.le_of_ble_eq_true rfl) dX0_scratchValues_32 ⟨Nat.le_of_ble_eq_true rfl, Nat.le_of_ble_eq_true rfl⟩ rfl ?_
        refine xw_wo (w' := wX cI h a n p b w wi ni (sv A (tn p n A row base f) (k + 1))) (by rw [sv_s (g := tn p n A row base f) (k := k) (by show _ = (pv p n A row (pw p base k) * f) % p; rw [← hx])]) ?_
        refine xw_aload_n (pc := 35) C 0 dX0_scratchValues_35 rfl ?_
        refine xw_iload (pc := 36) C 4 dX0_scratchValues_36 rfl ?_
        refine xw_iload_n (pc := 38) C 2 dX0_scratchValues_38 rfl ?_
        refine xw_imul_N (pc := 39) C dX0_scratchValues_39 ?_
        refine xw_Vd (pc := 40) (q0 := 0) (na := 1) (rest := []) (st' := [nV ((x * base) % p)]) C (m_X0_reduced hp hp5 ((x * base : Nat) : Int) ((x * base) % p) (Int.natCast_emod _ _).symm (rgN (mb0 hx5 hb))) gX0_scratchValues_X0_reduced rfl rfl rfl rfl (by decide +kernel) ⟨Nat.le_of_ble_eq_true rfl, Nat.le_of_ble_eq_true rfl⟩ rfl rfl rfl (Nat.le_of_ble_eq_true rfl) dX0_scratchValues_40 ⟨Nat.le_of_ble_eq_true rfl, Nat.le_of_ble_eq_true rfl⟩ rfl ?_
        refine xw_istore (pc := 43) (lv' := [(0, .ref h), (1, nV row), (2, nV base), (3, nV f), (4, nV ((x * base) % p)), (5, nV k)]) C [1, 2, 3, 4, 0, 5] dX0_scratchValues_43 (by decide) rfl ?_
        refine xw_iinc_N (pc := 45) (b := k + 1) (lv' := [(0, .ref h), (1, nV row), (2, nV base), (3, nV f), (4, nV ((x * base) % p)), (5, nV (k + 1))]) C 5 [1, 2, 3, 4, 5, 0] dX0_scratchValues_45 rfl (by decide) rfl rfl ?_
        refine xw_goto (pc := 48) (tgt := 6) C dX0_scratchValues_48 (by decide) ?_
        exact ih6 (k + 1) _ (by omega) (by omega) (by rw [pw, ← hx]) (ml hp hp5)
  refine xw_wo (w' := wX cI h a n p b w wi ni (sv A (tn p n A row base f) 0)) (by rw [sv_0]) ?_
  exact L6 (n + 1) 0 1 (by omega) (by omega) rfl (by omega)

set_option maxHeartbeats 4000000 in
set_option maxRecDepth 100000 in
theorem m_X0_scratchTones {l : Launch} {D : va_G} {cI : ClassId} {h a n p b w wi ni : Nat} {A : Nat → Nat} (hp : 0 < p) (hp5 : p < 500) (hn : n = 4 ∨ n = 8 ∨ n = 16) (hA : ∀ j, A j < 500) (hw : w < 500) (row : Nat) (hrw : row < 4) : CT l yX0_scratchTones wsX0_scratchTones (rmN 4 92) D vwCl [(cI, .int)] [.ref h, nV row] (wX cI h a n p b w wi ni A) (PD (none) (wX cI h a n p b w wi ni (sv A (tn p n A row w 1) n))) 0 0 := by
  refine ct_of (plainFor_of_name (by decide)) rfl (Nat.le_of_ble_eq_true rfl) (fun φ C rX => ?_)
  have hin : ∀ w ∈ wsX00, w ∈ wsX0_scratchTones := by decide +kernel
  refine xw_le (lv' := [(0, .ref h), (1, nV row)]) rfl ?_
  refine xw_aload_n (pc := 0) C 0 dX0_scratchTones_0 rfl ?_
  refine xw_iload_n (pc := 1) C 1 dX0_scratchTones_1 rfl ?_
  refine xw_aload_n (pc := 2) C 0 dX0_scratchTones_2 rfl ?_
  refine xw_get (pc := 3) (T := TX0) (N := 7) (ref := "ToneButterflies") C hin 0 4 rfl rfl (by decide) (by decide +kernel) rfl rfl dX0_scratchTones_3 ?_
  refine xw_iconst_N (pc := 6) C 1 dX0_scratchTones_6 rfl ?_
  refine xw_Vd (pc := 7) (q0 := 0) (na := 3) (rest := []) (st' := []) C (m_X0_scratchValues hp hp5 hn hA row w 1 (by omega) (by omega) (by omega)) gX0_scratchTones_X0_scratchValues rfl rfl rfl rfl (by decide +kernel) ⟨Nat.le_of_ble_eq_true rfl, Nat.le_of_ble_eq_true rfl⟩ rfl rfl rfl (Nat.le_of_ble_eq_true rfl) dX0_scratchTones_7 ⟨Nat.le_of_ble_eq_true rfl, Nat.le_of_ble_eq_true rfl⟩ rfl ?_
  exact xw_vret (pc := 10) C rX (Nat.le_refl _) (Nat.le_refl _) dX0_scratchTones_10 (PD.i)

set_option maxHeartbeats 4000000 in
set_option maxRecDepth 100000 in
theorem m_X0_scratchTurnedBack {l : Launch} {D : va_G} {cI : ClassId} {h a n p b w wi ni : Nat} {A : Nat → Nat} (hp : 0 < p) (hp5 : p < 500) (hn : n = 4 ∨ n = 8 ∨ n = 16) (hA : ∀ j, A j < 500) (hwi : wi < 500) (hni : ni < 500) (row : Nat) (hrw : row < 4) : CT l yX0_scratchTurnedBack wsX0_scratchTurnedBack (rmN 4 92) D vwCl [(cI, .int)] [.ref h, nV row] (wX cI h a n p b w wi ni A) (PD (none) (wX cI h a n p b w wi ni (sv A (tn p n A row wi ni) n))) 0 0 := by
  refine ct_of (plainFor_of_name (by decide)) rfl (Nat.le_of_ble_eq_true rfl) (fun φ C rX => ?_)
  have hin : ∀ w ∈ wsX00, w ∈ wsX0_scratchTurnedBack := by decide +kernel
  refine xw_le (lv' := [(0, .ref h), (1, nV row)]) rfl ?_
  refine xw_aload_n (pc := 0) C 0 dX0_scratchTurnedBack_0 rfl ?_
  refine xw_iload_n (pc := 1) C 1 dX0_scratchTurnedBack_1 rfl ?_
  refine xw_aload_n (pc := 2) C 0 dX0_scratchTurnedBack_2 rfl ?_
  refine xw_get (pc := 3) (T := TX0) (N := 7) (ref := "ToneButterflies") C hin 0 5 rfl rfl (by decide) (by decide +kernel) rfl rfl dX0_scratchTurnedBack_3 ?_
  refine xw_aload_n (pc := 6) C 0 dX0_scratchTurnedBack_6 rfl ?_
  refine xw_get (pc := 7) (T := TX0) (N := 7) (ref := "ToneButterflies") C hin 0 6 rfl rfl (by decide) (by decide +kernel) rfl rfl dX0_scratchTurnedBack_7 ?_
  refine xw_Vd (pc := 10) (q0 := 0) (na := 3) (rest := []) (st' := []) C (m_X0_scratchValues hp hp5 hn hA row wi ni (by omega) (by omega) (by omega)) gX0_scratchTurnedBack_X0_scratchValues rfl rfl rfl rfl (by decide +kernel) ⟨Nat.le_of_ble_eq_true rfl, Nat.le_of_ble_eq_true rfl⟩ rfl rfl rfl (Nat.le_of_ble_eq_true rfl) dX0_scratchTurnedBack_10 ⟨Nat.le_of_ble_eq_true rfl, Nat.le_of_ble_eq_true rfl⟩ rfl ?_
  exact xw_vret (pc := 13) C rX (Nat.le_refl _) (Nat.le_refl _) dX0_scratchTurnedBack_13 (PD.i)

set_option maxHeartbeats 4000000 in
set_option maxRecDepth 100000 in
theorem m_X0_foldedAt {l : Launch} {D : va_G} {cI : ClassId} {h a n p b w wi ni : Nat} {A : Nat → Nat} (hp : 0 < p) (hp5 : p < 500) (hn : n = 4 ∨ n = 8 ∨ n = 16) (hA : ∀ j, A j < 500) (ra rb q : Nat) (hra : ra < 5) (hrb : rb < 5) (hq : q < n) : CT l yX0_foldedAt wsX0_foldedAt (rmN 2 43) D vwCl [(cI, .int)] [.ref h, nV ra, nV rb, nV q] (wX cI h a n p b w wi ni A) (PD (some (nV (fo p n A ra rb q n))) (wX cI h a n p b w wi ni A)) 0 0 := by
  refine ct_of (plainFor_of_name (by decide)) rfl (Nat.le_of_ble_eq_true rfl) (fun φ C rX => ?_)
  have hin : ∀ w ∈ wsX00, w ∈ wsX0_foldedAt := by decide +kernel
  refine xw_le (lv' := [(0, .ref h), (1, nV ra), (2, nV rb), (3, nV q)]) rfl ?_
  have hn3 := lt3 hn
  refine xw_iconst_N (pc := 0) C 0 dX0_foldedAt_0 rfl ?_
  refine xw_istore (pc := 1) (lv' := [(0, .ref h), (1, nV ra), (2, nV rb), (3, nV q), (4, nV 0)]) C [1, 2, 3, 4, 0] dX0_foldedAt_1 (by decide) rfl ?_
  refine xw_iconst_N (pc := 3) C 0 dX0_foldedAt_3 rfl ?_
  refine xw_istore (pc := 4) (lv' := [(0, .ref h), (1, nV ra), (2, nV rb), (3, nV q), (4, nV 0), (5, nV 0)]) C [1, 2, 3, 4, 5, 0] dX0_foldedAt_4 (by decide) rfl ?_
  have L6 : ∀ (fuel : Nat) (k acc : Nat), n < k + fuel → k ≤ n → acc = fo p n A ra rb q k → acc < 500 → xw φ 0 0 (wX cI h a n p b w wi ni A) 6 [(0, .ref h), (1, nV ra), (2, nV rb), (3, nV q), (4, nV acc), (5, nV k)] [] := by
    intro fuel
    induction fuel with
    | zero =>
      intro k acc hk hkn hacc hac
      omega
    | succ fuel ih6 =>
      intro k acc hk hkn hacc hac
      refine xw_iload (pc := 6) C 5 dX0_foldedAt_6 rfl ?_
      refine xw_aload_n (pc := 8) C 0 dX0_foldedAt_8 rfl ?_
      refine xw_get (pc := 9) (T := TX0) (N := 7) (ref := "ToneButterflies") C hin 0 1 rfl rfl (by decide) (by decide +kernel) rfl rfl dX0_foldedAt_9 ?_
      refine xw_icmp_ge_N (pc := 12) (tgt := 51) C dX0_foldedAt_12 (by decide) (by omega) (by omega) (fun c_1 => ?_) (fun c_1 => ?_)
      ·
        obtain rfl : k = n := by omega
        refine xw_iload (pc := 51) C 4 dX0_foldedAt_51 rfl ?_
        exact xw_iret (pc := 53) C rX (Nat.le_refl _) (Nat.le_refl _) dX0_foldedAt_53 (PD.e (by rw [hacc]) rfl)
      ·
        have hm1 := Nat.mod_lt (q + n - k) (show n > 0 by omega)
        have hb1 := hA (16 * ra + k)
        have hb2 := hA (16 * rb + (q + n - k) % n)
        refine xw_aload_n (pc := 15) C 0 dX0_foldedAt_15 rfl ?_
        refine xw_iload (pc := 16) C 4 dX0_foldedAt_16 rfl ?_
        refine xw_aload_n (pc := 18) C 0 dX0_foldedAt_18 rfl ?_
        refine xw_iload_n (pc := 19) C 1 dX0_foldedAt_19 rfl ?_
        refine xw_iload (pc := 20) C 5 dX0_foldedAt_20 rfl ?_
        refine xw_Vd (pc := 22) (q0 := 0) (na := 2) (rest := [nV acc, .ref h]) (st' := [nV (A (16 * ra + k)), nV acc, .ref h]) C (m_X0_read ra k (by omega) (by omega)) gX0_foldedAt_X0_read rfl rfl rfl rfl (by decide +kernel) ⟨Nat.le_of_ble_eq_true rfl, Nat.le_of_ble_eq_true rfl⟩ rfl rfl rfl (Nat.le_of_ble_eq_true rfl) dX0_foldedAt_22 ⟨Nat.le_of_ble_eq_true rfl, Nat.le_of_ble_eq_true rfl⟩ rfl ?_
        refine xw_aload_n (pc := 25) C 0 dX0_foldedAt_25 rfl ?_
        refine xw_iload_n (pc := 26) C 2 dX0_foldedAt_26 rfl ?_
        refine xw_aload_n (pc := 27) C 0 dX0_foldedAt_27 rfl ?_
        refine xw_iload_n (pc := 28) C 3 dX0_foldedAt_28 rfl ?_
        refine xw_iload (pc := 29) C 5 dX0_foldedAt_29 rfl ?_
        refine xw_isub (pc := 31) C dX0_foldedAt_31 ?_
        refine xw_Vd (pc := 32) (q0 := 0) (na := 1) (rest := [nV rb, .ref h, nV (A (16 * ra + k)), nV acc, .ref h]) (st' := [nV ((q + n - k) % n), nV rb, .ref h, nV (A (16 * ra + k)), nV acc, .ref h]) C (m_X0_wrapped hn ((((q : Nat) : Int)) - (((k : Nat) : Int))) ((q + n - k) % n) (sub_em hkn)) gX0_foldedAt_X0_wrapped rfl rfl rfl rfl (by decide +kernel) ⟨Nat.le_of_ble_eq_true rfl, Nat.le_of_ble_eq_true rfl⟩ rfl rfl rfl (Nat.le_of_ble_eq_true rfl) dX0_foldedAt_32 ⟨Nat.le_of_ble_eq_true rfl, Nat.le_of_ble_eq_true rfl⟩ rfl ?_
        refine xw_Vd (pc := 35) (q0 := 0) (na := 2) (rest := [nV (A (16 * ra + k)), nV acc, .ref h]) (st' := [nV (A (16 * rb + ((q + n - k) % n))), nV (A (16 * ra + k)), nV acc, .ref h]) C (m_X0_read rb ((q + n - k) % n) (by omega) (by omega)) gX0_foldedAt_X0_read rfl rfl rfl rfl (by decide +kernel) ⟨Nat.le_of_ble_eq_true rfl, Nat.le_of_ble_eq_true rfl⟩ rfl rfl rfl (Nat.le_of_ble_eq_true rfl) dX0_foldedAt_35 ⟨Nat.le_of_ble_eq_true rfl, Nat.le_of_ble_eq_true rfl⟩ rfl ?_
        refine xw_imul_N (pc := 38) C dX0_foldedAt_38 ?_
        refine xw_iadd_N (pc := 39) C dX0_foldedAt_39 ?_
        refine xw_Vd (pc := 40) (q0 := 0) (na := 1) (rest := []) (st' := [nV ((acc + ((A (16 * ra + k)) * (A (16 * rb + ((q + n - k) % n))))) % p)]) C (m_X0_reduced hp hp5 ((acc + ((A (16 * ra + k)) * (A (16 * rb + ((q + n - k) % n)))) : Nat) : Int) ((acc + ((A (16 * ra + k)) * (A (16 * rb + ((q + n - k) % n))))) % p) (Int.natCast_emod _ _).symm (rgN (mb' hb1 hb2 (by omega)))) gX0_foldedAt_X0_reduced rfl rfl rfl rfl (by decide +kernel) ⟨Nat.le_of_ble_eq_true rfl, Nat.le_of_ble_eq_true rfl⟩ rfl rfl rfl (Nat.le_of_ble_eq_true rfl) dX0_foldedAt_40 ⟨Nat.le_of_ble_eq_true rfl, Nat.le_of_ble_eq_true rfl⟩ rfl ?_
        refine xw_istore (pc := 43) (lv' := [(0, .ref h), (1, nV ra), (2, nV rb), (3, nV q), (4, nV ((acc + ((A (16 * ra + k)) * (A (16 * rb + ((q + n - k) % n))))) % p)), (5, nV k)]) C [1, 2, 3, 4, 0, 5] dX0_foldedAt_43 (by decide) rfl ?_
        refine xw_iinc_N (pc := 45) (b := k + 1) (lv' := [(0, .ref h), (1, nV ra), (2, nV rb), (3, nV q), (4, nV ((acc + ((A (16 * ra + k)) * (A (16 * rb + ((q + n - k) % n))))) % p)), (5, nV (k + 1))]) C 5 [1, 2, 3, 4, 5, 0] dX0_foldedAt_45 rfl (by decide) rfl rfl ?_
        refine xw_goto (pc := 48) (tgt := 6) C dX0_foldedAt_48 (by decide) ?_
        exact ih6 (k + 1) _ (by omega) (by omega) (by rw [fo, ← hacc]) (ml hp hp5)
  exact L6 (n + 1) 0 0 (by omega) (by omega) rfl (by omega)

set_option maxHeartbeats 4000000 in
set_option maxRecDepth 100000 in
theorem m_X0_isWhenMoved {l : Launch} {D : va_G} {cI : ClassId} {h a n p b w wi ni : Nat} {A : Nat → Nat} (hn : n = 4 ∨ n = 8 ∨ n = 16) (hA : ∀ j, A j < 500) (ra q rb : Nat) (hra : ra < 5) (hrb : rb < 5) (hq : q < 16) : CT l yX0_isWhenMoved wsX0_isWhenMoved (rmN 1 23) D vwCl [(cI, .int)] [.ref h, nV ra, nV q, nV rb] (wX cI h a n p b w wi ni A) (PD (some (bV (im n A ra rb q))) (wX cI h a n p b w wi ni A)) 0 0 := by
  refine ct_of (plainFor_of_name (by decide)) rfl (Nat.le_of_ble_eq_true rfl) (fun φ C rX => ?_)
  have hin : ∀ w ∈ wsX00, w ∈ wsX0_isWhenMoved := by decide +kernel
  refine xw_le (lv' := [(0, .ref h), (1, nV ra), (2, nV q), (3, nV rb)]) rfl ?_
  have hn3 := lt3 hn
  refine xw_iconst_N (pc := 0) C 0 dX0_isWhenMoved_0 rfl ?_
  refine xw_istore (pc := 1) (lv' := [(0, .ref h), (1, nV ra), (2, nV q), (3, nV rb), (4, nV 0)]) C [1, 2, 3, 4, 0] dX0_isWhenMoved_1 (by decide) rfl ?_
  have L3 : ∀ (fuel : Nat) (k : Nat), n < k + fuel → k ≤ n → (∀ j, j < k → A (16 * ra + j) = A (16 * rb + (j + q) % n)) → xw φ 0 0 (wX cI h a n p b w wi ni A) 3 [(0, .ref h), (1, nV ra), (2, nV q), (3, nV rb), (4, nV k)] [] := by
    intro fuel
    induction fuel with
    | zero =>
      intro k hk hkn hall
      omega
    | succ fuel ih3 =>
      intro k hk hkn hall
      refine xw_iload (pc := 3) C 4 dX0_isWhenMoved_3 rfl ?_
      refine xw_aload_n (pc := 5) C 0 dX0_isWhenMoved_5 rfl ?_
      refine xw_get (pc := 6) (T := TX0) (N := 7) (ref := "ToneButterflies") C hin 0 1 rfl rfl (by decide) (by decide +kernel) rfl rfl dX0_isWhenMoved_6 ?_
      refine xw_icmp_ge_N (pc := 9) (tgt := 43) C dX0_isWhenMoved_9 (by decide) (by omega) (by omega) (fun c_1 => ?_) (fun c_1 => ?_)
      ·
        obtain rfl : k = n := by omega
        refine xw_iconst_N (pc := 43) C 1 dX0_isWhenMoved_43 rfl ?_
        refine xw_st (st' := [bV true]) rfl ?_
        exact xw_bret (pc := 44) C rX (Nat.le_refl _) (Nat.le_refl _) dX0_isWhenMoved_44 (PD.e (by rw [im_t hall]) rfl)
      ·
        have hm1 := Nat.mod_lt (k + q) (show n > 0 by omega)
        have hb1 := hA (16 * ra + k)
        have hb2 := hA (16 * rb + (k + q) % n)
        refine xw_aload_n (pc := 12) C 0 dX0_isWhenMoved_12 rfl ?_
        refine xw_iload_n (pc := 13) C 3 dX0_isWhenMoved_13 rfl ?_
        refine xw_aload_n (pc := 14) C 0 dX0_isWhenMoved_14 rfl ?_
        refine xw_iload (pc := 15) C 4 dX0_isWhenMoved_15 rfl ?_
        refine xw_iload_n (pc := 17) C 2 dX0_isWhenMoved_17 rfl ?_
        refine xw_iadd_N (pc := 18) C dX0_isWhenMoved_18 ?_
        refine xw_Vd (pc := 19) (q0 := 0) (na := 1) (rest := [nV rb, .ref h]) (st' := [nV ((k + q) % n), nV rb, .ref h]) C (m_X0_wrapped hn (((k + q : Nat) : Int)) ((k + q) % n) ((Int.natCast_emod _ _).symm)) gX0_isWhenMoved_X0_wrapped rfl rfl rfl rfl (by decide +kernel) ⟨Nat.le_of_ble_eq_true rfl, Nat.le_of_ble_eq_true rfl⟩ rfl rfl rfl (Nat.le_of_ble_eq_true rfl) dX0_isWhenMoved_19 ⟨Nat.le_of_ble_eq_true rfl, Nat.le_of_ble_eq_true rfl⟩ rfl ?_
        refine xw_Vd (pc := 22) (q0 := 0) (na := 2) (rest := []) (st' := [nV (A (16 * rb + ((k + q) % n)))]) C (m_X0_read rb ((k + q) % n) (by omega) (by omega)) gX0_isWhenMoved_X0_read rfl rfl rfl rfl (by decide +kernel) ⟨Nat.le_of_ble_eq_true rfl, Nat.le_of_ble_eq_true rfl⟩ rfl rfl rfl (Nat.le_of_ble_eq_true rfl) dX0_isWhenMoved_22 ⟨Nat.le_of_ble_eq_true rfl, Nat.le_of_ble_eq_true rfl⟩ rfl ?_
        refine xw_aload_n (pc := 25) C 0 dX0_isWhenMoved_25 rfl ?_
        refine xw_iload_n (pc := 26) C 1 dX0_isWhenMoved_26 rfl ?_
        refine xw_iload (pc := 27) C 4 dX0_isWhenMoved_27 rfl ?_
        refine xw_Vd (pc := 29) (q0 := 0) (na := 2) (rest := [nV (A (16 * rb + ((k + q) % n)))]) (st' := [nV (A (16 * ra + k)), nV (A (16 * rb + ((k + q) % n)))]) C (m_X0_read ra k (by omega) (by omega)) gX0_isWhenMoved_X0_read rfl rfl rfl rfl (by decide +kernel) ⟨Nat.le_of_ble_eq_true rfl, Nat.le_of_ble_eq_true rfl⟩ rfl rfl rfl (Nat.le_of_ble_eq_true rfl) dX0_isWhenMoved_29 ⟨Nat.le_of_ble_eq_true rfl, Nat.le_of_ble_eq_true rfl⟩ rfl ?_
        refine xw_icmp_eq_N (pc := 32) (tgt := 37) C dX0_isWhenMoved_32 (by decide) (by omega) (by omega) (fun c_2 => ?_) (fun c_2 => ?_)
        ·
          refine xw_iinc_N (pc := 37) (b := k + 1) (lv' := [(0, .ref h), (1, nV ra), (2, nV q), (3, nV rb), (4, nV (k + 1))]) C 4 [1, 2, 3, 4, 0] dX0_isWhenMoved_37 rfl (by decide) rfl rfl ?_
          refine xw_goto (pc := 40) (tgt := 3) C dX0_isWhenMoved_40 (by decide) ?_
          exact ih3 (k + 1) (by omega) (by omega) (fun j hj => by rcases Nat.lt_or_ge j k with z | z; exact hall j z; rw [show j = k by omega]; exact c_2.symm)
        ·
          refine xw_iconst_N (pc := 35) C 0 dX0_isWhenMoved_35 rfl ?_
          refine xw_st (st' := [bV false]) rfl ?_
          exact xw_bret (pc := 36) C rX (Nat.le_refl _) (Nat.le_refl _) dX0_isWhenMoved_36 (PD.e (by rw [im_f (show k < n by omega) (fun z => c_2 z.symm)]) rfl)
  exact L3 (n + 1) 0 (by omega) (by omega) (fun j hj => absurd hj (Nat.not_lt_zero j))

set_option maxHeartbeats 4000000 in
set_option maxRecDepth 100000 in
theorem m_X0_plainSum {l : Launch} {D : va_G} {cI : ClassId} {h a n p b w wi ni : Nat} {A : Nat → Nat} (hn : n = 4 ∨ n = 8 ∨ n = 16) (hA : ∀ j, A j < 500) (row : Nat) (hrw : row < 5) : CT l yX0_plainSum wsX0_plainSum (rmN 1 23) D vwCl [(cI, .int)] [.ref h, nV row] (wX cI h a n p b w wi ni A) (PD (some (nV (sm A row n))) (wX cI h a n p b w wi ni A)) 0 0 := by
  refine ct_of (plainFor_of_name (by decide)) rfl (Nat.le_of_ble_eq_true rfl) (fun φ C rX => ?_)
  have hin : ∀ w ∈ wsX00, w ∈ wsX0_plainSum := by decide +kernel
  refine xw_le (lv' := [(0, .ref h), (1, nV row)]) rfl ?_
  have hn3 := lt3 hn
  refine xw_iconst_N (pc := 0) C 0 dX0_plainSum_0 rfl ?_
  refine xw_istore_n (pc := 1) (lv' := [(0, .ref h), (1, nV row), (2, nV 0)]) C [1, 2, 0] dX0_plainSum_1 rfl (by decide) rfl ?_
  refine xw_iconst_N (pc := 2) C 0 dX0_plainSum_2 rfl ?_
  refine xw_istore_n (pc := 3) (lv' := [(0, .ref h), (1, nV row), (2, nV 0), (3, nV 0)]) C [1, 2, 3, 0] dX0_plainSum_3 rfl (by decide) rfl ?_
  have L4 : ∀ (fuel : Nat) (k acc : Nat), n < k + fuel → k ≤ n → acc = sm A row k → xw φ 0 0 (wX cI h a n p b w wi ni A) 4 [(0, .ref h), (1, nV row), (2, nV acc), (3, nV k)] [] := by
    intro fuel
    induction fuel with
    | zero =>
      intro k acc hk hkn hacc
      omega
    | succ fuel ih4 =>
      intro k acc hk hkn hacc
      refine xw_iload_n (pc := 4) C 3 dX0_plainSum_4 rfl ?_
      refine xw_aload_n (pc := 5) C 0 dX0_plainSum_5 rfl ?_
      refine xw_get (pc := 6) (T := TX0) (N := 7) (ref := "ToneButterflies") C hin 0 1 rfl rfl (by decide) (by decide +kernel) rfl rfl dX0_plainSum_6 ?_
      refine xw_icmp_ge_N (pc := 9) (tgt := 27) C dX0_plainSum_9 (by decide) (by omega) (by omega) (fun c_1 => ?_) (fun c_1 => ?_)
      ·
        obtain rfl : k = n := by omega
        refine xw_iload_n (pc := 27) C 2 dX0_plainSum_27 rfl ?_
        exact xw_iret (pc := 28) C rX (Nat.le_refl _) (Nat.le_refl _) dX0_plainSum_28 (PD.e (by rw [hacc]) rfl)
      ·
        refine xw_iload_n (pc := 12) C 2 dX0_plainSum_12 rfl ?_
        refine xw_aload_n (pc := 13) C 0 dX0_plainSum_13 rfl ?_
        refine xw_iload_n (pc := 14) C 1 dX0_plainSum_14 rfl ?_
        refine xw_iload_n (pc := 15) C 3 dX0_plainSum_15 rfl ?_
        refine xw_Vd (pc := 16) (q0 := 0) (na := 2) (rest := [nV acc]) (st' := [nV (A (16 * row + k)), nV acc]) C (m_X0_read row k (by omega) (by omega)) gX0_plainSum_X0_read rfl rfl rfl rfl (by decide +kernel) ⟨Nat.le_of_ble_eq_true rfl, Nat.le_of_ble_eq_true rfl⟩ rfl rfl rfl (Nat.le_of_ble_eq_true rfl) dX0_plainSum_16 ⟨Nat.le_of_ble_eq_true rfl, Nat.le_of_ble_eq_true rfl⟩ rfl ?_
        refine xw_iadd_N (pc := 19) C dX0_plainSum_19 ?_
        refine xw_istore_n (pc := 20) (lv' := [(0, .ref h), (1, nV row), (2, nV (acc + (A (16 * row + k)))), (3, nV k)]) C [1, 2, 0, 3] dX0_plainSum_20 rfl (by decide) rfl ?_
        refine xw_iinc_N (pc := 21) (b := k + 1) (lv' := [(0, .ref h), (1, nV row), (2, nV (acc + (A (16 * row + k)))), (3, nV (k + 1))]) C 3 [1, 2, 3, 0] dX0_plainSum_21 rfl (by decide) rfl rfl ?_
        refine xw_goto (pc := 24) (tgt := 4) C dX0_plainSum_24 (by decide) ?_
        exact ih4 (k + 1) _ (by omega) (by omega) (by rw [sm, ← hacc])
  exact L4 (n + 1) 0 0 (by omega) (by omega) rfl

set_option maxHeartbeats 4000000 in
set_option maxRecDepth 100000 in
theorem m_X0_nonZeros {l : Launch} {D : va_G} {cI : ClassId} {h a n p b w wi ni : Nat} {A : Nat → Nat} (hn : n = 4 ∨ n = 8 ∨ n = 16) (hA : ∀ j, A j < 500) (row : Nat) (hrw : row < 5) : CT l yX0_nonZeros wsX0_nonZeros (rmN 1 23) D vwCl [(cI, .int)] [.ref h, nV row] (wX cI h a n p b w wi ni A) (PD (some (nV (cc (fun k => decide (A (16 * row + k) ≠ 0)) n))) (wX cI h a n p b w wi ni A)) 0 0 := by
  refine ct_of (plainFor_of_name (by decide)) rfl (Nat.le_of_ble_eq_true rfl) (fun φ C rX => ?_)
  have hin : ∀ w ∈ wsX00, w ∈ wsX0_nonZeros := by decide +kernel
  refine xw_le (lv' := [(0, .ref h), (1, nV row)]) rfl ?_
  have hn3 := lt3 hn
  have hcl := cc_le (fun k => decide (A (16 * row + k) ≠ 0))
  refine xw_iconst_N (pc := 0) C 0 dX0_nonZeros_0 rfl ?_
  refine xw_istore_n (pc := 1) (lv' := [(0, .ref h), (1, nV row), (2, nV 0)]) C [1, 2, 0] dX0_nonZeros_1 rfl (by decide) rfl ?_
  refine xw_iconst_N (pc := 2) C 0 dX0_nonZeros_2 rfl ?_
  refine xw_istore_n (pc := 3) (lv' := [(0, .ref h), (1, nV row), (2, nV 0), (3, nV 0)]) C [1, 2, 3, 0] dX0_nonZeros_3 rfl (by decide) rfl ?_
  have L4 : ∀ (fuel : Nat) (k ch : Nat), n < k + fuel → k ≤ n → ch = cc (fun k => decide (A (16 * row + k) ≠ 0)) k → xw φ 0 0 (wX cI h a n p b w wi ni A) 4 [(0, .ref h), (1, nV row), (2, nV ch), (3, nV k)] [] := by
    intro fuel
    induction fuel with
    | zero =>
      intro k ch hk hkn hch
      omega
    | succ fuel ih4 =>
      intro k ch hk hkn hch
      refine xw_iload_n (pc := 4) C 3 dX0_nonZeros_4 rfl ?_
      refine xw_aload_n (pc := 5) C 0 dX0_nonZeros_5 rfl ?_
      refine xw_get (pc := 6) (T := TX0) (N := 7) (ref := "ToneButterflies") C hin 0 1 rfl rfl (by decide) (by decide +kernel) rfl rfl dX0_nonZeros_6 ?_
      refine xw_icmp_ge_N (pc := 9) (tgt := 30) C dX0_nonZeros_9 (by decide) (by omega) (by omega) (fun c_1 => ?_) (fun c_1 => ?_)
      ·
        obtain rfl : k = n := by omega
        refine xw_iload_n (pc := 30) C 2 dX0_nonZeros_30 rfl ?_
        exact xw_iret (pc := 31) C rX (Nat.le_refl _) (Nat.le_refl _) dX0_nonZeros_31 (PD.e (by rw [hch]) rfl)
      ·
        refine xw_aload_n (pc := 12) C 0 dX0_nonZeros_12 rfl ?_
        refine xw_iload_n (pc := 13) C 1 dX0_nonZeros_13 rfl ?_
        refine xw_iload_n (pc := 14) C 3 dX0_nonZeros_14 rfl ?_
        refine xw_Vd (pc := 15) (q0 := 0) (na := 2) (rest := []) (st' := [nV (A (16 * row + k))]) C (m_X0_read row k (by omega) (by omega)) gX0_nonZeros_X0_read rfl rfl rfl rfl (by decide +kernel) ⟨Nat.le_of_ble_eq_true rfl, Nat.le_of_ble_eq_true rfl⟩ rfl rfl rfl (Nat.le_of_ble_eq_true rfl) dX0_nonZeros_15 ⟨Nat.le_of_ble_eq_true rfl, Nat.le_of_ble_eq_true rfl⟩ rfl ?_
        have hb1 := hA (16 * row + k)
        have hcl2 := hcl k
        refine xw_if_eq_N (pc := 18) (tgt := 24) C dX0_nonZeros_18 (by decide) (by omega) (fun c_2 => ?_) (fun c_2 => ?_)
        ·
          refine xw_iinc_N (pc := 24) (b := k + 1) (lv' := [(0, .ref h), (1, nV row), (2, nV ch), (3, nV (k + 1))]) C 3 [1, 2, 3, 0] dX0_nonZeros_24 rfl (by decide) rfl rfl ?_
          refine xw_goto (pc := 27) (tgt := 4) C dX0_nonZeros_27 (by decide) ?_
          exact ih4 (k + 1) _ (by omega) (by omega) (by rw [cc_f (decide_eq_false (fun z => z c_2)), ← hch])
        ·
          refine xw_iinc_N (pc := 21) (b := ch + 1) (lv' := [(0, .ref h), (1, nV row), (2, nV (ch + 1)), (3, nV k)]) C 2 [1, 2, 0, 3] dX0_nonZeros_21 rfl (by decide) rfl rfl ?_
          refine xw_iinc_N (pc := 24) (b := k + 1) (lv' := [(0, .ref h), (1, nV row), (2, nV (ch + 1)), (3, nV (k + 1))]) C 3 [1, 2, 3, 0] dX0_nonZeros_24 rfl (by decide) rfl rfl ?_
          refine xw_goto (pc := 27) (tgt := 4) C dX0_nonZeros_27 (by decide) ?_
          exact ih4 (k + 1) _ (by omega) (by omega) (by rw [cc_t (decide_eq_true c_2), ← hch])
  exact L4 (n + 1) 0 0 (by omega) (by omega) rfl

set_option maxHeartbeats 4000000 in
set_option maxRecDepth 100000 in
theorem m_X0_lastNonZero {l : Launch} {D : va_G} {cI : ClassId} {h a n p b w wi ni : Nat} {A : Nat → Nat} (hn : n = 4 ∨ n = 8 ∨ n = 16) (hA : ∀ j, A j < 500) (row : Nat) (hrw : row < 5) : CT l yX0_lastNonZero wsX0_lastNonZero (rmN 1 23) D vwCl [(cI, .int)] [.ref h, nV row] (wX cI h a n p b w wi ni A) (PD (some (iV (ln A row n))) (wX cI h a n p b w wi ni A)) 0 0 := by
  refine ct_of (plainFor_of_name (by decide)) rfl (Nat.le_of_ble_eq_true rfl) (fun φ C rX => ?_)
  have hin : ∀ w ∈ wsX00, w ∈ wsX0_lastNonZero := by decide +kernel
  refine xw_le (lv' := [(0, .ref h), (1, nV row)]) rfl ?_
  have hn3 := lt3 hn
  refine xw_aload_n (pc := 0) C 0 dX0_lastNonZero_0 rfl ?_
  refine xw_get (pc := 1) (T := TX0) (N := 7) (ref := "ToneButterflies") C hin 0 1 rfl rfl (by decide) (by decide +kernel) rfl rfl dX0_lastNonZero_1 ?_
  refine xw_iconst_N (pc := 4) C 1 dX0_lastNonZero_4 rfl ?_
  refine xw_isub (pc := 5) C dX0_lastNonZero_5 ?_
  refine xw_istore_n (pc := 6) (lv' := [(0, .ref h), (1, nV row), (2, iV ((((n : Nat) : Int)) - (((1 : Nat) : Int))))]) C [1, 2, 0] dX0_lastNonZero_6 rfl (by decide) rfl ?_
  have L7 : ∀ (fuel : Nat) (j : Nat) (q : Int), j < fuel → j ≤ n → q = (j : Int) - 1 → ln A row n = ln A row j → xw φ 0 0 (wX cI h a n p b w wi ni A) 7 [(0, .ref h), (1, nV row), (2, iV q)] [] := by
    intro fuel
    induction fuel with
    | zero =>
      intro j q hk hjn hq hln
      omega
    | succ fuel ih7 =>
      intro j q hk hjn hq hln
      refine xw_iload_n (pc := 7) C 2 dX0_lastNonZero_7 rfl ?_
      refine xw_if_lt (pc := 8) (tgt := 28) C dX0_lastNonZero_8 (by decide) (by omega) (fun c_1 => ?_) (fun c_1 => ?_)
      ·
        obtain rfl : j = 0 := by omega
        refine xw_iconst (pc := 28) C dX0_lastNonZero_28 ?_
        exact xw_iret (pc := 29) C rX (Nat.le_refl _) (Nat.le_refl _) dX0_lastNonZero_29 (PD.e (by rw [hln]; rfl) rfl)
      ·
        obtain ⟨i, rfl⟩ : ∃ i : Nat, j = i + 1 := ⟨j - 1, by omega⟩
        obtain rfl : q = (i : Int) := by omega
        have hb1 := hA (16 * row + i)
        refine xw_aload_n (pc := 11) C 0 dX0_lastNonZero_11 rfl ?_
        refine xw_iload_n (pc := 12) C 1 dX0_lastNonZero_12 rfl ?_
        refine xw_iload_n (pc := 13) C 2 dX0_lastNonZero_13 rfl ?_
        refine xw_Vd (pc := 14) (q0 := 0) (na := 2) (rest := []) (st' := [nV (A (16 * row + i))]) C (m_X0_read row i (by omega) (by omega)) gX0_lastNonZero_X0_read rfl rfl rfl rfl (by decide +kernel) ⟨Nat.le_of_ble_eq_true rfl, Nat.le_of_ble_eq_true rfl⟩ rfl rfl rfl (Nat.le_of_ble_eq_true rfl) dX0_lastNonZero_14 ⟨Nat.le_of_ble_eq_true rfl, Nat.le_of_ble_eq_true rfl⟩ rfl ?_
        refine xw_if_eq_N (pc := 17) (tgt := 22) C dX0_lastNonZero_17 (by decide) (by omega) (fun c_2 => ?_) (fun c_2 => ?_)
        ·
          refine xw_iinc (pc := 22) (lv' := [(0, .ref h), (1, nV row), (2, iV ((((i : Nat) : Int)) + (-1)))]) C 2 [1, 2, 0] dX0_lastNonZero_22 rfl (by decide) rfl ?_
          refine xw_goto (pc := 25) (tgt := 7) C dX0_lastNonZero_25 (by decide) ?_
          exact ih7 i _ (by omega) (by omega) (by omega) (by rw [hln, ln, if_pos c_2])
        ·
          refine xw_iload_n (pc := 20) C 2 dX0_lastNonZero_20 rfl ?_
          exact xw_iret (pc := 21) C rX (Nat.le_refl _) (Nat.le_refl _) dX0_lastNonZero_21 (PD.e (by rw [hln, ln, if_neg c_2]) rfl)
  exact L7 (n + 1) n _ (by omega) (by omega) (by omega) rfl

set_option maxHeartbeats 4000000 in
set_option maxRecDepth 100000 in
theorem m_X0_period {l : Launch} {D : va_G} {cI : ClassId} {h a n p b w wi ni : Nat} {A : Nat → Nat} (hn : n = 4 ∨ n = 8 ∨ n = 16) (hA : ∀ j, A j < 500) (row : Nat) (hrw : row < 5) : CT l yX0_period wsX0_period (rmN 2 47) D vwCl [(cI, .int)] [.ref h, nV row] (wX cI h a n p b w wi ni A) (PD (some (nV (pe n A row))) (wX cI h a n p b w wi ni A)) 0 0 := by
  refine ct_of (plainFor_of_name (by decide)) rfl (Nat.le_of_ble_eq_true rfl) (fun φ C rX => ?_)
  have hin : ∀ w ∈ wsX00, w ∈ wsX0_period := by decide +kernel
  refine xw_le (lv' := [(0, .ref h), (1, nV row)]) rfl ?_
  have hn3 := lt3 hn
  refine xw_iconst_N (pc := 0) C 1 dX0_period_0 rfl ?_
  refine xw_istore_n (pc := 1) (lv' := [(0, .ref h), (1, nV row), (2, nV 1)]) C [1, 2, 0] dX0_period_1 rfl (by decide) rfl ?_
  have L2 : ∀ (fuel : Nat) (k : Nat), n < k + fuel → 1 ≤ k → k ≤ n → pe n A row = fs (im n A row row) (n - k) k → xw φ 0 0 (wX cI h a n p b w wi ni A) 2 [(0, .ref h), (1, nV row), (2, nV k)] [] := by
    intro fuel
    induction fuel with
    | zero =>
      intro k hk hk1 hkn hfs
      omega
    | succ fuel ih2 =>
      intro k hk hk1 hkn hfs
      refine xw_iload_n (pc := 2) C 2 dX0_period_2 rfl ?_
      refine xw_aload_n (pc := 3) C 0 dX0_period_3 rfl ?_
      refine xw_get (pc := 4) (T := TX0) (N := 7) (ref := "ToneButterflies") C hin 0 1 rfl rfl (by decide) (by decide +kernel) rfl rfl dX0_period_4 ?_
      refine xw_icmp_ge_N (pc := 7) (tgt := 28) C dX0_period_7 (by decide) (by omega) (by omega) (fun c_1 => ?_) (fun c_1 => ?_)
      ·
        obtain rfl : k = n := by omega
        refine xw_aload_n (pc := 28) C 0 dX0_period_28 rfl ?_
        refine xw_get (pc := 29) (T := TX0) (N := 7) (ref := "ToneButterflies") C hin 0 1 rfl rfl (by decide) (by decide +kernel) rfl rfl dX0_period_29 ?_
        exact xw_iret (pc := 32) C rX (Nat.le_refl _) (Nat.le_refl _) dX0_period_32 (PD.e (by rw [hfs, Nat.sub_self, fs]) rfl)
      ·
        refine xw_aload_n (pc := 10) C 0 dX0_period_10 rfl ?_
        refine xw_iload_n (pc := 11) C 1 dX0_period_11 rfl ?_
        refine xw_iload_n (pc := 12) C 2 dX0_period_12 rfl ?_
        refine xw_iload_n (pc := 13) C 1 dX0_period_13 rfl ?_
        refine xw_Vd (pc := 14) (q0 := 0) (na := 3) (rest := []) (st' := [bV (im n A row row k)]) C (m_X0_isWhenMoved hn (hA) row k row (by omega) (by omega) (by omega)) gX0_period_X0_isWhenMoved rfl rfl rfl rfl (by decide +kernel) ⟨Nat.le_of_ble_eq_true rfl, Nat.le_of_ble_eq_true rfl⟩ rfl rfl rfl (Nat.le_of_ble_eq_true rfl) dX0_period_14 ⟨Nat.le_of_ble_eq_true rfl, Nat.le_of_ble_eq_true rfl⟩ rfl ?_
        refine xw_if_eq_B (pc := 17) (tgt := 22) C dX0_period_17 (by decide)  (fun c_2 => ?_) (fun c_2 => ?_)
        ·
          refine xw_iinc_N (pc := 22) (b := k + 1) (lv' := [(0, .ref h), (1, nV row), (2, nV (k + 1))]) C 2 [1, 2, 0] dX0_period_22 rfl (by decide) rfl rfl ?_
          refine xw_goto (pc := 25) (tgt := 2) C dX0_period_25 (by decide) ?_
          exact ih2 (k + 1) (by omega) (by omega) (by omega) (by rw [hfs, show n - k = (n - (k + 1)) + 1 by omega, fs_f c_2])
        ·
          refine xw_iload_n (pc := 20) C 2 dX0_period_20 rfl ?_
          exact xw_iret (pc := 21) C rX (Nat.le_refl _) (Nat.le_refl _) dX0_period_21 (PD.e (by rw [hfs, show n - k = (n - (k + 1)) + 1 by omega, fs_t c_2]) rfl)
  exact L2 (n + 1) 1 (by omega) (by omega) (by omega) rfl

set_option maxHeartbeats 4000000 in
set_option maxRecDepth 100000 in
theorem m_X0_greatestNumber {l : Launch} {D : va_G} {cI : ClassId} {h a n p b w wi ni : Nat} {A : Nat → Nat} (hn : n = 4 ∨ n = 8 ∨ n = 16) (hA : ∀ j, A j < 500) (row : Nat) (hrw : row < 5) : CT l yX0_greatestNumber wsX0_greatestNumber (rmN 1 23) D vwCl [(cI, .int)] [.ref h, nV row] (wX cI h a n p b w wi ni A) (PD (some (nV (gr A row n))) (wX cI h a n p b w wi ni A)) 0 0 := by
  refine ct_of (plainFor_of_name (by decide)) rfl (Nat.le_of_ble_eq_true rfl) (fun φ C rX => ?_)
  have hin : ∀ w ∈ wsX00, w ∈ wsX0_greatestNumber := by decide +kernel
  refine xw_le (lv' := [(0, .ref h), (1, nV row)]) rfl ?_
  have hn3 := lt3 hn
  refine xw_iconst_N (pc := 0) C 0 dX0_greatestNumber_0 rfl ?_
  refine xw_istore_n (pc := 1) (lv' := [(0, .ref h), (1, nV row), (2, nV 0)]) C [1, 2, 0] dX0_greatestNumber_1 rfl (by decide) rfl ?_
  refine xw_iconst_N (pc := 2) C 0 dX0_greatestNumber_2 rfl ?_
  refine xw_istore_n (pc := 3) (lv' := [(0, .ref h), (1, nV row), (2, nV 0), (3, nV 0)]) C [1, 2, 3, 0] dX0_greatestNumber_3 rfl (by decide) rfl ?_
  have L4 : ∀ (fuel : Nat) (k acc : Nat), n < k + fuel → k ≤ n → acc = gr A row k → acc < 500 → xw φ 0 0 (wX cI h a n p b w wi ni A) 4 [(0, .ref h), (1, nV row), (2, nV acc), (3, nV k)] [] := by
    intro fuel
    induction fuel with
    | zero =>
      intro k acc hk hkn hacc hac
      omega
    | succ fuel ih4 =>
      intro k acc hk hkn hacc hac
      refine xw_iload_n (pc := 4) C 3 dX0_greatestNumber_4 rfl ?_
      refine xw_aload_n (pc := 5) C 0 dX0_greatestNumber_5 rfl ?_
      refine xw_get (pc := 6) (T := TX0) (N := 7) (ref := "ToneButterflies") C hin 0 1 rfl rfl (by decide) (by decide +kernel) rfl rfl dX0_greatestNumber_6 ?_
      refine xw_icmp_ge_N (pc := 9) (tgt := 29) C dX0_greatestNumber_9 (by decide) (by omega) (by omega) (fun c_1 => ?_) (fun c_1 => ?_)
      ·
        obtain rfl : k = n := by omega
        refine xw_iload_n (pc := 29) C 2 dX0_greatestNumber_29 rfl ?_
        exact xw_iret (pc := 30) C rX (Nat.le_refl _) (Nat.le_refl _) dX0_greatestNumber_30 (PD.e (by rw [hacc]) rfl)
      ·
        refine xw_iload_n (pc := 12) C 2 dX0_greatestNumber_12 rfl ?_
        refine xw_aload_n (pc := 13) C 0 dX0_greatestNumber_13 rfl ?_
        refine xw_iload_n (pc := 14) C 1 dX0_greatestNumber_14 rfl ?_
        refine xw_iload_n (pc := 15) C 3 dX0_greatestNumber_15 rfl ?_
        refine xw_Vd (pc := 16) (q0 := 0) (na := 2) (rest := [nV acc]) (st' := [nV (A (16 * row + k)), nV acc]) C (m_X0_read row k (by omega) (by omega)) gX0_greatestNumber_X0_read rfl rfl rfl rfl (by decide +kernel) ⟨Nat.le_of_ble_eq_true rfl, Nat.le_of_ble_eq_true rfl⟩ rfl rfl rfl (Nat.le_of_ble_eq_true rfl) dX0_greatestNumber_16 ⟨Nat.le_of_ble_eq_true rfl, Nat.le_of_ble_eq_true rfl⟩ rfl ?_
        have hb1 := hA (16 * row + k)
        refine xw_max (pc := 19) C (by decide +kernel) (by decide +kernel) (by decide +kernel) (by decide +kernel) (Nat.le_of_ble_eq_true rfl) (Nat.le_of_ble_eq_true rfl) (Nat.le_of_ble_eq_true rfl) (Nat.le_of_ble_eq_true rfl) (by omega) (by omega) dX0_greatestNumber_19 ?_
        refine xw_istore_n (pc := 22) (lv' := [(0, .ref h), (1, nV row), (2, nV (if acc < A (16 * row + k) then A (16 * row + k) else acc)), (3, nV k)]) C [1, 2, 0, 3] dX0_greatestNumber_22 rfl (by decide) rfl ?_
        refine xw_iinc_N (pc := 23) (b := k + 1) (lv' := [(0, .ref h), (1, nV row), (2, nV (if acc < A (16 * row + k) then A (16 * row + k) else acc)), (3, nV (k + 1))]) C 3 [1, 2, 3, 0] dX0_greatestNumber_23 rfl (by decide) rfl rfl ?_
        refine xw_goto (pc := 26) (tgt := 4) C dX0_greatestNumber_26 (by decide) ?_
        exact ih4 (k + 1) _ (by omega) (by omega) (by rw [gr, ← hacc]) (by split <;> omega)
  exact L4 (n + 1) 0 0 (by omega) (by omega) rfl (by omega)

set_option maxHeartbeats 4000000 in
set_option maxRecDepth 100000 in
theorem m_X0_counted {l : Launch} {D : va_G} {cI : ClassId} {h a n p b w wi ni : Nat} {A : Nat → Nat} (what : Nat) (hwh : what < 6) : CT l yX0_counted wsX0_counted (rmN 0 0) D vwCl [(cI, .int)] [.ref h, nV what] (wX cI h a n p b w wi ni A) (PD (some (nV (ct n p b w wi ni what))) (wX cI h a n p b w wi ni A)) 0 0 := by
  refine ct_of (plainFor_of_name (by decide)) rfl (Nat.le_of_ble_eq_true rfl) (fun φ C rX => ?_)
  have hin : ∀ w ∈ wsX00, w ∈ wsX0_counted := by decide +kernel
  refine xw_le (lv' := [(0, .ref h), (1, nV what)]) rfl ?_
  refine xw_iload_n (pc := 0) C 1 dX0_counted_0 rfl ?_
  rcases (show what = 0 ∨ what = 1 ∨ what = 2 ∨ what = 3 ∨ what = 4 ∨ what = 5 by omega) with rfl | rfl | rfl | rfl | rfl | rfl
  ·
    refine xw_tabN (pc := 1) (tgt := 36) (a := 0) C dX0_counted_1 (by decide) (by decide) (by decide) rfl (by decide) ?_
    refine xw_aload_n (pc := 36) C 0 dX0_counted_36 rfl ?_
    refine xw_get (pc := 37) (T := TX0) (N := 7) (ref := "ToneButterflies") C hin 0 1 rfl rfl (by decide) (by decide +kernel) rfl rfl dX0_counted_37 ?_
    exact xw_iret (pc := 40) C rX (Nat.le_refl _) (Nat.le_refl _) dX0_counted_40 (PD.i)
  ·
    refine xw_tabN (pc := 1) (tgt := 41) (a := 1) C dX0_counted_1 (by decide) (by decide) (by decide) rfl (by decide) ?_
    refine xw_aload_n (pc := 41) C 0 dX0_counted_41 rfl ?_
    refine xw_get (pc := 42) (T := TX0) (N := 7) (ref := "ToneButterflies") C hin 0 2 rfl rfl (by decide) (by decide +kernel) rfl rfl dX0_counted_42 ?_
    exact xw_iret (pc := 45) C rX (Nat.le_refl _) (Nat.le_refl _) dX0_counted_45 (PD.i)
  ·
    refine xw_tabN (pc := 1) (tgt := 46) (a := 2) C dX0_counted_1 (by decide) (by decide) (by decide) rfl (by decide) ?_
    refine xw_aload_n (pc := 46) C 0 dX0_counted_46 rfl ?_
    refine xw_get (pc := 47) (T := TX0) (N := 7) (ref := "ToneButterflies") C hin 0 4 rfl rfl (by decide) (by decide +kernel) rfl rfl dX0_counted_47 ?_
    exact xw_iret (pc := 50) C rX (Nat.le_refl _) (Nat.le_refl _) dX0_counted_50 (PD.i)
  ·
    refine xw_tabN (pc := 1) (tgt := 51) (a := 3) C dX0_counted_1 (by decide) (by decide) (by decide) rfl (by decide) ?_
    refine xw_aload_n (pc := 51) C 0 dX0_counted_51 rfl ?_
    refine xw_get (pc := 52) (T := TX0) (N := 7) (ref := "ToneButterflies") C hin 0 5 rfl rfl (by decide) (by decide +kernel) rfl rfl dX0_counted_52 ?_
    exact xw_iret (pc := 55) C rX (Nat.le_refl _) (Nat.le_refl _) dX0_counted_55 (PD.i)
  ·
    refine xw_tabN (pc := 1) (tgt := 56) (a := 4) C dX0_counted_1 (by decide) (by decide) (by decide) rfl (by decide) ?_
    refine xw_aload_n (pc := 56) C 0 dX0_counted_56 rfl ?_
    refine xw_get (pc := 57) (T := TX0) (N := 7) (ref := "ToneButterflies") C hin 0 6 rfl rfl (by decide) (by decide +kernel) rfl rfl dX0_counted_57 ?_
    exact xw_iret (pc := 60) C rX (Nat.le_refl _) (Nat.le_refl _) dX0_counted_60 (PD.i)
  ·
    refine xw_tabO (pc := 1) (tgt := 61) (a := 5) C dX0_counted_1 (by decide) (by decide) (by decide) ?_
    refine xw_aload_n (pc := 61) C 0 dX0_counted_61 rfl ?_
    refine xw_get (pc := 62) (T := TX0) (N := 7) (ref := "ToneButterflies") C hin 0 3 rfl rfl (by decide) (by decide +kernel) rfl rfl dX0_counted_62 ?_
    exact xw_iret (pc := 65) C rX (Nat.le_refl _) (Nat.le_refl _) dX0_counted_65 (PD.i)

set_option maxHeartbeats 4000000 in
set_option maxRecDepth 100000 in
theorem m_X0_told {l : Launch} {D : va_G} {cI : ClassId} {h a n p b w wi ni : Nat} {A : Nat → Nat} (hp : 0 < p) (hp5 : p < 500) (hn : n = 4 ∨ n = 8 ∨ n = 16) (hA : ∀ j, A j < 500) (row what : Nat) (hrw : row < 5) (hwh : what < 5) : CT l yX0_told wsX0_told (rmN 3 69) D vwCl [(cI, .int)] [.ref h, nV row, nV what] (wX cI h a n p b w wi ni A) (PD (some (iV (tl p n A row what))) (wX cI h a n p b w wi ni A)) 0 0 := by
  refine ct_of (plainFor_of_name (by decide)) rfl (Nat.le_of_ble_eq_true rfl) (fun φ C rX => ?_)
  refine xw_le (lv' := [(0, .ref h), (1, nV row), (2, nV what)]) rfl ?_
  have hn3 := lt3 hn
  have hsm := sm_le (r := row) hA n
  refine xw_iload_n (pc := 0) C 2 dX0_told_0 rfl ?_
  rcases (show what = 0 ∨ what = 1 ∨ what = 2 ∨ what = 3 ∨ what = 4 by omega) with rfl | rfl | rfl | rfl | rfl
  ·
    refine xw_tabN (pc := 1) (tgt := 32) (a := 0) C dX0_told_1 (by decide) (by decide) (by decide) rfl (by decide) ?_
    refine xw_aload_n (pc := 32) C 0 dX0_told_32 rfl ?_
    refine xw_aload_n (pc := 33) C 0 dX0_told_33 rfl ?_
    refine xw_iload_n (pc := 34) C 1 dX0_told_34 rfl ?_
    refine xw_Vd (pc := 35) (q0 := 0) (na := 1) (rest := [.ref h]) (st' := [nV (sm A row n), .ref h]) C (m_X0_plainSum hn hA row (by omega)) gX0_told_X0_plainSum rfl rfl rfl rfl (by decide +kernel) ⟨Nat.le_of_ble_eq_true rfl, Nat.le_of_ble_eq_true rfl⟩ rfl rfl rfl (Nat.le_of_ble_eq_true rfl) dX0_told_35 ⟨Nat.le_of_ble_eq_true rfl, Nat.le_of_ble_eq_true rfl⟩ rfl ?_
    refine xw_Vd (pc := 38) (q0 := 0) (na := 1) (rest := []) (st' := [nV ((sm A row n) % p)]) C (m_X0_reduced hp hp5 ((sm A row n : Nat) : Int) ((sm A row n) % p) (Int.natCast_emod _ _).symm (rgN (by omega))) gX0_told_X0_reduced rfl rfl rfl rfl (by decide +kernel) ⟨Nat.le_of_ble_eq_true rfl, Nat.le_of_ble_eq_true rfl⟩ rfl rfl rfl (Nat.le_of_ble_eq_true rfl) dX0_told_38 ⟨Nat.le_of_ble_eq_true rfl, Nat.le_of_ble_eq_true rfl⟩ rfl ?_
    exact xw_iret (pc := 41) C rX (Nat.le_refl _) (Nat.le_refl _) dX0_told_41 (PD.i)
  ·
    refine xw_tabN (pc := 1) (tgt := 42) (a := 1) C dX0_told_1 (by decide) (by decide) (by decide) rfl (by decide) ?_
    refine xw_aload_n (pc := 42) C 0 dX0_told_42 rfl ?_
    refine xw_iload_n (pc := 43) C 1 dX0_told_43 rfl ?_
    refine xw_Vd (pc := 44) (q0 := 0) (na := 1) (rest := []) (st' := [nV (cc (fun k => decide (A (16 * row + k) ≠ 0)) n)]) C (m_X0_nonZeros hn (hA) row (by omega)) gX0_told_X0_nonZeros rfl rfl rfl rfl (by decide +kernel) ⟨Nat.le_of_ble_eq_true rfl, Nat.le_of_ble_eq_true rfl⟩ rfl rfl rfl (Nat.le_of_ble_eq_true rfl) dX0_told_44 ⟨Nat.le_of_ble_eq_true rfl, Nat.le_of_ble_eq_true rfl⟩ rfl ?_
    exact xw_iret (pc := 47) C rX (Nat.le_refl _) (Nat.le_refl _) dX0_told_47 (PD.i)
  ·
    refine xw_tabN (pc := 1) (tgt := 48) (a := 2) C dX0_told_1 (by decide) (by decide) (by decide) rfl (by decide) ?_
    refine xw_aload_n (pc := 48) C 0 dX0_told_48 rfl ?_
    refine xw_iload_n (pc := 49) C 1 dX0_told_49 rfl ?_
    refine xw_Vd (pc := 50) (q0 := 0) (na := 1) (rest := []) (st' := [iV (ln A row n)]) C (m_X0_lastNonZero hn hA row (by omega)) gX0_told_X0_lastNonZero rfl rfl rfl rfl (by decide +kernel) ⟨Nat.le_of_ble_eq_true rfl, Nat.le_of_ble_eq_true rfl⟩ rfl rfl rfl (Nat.le_of_ble_eq_true rfl) dX0_told_50 ⟨Nat.le_of_ble_eq_true rfl, Nat.le_of_ble_eq_true rfl⟩ rfl ?_
    exact xw_iret (pc := 53) C rX (Nat.le_refl _) (Nat.le_refl _) dX0_told_53 (PD.i)
  ·
    refine xw_tabN (pc := 1) (tgt := 54) (a := 3) C dX0_told_1 (by decide) (by decide) (by decide) rfl (by decide) ?_
    refine xw_aload_n (pc := 54) C 0 dX0_told_54 rfl ?_
    refine xw_iload_n (pc := 55) C 1 dX0_told_55 rfl ?_
    refine xw_Vd (pc := 56) (q0 := 0) (na := 1) (rest := []) (st' := [nV (pe n A row)]) C (m_X0_period hn hA row (by omega)) gX0_told_X0_period rfl rfl rfl rfl (by decide +kernel) ⟨Nat.le_of_ble_eq_true rfl, Nat.le_of_ble_eq_true rfl⟩ rfl rfl rfl (Nat.le_of_ble_eq_true rfl) dX0_told_56 ⟨Nat.le_of_ble_eq_true rfl, Nat.le_of_ble_eq_true rfl⟩ rfl ?_
    exact xw_iret (pc := 59) C rX (Nat.le_refl _) (Nat.le_refl _) dX0_told_59 (PD.i)
  ·
    refine xw_tabO (pc := 1) (tgt := 60) (a := 4) C dX0_told_1 (by decide) (by decide) (by decide) ?_
    refine xw_aload_n (pc := 60) C 0 dX0_told_60 rfl ?_
    refine xw_iload_n (pc := 61) C 1 dX0_told_61 rfl ?_
    refine xw_Vd (pc := 62) (q0 := 0) (na := 1) (rest := []) (st' := [nV (gr A row n)]) C (m_X0_greatestNumber hn hA row (by omega)) gX0_told_X0_greatestNumber rfl rfl rfl rfl (by decide +kernel) ⟨Nat.le_of_ble_eq_true rfl, Nat.le_of_ble_eq_true rfl⟩ rfl rfl rfl (Nat.le_of_ble_eq_true rfl) dX0_told_62 ⟨Nat.le_of_ble_eq_true rfl, Nat.le_of_ble_eq_true rfl⟩ rfl ?_
    exact xw_iret (pc := 65) C rX (Nat.le_refl _) (Nat.le_refl _) dX0_told_65 (PD.i)
end
section
set_option maxHeartbeats 4000000 in
set_option maxRecDepth 100000 in
theorem m_X0_powerOf {l : Launch} {D : va_G} {cI : ClassId} {h a n p b w wi ni : Nat} {A : Nat → Nat} (hp : 1 < p) (hp5 : p < 500) (base ex : Nat) (hb : base < 500) (hex : ex < 2147483648) : CT l yX0_powerOf wsX0_powerOf (rmN 2 43) D vwCl [(cI, .int)] [.ref h, nV base, nV ex] (wX cI h a n p b w wi ni A) (PD (some (nV (base ^ ex % p))) (wX cI h a n p b w wi ni A)) 0 0 := by
  refine ct_of (plainFor_of_name (by decide)) rfl (Nat.le_of_ble_eq_true rfl) (fun φ C rX => ?_)
  refine xw_le (lv' := [(0, .ref h), (1, nV base), (2, nV ex)]) rfl ?_
  have hp0 : 0 < p := by omega
  refine xw_iconst_N (pc := 0) C 1 dX0_powerOf_0 rfl ?_
  refine xw_istore_n (pc := 1) (lv' := [(0, .ref h), (1, nV base), (2, nV ex), (3, nV 1)]) C [1, 2, 3, 0] dX0_powerOf_1 rfl (by decide) rfl ?_
  refine xw_iload_n (pc := 2) C 1 dX0_powerOf_2 rfl ?_
  refine xw_istore (pc := 3) (lv' := [(0, .ref h), (1, nV base), (2, nV ex), (3, nV 1), (4, nV base)]) C [1, 2, 3, 4, 0] dX0_powerOf_3 (by decide) rfl ?_
  refine xw_iload_n (pc := 5) C 2 dX0_powerOf_5 rfl ?_
  refine xw_istore (pc := 6) (lv' := [(0, .ref h), (1, nV base), (2, nV ex), (3, nV 1), (4, nV base), (5, nV ex)]) C [1, 2, 3, 4, 5, 0] dX0_powerOf_6 (by decide) rfl ?_
  have L8 : ∀ (fuel : Nat) (m acc sq : Nat), m < fuel → m < 2147483648 → acc < p → sq < 500 → acc * sq ^ m % p = base ^ ex % p → xw φ 0 0 (wX cI h a n p b w wi ni A) 8 [(0, .ref h), (1, nV base), (2, nV ex), (3, nV acc), (4, nV sq), (5, nV m)] [] := by
    intro fuel
    induction fuel with
    | zero =>
      intro m acc sq hk hm hacc hsq hinv
      omega
    | succ fuel ih8 =>
      intro m acc sq hk hm hacc hsq hinv
      refine xw_iload (pc := 8) C 5 dX0_powerOf_8 rfl ?_
      refine xw_if_le_N (pc := 10) (tgt := 50) C dX0_powerOf_10 (by decide) (by omega) (fun c_1 => ?_) (fun c_1 => ?_)
      ·
        obtain rfl : m = 0 := by omega
        refine xw_iload_n (pc := 50) C 3 dX0_powerOf_50 rfl ?_
        exact xw_iret (pc := 51) C rX (Nat.le_refl _) (Nat.le_refl _) dX0_powerOf_51 (PD.e (by rw [← hinv, Nat.pow_zero, Nat.mul_one, Nat.mod_eq_of_lt hacc]) rfl)
      ·
        refine xw_iload (pc := 13) C 5 dX0_powerOf_13 rfl ?_
        refine xw_iconst_N (pc := 15) C 1 dX0_powerOf_15 rfl ?_
        refine xw_iand (pc := 16) (r := iI ((m % 2 : Nat) : Int)) C dX0_powerOf_16 (and_1 hm) ?_
        refine xw_iconst_N (pc := 17) C 1 dX0_powerOf_17 rfl ?_
        refine xw_icmp_ne_N (pc := 18) (tgt := 30) C dX0_powerOf_18 (by decide) (by omega) (by omega) (fun c_2 => ?_) (fun c_2 => ?_)
        ·
          refine xw_aload_n (pc := 30) C 0 dX0_powerOf_30 rfl ?_
          refine xw_iload (pc := 31) C 4 dX0_powerOf_31 rfl ?_
          refine xw_iload (pc := 33) C 4 dX0_powerOf_33 rfl ?_
          refine xw_imul_N (pc := 35) C dX0_powerOf_35 ?_
          refine xw_Vd (pc := 36) (q0 := 0) (na := 1) (rest := []) (st' := [nV ((sq * sq) % p)]) C (m_X0_reduced (show 0 < p by omega) hp5 ((sq * sq : Nat) : Int) ((sq * sq) % p) (Int.natCast_emod _ _).symm (rgN (mb0 hsq hsq))) gX0_powerOf_X0_reduced rfl rfl rfl rfl (by decide +kernel) ⟨Nat.le_of_ble_eq_true rfl, Nat.le_of_ble_eq_true rfl⟩ rfl rfl rfl (Nat.le_of_ble_eq_true rfl) dX0_powerOf_36 ⟨Nat.le_of_ble_eq_true rfl, Nat.le_of_ble_eq_true rfl⟩ rfl ?_
          refine xw_istore (pc := 39) (lv' := [(0, .ref h), (1, nV base), (2, nV ex), (3, nV acc), (4, nV ((sq * sq) % p)), (5, nV m)]) C [1, 2, 3, 4, 0, 5] dX0_powerOf_39 (by decide) rfl ?_
          refine xw_iload (pc := 41) C 5 dX0_powerOf_41 rfl ?_
          refine xw_iconst_N (pc := 43) C 1 dX0_powerOf_43 rfl ?_
          refine xw_ishr (pc := 44) (r := iI ((m / 2 : Nat) : Int)) C dX0_powerOf_44 (shr_1 hm) ?_
          refine xw_istore (pc := 45) (lv' := [(0, .ref h), (1, nV base), (2, nV ex), (3, nV acc), (4, nV ((sq * sq) % p)), (5, nV (m / 2))]) C [1, 2, 3, 4, 5, 0] dX0_powerOf_45 (by decide) rfl ?_
          refine xw_goto (pc := 47) (tgt := 8) C dX0_powerOf_47 (by decide) ?_
          exact ih8 (m / 2) _ _ (by omega) (by omega) hacc (ml hp0 hp5) (by rw [pq_even, show 2 * (m / 2) = m by omega]; exact hinv)
        ·
          refine xw_aload_n (pc := 21) C 0 dX0_powerOf_21 rfl ?_
          refine xw_iload_n (pc := 22) C 3 dX0_powerOf_22 rfl ?_
          refine xw_iload (pc := 23) C 4 dX0_powerOf_23 rfl ?_
          refine xw_imul_N (pc := 25) C dX0_powerOf_25 ?_
          refine xw_Vd (pc := 26) (q0 := 0) (na := 1) (rest := []) (st' := [nV ((acc * sq) % p)]) C (m_X0_reduced (show 0 < p by omega) hp5 ((acc * sq : Nat) : Int) ((acc * sq) % p) (Int.natCast_emod _ _).symm (rgN (mb0 (by omega) hsq))) gX0_powerOf_X0_reduced rfl rfl rfl rfl (by decide +kernel) ⟨Nat.le_of_ble_eq_true rfl, Nat.le_of_ble_eq_true rfl⟩ rfl rfl rfl (Nat.le_of_ble_eq_true rfl) dX0_powerOf_26 ⟨Nat.le_of_ble_eq_true rfl, Nat.le_of_ble_eq_true rfl⟩ rfl ?_
          refine xw_istore_n (pc := 29) (lv' := [(0, .ref h), (1, nV base), (2, nV ex), (3, nV ((acc * sq) % p)), (4, nV sq), (5, nV m)]) C [1, 2, 3, 0, 4, 5] dX0_powerOf_29 rfl (by decide) rfl ?_
          refine xw_aload_n (pc := 30) C 0 dX0_powerOf_30 rfl ?_
          refine xw_iload (pc := 31) C 4 dX0_powerOf_31 rfl ?_
          refine xw_iload (pc := 33) C 4 dX0_powerOf_33 rfl ?_
          refine xw_imul_N (pc := 35) C dX0_powerOf_35 ?_
          refine xw_Vd (pc := 36) (q0 := 0) (na := 1) (rest := []) (st' := [nV ((sq * sq) % p)]) C (m_X0_reduced (show 0 < p by omega) hp5 ((sq * sq : Nat) : Int) ((sq * sq) % p) (Int.natCast_emod _ _).symm (rgN (mb0 hsq hsq))) gX0_powerOf_X0_reduced rfl rfl rfl rfl (by decide +kernel) ⟨Nat.le_of_ble_eq_true rfl, Nat.le_of_ble_eq_true rfl⟩ rfl rfl rfl (Nat.le_of_ble_eq_true rfl) dX0_powerOf_36 ⟨Nat.le_of_ble_eq_true rfl, Nat.le_of_ble_eq_true rfl⟩ rfl ?_
          refine xw_istore (pc := 39) (lv' := [(0, .ref h), (1, nV base), (2, nV ex), (3, nV ((acc * sq) % p)), (4, nV ((sq * sq) % p)), (5, nV m)]) C [1, 2, 3, 4, 0, 5] dX0_powerOf_39 (by decide) rfl ?_
          refine xw_iload (pc := 41) C 5 dX0_powerOf_41 rfl ?_
          refine xw_iconst_N (pc := 43) C 1 dX0_powerOf_43 rfl ?_
          refine xw_ishr (pc := 44) (r := iI ((m / 2 : Nat) : Int)) C dX0_powerOf_44 (shr_1 hm) ?_
          refine xw_istore (pc := 45) (lv' := [(0, .ref h), (1, nV base), (2, nV ex), (3, nV ((acc * sq) % p)), (4, nV ((sq * sq) % p)), (5, nV (m / 2))]) C [1, 2, 3, 4, 5, 0] dX0_powerOf_45 (by decide) rfl ?_
          refine xw_goto (pc := 47) (tgt := 8) C dX0_powerOf_47 (by decide) ?_
          exact ih8 (m / 2) _ _ (by omega) (by omega) (Nat.mod_lt _ hp0) (ml hp0 hp5) (by rw [pq_odd, show 2 * (m / 2) + 1 = m by omega]; exact hinv)
  exact L8 (ex + 1) ex 1 base (by omega) (by omega) (by omega) hb (by rw [Nat.one_mul])

set_option maxHeartbeats 4000000 in
set_option maxRecDepth 100000 in
theorem m_X0_inverseOf {l : Launch} {D : va_G} {cI : ClassId} {h a n p b w wi ni : Nat} {A : Nat → Nat} (hp : 1 < p) (hp5 : p < 500) (v : Nat) (hv : v < 500) : CT l yX0_inverseOf wsX0_inverseOf (rmN 3 68) D vwCl [(cI, .int)] [.ref h, nV v] (wX cI h a n p b w wi ni A) (PD (some (nV (v ^ (p - 2) % p))) (wX cI h a n p b w wi ni A)) 0 0 := by
  refine ct_of (plainFor_of_name (by decide)) rfl (Nat.le_of_ble_eq_true rfl) (fun φ C rX => ?_)
  have hin : ∀ w ∈ wsX00, w ∈ wsX0_inverseOf := by decide +kernel
  refine xw_le (lv' := [(0, .ref h), (1, nV v)]) rfl ?_
  refine xw_aload_n (pc := 0) C 0 dX0_inverseOf_0 rfl ?_
  refine xw_iload_n (pc := 1) C 1 dX0_inverseOf_1 rfl ?_
  refine xw_aload_n (pc := 2) C 0 dX0_inverseOf_2 rfl ?_
  refine xw_get (pc := 3) (T := TX0) (N := 7) (ref := "ToneButterflies") C hin 0 2 rfl rfl (by decide) (by decide +kernel) rfl rfl dX0_inverseOf_3 ?_
  refine xw_iconst_N (pc := 6) C 2 dX0_inverseOf_6 rfl ?_
  refine xw_isub_N (pc := 7) C dX0_inverseOf_7 (by omega) ?_
  refine xw_Vd (pc := 8) (q0 := 0) (na := 2) (rest := []) (st' := [nV (v ^ (p - 2) % p)]) C (m_X0_powerOf hp hp5 v (p - 2) (by omega) (by omega)) gX0_inverseOf_X0_powerOf rfl rfl rfl rfl (by decide +kernel) ⟨Nat.le_of_ble_eq_true rfl, Nat.le_of_ble_eq_true rfl⟩ rfl rfl rfl (Nat.le_of_ble_eq_true rfl) dX0_inverseOf_8 ⟨Nat.le_of_ble_eq_true rfl, Nat.le_of_ble_eq_true rfl⟩ rfl ?_
  exact xw_iret (pc := 11) C rX (Nat.le_refl _) (Nat.le_refl _) dX0_inverseOf_11 (PD.i)

set_option maxHeartbeats 4000000 in
set_option maxRecDepth 100000 in
theorem m_X0_smallestRoot {l : Launch} {D : va_G} {cI : ClassId} {h a n p b w wi ni : Nat} {A : Nat → Nat} (hp : 4 < p) (hp5 : p < 500) (hn : n = 4 ∨ n = 8 ∨ n = 16) : CT l yX0_smallestRoot wsX0_smallestRoot (rmN 3 68) D vwCl [(cI, .int)] [.ref h] (wX cI h a n p b w wi ni A) (PD (some (nV (rt n p))) (wX cI h a n p b w wi ni A)) 0 0 := by
  refine ct_of (plainFor_of_name (by decide)) rfl (Nat.le_of_ble_eq_true rfl) (fun φ C rX => ?_)
  have hin : ∀ w ∈ wsX00, w ∈ wsX0_smallestRoot := by decide +kernel
  refine xw_le (lv' := [(0, .ref h)]) rfl ?_
  have hn3 := lt3 hn
  have hp1 : 1 < p := by omega
  refine xw_iconst_N (pc := 0) C 2 dX0_smallestRoot_0 rfl ?_
  refine xw_istore_n (pc := 1) (lv' := [(0, .ref h), (1, nV 2)]) C [1, 0] dX0_smallestRoot_1 rfl (by decide) rfl ?_
  have L2 : ∀ (fuel : Nat) (k : Nat), p < k + fuel → 2 ≤ k → k ≤ p - 1 → rt n p = fs (fun c => decide (c ^ (n / 2) % p = p - 1)) (p - 1 - k) k → xw φ 0 0 (wX cI h a n p b w wi ni A) 2 [(0, .ref h), (1, nV k)] [] := by
    intro fuel
    induction fuel with
    | zero =>
      intro k hk hk1 hkn hfs
      omega
    | succ fuel ih2 =>
      intro k hk hk1 hkn hfs
      refine xw_iload_n (pc := 2) C 1 dX0_smallestRoot_2 rfl ?_
      refine xw_aload_n (pc := 3) C 0 dX0_smallestRoot_3 rfl ?_
      refine xw_get (pc := 4) (T := TX0) (N := 7) (ref := "ToneButterflies") C hin 0 2 rfl rfl (by decide) (by decide +kernel) rfl rfl dX0_smallestRoot_4 ?_
      refine xw_iconst_N (pc := 7) C 1 dX0_smallestRoot_7 rfl ?_
      refine xw_isub_N (pc := 8) C dX0_smallestRoot_8 (by omega) ?_
      refine xw_icmp_ge_N (pc := 9) (tgt := 38) C dX0_smallestRoot_9 (by decide) (by omega) (by omega) (fun c_1 => ?_) (fun c_1 => ?_)
      ·
        obtain rfl : k = p - 1 := by omega
        refine xw_iload_n (pc := 38) C 1 dX0_smallestRoot_38 rfl ?_
        exact xw_iret (pc := 39) C rX (Nat.le_refl _) (Nat.le_refl _) dX0_smallestRoot_39 (PD.e (by rw [hfs, Nat.sub_self, fs]) rfl)
      ·
        refine xw_aload_n (pc := 12) C 0 dX0_smallestRoot_12 rfl ?_
        refine xw_iload_n (pc := 13) C 1 dX0_smallestRoot_13 rfl ?_
        refine xw_aload_n (pc := 14) C 0 dX0_smallestRoot_14 rfl ?_
        refine xw_get (pc := 15) (T := TX0) (N := 7) (ref := "ToneButterflies") C hin 0 1 rfl rfl (by decide) (by decide +kernel) rfl rfl dX0_smallestRoot_15 ?_
        refine xw_iconst_N (pc := 18) C 1 dX0_smallestRoot_18 rfl ?_
        refine xw_ishr (pc := 19) (r := iI ((n / 2 : Nat) : Int)) C dX0_smallestRoot_19 (shr_1 (by omega)) ?_
        refine xw_Vd (pc := 20) (q0 := 0) (na := 2) (rest := []) (st' := [nV (k ^ (n / 2) % p)]) C (m_X0_powerOf hp1 hp5 k (n / 2) (by omega) (by omega)) gX0_smallestRoot_X0_powerOf rfl rfl rfl rfl (by decide +kernel) ⟨Nat.le_of_ble_eq_true rfl, Nat.le_of_ble_eq_true rfl⟩ rfl rfl rfl (Nat.le_of_ble_eq_true rfl) dX0_smallestRoot_20 ⟨Nat.le_of_ble_eq_true rfl, Nat.le_of_ble_eq_true rfl⟩ rfl ?_
        have hm3 := Nat.mod_lt (k ^ (n / 2)) (show p > 0 by omega)
        refine xw_aload_n (pc := 23) C 0 dX0_smallestRoot_23 rfl ?_
        refine xw_get (pc := 24) (T := TX0) (N := 7) (ref := "ToneButterflies") C hin 0 2 rfl rfl (by decide) (by decide +kernel) rfl rfl dX0_smallestRoot_24 ?_
        refine xw_iconst_N (pc := 27) C 1 dX0_smallestRoot_27 rfl ?_
        refine xw_isub_N (pc := 28) C dX0_smallestRoot_28 (by omega) ?_
        refine xw_icmp_eq_N (pc := 29) (tgt := 38) C dX0_smallestRoot_29 (by decide) (by omega) (by omega) (fun c_2 => ?_) (fun c_2 => ?_)
        ·
          refine xw_iload_n (pc := 38) C 1 dX0_smallestRoot_38 rfl ?_
          exact xw_iret (pc := 39) C rX (Nat.le_refl _) (Nat.le_refl _) dX0_smallestRoot_39 (PD.e (by rw [hfs, show p - 1 - k = (p - 1 - (k + 1)) + 1 by omega, fs_t (decide_eq_true c_2)]) rfl)
        ·
          refine xw_iinc_N (pc := 32) (b := k + 1) (lv' := [(0, .ref h), (1, nV (k + 1))]) C 1 [1, 0] dX0_smallestRoot_32 rfl (by decide) rfl rfl ?_
          refine xw_goto (pc := 35) (tgt := 2) C dX0_smallestRoot_35 (by decide) ?_
          exact ih2 (k + 1) (by omega) (by omega) (by omega) (by rw [hfs, show p - 1 - k = (p - 1 - (k + 1)) + 1 by omega, fs_f (decide_eq_false c_2)])
  exact L2 (p + 1) 2 (by omega) (by omega) (by omega) (by unfold rt; rw [show p - 1 - 2 = p - 3 by omega])

set_option maxHeartbeats 4000000 in
set_option maxRecDepth 100000 in
theorem m_X0_divides {l : Launch} {D : va_G} {tys : List (ClassId × FieldType)} {w0 : va_W} (d v : Nat) (hd : 0 < d) (hd5 : d < 2147483648) (hv : v < 2147483648) : CT l yX0_divides wsX0_divides (rmN 0 0) D vwCl tys [nV d, nV v] w0 (PD (some (bV (decide (v % d = 0)))) w0) 0 0 := by
  refine ct_of (plainFor_of_name (by decide)) rfl (Nat.le_of_ble_eq_true rfl) (fun φ C rX => ?_)
  refine xw_le (lv' := [(0, nV d), (1, nV v)]) rfl ?_
  refine xw_iload_n (pc := 0) C 0 dX0_divides_0 rfl ?_
  refine xw_if_le_N (pc := 1) (tgt := 14) C dX0_divides_1 (by decide) (by omega) (fun c_1 => (by exfalso; omega)) (fun c_1 => ?_)
  refine xw_iload_n (pc := 4) C 1 dX0_divides_4 rfl ?_
  refine xw_iload_n (pc := 5) C 0 dX0_divides_5 rfl ?_
  refine xw_irem_N (pc := 6) C dX0_divides_6 (by omega) (by omega) ?_
  have hm1 := Nat.mod_lt v hd
  refine xw_if_ne_N (pc := 7) (tgt := 14) C dX0_divides_7 (by decide) (by omega) (fun c_2 => ?_) (fun c_2 => ?_)
  ·
    refine xw_iconst_N (pc := 14) C 0 dX0_divides_14 rfl ?_
    refine xw_st (st' := [bV false]) rfl ?_
    exact xw_bret (pc := 15) C rX (Nat.le_refl _) (Nat.le_refl _) dX0_divides_15 (PD.e (by rw [decide_eq_false c_2]) rfl)
  ·
    refine xw_iconst_N (pc := 10) C 1 dX0_divides_10 rfl ?_
    refine xw_goto (pc := 11) (tgt := 15) C dX0_divides_11 (by decide) ?_
    refine xw_st (st' := [bV true]) rfl ?_
    exact xw_bret (pc := 15) C rX (Nat.le_refl _) (Nat.le_refl _) dX0_divides_15 (PD.e (by rw [decide_eq_true c_2]) rfl)

set_option maxHeartbeats 4000000 in
set_option maxRecDepth 100000 in
theorem m_X0_isLength {l : Launch} {D : va_G} {tys : List (ClassId × FieldType)} {w0 : va_W} (z : Int) (hz : -2147483648 ≤ z ∧ z < 2147483648) : CT l yX0_isLength wsX0_isLength (rmN 0 0) D vwCl tys [iV z] w0 (PD (some (bV (decide (z = 4 ∨ z = 8 ∨ z = 16)))) w0) 0 0 := by
  refine ct_of (plainFor_of_name (by decide)) rfl (Nat.le_of_ble_eq_true rfl) (fun φ C rX => ?_)
  refine xw_le (lv' := [(0, iV z)]) rfl ?_
  refine xw_iload_n (pc := 0) C 0 dX0_isLength_0 rfl ?_
  refine xw_iconst_N (pc := 1) C 4 dX0_isLength_1 rfl ?_
  refine xw_icmp_eq (pc := 2) (tgt := 17) C dX0_isLength_2 (by decide) (by omega) (by omega) (fun c_1 => ?_) (fun c_1 => ?_)
  ·
    refine xw_iconst_N (pc := 17) C 1 dX0_isLength_17 rfl ?_
    refine xw_goto (pc := 18) (tgt := 22) C dX0_isLength_18 (by decide) ?_
    refine xw_st (st' := [bV true]) rfl ?_
    exact xw_bret (pc := 22) C rX (Nat.le_refl _) (Nat.le_refl _) dX0_isLength_22 (PD.e (by first | rw [decide_eq_true (by omega)] | rw [decide_eq_false (by omega)]) rfl)
  ·
    refine xw_iload_n (pc := 5) C 0 dX0_isLength_5 rfl ?_
    refine xw_bipush_N (pc := 6) C 8 dX0_isLength_6 (by decide) ?_
    refine xw_icmp_eq (pc := 8) (tgt := 17) C dX0_isLength_8 (by decide) (by omega) (by omega) (fun c_2 => ?_) (fun c_2 => ?_)
    ·
      refine xw_iconst_N (pc := 17) C 1 dX0_isLength_17 rfl ?_
      refine xw_goto (pc := 18) (tgt := 22) C dX0_isLength_18 (by decide) ?_
      refine xw_st (st' := [bV true]) rfl ?_
      exact xw_bret (pc := 22) C rX (Nat.le_refl _) (Nat.le_refl _) dX0_isLength_22 (PD.e (by first | rw [decide_eq_true (by omega)] | rw [decide_eq_false (by omega)]) rfl)
    ·
      refine xw_iload_n (pc := 11) C 0 dX0_isLength_11 rfl ?_
      refine xw_bipush_N (pc := 12) C 16 dX0_isLength_12 (by decide) ?_
      refine xw_icmp_ne (pc := 14) (tgt := 21) C dX0_isLength_14 (by decide) (by omega) (by omega) (fun c_3 => ?_) (fun c_3 => ?_)
      ·
        refine xw_iconst_N (pc := 21) C 0 dX0_isLength_21 rfl ?_
        refine xw_st (st' := [bV false]) rfl ?_
        exact xw_bret (pc := 22) C rX (Nat.le_refl _) (Nat.le_refl _) dX0_isLength_22 (PD.e (by first | rw [decide_eq_true (by omega)] | rw [decide_eq_false (by omega)]) rfl)
      ·
        refine xw_iconst_N (pc := 17) C 1 dX0_isLength_17 rfl ?_
        refine xw_goto (pc := 18) (tgt := 22) C dX0_isLength_18 (by decide) ?_
        refine xw_st (st' := [bV true]) rfl ?_
        exact xw_bret (pc := 22) C rX (Nat.le_refl _) (Nat.le_refl _) dX0_isLength_22 (PD.e (by first | rw [decide_eq_true (by omega)] | rw [decide_eq_false (by omega)]) rfl)

set_option maxHeartbeats 4000000 in
set_option maxRecDepth 100000 in
theorem m_X0_isPrimeOfRing {l : Launch} {D : va_G} {tys : List (ClassId × FieldType)} {w0 : va_W} (z : Int) (hz : -2147483648 ≤ z ∧ z < 2147483648) : CT l yX0_isPrimeOfRing wsX0_isPrimeOfRing (rmN 1 21) D vwCl tys [iV z] w0 (PD (some (bV (decide (5 ≤ z ∧ z ≤ 499) && prm z.toNat))) w0) 0 0 := by
  refine ct_of (plainFor_of_name (by decide)) rfl (Nat.le_of_ble_eq_true rfl) (fun φ C rX => ?_)
  refine xw_le (lv' := [(0, iV z)]) rfl ?_
  refine xw_iload_n (pc := 0) C 0 dX0_isPrimeOfRing_0 rfl ?_
  refine xw_iconst_N (pc := 1) C 5 dX0_isPrimeOfRing_1 rfl ?_
  refine xw_icmp_lt (pc := 2) (tgt := 12) C dX0_isPrimeOfRing_2 (by decide) (by omega) (by omega) (fun c_1 => ?_) (fun c_1 => ?_)
  ·
    refine xw_iconst_N (pc := 12) C 0 dX0_isPrimeOfRing_12 rfl ?_
    refine xw_st (st' := [bV false]) rfl ?_
    exact xw_bret (pc := 13) C rX (Nat.le_refl _) (Nat.le_refl _) dX0_isPrimeOfRing_13 (PD.e (by rw [decide_eq_false (by omega)]; rfl) rfl)
  ·
    refine xw_iload_n (pc := 5) C 0 dX0_isPrimeOfRing_5 rfl ?_
    refine xw_sipush_N (pc := 6) C 499 dX0_isPrimeOfRing_6 (by decide) ?_
    refine xw_icmp_le (pc := 9) (tgt := 14) C dX0_isPrimeOfRing_9 (by decide) (by omega) (by omega) (fun c_2 => ?_) (fun c_2 => ?_)
    ·
      obtain ⟨v, rfl⟩ : ∃ v : Nat, z = (v : Int) := ⟨z.toNat, by omega⟩
      refine xw_iconst_N (pc := 14) C 2 dX0_isPrimeOfRing_14 rfl ?_
      refine xw_istore_n (pc := 15) (lv' := [(0, nV v), (1, nV 2)]) C [1, 0] dX0_isPrimeOfRing_15 rfl (by decide) rfl ?_
      have L16 : ∀ (fuel : Nat) (k : Nat), 23 < k + fuel → 2 ≤ k → k ≤ 23 → (∀ j, 2 ≤ j → j < k → ¬ v % j = 0) → xw φ 0 0 (w0) 16 [(0, nV v), (1, nV k)] [] := by
        intro fuel
        induction fuel with
        | zero =>
          intro k hk hk2 hk3 hall
          omega
        | succ fuel ih16 =>
          intro k hk hk2 hk3 hall
          refine xw_iload_n (pc := 16) C 1 dX0_isPrimeOfRing_16 rfl ?_
          refine xw_iload_n (pc := 17) C 1 dX0_isPrimeOfRing_17 rfl ?_
          refine xw_imul_N (pc := 18) C dX0_isPrimeOfRing_18 ?_
          refine xw_iload_n (pc := 19) C 0 dX0_isPrimeOfRing_19 rfl ?_
          have hkk := Nat.mul_le_mul hk3 hk3
          refine xw_icmp_gt_N (pc := 20) (tgt := 39) C dX0_isPrimeOfRing_20 (by decide) (by omega) (by omega) (fun c_3 => ?_) (fun c_3 => ?_)
          ·
            refine xw_iconst_N (pc := 39) C 1 dX0_isPrimeOfRing_39 rfl ?_
            refine xw_st (st' := [bV true]) rfl ?_
            exact xw_bret (pc := 40) C rX (Nat.le_refl _) (Nat.le_refl _) dX0_isPrimeOfRing_40 (PD.e (by rw [show ((v : Int)).toNat = v from rfl, decide_eq_true (by omega), prm_t hall c_3]; rfl) rfl)
          ·
            have hk23 := sq_lt (v := v) (k := k) (by omega) (by omega)
            refine xw_iload_n (pc := 23) C 1 dX0_isPrimeOfRing_23 rfl ?_
            refine xw_iload_n (pc := 24) C 0 dX0_isPrimeOfRing_24 rfl ?_
            refine xw_Sd (pc := 25) (na := 2) (rest := []) (st' := [bV (decide (v % k = 0))]) C (m_X0_divides k v (by omega) (by omega) (by omega)) gX0_isPrimeOfRing_X0_divides rfl rfl rfl rfl (by decide +kernel) ⟨Nat.le_of_ble_eq_true rfl, Nat.le_of_ble_eq_true rfl⟩ rfl (Nat.le_of_ble_eq_true rfl) dX0_isPrimeOfRing_25 ⟨Nat.le_of_ble_eq_true rfl, Nat.le_of_ble_eq_true rfl⟩ rfl ?_
            refine xw_if_eq_B (pc := 28) (tgt := 33) C dX0_isPrimeOfRing_28 (by decide)  (fun c_4 => ?_) (fun c_4 => ?_)
            ·
              refine xw_iinc_N (pc := 33) (b := k + 1) (lv' := [(0, nV v), (1, nV (k + 1))]) C 1 [1, 0] dX0_isPrimeOfRing_33 rfl (by decide) rfl rfl ?_
              refine xw_goto (pc := 36) (tgt := 16) C dX0_isPrimeOfRing_36 (by decide) ?_
              exact ih16 (k + 1) (by omega) (by omega) (by omega) (fun j h1 h2 => by rcases Nat.lt_or_ge j k with q | q; exact hall j h1 q; rw [show j = k by omega]; exact of_decide_eq_false c_4)
            ·
              refine xw_iconst_N (pc := 31) C 0 dX0_isPrimeOfRing_31 rfl ?_
              refine xw_st (st' := [bV false]) rfl ?_
              exact xw_bret (pc := 32) C rX (Nat.le_refl _) (Nat.le_refl _) dX0_isPrimeOfRing_32 (PD.e (by rw [show ((v : Int)).toNat = v from rfl, prm_f hk23 hk2 (by omega) (of_decide_eq_true c_4), Bool.and_false]) rfl)
      exact L16 24 2 (by omega) (by omega) (by omega) (fun j h1 h2 => absurd h2 (by omega))
    ·
      refine xw_iconst_N (pc := 12) C 0 dX0_isPrimeOfRing_12 rfl ?_
      refine xw_st (st' := [bV false]) rfl ?_
      exact xw_bret (pc := 13) C rX (Nat.le_refl _) (Nat.le_refl _) dX0_isPrimeOfRing_13 (PD.e (by rw [decide_eq_false (by omega)]; rfl) rfl)

set_option maxHeartbeats 4000000 in
set_option maxRecDepth 100000 in
theorem m_X0_joined {l : Launch} {D : va_G} {cI : ClassId} {h a n p b w wi ni : Nat} {A : Nat → Nat} (hp : 0 < p) (hp5 : p < 500) (x y what : Nat) (hx : x < 500) (hy : y ≤ p) (hwh : what < 3) : CT l yX0_joined wsX0_joined (rmN 2 43) D vwCl [(cI, .int)] [.ref h, nV x, nV y, nV what] (wX cI h a n p b w wi ni A) (PD (some (nV (jn p x y what))) (wX cI h a n p b w wi ni A)) 0 0 := by
  refine ct_of (plainFor_of_name (by decide)) rfl (Nat.le_of_ble_eq_true rfl) (fun φ C rX => ?_)
  refine xw_le (lv' := [(0, .ref h), (1, nV x), (2, nV y), (3, nV what)]) rfl ?_
  refine xw_iload_n (pc := 0) C 3 dX0_joined_0 rfl ?_
  refine xw_if_ne_N (pc := 1) (tgt := 12) C dX0_joined_1 (by decide) (by omega) (fun c_1 => ?_) (fun c_1 => ?_)
  ·
    refine xw_iload_n (pc := 12) C 3 dX0_joined_12 rfl ?_
    refine xw_iconst_N (pc := 13) C 1 dX0_joined_13 rfl ?_
    refine xw_icmp_ne_N (pc := 14) (tgt := 25) C dX0_joined_14 (by decide) (by omega) (by omega) (fun c_2 => ?_) (fun c_2 => ?_)
    ·
      obtain rfl : what = 2 := by omega
      refine xw_aload_n (pc := 25) C 0 dX0_joined_25 rfl ?_
      refine xw_iload_n (pc := 26) C 1 dX0_joined_26 rfl ?_
      refine xw_iload_n (pc := 27) C 2 dX0_joined_27 rfl ?_
      refine xw_imul_N (pc := 28) C dX0_joined_28 ?_
      refine xw_Vd (pc := 29) (q0 := 0) (na := 1) (rest := []) (st' := [nV ((x * y) % p)]) C (m_X0_reduced (show 0 < p by omega) hp5 ((x * y : Nat) : Int) ((x * y) % p) (Int.natCast_emod _ _).symm (rgN (mb0 hx (by omega)))) gX0_joined_X0_reduced rfl rfl rfl rfl (by decide +kernel) ⟨Nat.le_of_ble_eq_true rfl, Nat.le_of_ble_eq_true rfl⟩ rfl rfl rfl (Nat.le_of_ble_eq_true rfl) dX0_joined_29 ⟨Nat.le_of_ble_eq_true rfl, Nat.le_of_ble_eq_true rfl⟩ rfl ?_
      exact xw_iret (pc := 32) C rX (Nat.le_refl _) (Nat.le_refl _) dX0_joined_32 (PD.i)
    ·
      obtain rfl : what = 1 := by omega
      refine xw_aload_n (pc := 17) C 0 dX0_joined_17 rfl ?_
      refine xw_iload_n (pc := 18) C 1 dX0_joined_18 rfl ?_
      refine xw_iload_n (pc := 19) C 2 dX0_joined_19 rfl ?_
      refine xw_isub (pc := 20) C dX0_joined_20 ?_
      refine xw_Vd (pc := 21) (q0 := 0) (na := 1) (rest := []) (st' := [nV ((x + p - y) % p)]) C (m_X0_reduced (show 0 < p by omega) hp5 ((((x : Nat) : Int)) - (((y : Nat) : Int))) ((x + p - y) % p) (sub_em hy) (by omega)) gX0_joined_X0_reduced rfl rfl rfl rfl (by decide +kernel) ⟨Nat.le_of_ble_eq_true rfl, Nat.le_of_ble_eq_true rfl⟩ rfl rfl rfl (Nat.le_of_ble_eq_true rfl) dX0_joined_21 ⟨Nat.le_of_ble_eq_true rfl, Nat.le_of_ble_eq_true rfl⟩ rfl ?_
      exact xw_iret (pc := 24) C rX (Nat.le_refl _) (Nat.le_refl _) dX0_joined_24 (PD.i)
  ·
    obtain rfl : what = 0 := by omega
    refine xw_aload_n (pc := 4) C 0 dX0_joined_4 rfl ?_
    refine xw_iload_n (pc := 5) C 1 dX0_joined_5 rfl ?_
    refine xw_iload_n (pc := 6) C 2 dX0_joined_6 rfl ?_
    refine xw_iadd_N (pc := 7) C dX0_joined_7 ?_
    refine xw_Vd (pc := 8) (q0 := 0) (na := 1) (rest := []) (st' := [nV ((x + y) % p)]) C (m_X0_reduced (show 0 < p by omega) hp5 ((x + y : Nat) : Int) ((x + y) % p) (Int.natCast_emod _ _).symm (rgN (by omega))) gX0_joined_X0_reduced rfl rfl rfl rfl (by decide +kernel) ⟨Nat.le_of_ble_eq_true rfl, Nat.le_of_ble_eq_true rfl⟩ rfl rfl rfl (Nat.le_of_ble_eq_true rfl) dX0_joined_8 ⟨Nat.le_of_ble_eq_true rfl, Nat.le_of_ble_eq_true rfl⟩ rfl ?_
    exact xw_iret (pc := 11) C rX (Nat.le_refl _) (Nat.le_refl _) dX0_joined_11 (PD.i)

set_option maxHeartbeats 4000000 in
set_option maxRecDepth 100000 in
theorem m_X0_mirrored {l : Launch} {D : va_G} {cI : ClassId} {h a n p b w wi ni : Nat} {A : Nat → Nat} (hb : b < 5) (q : Nat) (hq : q < 16) : CT l yX0_mirrored wsX0_mirrored (rmN 0 0) D vwCl [(cI, .int)] [.ref h, nV q] (wX cI h a n p b w wi ni A) (PD (some (nV (mi q b))) (wX cI h a n p b w wi ni A)) 0 0 := by
  refine ct_of (plainFor_of_name (by decide)) rfl (Nat.le_of_ble_eq_true rfl) (fun φ C rX => ?_)
  have hin : ∀ w ∈ wsX00, w ∈ wsX0_mirrored := by decide +kernel
  refine xw_le (lv' := [(0, .ref h), (1, nV q)]) rfl ?_
  refine xw_iconst_N (pc := 0) C 0 dX0_mirrored_0 rfl ?_
  refine xw_istore_n (pc := 1) (lv' := [(0, .ref h), (1, nV q), (2, nV 0)]) C [1, 2, 0] dX0_mirrored_1 rfl (by decide) rfl ?_
  refine xw_iconst_N (pc := 2) C 0 dX0_mirrored_2 rfl ?_
  refine xw_istore_n (pc := 3) (lv' := [(0, .ref h), (1, nV q), (2, nV 0), (3, nV 0)]) C [1, 2, 3, 0] dX0_mirrored_3 rfl (by decide) rfl ?_
  have L4 : ∀ (fuel : Nat) (k acc : Nat), b < k + fuel → k ≤ b → acc = mi q k → xw φ 0 0 (wX cI h a n p b w wi ni A) 4 [(0, .ref h), (1, nV q), (2, nV acc), (3, nV k)] [] := by
    intro fuel
    induction fuel with
    | zero =>
      intro k acc hk hkb hacc
      omega
    | succ fuel ih4 =>
      intro k acc hk hkb hacc
      refine xw_iload_n (pc := 4) C 3 dX0_mirrored_4 rfl ?_
      refine xw_aload_n (pc := 5) C 0 dX0_mirrored_5 rfl ?_
      refine xw_get (pc := 6) (T := TX0) (N := 7) (ref := "ToneButterflies") C hin 0 3 rfl rfl (by decide) (by decide +kernel) rfl rfl dX0_mirrored_6 ?_
      refine xw_icmp_ge_N (pc := 9) (tgt := 28) C dX0_mirrored_9 (by decide) (by omega) (by omega) (fun c_1 => ?_) (fun c_1 => ?_)
      ·
        obtain rfl : k = b := by omega
        refine xw_iload_n (pc := 28) C 2 dX0_mirrored_28 rfl ?_
        exact xw_iret (pc := 29) C rX (Nat.le_refl _) (Nat.le_refl _) dX0_mirrored_29 (PD.e (by rw [hacc]) rfl)
      ·
        have hm1 := mi_lt q k
        have hm2 : 2 ^ k ≤ 8 := by rcases (show k = 0 ∨ k = 1 ∨ k = 2 ∨ k = 3 by omega) with rfl | rfl | rfl | rfl <;> decide
        have hm3 := Nat.mod_lt (q / 2 ^ k) (show 2 > 0 by omega)
        have hm4 := Nat.div_le_self q (2 ^ k)
        refine xw_iload_n (pc := 12) C 2 dX0_mirrored_12 rfl ?_
        refine xw_iconst_N (pc := 13) C 1 dX0_mirrored_13 rfl ?_
        refine xw_ishl (pc := 14) (r := iI ((acc * 2 : Nat) : Int)) C dX0_mirrored_14 (shl_1 acc (by omega)) ?_
        refine xw_iload_n (pc := 15) C 1 dX0_mirrored_15 rfl ?_
        refine xw_iload_n (pc := 16) C 3 dX0_mirrored_16 rfl ?_
        refine xw_ishr (pc := 17) (r := iI ((q / 2 ^ k : Nat) : Int)) C dX0_mirrored_17 (shr_k q hq k (by omega)) ?_
        refine xw_iconst_N (pc := 18) C 1 dX0_mirrored_18 rfl ?_
        refine xw_iand (pc := 19) (r := iI ((q / 2 ^ k % 2 : Nat) : Int)) C dX0_mirrored_19 (and_1 (by omega)) ?_
        refine xw_ior (pc := 20) (r := iI ((acc * 2 + q / 2 ^ k % 2 : Nat) : Int)) C dX0_mirrored_20 (or_b acc (by omega) _ hm3) ?_
        refine xw_istore_n (pc := 21) (lv' := [(0, .ref h), (1, nV q), (2, nV (acc * 2 + q / 2 ^ k % 2)), (3, nV k)]) C [1, 2, 0, 3] dX0_mirrored_21 rfl (by decide) rfl ?_
        refine xw_iinc_N (pc := 22) (b := k + 1) (lv' := [(0, .ref h), (1, nV q), (2, nV (acc * 2 + q / 2 ^ k % 2)), (3, nV (k + 1))]) C 3 [1, 2, 3, 0] dX0_mirrored_22 rfl (by decide) rfl rfl ?_
        refine xw_goto (pc := 25) (tgt := 4) C dX0_mirrored_25 (by decide) ?_
        exact ih4 (k + 1) _ (by omega) (by omega) (by rw [mi, ← hacc])
  exact L4 (b + 1) 0 0 (by omega) (by omega) rfl

set_option maxHeartbeats 4000000 in
set_option maxRecDepth 100000 in
theorem m_X0_takeRing {l : Launch} {D : va_G} {cI : ClassId} {h a n p b w wi ni : Nat} {A : Nat → Nat} (n1 p1 : Nat) (hn : n1 = 4 ∨ n1 = 8 ∨ n1 = 16) (hp : 4 < p1) (hp5 : p1 < 500) : CT l yX0_takeRing wsX0_takeRing (rmN 4 89) D vwCl [(cI, .int)] [.ref h, nV n1, nV p1] (wX cI h a n p b w wi ni A) (PD (none) (wX cI h a n1 p1 (bt n1) (rt n1 p1) (rt n1 p1 ^ (p1 - 2) % p1) (n1 ^ (p1 - 2) % p1) (zf A 80))) 0 0 := by
  refine ct_of (plainFor_of_name (by decide)) rfl (Nat.le_of_ble_eq_true rfl) (fun φ C rX => ?_)
  have hin : ∀ w ∈ wsX00, w ∈ wsX0_takeRing := by decide +kernel
  refine xw_le (lv' := [(0, .ref h), (1, nV n1), (2, nV p1)]) rfl ?_
  have hn3 := lt3 hn
  refine xw_aload_n (pc := 0) C 0 dX0_takeRing_0 rfl ?_
  refine xw_iload_n (pc := 1) C 1 dX0_takeRing_1 rfl ?_
  refine xw_put (pc := 2) (T := TX0) (N := 7) (ref := "ToneButterflies") (w' := wX cI h a n1 p b w wi ni A) C hin tyX0 tyX0_ok nmX0 0 1 rfl rfl (by decide) (by decide +kernel) rfl rfl rfl rfl (Nat.le_of_ble_eq_true rfl) rfl dX0_takeRing_2 ?_
  refine xw_aload_n (pc := 5) C 0 dX0_takeRing_5 rfl ?_
  refine xw_iload_n (pc := 6) C 2 dX0_takeRing_6 rfl ?_
  refine xw_put (pc := 7) (T := TX0) (N := 7) (ref := "ToneButterflies") (w' := wX cI h a n1 p1 b w wi ni A) C hin tyX0 tyX0_ok nmX0 0 2 rfl rfl (by decide) (by decide +kernel) rfl rfl rfl rfl (Nat.le_of_ble_eq_true rfl) rfl dX0_takeRing_7 ?_
  refine xw_aload_n (pc := 10) C 0 dX0_takeRing_10 rfl ?_
  refine xw_iload_n (pc := 11) C 1 dX0_takeRing_11 rfl ?_
  refine xw_iconst_N (pc := 12) C 4 dX0_takeRing_12 rfl ?_
  refine xw_icmp_ne_N (pc := 13) (tgt := 20) C dX0_takeRing_13 (by decide) (by omega) (by omega) (fun c_1 => ?_) (fun c_1 => ?_)
  ·
    refine xw_iload_n (pc := 20) C 1 dX0_takeRing_20 rfl ?_
    refine xw_bipush_N (pc := 21) C 8 dX0_takeRing_21 (by decide) ?_
    refine xw_icmp_ne_N (pc := 23) (tgt := 30) C dX0_takeRing_23 (by decide) (by omega) (by omega) (fun c_2 => ?_) (fun c_2 => ?_)
    ·
      refine xw_iconst_N (pc := 30) C 4 dX0_takeRing_30 rfl ?_
      refine xw_st (st' := [nV (bt n1), .ref h]) (by rw [bt, if_neg (by omega), if_neg (by omega)]) ?_
      refine xw_put (pc := 31) (T := TX0) (N := 7) (ref := "ToneButterflies") (w' := wX cI h a n1 p1 (bt n1) w wi ni A) C hin tyX0 tyX0_ok nmX0 0 3 rfl rfl (by decide) (by decide +kernel) rfl rfl rfl rfl (Nat.le_of_ble_eq_true rfl) rfl dX0_takeRing_31 ?_
      refine xw_aload_n (pc := 34) C 0 dX0_takeRing_34 rfl ?_
      refine xw_aload_n (pc := 35) C 0 dX0_takeRing_35 rfl ?_
      refine xw_Vd (pc := 36) (q0 := 0) (na := 0) (rest := [.ref h]) (st' := [nV (rt n1 p1), .ref h]) C (m_X0_smallestRoot hp hp5 hn) gX0_takeRing_X0_smallestRoot rfl rfl rfl rfl (by decide +kernel) ⟨Nat.le_of_ble_eq_true rfl, Nat.le_of_ble_eq_true rfl⟩ rfl rfl rfl (Nat.le_of_ble_eq_true rfl) dX0_takeRing_36 ⟨Nat.le_of_ble_eq_true rfl, Nat.le_of_ble_eq_true rfl⟩ rfl ?_
      refine xw_put (pc := 39) (T := TX0) (N := 7) (ref := "ToneButterflies") (w' := wX cI h a n1 p1 (bt n1) (rt n1 p1) wi ni A) C hin tyX0 tyX0_ok nmX0 0 4 rfl rfl (by decide) (by decide +kernel) rfl rfl rfl rfl (Nat.le_of_ble_eq_true rfl) rfl dX0_takeRing_39 ?_
      refine xw_aload_n (pc := 42) C 0 dX0_takeRing_42 rfl ?_
      refine xw_aload_n (pc := 43) C 0 dX0_takeRing_43 rfl ?_
      refine xw_aload_n (pc := 44) C 0 dX0_takeRing_44 rfl ?_
      have hrt := (fs_le (P := (fun c => decide (c ^ (n1 / 2) % p1 = p1 - 1))) (p1 - 3) 2).2
      have hrt5 : rt n1 p1 < 500 := by unfold rt; omega
      refine xw_get (pc := 45) (T := TX0) (N := 7) (ref := "ToneButterflies") C hin 0 4 rfl rfl (by decide) (by decide +kernel) rfl rfl dX0_takeRing_45 ?_
      refine xw_Vd (pc := 48) (q0 := 0) (na := 1) (rest := [.ref h]) (st' := [nV ((rt n1 p1) ^ (p1 - 2) % p1), .ref h]) C (m_X0_inverseOf (show 1 < p1 by omega) hp5 (rt n1 p1) (by omega)) gX0_takeRing_X0_inverseOf rfl rfl rfl rfl (by decide +kernel) ⟨Nat.le_of_ble_eq_true rfl, Nat.le_of_ble_eq_true rfl⟩ rfl rfl rfl (Nat.le_of_ble_eq_true rfl) dX0_takeRing_48 ⟨Nat.le_of_ble_eq_true rfl, Nat.le_of_ble_eq_true rfl⟩ rfl ?_
      refine xw_put (pc := 51) (T := TX0) (N := 7) (ref := "ToneButterflies") (w' := wX cI h a n1 p1 (bt n1) (rt n1 p1) ((rt n1 p1) ^ (p1 - 2) % p1) ni A) C hin tyX0 tyX0_ok nmX0 0 5 rfl rfl (by decide) (by decide +kernel) rfl rfl rfl rfl (Nat.le_of_ble_eq_true rfl) rfl dX0_takeRing_51 ?_
      refine xw_aload_n (pc := 54) C 0 dX0_takeRing_54 rfl ?_
      refine xw_aload_n (pc := 55) C 0 dX0_takeRing_55 rfl ?_
      refine xw_iload_n (pc := 56) C 1 dX0_takeRing_56 rfl ?_
      refine xw_Vd (pc := 57) (q0 := 0) (na := 1) (rest := [.ref h]) (st' := [nV (n1 ^ (p1 - 2) % p1), .ref h]) C (m_X0_inverseOf (show 1 < p1 by omega) hp5 n1 (by omega)) gX0_takeRing_X0_inverseOf rfl rfl rfl rfl (by decide +kernel) ⟨Nat.le_of_ble_eq_true rfl, Nat.le_of_ble_eq_true rfl⟩ rfl rfl rfl (Nat.le_of_ble_eq_true rfl) dX0_takeRing_57 ⟨Nat.le_of_ble_eq_true rfl, Nat.le_of_ble_eq_true rfl⟩ rfl ?_
      refine xw_put (pc := 60) (T := TX0) (N := 7) (ref := "ToneButterflies") (w' := wX cI h a n1 p1 (bt n1) (rt n1 p1) ((rt n1 p1) ^ (p1 - 2) % p1) (n1 ^ (p1 - 2) % p1) A) C hin tyX0 tyX0_ok nmX0 0 6 rfl rfl (by decide) (by decide +kernel) rfl rfl rfl rfl (Nat.le_of_ble_eq_true rfl) rfl dX0_takeRing_60 ?_
      refine xw_iconst_N (pc := 63) C 0 dX0_takeRing_63 rfl ?_
      refine xw_istore_n (pc := 64) (lv' := [(0, .ref h), (1, nV n1), (2, nV p1), (3, nV 0)]) C [1, 2, 3, 0] dX0_takeRing_64 rfl (by decide) rfl ?_
      have L65 : ∀ (fuel : Nat) (k : Nat), 80 < k + fuel → k ≤ 80 → xw φ 0 0 (wX cI h a n1 p1 (bt n1) (rt n1 p1) (rt n1 p1 ^ (p1 - 2) % p1) (n1 ^ (p1 - 2) % p1) (zf A k)) 65 [(0, .ref h), (1, nV n1), (2, nV p1), (3, nV k)] [] := by
        intro fuel
        induction fuel with
        | zero =>
          intro k hk hk8
          omega
        | succ fuel ih65 =>
          intro k hk hk8
          refine xw_iload_n (pc := 65) C 3 dX0_takeRing_65 rfl ?_
          refine xw_aload_n (pc := 66) C 0 dX0_takeRing_66 rfl ?_
          refine xw_get (pc := 67) (T := TX0) (N := 7) (ref := "ToneButterflies") C hin 0 0 rfl rfl (by decide) (by decide +kernel) rfl rfl dX0_takeRing_67 ?_
          refine xw_alen (pc := 70) C 1 0 rfl rfl dX0_takeRing_70 ?_
          refine xw_icmp_ge_N (pc := 71) (tgt := 87) C dX0_takeRing_71 (by decide) (by omega) (by omega) (fun c_3 => ?_) (fun c_3 => ?_)
          ·
            obtain rfl : k = 80 := by omega
            exact xw_vret (pc := 87) C rX (Nat.le_refl _) (Nat.le_refl _) dX0_takeRing_87 (PD.i)
          ·
            refine xw_aload_n (pc := 74) C 0 dX0_takeRing_74 rfl ?_
            refine xw_get (pc := 75) (T := TX0) (N := 7) (ref := "ToneButterflies") C hin 0 0 rfl rfl (by decide) (by decide +kernel) rfl rfl dX0_takeRing_75 ?_
            refine xw_iload_n (pc := 78) C 3 dX0_takeRing_78 rfl ?_
            refine xw_iconst_N (pc := 79) C 0 dX0_takeRing_79 rfl ?_
            refine xw_iast (pc := 80) (w' := wX cI h a n1 p1 (bt n1) (rt n1 p1) (rt n1 p1 ^ (p1 - 2) % p1) (n1 ^ (p1 - 2) % p1) (va_up (zf A k) k 0)) C 1 0 k 0 rfl rfl (rfl) rfl (by omega) (by decide) rfl dX0_takeRing_80 ?_
            refine xw_wo (w' := wX cI h a n1 p1 (bt n1) (rt n1 p1) (rt n1 p1 ^ (p1 - 2) % p1) (n1 ^ (p1 - 2) % p1) (zf A (k + 1))) (by rw [zf_s]) ?_
            refine xw_iinc_N (pc := 81) (b := k + 1) (lv' := [(0, .ref h), (1, nV n1), (2, nV p1), (3, nV (k + 1))]) C 3 [1, 2, 3, 0] dX0_takeRing_81 rfl (by decide) rfl rfl ?_
            refine xw_goto (pc := 84) (tgt := 65) C dX0_takeRing_84 (by decide) ?_
            exact ih65 (k + 1) (by omega) (by omega)
      refine xw_wo (w' := wX cI h a n1 p1 (bt n1) (rt n1 p1) (rt n1 p1 ^ (p1 - 2) % p1) (n1 ^ (p1 - 2) % p1) (zf A 0)) (by rw [zf_0]) ?_
      exact L65 81 0 (by omega) (by omega)
    ·
      refine xw_iconst_N (pc := 26) C 3 dX0_takeRing_26 rfl ?_
      refine xw_goto (pc := 27) (tgt := 31) C dX0_takeRing_27 (by decide) ?_
      refine xw_st (st' := [nV (bt n1), .ref h]) (by rw [bt, if_neg (by omega), if_pos (by omega)]) ?_
      refine xw_put (pc := 31) (T := TX0) (N := 7) (ref := "ToneButterflies") (w' := wX cI h a n1 p1 (bt n1) w wi ni A) C hin tyX0 tyX0_ok nmX0 0 3 rfl rfl (by decide) (by decide +kernel) rfl rfl rfl rfl (Nat.le_of_ble_eq_true rfl) rfl dX0_takeRing_31 ?_
      refine xw_aload_n (pc := 34) C 0 dX0_takeRing_34 rfl ?_
      refine xw_aload_n (pc := 35) C 0 dX0_takeRing_35 rfl ?_
      refine xw_Vd (pc := 36) (q0 := 0) (na := 0) (rest := [.ref h]) (st' := [nV (rt n1 p1), .ref h]) C (m_X0_smallestRoot hp hp5 hn) gX0_takeRing_X0_smallestRoot rfl rfl rfl rfl (by decide +kernel) ⟨Nat.le_of_ble_eq_true rfl, Nat.le_of_ble_eq_true rfl⟩ rfl rfl rfl (Nat.le_of_ble_eq_true rfl) dX0_takeRing_36 ⟨Nat.le_of_ble_eq_true rfl, Nat.le_of_ble_eq_true rfl⟩ rfl ?_
      refine xw_put (pc := 39) (T := TX0) (N := 7) (ref := "ToneButterflies") (w' := wX cI h a n1 p1 (bt n1) (rt n1 p1) wi ni A) C hin tyX0 tyX0_ok nmX0 0 4 rfl rfl (by decide) (by decide +kernel) rfl rfl rfl rfl (Nat.le_of_ble_eq_true rfl) rfl dX0_takeRing_39 ?_
      refine xw_aload_n (pc := 42) C 0 dX0_takeRing_42 rfl ?_
      refine xw_aload_n (pc := 43) C 0 dX0_takeRing_43 rfl ?_
      refine xw_aload_n (pc := 44) C 0 dX0_takeRing_44 rfl ?_
      have hrt := (fs_le (P := (fun c => decide (c ^ (n1 / 2) % p1 = p1 - 1))) (p1 - 3) 2).2
      have hrt5 : rt n1 p1 < 500 := by unfold rt; omega
      refine xw_get (pc := 45) (T := TX0) (N := 7) (ref := "ToneButterflies") C hin 0 4 rfl rfl (by decide) (by decide +kernel) rfl rfl dX0_takeRing_45 ?_
      refine xw_Vd (pc := 48) (q0 := 0) (na := 1) (rest := [.ref h]) (st' := [nV ((rt n1 p1) ^ (p1 - 2) % p1), .ref h]) C (m_X0_inverseOf (show 1 < p1 by omega) hp5 (rt n1 p1) (by omega)) gX0_takeRing_X0_inverseOf rfl rfl rfl rfl (by decide +kernel) ⟨Nat.le_of_ble_eq_true rfl, Nat.le_of_ble_eq_true rfl⟩ rfl rfl rfl (Nat.le_of_ble_eq_true rfl) dX0_takeRing_48 ⟨Nat.le_of_ble_eq_true rfl, Nat.le_of_ble_eq_true rfl⟩ rfl ?_
      refine xw_put (pc := 51) (T := TX0) (N := 7) (ref := "ToneButterflies") (w' := wX cI h a n1 p1 (bt n1) (rt n1 p1) ((rt n1 p1) ^ (p1 - 2) % p1) ni A) C hin tyX0 tyX0_ok nmX0 0 5 rfl rfl (by decide) (by decide +kernel) rfl rfl rfl rfl (Nat.le_of_ble_eq_true rfl) rfl dX0_takeRing_51 ?_
      refine xw_aload_n (pc := 54) C 0 dX0_takeRing_54 rfl ?_
      refine xw_aload_n (pc := 55) C 0 dX0_takeRing_55 rfl ?_
      refine xw_iload_n (pc := 56) C 1 dX0_takeRing_56 rfl ?_
      refine xw_Vd (pc := 57) (q0 := 0) (na := 1) (rest := [.ref h]) (st' := [nV (n1 ^ (p1 - 2) % p1), .ref h]) C (m_X0_inverseOf (show 1 < p1 by omega) hp5 n1 (by omega)) gX0_takeRing_X0_inverseOf rfl rfl rfl rfl (by decide +kernel) ⟨Nat.le_of_ble_eq_true rfl, Nat.le_of_ble_eq_true rfl⟩ rfl rfl rfl (Nat.le_of_ble_eq_true rfl) dX0_takeRing_57 ⟨Nat.le_of_ble_eq_true rfl, Nat.le_of_ble_eq_true rfl⟩ rfl ?_
      refine xw_put (pc := 60) (T := TX0) (N := 7) (ref := "ToneButterflies") (w' := wX cI h a n1 p1 (bt n1) (rt n1 p1) ((rt n1 p1) ^ (p1 - 2) % p1) (n1 ^ (p1 - 2) % p1) A) C hin tyX0 tyX0_ok nmX0 0 6 rfl rfl (by decide) (by decide +kernel) rfl rfl rfl rfl (Nat.le_of_ble_eq_true rfl) rfl dX0_takeRing_60 ?_
      refine xw_iconst_N (pc := 63) C 0 dX0_takeRing_63 rfl ?_
      refine xw_istore_n (pc := 64) (lv' := [(0, .ref h), (1, nV n1), (2, nV p1), (3, nV 0)]) C [1, 2, 3, 0] dX0_takeRing_64 rfl (by decide) rfl ?_
      have L65 : ∀ (fuel : Nat) (k : Nat), 80 < k + fuel → k ≤ 80 → xw φ 0 0 (wX cI h a n1 p1 (bt n1) (rt n1 p1) (rt n1 p1 ^ (p1 - 2) % p1) (n1 ^ (p1 - 2) % p1) (zf A k)) 65 [(0, .ref h), (1, nV n1), (2, nV p1), (3, nV k)] [] := by
        intro fuel
        induction fuel with
        | zero =>
          intro k hk hk8
          omega
        | succ fuel ih65 =>
          intro k hk hk8
          refine xw_iload_n (pc := 65) C 3 dX0_takeRing_65 rfl ?_
          refine xw_aload_n (pc := 66) C 0 dX0_takeRing_66 rfl ?_
          refine xw_get (pc := 67) (T := TX0) (N := 7) (ref := "ToneButterflies") C hin 0 0 rfl rfl (by decide) (by decide +kernel) rfl rfl dX0_takeRing_67 ?_
          refine xw_alen (pc := 70) C 1 0 rfl rfl dX0_takeRing_70 ?_
          refine xw_icmp_ge_N (pc := 71) (tgt := 87) C dX0_takeRing_71 (by decide) (by omega) (by omega) (fun c_4 => ?_) (fun c_4 => ?_)
          ·
            obtain rfl : k = 80 := by omega
            exact xw_vret (pc := 87) C rX (Nat.le_refl _) (Nat.le_refl _) dX0_takeRing_87 (PD.i)
          ·
            refine xw_aload_n (pc := 74) C 0 dX0_takeRing_74 rfl ?_
            refine xw_get (pc := 75) (T := TX0) (N := 7) (ref := "ToneButterflies") C hin 0 0 rfl rfl (by decide) (by decide +kernel) rfl rfl dX0_takeRing_75 ?_
            refine xw_iload_n (pc := 78) C 3 dX0_takeRing_78 rfl ?_
            refine xw_iconst_N (pc := 79) C 0 dX0_takeRing_79 rfl ?_
            refine xw_iast (pc := 80) (w' := wX cI h a n1 p1 (bt n1) (rt n1 p1) (rt n1 p1 ^ (p1 - 2) % p1) (n1 ^ (p1 - 2) % p1) (va_up (zf A k) k 0)) C 1 0 k 0 rfl rfl (rfl) rfl (by omega) (by decide) rfl dX0_takeRing_80 ?_
            refine xw_wo (w' := wX cI h a n1 p1 (bt n1) (rt n1 p1) (rt n1 p1 ^ (p1 - 2) % p1) (n1 ^ (p1 - 2) % p1) (zf A (k + 1))) (by rw [zf_s]) ?_
            refine xw_iinc_N (pc := 81) (b := k + 1) (lv' := [(0, .ref h), (1, nV n1), (2, nV p1), (3, nV (k + 1))]) C 3 [1, 2, 3, 0] dX0_takeRing_81 rfl (by decide) rfl rfl ?_
            refine xw_goto (pc := 84) (tgt := 65) C dX0_takeRing_84 (by decide) ?_
            exact ih65 (k + 1) (by omega) (by omega)
      refine xw_wo (w' := wX cI h a n1 p1 (bt n1) (rt n1 p1) (rt n1 p1 ^ (p1 - 2) % p1) (n1 ^ (p1 - 2) % p1) (zf A 0)) (by rw [zf_0]) ?_
      exact L65 81 0 (by omega) (by omega)
  ·
    refine xw_iconst_N (pc := 16) C 2 dX0_takeRing_16 rfl ?_
    refine xw_goto (pc := 17) (tgt := 31) C dX0_takeRing_17 (by decide) ?_
    refine xw_st (st' := [nV (bt n1), .ref h]) (by rw [bt, if_pos (by omega)]) ?_
    refine xw_put (pc := 31) (T := TX0) (N := 7) (ref := "ToneButterflies") (w' := wX cI h a n1 p1 (bt n1) w wi ni A) C hin tyX0 tyX0_ok nmX0 0 3 rfl rfl (by decide) (by decide +kernel) rfl rfl rfl rfl (Nat.le_of_ble_eq_true rfl) rfl dX0_takeRing_31 ?_
    refine xw_aload_n (pc := 34) C 0 dX0_takeRing_34 rfl ?_
    refine xw_aload_n (pc := 35) C 0 dX0_takeRing_35 rfl ?_
    refine xw_Vd (pc := 36) (q0 := 0) (na := 0) (rest := [.ref h]) (st' := [nV (rt n1 p1), .ref h]) C (m_X0_smallestRoot hp hp5 hn) gX0_takeRing_X0_smallestRoot rfl rfl rfl rfl (by decide +kernel) ⟨Nat.le_of_ble_eq_true rfl, Nat.le_of_ble_eq_true rfl⟩ rfl rfl rfl (Nat.le_of_ble_eq_true rfl) dX0_takeRing_36 ⟨Nat.le_of_ble_eq_true rfl, Nat.le_of_ble_eq_true rfl⟩ rfl ?_
    refine xw_put (pc := 39) (T := TX0) (N := 7) (ref := "ToneButterflies") (w' := wX cI h a n1 p1 (bt n1) (rt n1 p1) wi ni A) C hin tyX0 tyX0_ok nmX0 0 4 rfl rfl (by decide) (by decide +kernel) rfl rfl rfl rfl (Nat.le_of_ble_eq_true rfl) rfl dX0_takeRing_39 ?_
    refine xw_aload_n (pc := 42) C 0 dX0_takeRing_42 rfl ?_
    refine xw_aload_n (pc := 43) C 0 dX0_takeRing_43 rfl ?_
    refine xw_aload_n (pc := 44) C 0 dX0_takeRing_44 rfl ?_
    have hrt := (fs_le (P := (fun c => decide (c ^ (n1 / 2) % p1 = p1 - 1))) (p1 - 3) 2).2
    have hrt5 : rt n1 p1 < 500 := by unfold rt; omega
    refine xw_get (pc := 45) (T := TX0) (N := 7) (ref := "ToneButterflies") C hin 0 4 rfl rfl (by decide) (by decide +kernel) rfl rfl dX0_takeRing_45 ?_
    refine xw_Vd (pc := 48) (q0 := 0) (na := 1) (rest := [.ref h]) (st' := [nV ((rt n1 p1) ^ (p1 - 2) % p1), .ref h]) C (m_X0_inverseOf (show 1 < p1 by omega) hp5 (rt n1 p1) (by omega)) gX0_takeRing_X0_inverseOf rfl rfl rfl rfl (by decide +kernel) ⟨Nat.le_of_ble_eq_true rfl, Nat.le_of_ble_eq_true rfl⟩ rfl rfl rfl (Nat.le_of_ble_eq_true rfl) dX0_takeRing_48 ⟨Nat.le_of_ble_eq_true rfl, Nat.le_of_ble_eq_true rfl⟩ rfl ?_
    refine xw_put (pc := 51) (T := TX0) (N := 7) (ref := "ToneButterflies") (w' := wX cI h a n1 p1 (bt n1) (rt n1 p1) ((rt n1 p1) ^ (p1 - 2) % p1) ni A) C hin tyX0 tyX0_ok nmX0 0 5 rfl rfl (by decide) (by decide +kernel) rfl rfl rfl rfl (Nat.le_of_ble_eq_true rfl) rfl dX0_takeRing_51 ?_
    refine xw_aload_n (pc := 54) C 0 dX0_takeRing_54 rfl ?_
    refine xw_aload_n (pc := 55) C 0 dX0_takeRing_55 rfl ?_
    refine xw_iload_n (pc := 56) C 1 dX0_takeRing_56 rfl ?_
    refine xw_Vd (pc := 57) (q0 := 0) (na := 1) (rest := [.ref h]) (st' := [nV (n1 ^ (p1 - 2) % p1), .ref h]) C (m_X0_inverseOf (show 1 < p1 by omega) hp5 n1 (by omega)) gX0_takeRing_X0_inverseOf rfl rfl rfl rfl (by decide +kernel) ⟨Nat.le_of_ble_eq_true rfl, Nat.le_of_ble_eq_true rfl⟩ rfl rfl rfl (Nat.le_of_ble_eq_true rfl) dX0_takeRing_57 ⟨Nat.le_of_ble_eq_true rfl, Nat.le_of_ble_eq_true rfl⟩ rfl ?_
    refine xw_put (pc := 60) (T := TX0) (N := 7) (ref := "ToneButterflies") (w' := wX cI h a n1 p1 (bt n1) (rt n1 p1) ((rt n1 p1) ^ (p1 - 2) % p1) (n1 ^ (p1 - 2) % p1) A) C hin tyX0 tyX0_ok nmX0 0 6 rfl rfl (by decide) (by decide +kernel) rfl rfl rfl rfl (Nat.le_of_ble_eq_true rfl) rfl dX0_takeRing_60 ?_
    refine xw_iconst_N (pc := 63) C 0 dX0_takeRing_63 rfl ?_
    refine xw_istore_n (pc := 64) (lv' := [(0, .ref h), (1, nV n1), (2, nV p1), (3, nV 0)]) C [1, 2, 3, 0] dX0_takeRing_64 rfl (by decide) rfl ?_
    have L65 : ∀ (fuel : Nat) (k : Nat), 80 < k + fuel → k ≤ 80 → xw φ 0 0 (wX cI h a n1 p1 (bt n1) (rt n1 p1) (rt n1 p1 ^ (p1 - 2) % p1) (n1 ^ (p1 - 2) % p1) (zf A k)) 65 [(0, .ref h), (1, nV n1), (2, nV p1), (3, nV k)] [] := by
      intro fuel
      induction fuel with
      | zero =>
        intro k hk hk8
        omega
      | succ fuel ih65 =>
        intro k hk hk8
        refine xw_iload_n (pc := 65) C 3 dX0_takeRing_65 rfl ?_
        refine xw_aload_n (pc := 66) C 0 dX0_takeRing_66 rfl ?_
        refine xw_get (pc := 67) (T := TX0) (N := 7) (ref := "ToneButterflies") C hin 0 0 rfl rfl (by decide) (by decide +kernel) rfl rfl dX0_takeRing_67 ?_
        refine xw_alen (pc := 70) C 1 0 rfl rfl dX0_takeRing_70 ?_
        refine xw_icmp_ge_N (pc := 71) (tgt := 87) C dX0_takeRing_71 (by decide) (by omega) (by omega) (fun c_5 => ?_) (fun c_5 => ?_)
        ·
          obtain rfl : k = 80 := by omega
          exact xw_vret (pc := 87) C rX (Nat.le_refl _) (Nat.le_refl _) dX0_takeRing_87 (PD.i)
        ·
          refine xw_aload_n (pc := 74) C 0 dX0_takeRing_74 rfl ?_
          refine xw_get (pc := 75) (T := TX0) (N := 7) (ref := "ToneButterflies") C hin 0 0 rfl rfl (by decide) (by decide +kernel) rfl rfl dX0_takeRing_75 ?_
          refine xw_iload_n (pc := 78) C 3 dX0_takeRing_78 rfl ?_
          refine xw_iconst_N (pc := 79) C 0 dX0_takeRing_79 rfl ?_
          refine xw_iast (pc := 80) (w' := wX cI h a n1 p1 (bt n1) (rt n1 p1) (rt n1 p1 ^ (p1 - 2) % p1) (n1 ^ (p1 - 2) % p1) (va_up (zf A k) k 0)) C 1 0 k 0 rfl rfl (rfl) rfl (by omega) (by decide) rfl dX0_takeRing_80 ?_
          refine xw_wo (w' := wX cI h a n1 p1 (bt n1) (rt n1 p1) (rt n1 p1 ^ (p1 - 2) % p1) (n1 ^ (p1 - 2) % p1) (zf A (k + 1))) (by rw [zf_s]) ?_
          refine xw_iinc_N (pc := 81) (b := k + 1) (lv' := [(0, .ref h), (1, nV n1), (2, nV p1), (3, nV (k + 1))]) C 3 [1, 2, 3, 0] dX0_takeRing_81 rfl (by decide) rfl rfl ?_
          refine xw_goto (pc := 84) (tgt := 65) C dX0_takeRing_84 (by decide) ?_
          exact ih65 (k + 1) (by omega) (by omega)
    refine xw_wo (w' := wX cI h a n1 p1 (bt n1) (rt n1 p1) (rt n1 p1 ^ (p1 - 2) % p1) (n1 ^ (p1 - 2) % p1) (zf A 0)) (by rw [zf_0]) ?_
    exact L65 81 0 (by omega) (by omega)

set_option maxHeartbeats 4000000 in
set_option maxRecDepth 100000 in
theorem m_X0_requireRow {l : Launch} {D : va_G} {cI : ClassId} {h a n p b w wi ni : Nat} {A : Nat → Nat} (row : Nat) (hrw : row < 4) : CT l yX0_requireRow wsX0_requireRow (rmN 0 0) D vwCl [(cI, .int)] [.ref h, nV row] (wX cI h a n p b w wi ni A) (PD (none) (wX cI h a n p b w wi ni A)) 0 0 := by
  refine ct_of (plainFor_of_name (by decide)) rfl (Nat.le_of_ble_eq_true rfl) (fun φ C rX => ?_)
  refine xw_le (lv' := [(0, .ref h), (1, nV row)]) rfl ?_
  refine xw_iload_n (pc := 0) C 1 dX0_requireRow_0 rfl ?_
  refine xw_if_lt_N (pc := 1) (tgt := 9) C dX0_requireRow_1 (by decide) (by omega) (fun c_1 => (by exfalso; omega)) (fun c_1 => ?_)
  refine xw_iload_n (pc := 4) C 1 dX0_requireRow_4 rfl ?_
  refine xw_iconst_N (pc := 5) C 4 dX0_requireRow_5 rfl ?_
  refine xw_icmp_lt_N (pc := 6) (tgt := 19) C dX0_requireRow_6 (by decide) (by omega) (by omega) (fun c_2 => ?_) (fun c_2 => (by exfalso; omega))
  exact xw_vret (pc := 19) C rX (Nat.le_refl _) (Nat.le_refl _) dX0_requireRow_19 (PD.i)

set_option maxHeartbeats 4000000 in
set_option maxRecDepth 100000 in
theorem m_X0_requirePlace {l : Launch} {D : va_G} {cI : ClassId} {h a n p b w wi ni : Nat} {A : Nat → Nat} (hn : n < 2147483648) (q : Nat) (hq : q < n) : CT l yX0_requirePlace wsX0_requirePlace (rmN 0 0) D vwCl [(cI, .int)] [.ref h, nV q] (wX cI h a n p b w wi ni A) (PD (none) (wX cI h a n p b w wi ni A)) 0 0 := by
  refine ct_of (plainFor_of_name (by decide)) rfl (Nat.le_of_ble_eq_true rfl) (fun φ C rX => ?_)
  have hin : ∀ w ∈ wsX00, w ∈ wsX0_requirePlace := by decide +kernel
  refine xw_le (lv' := [(0, .ref h), (1, nV q)]) rfl ?_
  refine xw_iload_n (pc := 0) C 1 dX0_requirePlace_0 rfl ?_
  refine xw_if_lt_N (pc := 1) (tgt := 12) C dX0_requirePlace_1 (by decide) (by omega) (fun c_1 => (by exfalso; omega)) (fun c_1 => ?_)
  refine xw_iload_n (pc := 4) C 1 dX0_requirePlace_4 rfl ?_
  refine xw_aload_n (pc := 5) C 0 dX0_requirePlace_5 rfl ?_
  refine xw_get (pc := 6) (T := TX0) (N := 7) (ref := "ToneButterflies") C hin 0 1 rfl rfl (by decide) (by decide +kernel) rfl rfl dX0_requirePlace_6 ?_
  refine xw_icmp_lt_N (pc := 9) (tgt := 22) C dX0_requirePlace_9 (by decide) (by omega) (by omega) (fun c_2 => ?_) (fun c_2 => (by exfalso; omega))
  exact xw_vret (pc := 22) C rX (Nat.le_refl _) (Nat.le_refl _) dX0_requirePlace_22 (PD.i)

set_option maxHeartbeats 4000000 in
set_option maxRecDepth 100000 in
theorem m_X0_requireNumber {l : Launch} {D : va_G} {cI : ClassId} {h a n p b w wi ni : Nat} {A : Nat → Nat} (hp5 : p < 500) (v : Nat) (hv : v < p) : CT l yX0_requireNumber wsX0_requireNumber (rmN 0 0) D vwCl [(cI, .int)] [.ref h, nV v] (wX cI h a n p b w wi ni A) (PD (none) (wX cI h a n p b w wi ni A)) 0 0 := by
  refine ct_of (plainFor_of_name (by decide)) rfl (Nat.le_of_ble_eq_true rfl) (fun φ C rX => ?_)
  have hin : ∀ w ∈ wsX00, w ∈ wsX0_requireNumber := by decide +kernel
  refine xw_le (lv' := [(0, .ref h), (1, nV v)]) rfl ?_
  refine xw_iload_n (pc := 0) C 1 dX0_requireNumber_0 rfl ?_
  refine xw_if_lt_N (pc := 1) (tgt := 12) C dX0_requireNumber_1 (by decide) (by omega) (fun c_1 => (by exfalso; omega)) (fun c_1 => ?_)
  refine xw_iload_n (pc := 4) C 1 dX0_requireNumber_4 rfl ?_
  refine xw_aload_n (pc := 5) C 0 dX0_requireNumber_5 rfl ?_
  refine xw_get (pc := 6) (T := TX0) (N := 7) (ref := "ToneButterflies") C hin 0 2 rfl rfl (by decide) (by decide +kernel) rfl rfl dX0_requireNumber_6 ?_
  refine xw_icmp_lt_N (pc := 9) (tgt := 22) C dX0_requireNumber_9 (by decide) (by omega) (by omega) (fun c_2 => ?_) (fun c_2 => (by exfalso; omega))
  exact xw_vret (pc := 22) C rX (Nat.le_refl _) (Nat.le_refl _) dX0_requireNumber_22 (PD.i)

set_option maxHeartbeats 4000000 in
set_option maxRecDepth 100000 in
theorem m_X0_requireInvertible {l : Launch} {D : va_G} {cI : ClassId} {h a n p b w wi ni : Nat} {A : Nat → Nat} (hp5 : p < 500) (v : Nat) (hv : v < p) (h1 : 1 ≤ v) : CT l yX0_requireInvertible wsX0_requireInvertible (rmN 0 0) D vwCl [(cI, .int)] [.ref h, nV v] (wX cI h a n p b w wi ni A) (PD (none) (wX cI h a n p b w wi ni A)) 0 0 := by
  refine ct_of (plainFor_of_name (by decide)) rfl (Nat.le_of_ble_eq_true rfl) (fun φ C rX => ?_)
  have hin : ∀ w ∈ wsX00, w ∈ wsX0_requireInvertible := by decide +kernel
  refine xw_le (lv' := [(0, .ref h), (1, nV v)]) rfl ?_
  refine xw_iload_n (pc := 0) C 1 dX0_requireInvertible_0 rfl ?_
  refine xw_iconst_N (pc := 1) C 1 dX0_requireInvertible_1 rfl ?_
  refine xw_icmp_lt_N (pc := 2) (tgt := 13) C dX0_requireInvertible_2 (by decide) (by omega) (by omega) (fun c_1 => (by exfalso; omega)) (fun c_1 => ?_)
  refine xw_iload_n (pc := 5) C 1 dX0_requireInvertible_5 rfl ?_
  refine xw_aload_n (pc := 6) C 0 dX0_requireInvertible_6 rfl ?_
  refine xw_get (pc := 7) (T := TX0) (N := 7) (ref := "ToneButterflies") C hin 0 2 rfl rfl (by decide) (by decide +kernel) rfl rfl dX0_requireInvertible_7 ?_
  refine xw_icmp_lt_N (pc := 10) (tgt := 23) C dX0_requireInvertible_10 (by decide) (by omega) (by omega) (fun c_2 => ?_) (fun c_2 => (by exfalso; omega))
  exact xw_vret (pc := 23) C rX (Nat.le_refl _) (Nat.le_refl _) dX0_requireInvertible_23 (PD.i)
end
section
set_option maxHeartbeats 4000000 in
set_option maxRecDepth 100000 in
theorem m_X0_set {l : Launch} {D : va_G} {cI : ClassId} {h a n p b w wi ni : Nat} {A : Nat → Nat} (hp5 : p < 500) (hn : n = 4 ∨ n = 8 ∨ n = 16) (row q v : Nat) (hrw : row < 4) (hq : q < n) (hv : v < p) : CT l yX0_set wsX0_set (rmN 1 24) D vwCl [(cI, .int)] [.ref h, nV row, nV q, nV v] (wX cI h a n p b w wi ni A) (PD (some (nV (A (16 * row + q)))) (wX cI h a n p b w wi ni (va_up A (16 * row + q) v))) 0 0 := by
  refine ct_of (plainFor_of_name (by decide)) rfl (Nat.le_of_ble_eq_true rfl) (fun φ C rX => ?_)
  refine xw_le (lv' := [(0, .ref h), (1, nV row), (2, nV q), (3, nV v)]) rfl ?_
  have hn3 := lt3 hn
  refine xw_aload_n (pc := 0) C 0 dX0_set_0 rfl ?_
  refine xw_iload_n (pc := 1) C 1 dX0_set_1 rfl ?_
  refine xw_Vd (pc := 2) (q0 := 0) (na := 1) (rest := []) (st' := []) C (m_X0_requireRow row (by omega)) gX0_set_X0_requireRow rfl rfl rfl rfl (by decide +kernel) ⟨Nat.le_of_ble_eq_true rfl, Nat.le_of_ble_eq_true rfl⟩ rfl rfl rfl (Nat.le_of_ble_eq_true rfl) dX0_set_2 ⟨Nat.le_of_ble_eq_true rfl, Nat.le_of_ble_eq_true rfl⟩ rfl ?_
  refine xw_aload_n (pc := 5) C 0 dX0_set_5 rfl ?_
  refine xw_iload_n (pc := 6) C 2 dX0_set_6 rfl ?_
  refine xw_Vd (pc := 7) (q0 := 0) (na := 1) (rest := []) (st' := []) C (m_X0_requirePlace (by omega) q (by omega)) gX0_set_X0_requirePlace rfl rfl rfl rfl (by decide +kernel) ⟨Nat.le_of_ble_eq_true rfl, Nat.le_of_ble_eq_true rfl⟩ rfl rfl rfl (Nat.le_of_ble_eq_true rfl) dX0_set_7 ⟨Nat.le_of_ble_eq_true rfl, Nat.le_of_ble_eq_true rfl⟩ rfl ?_
  refine xw_aload_n (pc := 10) C 0 dX0_set_10 rfl ?_
  refine xw_iload_n (pc := 11) C 3 dX0_set_11 rfl ?_
  refine xw_Vd (pc := 12) (q0 := 0) (na := 1) (rest := []) (st' := []) C (m_X0_requireNumber hp5 v (by omega)) gX0_set_X0_requireNumber rfl rfl rfl rfl (by decide +kernel) ⟨Nat.le_of_ble_eq_true rfl, Nat.le_of_ble_eq_true rfl⟩ rfl rfl rfl (Nat.le_of_ble_eq_true rfl) dX0_set_12 ⟨Nat.le_of_ble_eq_true rfl, Nat.le_of_ble_eq_true rfl⟩ rfl ?_
  refine xw_aload_n (pc := 15) C 0 dX0_set_15 rfl ?_
  refine xw_iload_n (pc := 16) C 1 dX0_set_16 rfl ?_
  refine xw_iload_n (pc := 17) C 2 dX0_set_17 rfl ?_
  refine xw_Vd (pc := 18) (q0 := 0) (na := 2) (rest := []) (st' := [nV (A (16 * row + q))]) C (m_X0_read row q (by omega) (by omega)) gX0_set_X0_read rfl rfl rfl rfl (by decide +kernel) ⟨Nat.le_of_ble_eq_true rfl, Nat.le_of_ble_eq_true rfl⟩ rfl rfl rfl (Nat.le_of_ble_eq_true rfl) dX0_set_18 ⟨Nat.le_of_ble_eq_true rfl, Nat.le_of_ble_eq_true rfl⟩ rfl ?_
  refine xw_istore (pc := 21) (lv' := [(0, .ref h), (1, nV row), (2, nV q), (3, nV v), (4, nV (A (16 * row + q)))]) C [1, 2, 3, 4, 0] dX0_set_21 (by decide) rfl ?_
  refine xw_aload_n (pc := 23) C 0 dX0_set_23 rfl ?_
  refine xw_iload_n (pc := 24) C 1 dX0_set_24 rfl ?_
  refine xw_iload_n (pc := 25) C 2 dX0_set_25 rfl ?_
  refine xw_iload_n (pc := 26) C 3 dX0_set_26 rfl ?_
  refine xw_Vd (pc := 27) (q0 := 0) (na := 3) (rest := []) (st' := []) C (m_X0_write row q v (by omega) (by omega)) gX0_set_X0_write rfl rfl rfl rfl (by decide +kernel) ⟨Nat.le_of_ble_eq_true rfl, Nat.le_of_ble_eq_true rfl⟩ rfl rfl rfl (Nat.le_of_ble_eq_true rfl) dX0_set_27 ⟨Nat.le_of_ble_eq_true rfl, Nat.le_of_ble_eq_true rfl⟩ rfl ?_
  refine xw_iload (pc := 30) C 4 dX0_set_30 rfl ?_
  exact xw_iret (pc := 32) C rX (Nat.le_refl _) (Nat.le_refl _) dX0_set_32 (PD.i)

set_option maxHeartbeats 4000000 in
set_option maxRecDepth 100000 in
theorem m_X0_copy {l : Launch} {D : va_G} {cI : ClassId} {h a n p b w wi ni : Nat} {A : Nat → Nat} (hn : n = 4 ∨ n = 8 ∨ n = 16) (hA : ∀ j, A j < 500) (ra rb : Nat) (hra : ra < 4) (hrb : rb < 4) : CT l yX0_copy wsX0_copy (rmN 2 49) D vwCl [(cI, .int)] [.ref h, nV ra, nV rb] (wX cI h a n p b w wi ni A) (PD (some (nV (cc (fun j => decide (A (16 * rb + j) ≠ A (16 * ra + j))) n))) (wX cI h a n p b w wi ni (cp A ra rb n))) 0 0 := by
  refine ct_of (plainFor_of_name (by decide)) rfl (Nat.le_of_ble_eq_true rfl) (fun φ C rX => ?_)
  refine xw_le (lv' := [(0, .ref h), (1, nV ra), (2, nV rb)]) rfl ?_
  have hn3 := lt3 hn
  refine xw_aload_n (pc := 0) C 0 dX0_copy_0 rfl ?_
  refine xw_iload_n (pc := 1) C 1 dX0_copy_1 rfl ?_
  refine xw_Vd (pc := 2) (q0 := 0) (na := 1) (rest := []) (st' := []) C (m_X0_requireRow ra (by omega)) gX0_copy_X0_requireRow rfl rfl rfl rfl (by decide +kernel) ⟨Nat.le_of_ble_eq_true rfl, Nat.le_of_ble_eq_true rfl⟩ rfl rfl rfl (Nat.le_of_ble_eq_true rfl) dX0_copy_2 ⟨Nat.le_of_ble_eq_true rfl, Nat.le_of_ble_eq_true rfl⟩ rfl ?_
  refine xw_aload_n (pc := 5) C 0 dX0_copy_5 rfl ?_
  refine xw_iload_n (pc := 6) C 2 dX0_copy_6 rfl ?_
  refine xw_Vd (pc := 7) (q0 := 0) (na := 1) (rest := []) (st' := []) C (m_X0_requireRow rb (by omega)) gX0_copy_X0_requireRow rfl rfl rfl rfl (by decide +kernel) ⟨Nat.le_of_ble_eq_true rfl, Nat.le_of_ble_eq_true rfl⟩ rfl rfl rfl (Nat.le_of_ble_eq_true rfl) dX0_copy_7 ⟨Nat.le_of_ble_eq_true rfl, Nat.le_of_ble_eq_true rfl⟩ rfl ?_
  refine xw_aload_n (pc := 10) C 0 dX0_copy_10 rfl ?_
  refine xw_iload_n (pc := 11) C 1 dX0_copy_11 rfl ?_
  refine xw_iload_n (pc := 12) C 2 dX0_copy_12 rfl ?_
  refine xw_Vd (pc := 13) (q0 := 0) (na := 2) (rest := []) (st' := [nV (cc (fun j => decide (A (16 * rb + j) ≠ A (16 * ra + j))) n)]) C (m_X0_copyRow hn (hA) ra rb (by omega) (by omega)) gX0_copy_X0_copyRow rfl rfl rfl rfl (by decide +kernel) ⟨Nat.le_of_ble_eq_true rfl, Nat.le_of_ble_eq_true rfl⟩ rfl rfl rfl (Nat.le_of_ble_eq_true rfl) dX0_copy_13 ⟨Nat.le_of_ble_eq_true rfl, Nat.le_of_ble_eq_true rfl⟩ rfl ?_
  exact xw_iret (pc := 16) C rX (Nat.le_refl _) (Nat.le_refl _) dX0_copy_16 (PD.i)

set_option maxHeartbeats 4000000 in
set_option maxRecDepth 100000 in
theorem m_X0_turn_false {l : Launch} {D : va_G} {cI : ClassId} {h a n p b w wi ni : Nat} {A : Nat → Nat} (hp : 0 < p) (hp5 : p < 500) (hn : n = 4 ∨ n = 8 ∨ n = 16) (hA : ∀ j, A j < 500) (hw : w < 500) (hwi : wi < 500) (hni : ni < 500) (row : Nat) (hrw : row < 4) : CT l yX0_turn wsX0_turn (rmN 5 113) D vwCl [(cI, .int)] [.ref h, nV row, bV false] (wX cI h a n p b w wi ni A) (PD (some (nV ((tn p n A row w 1) 0))) (wX cI h a n p b w wi ni (ly A (tn p n A row w 1) row n))) 0 0 := by
  refine ct_of (plainFor_of_name (by decide)) rfl (Nat.le_of_ble_eq_true rfl) (fun φ C rX => ?_)
  refine xw_le (lv' := [(0, .ref h), (1, nV row), (2, bV false)]) rfl ?_
  have hn3 := lt3 hn
  refine xw_aload_n (pc := 0) C 0 dX0_turn_0 rfl ?_
  refine xw_iload_n (pc := 1) C 1 dX0_turn_1 rfl ?_
  refine xw_Vd (pc := 2) (q0 := 0) (na := 1) (rest := []) (st' := []) C (m_X0_requireRow row (by omega)) gX0_turn_X0_requireRow rfl rfl rfl rfl (by decide +kernel) ⟨Nat.le_of_ble_eq_true rfl, Nat.le_of_ble_eq_true rfl⟩ rfl rfl rfl (Nat.le_of_ble_eq_true rfl) dX0_turn_2 ⟨Nat.le_of_ble_eq_true rfl, Nat.le_of_ble_eq_true rfl⟩ rfl ?_
  refine xw_iload_n (pc := 5) C 2 dX0_turn_5 rfl ?_
  refine xw_if_eq_B (pc := 6) (tgt := 17) C dX0_turn_6 (by decide)  (fun c_1 => ?_) (fun c_1 => (by exact absurd c_1 (by decide)))
  refine xw_aload_n (pc := 17) C 0 dX0_turn_17 rfl ?_
  refine xw_iload_n (pc := 18) C 1 dX0_turn_18 rfl ?_
  refine xw_Vd (pc := 19) (q0 := 0) (na := 1) (rest := []) (st' := []) C (m_X0_scratchTones hp hp5 hn (hA) hw row (by omega)) gX0_turn_X0_scratchTones rfl rfl rfl rfl (by decide +kernel) ⟨Nat.le_of_ble_eq_true rfl, Nat.le_of_ble_eq_true rfl⟩ rfl rfl rfl (Nat.le_of_ble_eq_true rfl) dX0_turn_19 ⟨Nat.le_of_ble_eq_true rfl, Nat.le_of_ble_eq_true rfl⟩ rfl ?_
  refine xw_aload_n (pc := 22) C 0 dX0_turn_22 rfl ?_
  refine xw_iconst_N (pc := 23) C 4 dX0_turn_23 rfl ?_
  refine xw_iload_n (pc := 24) C 1 dX0_turn_24 rfl ?_
  refine xw_Vd (pc := 25) (q0 := 0) (na := 2) (rest := []) (st' := [nV (cc (fun j => decide ((sv A (tn p n A row w 1) n) (16 * row + j) ≠ (sv A (tn p n A row w 1) n) (16 * 4 + j))) n)]) C (m_X0_copyRow hn (sv_lt (g := (tn p n A row w 1)) hA (fun j _ => ml hp hp5)) 4 row (by omega) (by omega)) gX0_turn_X0_copyRow rfl rfl rfl rfl (by decide +kernel) ⟨Nat.le_of_ble_eq_true rfl, Nat.le_of_ble_eq_true rfl⟩ rfl rfl rfl (Nat.le_of_ble_eq_true rfl) dX0_turn_25 ⟨Nat.le_of_ble_eq_true rfl, Nat.le_of_ble_eq_true rfl⟩ rfl ?_
  refine xw_wo (w' := wX cI h a n p b w wi ni (ly A (tn p n A row w 1) row n)) rfl ?_
  refine xw_pop (pc := 28) C dX0_turn_28 rfl ?_
  refine xw_aload_n (pc := 29) C 0 dX0_turn_29 rfl ?_
  refine xw_iload_n (pc := 30) C 1 dX0_turn_30 rfl ?_
  refine xw_iconst_N (pc := 31) C 0 dX0_turn_31 rfl ?_
  refine xw_Vd (pc := 32) (q0 := 0) (na := 2) (rest := []) (st' := [nV ((ly A (tn p n A row w 1) row n) (16 * row + 0))]) C (m_X0_read row 0 (by omega) (by omega)) gX0_turn_X0_read rfl rfl rfl rfl (by decide +kernel) ⟨Nat.le_of_ble_eq_true rfl, Nat.le_of_ble_eq_true rfl⟩ rfl rfl rfl (Nat.le_of_ble_eq_true rfl) dX0_turn_32 ⟨Nat.le_of_ble_eq_true rfl, Nat.le_of_ble_eq_true rfl⟩ rfl ?_
  refine xw_st (st' := [nV ((tn p n A row w 1) 0)]) (by rw [ly_at (by omega)]) ?_
  exact xw_iret (pc := 35) C rX (Nat.le_refl _) (Nat.le_refl _) dX0_turn_35 (PD.i)

set_option maxHeartbeats 4000000 in
set_option maxRecDepth 100000 in
theorem m_X0_turn_true {l : Launch} {D : va_G} {cI : ClassId} {h a n p b w wi ni : Nat} {A : Nat → Nat} (hp : 0 < p) (hp5 : p < 500) (hn : n = 4 ∨ n = 8 ∨ n = 16) (hA : ∀ j, A j < 500) (hw : w < 500) (hwi : wi < 500) (hni : ni < 500) (row : Nat) (hrw : row < 4) : CT l yX0_turn wsX0_turn (rmN 5 113) D vwCl [(cI, .int)] [.ref h, nV row, bV true] (wX cI h a n p b w wi ni A) (PD (some (nV ((tn p n A row wi ni) 0))) (wX cI h a n p b w wi ni (ly A (tn p n A row wi ni) row n))) 0 0 := by
  refine ct_of (plainFor_of_name (by decide)) rfl (Nat.le_of_ble_eq_true rfl) (fun φ C rX => ?_)
  refine xw_le (lv' := [(0, .ref h), (1, nV row), (2, bV true)]) rfl ?_
  have hn3 := lt3 hn
  refine xw_aload_n (pc := 0) C 0 dX0_turn_0 rfl ?_
  refine xw_iload_n (pc := 1) C 1 dX0_turn_1 rfl ?_
  refine xw_Vd (pc := 2) (q0 := 0) (na := 1) (rest := []) (st' := []) C (m_X0_requireRow row (by omega)) gX0_turn_X0_requireRow rfl rfl rfl rfl (by decide +kernel) ⟨Nat.le_of_ble_eq_true rfl, Nat.le_of_ble_eq_true rfl⟩ rfl rfl rfl (Nat.le_of_ble_eq_true rfl) dX0_turn_2 ⟨Nat.le_of_ble_eq_true rfl, Nat.le_of_ble_eq_true rfl⟩ rfl ?_
  refine xw_iload_n (pc := 5) C 2 dX0_turn_5 rfl ?_
  refine xw_if_eq_B (pc := 6) (tgt := 17) C dX0_turn_6 (by decide)  (fun c_1 => (by exact absurd c_1 (by decide))) (fun c_1 => ?_)
  refine xw_aload_n (pc := 9) C 0 dX0_turn_9 rfl ?_
  refine xw_iload_n (pc := 10) C 1 dX0_turn_10 rfl ?_
  refine xw_Vd (pc := 11) (q0 := 0) (na := 1) (rest := []) (st' := []) C (m_X0_scratchTurnedBack hp hp5 hn hA hwi hni row (by omega)) gX0_turn_X0_scratchTurnedBack rfl rfl rfl rfl (by decide +kernel) ⟨Nat.le_of_ble_eq_true rfl, Nat.le_of_ble_eq_true rfl⟩ rfl rfl rfl (Nat.le_of_ble_eq_true rfl) dX0_turn_11 ⟨Nat.le_of_ble_eq_true rfl, Nat.le_of_ble_eq_true rfl⟩ rfl ?_
  refine xw_goto (pc := 14) (tgt := 22) C dX0_turn_14 (by decide) ?_
  refine xw_aload_n (pc := 22) C 0 dX0_turn_22 rfl ?_
  refine xw_iconst_N (pc := 23) C 4 dX0_turn_23 rfl ?_
  refine xw_iload_n (pc := 24) C 1 dX0_turn_24 rfl ?_
  refine xw_Vd (pc := 25) (q0 := 0) (na := 2) (rest := []) (st' := [nV (cc (fun j => decide ((sv A (tn p n A row wi ni) n) (16 * row + j) ≠ (sv A (tn p n A row wi ni) n) (16 * 4 + j))) n)]) C (m_X0_copyRow hn (sv_lt (g := (tn p n A row wi ni)) hA (fun j _ => ml hp hp5)) 4 row (by omega) (by omega)) gX0_turn_X0_copyRow rfl rfl rfl rfl (by decide +kernel) ⟨Nat.le_of_ble_eq_true rfl, Nat.le_of_ble_eq_true rfl⟩ rfl rfl rfl (Nat.le_of_ble_eq_true rfl) dX0_turn_25 ⟨Nat.le_of_ble_eq_true rfl, Nat.le_of_ble_eq_true rfl⟩ rfl ?_
  refine xw_wo (w' := wX cI h a n p b w wi ni (ly A (tn p n A row wi ni) row n)) rfl ?_
  refine xw_pop (pc := 28) C dX0_turn_28 rfl ?_
  refine xw_aload_n (pc := 29) C 0 dX0_turn_29 rfl ?_
  refine xw_iload_n (pc := 30) C 1 dX0_turn_30 rfl ?_
  refine xw_iconst_N (pc := 31) C 0 dX0_turn_31 rfl ?_
  refine xw_Vd (pc := 32) (q0 := 0) (na := 2) (rest := []) (st' := [nV ((ly A (tn p n A row wi ni) row n) (16 * row + 0))]) C (m_X0_read row 0 (by omega) (by omega)) gX0_turn_X0_read rfl rfl rfl rfl (by decide +kernel) ⟨Nat.le_of_ble_eq_true rfl, Nat.le_of_ble_eq_true rfl⟩ rfl rfl rfl (Nat.le_of_ble_eq_true rfl) dX0_turn_32 ⟨Nat.le_of_ble_eq_true rfl, Nat.le_of_ble_eq_true rfl⟩ rfl ?_
  refine xw_st (st' := [nV ((tn p n A row wi ni) 0)]) (by rw [ly_at (by omega)]) ?_
  exact xw_iret (pc := 35) C rX (Nat.le_refl _) (Nat.le_refl _) dX0_turn_35 (PD.i)

set_option maxHeartbeats 4000000 in
set_option maxRecDepth 100000 in
theorem m_X0_mirror {l : Launch} {D : va_G} {cI : ClassId} {h a n p b w wi ni : Nat} {A : Nat → Nat} (hn : n = 4 ∨ n = 8 ∨ n = 16) (hA : ∀ j, A j < 500) (hb : b = bt n) (row : Nat) (hrw : row < 4) : CT l yX0_mirror wsX0_mirror (rmN 2 49) D vwCl [(cI, .int)] [.ref h, nV row] (wX cI h a n p b w wi ni A) (PD (some (nV (cc (fun j => decide (A (16 * row + j) ≠ (fun m => A (16 * row + mi m (bt n))) j)) n))) (wX cI h a n p (bt n) w wi ni (ly A (fun m => A (16 * row + mi m (bt n))) row n))) 0 0 := by
  subst hb
  refine ct_of (plainFor_of_name (by decide)) rfl (Nat.le_of_ble_eq_true rfl) (fun φ C rX => ?_)
  have hin : ∀ w ∈ wsX00, w ∈ wsX0_mirror := by decide +kernel
  refine xw_le (lv' := [(0, .ref h), (1, nV row)]) rfl ?_
  have hn3 := lt3 hn
  refine xw_aload_n (pc := 0) C 0 dX0_mirror_0 rfl ?_
  refine xw_iload_n (pc := 1) C 1 dX0_mirror_1 rfl ?_
  refine xw_Vd (pc := 2) (q0 := 0) (na := 1) (rest := []) (st' := []) C (m_X0_requireRow row (by omega)) gX0_mirror_X0_requireRow rfl rfl rfl rfl (by decide +kernel) ⟨Nat.le_of_ble_eq_true rfl, Nat.le_of_ble_eq_true rfl⟩ rfl rfl rfl (Nat.le_of_ble_eq_true rfl) dX0_mirror_2 ⟨Nat.le_of_ble_eq_true rfl, Nat.le_of_ble_eq_true rfl⟩ rfl ?_
  refine xw_iconst_N (pc := 5) C 0 dX0_mirror_5 rfl ?_
  refine xw_istore_n (pc := 6) (lv' := [(0, .ref h), (1, nV row), (2, nV 0)]) C [1, 2, 0] dX0_mirror_6 rfl (by decide) rfl ?_
  have L7 : ∀ (fuel : Nat) (k : Nat), n < k + fuel → k ≤ n → xw φ 0 0 (wX cI h a n p (bt n) w wi ni (pf A n (fun m => mi m (bt n)) (fun k => A (16 * row + k)) k)) 7 [(0, .ref h), (1, nV row), (2, nV k)] [] := by
    intro fuel
    induction fuel with
    | zero =>
      intro k hk hkn
      omega
    | succ fuel ih7 =>
      intro k hk hkn
      refine xw_iload_n (pc := 7) C 2 dX0_mirror_7 rfl ?_
      refine xw_aload_n (pc := 8) C 0 dX0_mirror_8 rfl ?_
      refine xw_get (pc := 9) (T := TX0) (N := 7) (ref := "ToneButterflies") C hin 0 1 rfl rfl (by decide) (by decide +kernel) rfl rfl dX0_mirror_9 ?_
      refine xw_icmp_ge_N (pc := 12) (tgt := 37) C dX0_mirror_12 (by decide) (by omega) (by omega) (fun c_1 => ?_) (fun c_1 => ?_)
      ·
        refine xw_wo (w' := wX cI h a n p (bt n) w wi ni (sv A (fun m => A (16 * row + mi m (bt n))) n)) (by rw [show k = n from by omega, pf_n (fun m hm => (mi_p n (by omega) hn m (by omega) hm).1)]) ?_
        refine xw_aload_n (pc := 37) C 0 dX0_mirror_37 rfl ?_
        refine xw_iconst_N (pc := 38) C 4 dX0_mirror_38 rfl ?_
        refine xw_iload_n (pc := 39) C 1 dX0_mirror_39 rfl ?_
        refine xw_Vd (pc := 40) (q0 := 0) (na := 2) (rest := []) (st' := [nV (cc (fun j => decide ((sv A (fun m => A (16 * row + mi m (bt n))) n) (16 * row + j) ≠ (sv A (fun m => A (16 * row + mi m (bt n))) n) (16 * 4 + j))) n)]) C (m_X0_copyRow hn (sv_lt (g := (fun m => A (16 * row + mi m (bt n)))) hA (fun j _ => hA _)) 4 row (by omega) (by omega)) gX0_mirror_X0_copyRow rfl rfl rfl rfl (by decide +kernel) ⟨Nat.le_of_ble_eq_true rfl, Nat.le_of_ble_eq_true rfl⟩ rfl rfl rfl (Nat.le_of_ble_eq_true rfl) dX0_mirror_40 ⟨Nat.le_of_ble_eq_true rfl, Nat.le_of_ble_eq_true rfl⟩ rfl ?_
        refine xw_st (st' := [nV (cc (fun j => decide (A (16 * row + j) ≠ (fun m => A (16 * row + mi m (bt n))) j)) n)]) (by rw [show cc (fun j => decide (sv A (fun m => A (16 * row + mi m (bt n))) n (16 * row + j) ≠ sv A (fun m => A (16 * row + mi m (bt n))) n (16 * 4 + j))) n = _ from ly_cc (by omega) hrw]) ?_
        refine xw_wo (w' := wX cI h a n p (bt n) w wi ni (ly A (fun m => A (16 * row + mi m (bt n))) row n)) rfl ?_
        exact xw_iret (pc := 43) C rX (Nat.le_refl _) (Nat.le_refl _) dX0_mirror_43 (PD.i)
      ·
        have hm := mi_p n (by omega) hn k (by omega) (by omega)
        refine xw_aload_n (pc := 15) C 0 dX0_mirror_15 rfl ?_
        refine xw_iconst_N (pc := 16) C 4 dX0_mirror_16 rfl ?_
        refine xw_aload_n (pc := 17) C 0 dX0_mirror_17 rfl ?_
        refine xw_iload_n (pc := 18) C 2 dX0_mirror_18 rfl ?_
        refine xw_Vd (pc := 19) (q0 := 0) (na := 1) (rest := [nV 4, .ref h]) (st' := [nV (mi k (bt n)), nV 4, .ref h]) C (m_X0_mirrored (show bt n < 5 by unfold bt; split <;> (try split) <;> omega) k (by omega)) gX0_mirror_X0_mirrored rfl rfl rfl rfl (by decide +kernel) ⟨Nat.le_of_ble_eq_true rfl, Nat.le_of_ble_eq_true rfl⟩ rfl rfl rfl (Nat.le_of_ble_eq_true rfl) dX0_mirror_19 ⟨Nat.le_of_ble_eq_true rfl, Nat.le_of_ble_eq_true rfl⟩ rfl ?_
        refine xw_aload_n (pc := 22) C 0 dX0_mirror_22 rfl ?_
        refine xw_iload_n (pc := 23) C 1 dX0_mirror_23 rfl ?_
        refine xw_iload_n (pc := 24) C 2 dX0_mirror_24 rfl ?_
        refine xw_Vd (pc := 25) (q0 := 0) (na := 2) (rest := [nV (mi k (bt n)), nV 4, .ref h]) (st' := [nV ((pf A n (fun m => mi m (bt n)) (fun k => A (16 * row + k)) k) (16 * row + k)), nV (mi k (bt n)), nV 4, .ref h]) C (m_X0_read row k (by omega) (by omega)) gX0_mirror_X0_read rfl rfl rfl rfl (by decide +kernel) ⟨Nat.le_of_ble_eq_true rfl, Nat.le_of_ble_eq_true rfl⟩ rfl rfl rfl (Nat.le_of_ble_eq_true rfl) dX0_mirror_25 ⟨Nat.le_of_ble_eq_true rfl, Nat.le_of_ble_eq_true rfl⟩ rfl ?_
        refine xw_st (st' := [nV (A (16 * row + k)), nV (mi k (bt n)), nV 4, .ref h]) (by rw [pf_lo (by omega)]) ?_
        refine xw_Vd (pc := 28) (q0 := 0) (na := 3) (rest := []) (st' := []) C (m_X0_write 4 (mi k (bt n)) (A (16 * row + k)) (by omega) (by omega)) gX0_mirror_X0_write rfl rfl rfl rfl (by decide +kernel) ⟨Nat.le_of_ble_eq_true rfl, Nat.le_of_ble_eq_true rfl⟩ rfl rfl rfl (Nat.le_of_ble_eq_true rfl) dX0_mirror_28 ⟨Nat.le_of_ble_eq_true rfl, Nat.le_of_ble_eq_true rfl⟩ rfl ?_
        refine xw_wo (w' := wX cI h a n p (bt n) w wi ni (pf A n (fun m => mi m (bt n)) (fun k => A (16 * row + k)) (k + 1))) (by rw [pf_s rfl hm.1 hm.2 (fun m hm1 hm2 => by rw [← (mi_p n (by omega) hn m (by omega) hm1).2]; exact congrArg (fun z => mi z (bt n)) hm2)]) ?_
        refine xw_iinc_N (pc := 31) (b := k + 1) (lv' := [(0, .ref h), (1, nV row), (2, nV (k + 1))]) C 2 [1, 2, 0] dX0_mirror_31 rfl (by decide) rfl rfl ?_
        refine xw_goto (pc := 34) (tgt := 7) C dX0_mirror_34 (by decide) ?_
        exact ih7 (k + 1) (by omega) (by omega)
  refine xw_wo (w' := wX cI h a n p (bt n) w wi ni (pf A n (fun m => mi m (bt n)) (fun k => A (16 * row + k)) 0)) (by rw [pf_0]) ?_
  exact L7 (n + 1) 0 (by omega) (by omega)

set_option maxHeartbeats 4000000 in
set_option maxRecDepth 100000 in
theorem m_X0_stage {l : Launch} {D : va_G} {cI : ClassId} {h a n p b w wi ni : Nat} {A : Nat → Nat} (hp1 : 1 < p) (hp : 0 < p) (hp5 : p < 500) (hn : n = 4 ∨ n = 8 ∨ n = 16) (hA : ∀ j, A j < 500) (hw : w < 500) (hb : b = bt n) (row st : Nat) (hrw : row < 4) (hst : st < b) (hf : Nat) (hhf : hf = 2 ^ st) : CT l yX0_stage wsX0_stage (rmN 3 69) D vwCl [(cI, .int)] [.ref h, nV row, nV st] (wX cI h a n p b w wi ni A) (PD (some (nV (sg p n w A row hf 0))) (wX cI h a n p b w wi ni (mr A row (sg p n w A row hf) n))) 0 0 := by
  refine ct_of (plainFor_of_name (by decide)) rfl (Nat.le_of_ble_eq_true rfl) (fun φ C rX => ?_)
  have hin : ∀ w ∈ wsX00, w ∈ wsX0_stage := by decide +kernel
  refine xw_le (lv' := [(0, .ref h), (1, nV row), (2, nV st)]) rfl ?_
  have hn3 := lt3 hn
  have hbt : bt n ≤ 4 := by unfold bt; split <;> (try split) <;> omega
  have hh4 : (hf = 1 ∨ hf = 2 ∨ hf = 4 ∨ hf = 8) ∧ 2 * hf ≤ n ∧ n % (2 * hf) = 0 ∧ st < 4 := stH n hn st (hb ▸ hst) hf hhf
  refine xw_aload_n (pc := 0) C 0 dX0_stage_0 rfl ?_
  refine xw_iload_n (pc := 1) C 1 dX0_stage_1 rfl ?_
  refine xw_Vd (pc := 2) (q0 := 0) (na := 1) (rest := []) (st' := []) C (m_X0_requireRow row (by omega)) gX0_stage_X0_requireRow rfl rfl rfl rfl (by decide +kernel) ⟨Nat.le_of_ble_eq_true rfl, Nat.le_of_ble_eq_true rfl⟩ rfl rfl rfl (Nat.le_of_ble_eq_true rfl) dX0_stage_2 ⟨Nat.le_of_ble_eq_true rfl, Nat.le_of_ble_eq_true rfl⟩ rfl ?_
  refine xw_iload_n (pc := 5) C 2 dX0_stage_5 rfl ?_
  refine xw_if_lt_N (pc := 6) (tgt := 17) C dX0_stage_6 (by decide) (by omega) (fun c_1 => (by exfalso; omega)) (fun c_1 => ?_)
  refine xw_iload_n (pc := 9) C 2 dX0_stage_9 rfl ?_
  refine xw_aload_n (pc := 10) C 0 dX0_stage_10 rfl ?_
  refine xw_get (pc := 11) (T := TX0) (N := 7) (ref := "ToneButterflies") C hin 0 3 rfl rfl (by decide) (by decide +kernel) rfl rfl dX0_stage_11 ?_
  refine xw_icmp_lt_N (pc := 14) (tgt := 27) C dX0_stage_14 (by decide) (by omega) (by omega) (fun c_2 => ?_) (fun c_2 => (by exfalso; omega))
  refine xw_iconst_N (pc := 27) C 1 dX0_stage_27 rfl ?_
  refine xw_iload_n (pc := 28) C 2 dX0_stage_28 rfl ?_
  refine xw_ishl (pc := 29) (r := iI ((hf : Nat) : Int)) C dX0_stage_29 (by rw [shl_k st (by omega), ← hhf]) ?_
  refine xw_istore_n (pc := 30) (lv' := [(0, .ref h), (1, nV row), (2, nV st), (3, nV hf)]) C [1, 2, 3, 0] dX0_stage_30 rfl (by decide) rfl ?_
  refine xw_iconst_N (pc := 31) C 0 dX0_stage_31 rfl ?_
  refine xw_istore (pc := 32) (lv' := [(0, .ref h), (1, nV row), (2, nV st), (3, nV hf), (4, nV 0)]) C [1, 2, 3, 4, 0] dX0_stage_32 (by decide) rfl ?_
  have L34 : ∀ (fuel : Nat) (c bk : Nat), n < bk + fuel → bk = 2 * hf * c → bk ≤ n → xw φ 0 0 (wX cI h a n p b w wi ni (stg p n w A row hf bk 0)) 34 [(0, .ref h), (1, nV row), (2, nV st), (3, nV hf), (4, nV bk)] [] := by
    intro fuel
    induction fuel with
    | zero =>
      intro c bk hk hbk hbn
      omega
    | succ fuel ih34 =>
      intro c bk hk hbk hbn
      refine xw_iload (pc := 34) C 4 dX0_stage_34 rfl ?_
      refine xw_aload_n (pc := 36) C 0 dX0_stage_36 rfl ?_
      refine xw_get (pc := 37) (T := TX0) (N := 7) (ref := "ToneButterflies") C hin 0 1 rfl rfl (by decide) (by decide +kernel) rfl rfl dX0_stage_37 ?_
      refine xw_icmp_ge_N (pc := 40) (tgt := 109) C dX0_stage_40 (by decide) (by omega) (by omega) (fun c_3 => ?_) (fun c_3 => ?_)
      ·
        refine xw_wo (w' := wX cI h a n p b w wi ni (mr A row (sg p n w A row hf) n)) (by rw [show bk = n from by omega, stg_n]) ?_
        refine xw_aload_n (pc := 109) C 0 dX0_stage_109 rfl ?_
        refine xw_iload_n (pc := 110) C 1 dX0_stage_110 rfl ?_
        refine xw_iconst_N (pc := 111) C 0 dX0_stage_111 rfl ?_
        refine xw_Vd (pc := 112) (q0 := 0) (na := 2) (rest := []) (st' := [nV ((mr A row (sg p n w A row hf) n) (16 * row + 0))]) C (m_X0_read row 0 (by omega) (by omega)) gX0_stage_X0_read rfl rfl rfl rfl (by decide +kernel) ⟨Nat.le_of_ble_eq_true rfl, Nat.le_of_ble_eq_true rfl⟩ rfl rfl rfl (Nat.le_of_ble_eq_true rfl) dX0_stage_112 ⟨Nat.le_of_ble_eq_true rfl, Nat.le_of_ble_eq_true rfl⟩ rfl ?_
        refine xw_st (st' := [nV (sg p n w A row hf 0)]) (by rw [mr_in (by omega)]) ?_
        exact xw_iret (pc := 115) C rX (Nat.le_refl _) (Nat.le_refl _) dX0_stage_115 (PD.i)
      ·
        have hbn2 : bk + 2 * hf ≤ n := by
          obtain ⟨h1, h2, h3, h4⟩ := hh4
          rcases h1 with rfl | rfl | rfl | rfl <;> rcases hn with rfl | rfl | rfl <;> omega
        refine xw_iconst_N (pc := 43) C 0 dX0_stage_43 rfl ?_
        refine xw_istore (pc := 44) (lv' := [(0, .ref h), (1, nV row), (2, nV st), (3, nV hf), (4, nV bk), (5, nV 0)]) C [1, 2, 3, 4, 5, 0] dX0_stage_44 (by decide) rfl ?_
        have L46 : ∀ (fuel : Nat) (j : Nat), hf < j + fuel → j ≤ hf → xw φ 0 0 (wX cI h a n p b w wi ni (stg p n w A row hf bk j)) 46 [(0, .ref h), (1, nV row), (2, nV st), (3, nV hf), (4, nV bk), (5, nV j)] [] := by
          intro fuel
          induction fuel with
          | zero =>
            intro j hj hjh
            omega
          | succ fuel ih46 =>
            intro j hj hjh
            refine xw_iload (pc := 46) C 5 dX0_stage_46 rfl ?_
            refine xw_iload_n (pc := 48) C 3 dX0_stage_48 rfl ?_
            refine xw_icmp_ge_N (pc := 49) (tgt := 98) C dX0_stage_49 (by decide) (by omega) (by omega) (fun c_4 => ?_) (fun c_4 => ?_)
            ·
              refine xw_wo (w' := wX cI h a n p b w wi ni (stg p n w A row hf (bk + 2 * hf) 0)) (by rw [show j = hf from by omega, stg_o (by omega)]) ?_
              refine xw_iload (pc := 98) C 4 dX0_stage_98 rfl ?_
              refine xw_iconst_N (pc := 100) C 2 dX0_stage_100 rfl ?_
              refine xw_iload_n (pc := 101) C 3 dX0_stage_101 rfl ?_
              refine xw_imul_N (pc := 102) C dX0_stage_102 ?_
              refine xw_iadd_N (pc := 103) C dX0_stage_103 ?_
              refine xw_istore (pc := 104) (lv' := [(0, .ref h), (1, nV row), (2, nV st), (3, nV hf), (4, nV (bk + (2 * hf))), (5, nV j)]) C [1, 2, 3, 4, 0, 5] dX0_stage_104 (by decide) rfl ?_
              refine xw_goto (pc := 106) (tgt := 34) C dX0_stage_106 (by decide) ?_
              refine xw_lv (lv' := [(0, .ref h), (1, nV row), (2, nV st), (3, nV hf), (4, nV (bk + (2 * hf)))]) [0, 1, 2, 3, 4] rfl ?_
              exact ih34 (c + 1) _ (by omega) (by rw [hbk, Nat.mul_succ]) (by omega)
            ·
              have hdv := Nat.div_le_self n (2 * hf)
              have hmu := Nat.mul_le_mul (show j ≤ 8 by omega) (show n / (2 * hf) ≤ 16 by omega)
              refine xw_aload_n (pc := 52) C 0 dX0_stage_52 rfl ?_
              refine xw_aload_n (pc := 53) C 0 dX0_stage_53 rfl ?_
              refine xw_get (pc := 54) (T := TX0) (N := 7) (ref := "ToneButterflies") C hin 0 4 rfl rfl (by decide) (by decide +kernel) rfl rfl dX0_stage_54 ?_
              refine xw_iload (pc := 57) C 5 dX0_stage_57 rfl ?_
              refine xw_aload_n (pc := 59) C 0 dX0_stage_59 rfl ?_
              refine xw_get (pc := 60) (T := TX0) (N := 7) (ref := "ToneButterflies") C hin 0 1 rfl rfl (by decide) (by decide +kernel) rfl rfl dX0_stage_60 ?_
              refine xw_iload_n (pc := 63) C 2 dX0_stage_63 rfl ?_
              refine xw_iconst_N (pc := 64) C 1 dX0_stage_64 rfl ?_
              refine xw_iadd_N (pc := 65) C dX0_stage_65 ?_
              refine xw_ishr (pc := 66) (r := iI ((n / (2 * hf) : Nat) : Int)) C dX0_stage_66 (by rw [shr_k5 n (by omega) (st + 1) (by omega), Nat.pow_succ, ← hhf, Nat.mul_comm hf 2]) ?_
              refine xw_imul_N (pc := 67) C dX0_stage_67 ?_
              refine xw_Vd (pc := 68) (q0 := 0) (na := 2) (rest := []) (st' := [nV (w ^ (j * (n / (2 * hf))) % p)]) C (m_X0_powerOf hp1 hp5 w (j * (n / (2 * hf))) (by omega) (by omega)) gX0_stage_X0_powerOf rfl rfl rfl rfl (by decide +kernel) ⟨Nat.le_of_ble_eq_true rfl, Nat.le_of_ble_eq_true rfl⟩ rfl rfl rfl (Nat.le_of_ble_eq_true rfl) dX0_stage_68 ⟨Nat.le_of_ble_eq_true rfl, Nat.le_of_ble_eq_true rfl⟩ rfl ?_
              refine xw_istore (pc := 71) (lv' := [(0, .ref h), (1, nV row), (2, nV st), (3, nV hf), (4, nV bk), (5, nV j), (6, nV (w ^ (j * (n / (2 * hf))) % p))]) C [1, 2, 3, 4, 5, 6, 0] dX0_stage_71 (by decide) rfl ?_
              have htw := Nat.mod_lt (w ^ (j * (n / (2 * hf)))) hp
              refine xw_aload_n (pc := 73) C 0 dX0_stage_73 rfl ?_
              refine xw_iload_n (pc := 74) C 1 dX0_stage_74 rfl ?_
              refine xw_iload (pc := 75) C 4 dX0_stage_75 rfl ?_
              refine xw_iload (pc := 77) C 5 dX0_stage_77 rfl ?_
              refine xw_iadd_N (pc := 79) C dX0_stage_79 ?_
              refine xw_iload (pc := 80) C 4 dX0_stage_80 rfl ?_
              refine xw_iload (pc := 82) C 5 dX0_stage_82 rfl ?_
              refine xw_iadd_N (pc := 84) C dX0_stage_84 ?_
              refine xw_iload_n (pc := 85) C 3 dX0_stage_85 rfl ?_
              refine xw_iadd_N (pc := 86) C dX0_stage_86 ?_
              refine xw_iload (pc := 87) C 6 dX0_stage_87 rfl ?_
              refine xw_Vd (pc := 89) (q0 := 0) (na := 4) (rest := []) (st' := []) C (m_X0_butterfly hp hp5 (stg_lt hp hp5 hA) row (bk + j) ((bk + j) + hf) (w ^ (j * (n / (2 * hf))) % p) (by omega) (by omega) (by omega) (by omega)) gX0_stage_X0_butterfly rfl rfl rfl rfl (by decide +kernel) ⟨Nat.le_of_ble_eq_true rfl, Nat.le_of_ble_eq_true rfl⟩ rfl rfl rfl (Nat.le_of_ble_eq_true rfl) dX0_stage_89 ⟨Nat.le_of_ble_eq_true rfl, Nat.le_of_ble_eq_true rfl⟩ rfl ?_
              refine xw_wo (w' := wX cI h a n p b w wi ni (stg p n w A row hf bk (j + 1))) (by rw [stg_s hh4.1 hbk (by omega) hbn2]) ?_
              refine xw_iinc_N (pc := 92) (b := j + 1) (lv' := [(0, .ref h), (1, nV row), (2, nV st), (3, nV hf), (4, nV bk), (5, nV (j + 1)), (6, nV (w ^ (j * (n / (2 * hf))) % p))]) C 5 [1, 2, 3, 4, 5, 0, 6] dX0_stage_92 rfl (by decide) rfl rfl ?_
              refine xw_goto (pc := 95) (tgt := 46) C dX0_stage_95 (by decide) ?_
              refine xw_lv (lv' := [(0, .ref h), (1, nV row), (2, nV st), (3, nV hf), (4, nV bk), (5, nV (j + 1))]) [0, 1, 2, 3, 4, 5] rfl ?_
              exact ih46 (j + 1) (by omega) (by omega)
        exact L46 (hf + 1) 0 (by omega) (by omega)
  refine xw_wo (w' := wX cI h a n p b w wi ni (stg p n w A row hf 0 0)) (by rw [stg_0]) ?_
  exact L34 (n + 1) 0 0 (by omega) (by omega) (by omega)

set_option maxHeartbeats 4000000 in
set_option maxRecDepth 100000 in
theorem m_X0_fold {l : Launch} {D : va_G} {cI : ClassId} {h a n p b w wi ni : Nat} {A : Nat → Nat} (hp : 0 < p) (hp5 : p < 500) (hn : n = 4 ∨ n = 8 ∨ n = 16) (hA : ∀ j, A j < 500) (ra rb : Nat) (hra : ra < 4) (hrb : rb < 4) : CT l yX0_fold wsX0_fold (rmN 3 68) D vwCl [(cI, .int)] [.ref h, nV ra, nV rb] (wX cI h a n p b w wi ni A) (PD (some (nV (fo p n A ra rb 0 n))) (wX cI h a n p b w wi ni (ly A (fun k => fo p n A ra rb k n) ra n))) 0 0 := by
  refine ct_of (plainFor_of_name (by decide)) rfl (Nat.le_of_ble_eq_true rfl) (fun φ C rX => ?_)
  have hin : ∀ w ∈ wsX00, w ∈ wsX0_fold := by decide +kernel
  refine xw_le (lv' := [(0, .ref h), (1, nV ra), (2, nV rb)]) rfl ?_
  have hn3 := lt3 hn
  refine xw_aload_n (pc := 0) C 0 dX0_fold_0 rfl ?_
  refine xw_iload_n (pc := 1) C 1 dX0_fold_1 rfl ?_
  refine xw_Vd (pc := 2) (q0 := 0) (na := 1) (rest := []) (st' := []) C (m_X0_requireRow ra (by omega)) gX0_fold_X0_requireRow rfl rfl rfl rfl (by decide +kernel) ⟨Nat.le_of_ble_eq_true rfl, Nat.le_of_ble_eq_true rfl⟩ rfl rfl rfl (Nat.le_of_ble_eq_true rfl) dX0_fold_2 ⟨Nat.le_of_ble_eq_true rfl, Nat.le_of_ble_eq_true rfl⟩ rfl ?_
  refine xw_aload_n (pc := 5) C 0 dX0_fold_5 rfl ?_
  refine xw_iload_n (pc := 6) C 2 dX0_fold_6 rfl ?_
  refine xw_Vd (pc := 7) (q0 := 0) (na := 1) (rest := []) (st' := []) C (m_X0_requireRow rb (by omega)) gX0_fold_X0_requireRow rfl rfl rfl rfl (by decide +kernel) ⟨Nat.le_of_ble_eq_true rfl, Nat.le_of_ble_eq_true rfl⟩ rfl rfl rfl (Nat.le_of_ble_eq_true rfl) dX0_fold_7 ⟨Nat.le_of_ble_eq_true rfl, Nat.le_of_ble_eq_true rfl⟩ rfl ?_
  refine xw_iconst_N (pc := 10) C 0 dX0_fold_10 rfl ?_
  refine xw_istore_n (pc := 11) (lv' := [(0, .ref h), (1, nV ra), (2, nV rb), (3, nV 0)]) C [1, 2, 3, 0] dX0_fold_11 rfl (by decide) rfl ?_
  have L12 : ∀ (fuel : Nat) (k : Nat), n < k + fuel → k ≤ n → xw φ 0 0 (wX cI h a n p b w wi ni (sv A (fun k => fo p n A ra rb k n) k)) 12 [(0, .ref h), (1, nV ra), (2, nV rb), (3, nV k)] [] := by
    intro fuel
    induction fuel with
    | zero =>
      intro k hk hkn
      omega
    | succ fuel ih12 =>
      intro k hk hkn
      refine xw_iload_n (pc := 12) C 3 dX0_fold_12 rfl ?_
      refine xw_aload_n (pc := 13) C 0 dX0_fold_13 rfl ?_
      refine xw_get (pc := 14) (T := TX0) (N := 7) (ref := "ToneButterflies") C hin 0 1 rfl rfl (by decide) (by decide +kernel) rfl rfl dX0_fold_14 ?_
      refine xw_icmp_ge_N (pc := 17) (tgt := 39) C dX0_fold_17 (by decide) (by omega) (by omega) (fun c_1 => ?_) (fun c_1 => ?_)
      ·
        refine xw_wo (w' := wX cI h a n p b w wi ni (sv A (fun k => fo p n A ra rb k n) n)) (by rw [show k = n from by omega]) ?_
        refine xw_aload_n (pc := 39) C 0 dX0_fold_39 rfl ?_
        refine xw_iconst_N (pc := 40) C 4 dX0_fold_40 rfl ?_
        refine xw_iload_n (pc := 41) C 1 dX0_fold_41 rfl ?_
        refine xw_Vd (pc := 42) (q0 := 0) (na := 2) (rest := []) (st' := [nV (cc (fun j => decide ((sv A (fun k => fo p n A ra rb k n) n) (16 * ra + j) ≠ (sv A (fun k => fo p n A ra rb k n) n) (16 * 4 + j))) n)]) C (m_X0_copyRow hn (sv_lt (g := (fun k => fo p n A ra rb k n)) hA (fun j _ => Nat.lt_trans (fo_lt hp n) hp5)) 4 ra (by omega) (by omega)) gX0_fold_X0_copyRow rfl rfl rfl rfl (by decide +kernel) ⟨Nat.le_of_ble_eq_true rfl, Nat.le_of_ble_eq_true rfl⟩ rfl rfl rfl (Nat.le_of_ble_eq_true rfl) dX0_fold_42 ⟨Nat.le_of_ble_eq_true rfl, Nat.le_of_ble_eq_true rfl⟩ rfl ?_
        refine xw_wo (w' := wX cI h a n p b w wi ni (ly A (fun k => fo p n A ra rb k n) ra n)) rfl ?_
        refine xw_pop (pc := 45) C dX0_fold_45 rfl ?_
        refine xw_aload_n (pc := 46) C 0 dX0_fold_46 rfl ?_
        refine xw_iload_n (pc := 47) C 1 dX0_fold_47 rfl ?_
        refine xw_iconst_N (pc := 48) C 0 dX0_fold_48 rfl ?_
        refine xw_Vd (pc := 49) (q0 := 0) (na := 2) (rest := []) (st' := [nV ((ly A (fun k => fo p n A ra rb k n) ra n) (16 * ra + 0))]) C (m_X0_read ra 0 (by omega) (by omega)) gX0_fold_X0_read rfl rfl rfl rfl (by decide +kernel) ⟨Nat.le_of_ble_eq_true rfl, Nat.le_of_ble_eq_true rfl⟩ rfl rfl rfl (Nat.le_of_ble_eq_true rfl) dX0_fold_49 ⟨Nat.le_of_ble_eq_true rfl, Nat.le_of_ble_eq_true rfl⟩ rfl ?_
        refine xw_st (st' := [nV (fo p n A ra rb 0 n)]) (by rw [ly_at (by omega)]) ?_
        exact xw_iret (pc := 52) C rX (Nat.le_refl _) (Nat.le_refl _) dX0_fold_52 (PD.i)
      ·
        refine xw_aload_n (pc := 20) C 0 dX0_fold_20 rfl ?_
        refine xw_iconst_N (pc := 21) C 4 dX0_fold_21 rfl ?_
        refine xw_iload_n (pc := 22) C 3 dX0_fold_22 rfl ?_
        refine xw_aload_n (pc := 23) C 0 dX0_fold_23 rfl ?_
        refine xw_iload_n (pc := 24) C 1 dX0_fold_24 rfl ?_
        refine xw_iload_n (pc := 25) C 2 dX0_fold_25 rfl ?_
        refine xw_iload_n (pc := 26) C 3 dX0_fold_26 rfl ?_
        refine xw_Vd (pc := 27) (q0 := 0) (na := 3) (rest := [nV k, nV 4, .ref h]) (st' := [nV (fo p n (sv A (fun k => fo p n A ra rb k n) k) ra rb k n), nV k, nV 4, .ref h]) C (m_X0_foldedAt hp hp5 hn (sv_lt (g := (fun k => fo p n A ra rb k n)) hA (fun j _ => Nat.lt_trans (fo_lt hp n) hp5)) ra rb k (by omega) (by omega) (by omega)) gX0_fold_X0_foldedAt rfl rfl rfl rfl (by decide +kernel) ⟨Nat.le_of_ble_eq_true rfl, Nat.le_of_ble_eq_true rfl⟩ rfl rfl rfl (Nat.le_of_ble_eq_true rfl) dX0_fold_27 ⟨Nat.le_of_ble_eq_true rfl, Nat.le_of_ble_eq_true rfl⟩ rfl ?_
        refine xw_st (st' := [nV (fo p n A ra rb k n), nV k, nV 4, .ref h]) (by rw [fo_cg (B := A) (by omega) (fun k9 h9 => sv_lo (by omega)) (fun k9 h9 => sv_lo (by omega)) n (Nat.le_refl n)]) ?_
        refine xw_Vd (pc := 30) (q0 := 0) (na := 3) (rest := []) (st' := []) C (m_X0_write 4 k (fo p n A ra rb k n) (by omega) (by omega)) gX0_fold_X0_write rfl rfl rfl rfl (by decide +kernel) ⟨Nat.le_of_ble_eq_true rfl, Nat.le_of_ble_eq_true rfl⟩ rfl rfl rfl (Nat.le_of_ble_eq_true rfl) dX0_fold_30 ⟨Nat.le_of_ble_eq_true rfl, Nat.le_of_ble_eq_true rfl⟩ rfl ?_
        refine xw_wo (w' := wX cI h a n p b w wi ni (sv A (fun k => fo p n A ra rb k n) (k + 1))) (by rw [sv_s rfl]) ?_
        refine xw_iinc_N (pc := 33) (b := k + 1) (lv' := [(0, .ref h), (1, nV ra), (2, nV rb), (3, nV (k + 1))]) C 3 [1, 2, 3, 0] dX0_fold_33 rfl (by decide) rfl rfl ?_
        refine xw_goto (pc := 36) (tgt := 12) C dX0_fold_36 (by decide) ?_
        exact ih12 (k + 1) (by omega) (by omega)
  refine xw_wo (w' := wX cI h a n p b w wi ni (sv A (fun k => fo p n A ra rb k n) 0)) (by rw [sv_0]) ?_
  exact L12 (n + 1) 0 (by omega) (by omega)

set_option maxHeartbeats 4000000 in
set_option maxRecDepth 100000 in
theorem m_X0_join {l : Launch} {D : va_G} {cI : ClassId} {h a n p b w wi ni : Nat} {A : Nat → Nat} (hp : 0 < p) (hp5 : p < 500) (hn : n = 4 ∨ n = 8 ∨ n = 16) (hA : ∀ j, A j < 500) (hAp : ∀ j, j < 64 → A j < p) (ra rb : Nat) (hra : ra < 4) (hrb : rb < 4) (what : Nat) (hwh : what < 3) : CT l yX0_join wsX0_join (rmN 3 66) D vwCl [(cI, .int)] [.ref h, nV ra, nV rb, nV what] (wX cI h a n p b w wi ni A) (PD (some (nV (cc (fun k => decide (mr A ra (fun i => jn p (A (16 * ra + i)) (A (16 * rb + i)) what) n (16 * ra + k) ≠ 0)) n))) (wX cI h a n p b w wi ni (mr A ra (fun i => jn p (A (16 * ra + i)) (A (16 * rb + i)) what) n))) 0 0 := by
  refine ct_of (plainFor_of_name (by decide)) rfl (Nat.le_of_ble_eq_true rfl) (fun φ C rX => ?_)
  have hin : ∀ w ∈ wsX00, w ∈ wsX0_join := by decide +kernel
  refine xw_le (lv' := [(0, .ref h), (1, nV ra), (2, nV rb), (3, nV what)]) rfl ?_
  have hn3 := lt3 hn
  refine xw_aload_n (pc := 0) C 0 dX0_join_0 rfl ?_
  refine xw_iload_n (pc := 1) C 1 dX0_join_1 rfl ?_
  refine xw_Vd (pc := 2) (q0 := 0) (na := 1) (rest := []) (st' := []) C (m_X0_requireRow ra (by omega)) gX0_join_X0_requireRow rfl rfl rfl rfl (by decide +kernel) ⟨Nat.le_of_ble_eq_true rfl, Nat.le_of_ble_eq_true rfl⟩ rfl rfl rfl (Nat.le_of_ble_eq_true rfl) dX0_join_2 ⟨Nat.le_of_ble_eq_true rfl, Nat.le_of_ble_eq_true rfl⟩ rfl ?_
  refine xw_aload_n (pc := 5) C 0 dX0_join_5 rfl ?_
  refine xw_iload_n (pc := 6) C 2 dX0_join_6 rfl ?_
  refine xw_Vd (pc := 7) (q0 := 0) (na := 1) (rest := []) (st' := []) C (m_X0_requireRow rb (by omega)) gX0_join_X0_requireRow rfl rfl rfl rfl (by decide +kernel) ⟨Nat.le_of_ble_eq_true rfl, Nat.le_of_ble_eq_true rfl⟩ rfl rfl rfl (Nat.le_of_ble_eq_true rfl) dX0_join_7 ⟨Nat.le_of_ble_eq_true rfl, Nat.le_of_ble_eq_true rfl⟩ rfl ?_
  refine xw_iload_n (pc := 10) C 3 dX0_join_10 rfl ?_
  refine xw_if_lt_N (pc := 11) (tgt := 19) C dX0_join_11 (by decide) (by omega) (fun c_1 => (by exfalso; omega)) (fun c_1 => ?_)
  refine xw_iload_n (pc := 14) C 3 dX0_join_14 rfl ?_
  refine xw_iconst_N (pc := 15) C 3 dX0_join_15 rfl ?_
  refine xw_icmp_lt_N (pc := 16) (tgt := 29) C dX0_join_16 (by decide) (by omega) (by omega) (fun c_2 => ?_) (fun c_2 => (by exfalso; omega))
  refine xw_iconst_N (pc := 29) C 0 dX0_join_29 rfl ?_
  refine xw_istore (pc := 30) (lv' := [(0, .ref h), (1, nV ra), (2, nV rb), (3, nV what), (4, nV 0)]) C [1, 2, 3, 4, 0] dX0_join_30 (by decide) rfl ?_
  have L32 : ∀ (fuel : Nat) (k : Nat), n < k + fuel → k ≤ n → xw φ 0 0 (wX cI h a n p b w wi ni (mr A ra (fun i => jn p (A (16 * ra + i)) (A (16 * rb + i)) what) k)) 32 [(0, .ref h), (1, nV ra), (2, nV rb), (3, nV what), (4, nV k)] [] := by
    intro fuel
    induction fuel with
    | zero =>
      intro k hk hkn
      omega
    | succ fuel ih32 =>
      intro k hk hkn
      refine xw_iload (pc := 32) C 4 dX0_join_32 rfl ?_
      refine xw_aload_n (pc := 34) C 0 dX0_join_34 rfl ?_
      refine xw_get (pc := 35) (T := TX0) (N := 7) (ref := "ToneButterflies") C hin 0 1 rfl rfl (by decide) (by decide +kernel) rfl rfl dX0_join_35 ?_
      refine xw_icmp_ge_N (pc := 38) (tgt := 73) C dX0_join_38 (by decide) (by omega) (by omega) (fun c_3 => ?_) (fun c_3 => ?_)
      ·
        refine xw_wo (w' := wX cI h a n p b w wi ni (mr A ra (fun i => jn p (A (16 * ra + i)) (A (16 * rb + i)) what) n)) (by rw [show k = n from by omega]) ?_
        refine xw_aload_n (pc := 73) C 0 dX0_join_73 rfl ?_
        refine xw_iload_n (pc := 74) C 1 dX0_join_74 rfl ?_
        refine xw_Vd (pc := 75) (q0 := 0) (na := 1) (rest := []) (st' := [nV (cc (fun k => decide ((mr A ra (fun i => jn p (A (16 * ra + i)) (A (16 * rb + i)) what) n) (16 * ra + k) ≠ 0)) n)]) C (m_X0_nonZeros hn (mr_lt (g := (fun i => jn p (A (16 * ra + i)) (A (16 * rb + i)) what)) hA (fun j _ => Nat.lt_trans (jn_lt hp what) hp5)) ra (by omega)) gX0_join_X0_nonZeros rfl rfl rfl rfl (by decide +kernel) ⟨Nat.le_of_ble_eq_true rfl, Nat.le_of_ble_eq_true rfl⟩ rfl rfl rfl (Nat.le_of_ble_eq_true rfl) dX0_join_75 ⟨Nat.le_of_ble_eq_true rfl, Nat.le_of_ble_eq_true rfl⟩ rfl ?_
        exact xw_iret (pc := 78) C rX (Nat.le_refl _) (Nat.le_refl _) dX0_join_78 (PD.i)
      ·
        have hb1 := hA (16 * ra + k)
        have hb2 := hAp (16 * rb + k) (by omega)
        refine xw_aload_n (pc := 41) C 0 dX0_join_41 rfl ?_
        refine xw_iload_n (pc := 42) C 1 dX0_join_42 rfl ?_
        refine xw_iload (pc := 43) C 4 dX0_join_43 rfl ?_
        refine xw_aload_n (pc := 45) C 0 dX0_join_45 rfl ?_
        refine xw_aload_n (pc := 46) C 0 dX0_join_46 rfl ?_
        refine xw_iload_n (pc := 47) C 1 dX0_join_47 rfl ?_
        refine xw_iload (pc := 48) C 4 dX0_join_48 rfl ?_
        refine xw_Vd (pc := 50) (q0 := 0) (na := 2) (rest := [.ref h, nV k, nV ra, .ref h]) (st' := [nV ((mr A ra (fun i => jn p (A (16 * ra + i)) (A (16 * rb + i)) what) k) (16 * ra + k)), .ref h, nV k, nV ra, .ref h]) C (m_X0_read ra k (by omega) (by omega)) gX0_join_X0_read rfl rfl rfl rfl (by decide +kernel) ⟨Nat.le_of_ble_eq_true rfl, Nat.le_of_ble_eq_true rfl⟩ rfl rfl rfl (Nat.le_of_ble_eq_true rfl) dX0_join_50 ⟨Nat.le_of_ble_eq_true rfl, Nat.le_of_ble_eq_true rfl⟩ rfl ?_
        refine xw_st (st' := [nV (A (16 * ra + k)), .ref h, nV k, nV ra, .ref h]) (by rw [mr_at (by omega)]) ?_
        refine xw_aload_n (pc := 53) C 0 dX0_join_53 rfl ?_
        refine xw_iload_n (pc := 54) C 2 dX0_join_54 rfl ?_
        refine xw_iload (pc := 55) C 4 dX0_join_55 rfl ?_
        refine xw_Vd (pc := 57) (q0 := 0) (na := 2) (rest := [nV (A (16 * ra + k)), .ref h, nV k, nV ra, .ref h]) (st' := [nV ((mr A ra (fun i => jn p (A (16 * ra + i)) (A (16 * rb + i)) what) k) (16 * rb + k)), nV (A (16 * ra + k)), .ref h, nV k, nV ra, .ref h]) C (m_X0_read rb k (by omega) (by omega)) gX0_join_X0_read rfl rfl rfl rfl (by decide +kernel) ⟨Nat.le_of_ble_eq_true rfl, Nat.le_of_ble_eq_true rfl⟩ rfl rfl rfl (Nat.le_of_ble_eq_true rfl) dX0_join_57 ⟨Nat.le_of_ble_eq_true rfl, Nat.le_of_ble_eq_true rfl⟩ rfl ?_
        refine xw_st (st' := [nV (A (16 * rb + k)), nV (A (16 * ra + k)), .ref h, nV k, nV ra, .ref h]) (by rw [mr_at (by omega)]) ?_
        refine xw_iload_n (pc := 60) C 3 dX0_join_60 rfl ?_
        refine xw_Vd (pc := 61) (q0 := 0) (na := 3) (rest := [nV k, nV ra, .ref h]) (st' := [nV (jn p (A (16 * ra + k)) (A (16 * rb + k)) what), nV k, nV ra, .ref h]) C (m_X0_joined hp hp5 (A (16 * ra + k)) (A (16 * rb + k)) what (by omega) (by omega) (by omega)) gX0_join_X0_joined rfl rfl rfl rfl (by decide +kernel) ⟨Nat.le_of_ble_eq_true rfl, Nat.le_of_ble_eq_true rfl⟩ rfl rfl rfl (Nat.le_of_ble_eq_true rfl) dX0_join_61 ⟨Nat.le_of_ble_eq_true rfl, Nat.le_of_ble_eq_true rfl⟩ rfl ?_
        refine xw_Vd (pc := 64) (q0 := 0) (na := 3) (rest := []) (st' := []) C (m_X0_write ra k (jn p (A (16 * ra + k)) (A (16 * rb + k)) what) (by omega) (by omega)) gX0_join_X0_write rfl rfl rfl rfl (by decide +kernel) ⟨Nat.le_of_ble_eq_true rfl, Nat.le_of_ble_eq_true rfl⟩ rfl rfl rfl (Nat.le_of_ble_eq_true rfl) dX0_join_64 ⟨Nat.le_of_ble_eq_true rfl, Nat.le_of_ble_eq_true rfl⟩ rfl ?_
        refine xw_wo (w' := wX cI h a n p b w wi ni (mr A ra (fun i => jn p (A (16 * ra + i)) (A (16 * rb + i)) what) (k + 1))) (by rw [mr_s rfl]) ?_
        refine xw_iinc_N (pc := 67) (b := k + 1) (lv' := [(0, .ref h), (1, nV ra), (2, nV rb), (3, nV what), (4, nV (k + 1))]) C 4 [1, 2, 3, 4, 0] dX0_join_67 rfl (by decide) rfl rfl ?_
        refine xw_goto (pc := 70) (tgt := 32) C dX0_join_70 (by decide) ?_
        exact ih32 (k + 1) (by omega) (by omega)
  refine xw_wo (w' := wX cI h a n p b w wi ni (mr A ra (fun i => jn p (A (16 * ra + i)) (A (16 * rb + i)) what) 0)) (by rw [mr_0]) ?_
  exact L32 (n + 1) 0 (by omega) (by omega)

set_option maxHeartbeats 4000000 in
set_option maxRecDepth 100000 in
theorem m_X0_times {l : Launch} {D : va_G} {cI : ClassId} {h a n p b w wi ni : Nat} {A : Nat → Nat} (hp : 0 < p) (hp5 : p < 500) (hn : n = 4 ∨ n = 8 ∨ n = 16) (hA : ∀ j, A j < 500) (row : Nat) (hrw : row < 4) (f : Nat) (hf : f < p) : CT l yX0_times wsX0_times (rmN 2 46) D vwCl [(cI, .int)] [.ref h, nV row, nV f] (wX cI h a n p b w wi ni A) (PD (some (nV (cc (fun k => decide (mr A row (fun i => A (16 * row + i) * f % p) n (16 * row + k) ≠ 0)) n))) (wX cI h a n p b w wi ni (mr A row (fun i => A (16 * row + i) * f % p) n))) 0 0 := by
  refine ct_of (plainFor_of_name (by decide)) rfl (Nat.le_of_ble_eq_true rfl) (fun φ C rX => ?_)
  have hin : ∀ w ∈ wsX00, w ∈ wsX0_times := by decide +kernel
  refine xw_le (lv' := [(0, .ref h), (1, nV row), (2, nV f)]) rfl ?_
  have hn3 := lt3 hn
  refine xw_aload_n (pc := 0) C 0 dX0_times_0 rfl ?_
  refine xw_iload_n (pc := 1) C 1 dX0_times_1 rfl ?_
  refine xw_Vd (pc := 2) (q0 := 0) (na := 1) (rest := []) (st' := []) C (m_X0_requireRow row (by omega)) gX0_times_X0_requireRow rfl rfl rfl rfl (by decide +kernel) ⟨Nat.le_of_ble_eq_true rfl, Nat.le_of_ble_eq_true rfl⟩ rfl rfl rfl (Nat.le_of_ble_eq_true rfl) dX0_times_2 ⟨Nat.le_of_ble_eq_true rfl, Nat.le_of_ble_eq_true rfl⟩ rfl ?_
  refine xw_aload_n (pc := 5) C 0 dX0_times_5 rfl ?_
  refine xw_iload_n (pc := 6) C 2 dX0_times_6 rfl ?_
  refine xw_Vd (pc := 7) (q0 := 0) (na := 1) (rest := []) (st' := []) C (m_X0_requireNumber hp5 f (by omega)) gX0_times_X0_requireNumber rfl rfl rfl rfl (by decide +kernel) ⟨Nat.le_of_ble_eq_true rfl, Nat.le_of_ble_eq_true rfl⟩ rfl rfl rfl (Nat.le_of_ble_eq_true rfl) dX0_times_7 ⟨Nat.le_of_ble_eq_true rfl, Nat.le_of_ble_eq_true rfl⟩ rfl ?_
  refine xw_iconst_N (pc := 10) C 0 dX0_times_10 rfl ?_
  refine xw_istore_n (pc := 11) (lv' := [(0, .ref h), (1, nV row), (2, nV f), (3, nV 0)]) C [1, 2, 3, 0] dX0_times_11 rfl (by decide) rfl ?_
  have L12 : ∀ (fuel : Nat) (k : Nat), n < k + fuel → k ≤ n → xw φ 0 0 (wX cI h a n p b w wi ni (mr A row (fun i => A (16 * row + i) * f % p) k)) 12 [(0, .ref h), (1, nV row), (2, nV f), (3, nV k)] [] := by
    intro fuel
    induction fuel with
    | zero =>
      intro k hk hkn
      omega
    | succ fuel ih12 =>
      intro k hk hkn
      refine xw_iload_n (pc := 12) C 3 dX0_times_12 rfl ?_
      refine xw_aload_n (pc := 13) C 0 dX0_times_13 rfl ?_
      refine xw_get (pc := 14) (T := TX0) (N := 7) (ref := "ToneButterflies") C hin 0 1 rfl rfl (by decide) (by decide +kernel) rfl rfl dX0_times_14 ?_
      refine xw_icmp_ge_N (pc := 17) (tgt := 44) C dX0_times_17 (by decide) (by omega) (by omega) (fun c_1 => ?_) (fun c_1 => ?_)
      ·
        refine xw_wo (w' := wX cI h a n p b w wi ni (mr A row (fun i => A (16 * row + i) * f % p) n)) (by rw [show k = n from by omega]) ?_
        refine xw_aload_n (pc := 44) C 0 dX0_times_44 rfl ?_
        refine xw_iload_n (pc := 45) C 1 dX0_times_45 rfl ?_
        refine xw_Vd (pc := 46) (q0 := 0) (na := 1) (rest := []) (st' := [nV (cc (fun k => decide ((mr A row (fun i => A (16 * row + i) * f % p) n) (16 * row + k) ≠ 0)) n)]) C (m_X0_nonZeros hn (mr_lt (g := (fun i => A (16 * row + i) * f % p)) hA (fun j _ => ml hp hp5)) row (by omega)) gX0_times_X0_nonZeros rfl rfl rfl rfl (by decide +kernel) ⟨Nat.le_of_ble_eq_true rfl, Nat.le_of_ble_eq_true rfl⟩ rfl rfl rfl (Nat.le_of_ble_eq_true rfl) dX0_times_46 ⟨Nat.le_of_ble_eq_true rfl, Nat.le_of_ble_eq_true rfl⟩ rfl ?_
        exact xw_iret (pc := 49) C rX (Nat.le_refl _) (Nat.le_refl _) dX0_times_49 (PD.i)
      ·
        have hb1 := hA (16 * row + k)
        refine xw_aload_n (pc := 20) C 0 dX0_times_20 rfl ?_
        refine xw_iload_n (pc := 21) C 1 dX0_times_21 rfl ?_
        refine xw_iload_n (pc := 22) C 3 dX0_times_22 rfl ?_
        refine xw_aload_n (pc := 23) C 0 dX0_times_23 rfl ?_
        refine xw_aload_n (pc := 24) C 0 dX0_times_24 rfl ?_
        refine xw_iload_n (pc := 25) C 1 dX0_times_25 rfl ?_
        refine xw_iload_n (pc := 26) C 3 dX0_times_26 rfl ?_
        refine xw_Vd (pc := 27) (q0 := 0) (na := 2) (rest := [.ref h, nV k, nV row, .ref h]) (st' := [nV ((mr A row (fun i => A (16 * row + i) * f % p) k) (16 * row + k)), .ref h, nV k, nV row, .ref h]) C (m_X0_read row k (by omega) (by omega)) gX0_times_X0_read rfl rfl rfl rfl (by decide +kernel) ⟨Nat.le_of_ble_eq_true rfl, Nat.le_of_ble_eq_true rfl⟩ rfl rfl rfl (Nat.le_of_ble_eq_true rfl) dX0_times_27 ⟨Nat.le_of_ble_eq_true rfl, Nat.le_of_ble_eq_true rfl⟩ rfl ?_
        refine xw_st (st' := [nV (A (16 * row + k)), .ref h, nV k, nV row, .ref h]) (by rw [mr_at (by omega)]) ?_
        refine xw_iload_n (pc := 30) C 2 dX0_times_30 rfl ?_
        refine xw_imul_N (pc := 31) C dX0_times_31 ?_
        refine xw_Vd (pc := 32) (q0 := 0) (na := 1) (rest := [nV k, nV row, .ref h]) (st' := [nV (((A (16 * row + k)) * f) % p), nV k, nV row, .ref h]) C (m_X0_reduced hp hp5 (((A (16 * row + k)) * f : Nat) : Int) (((A (16 * row + k)) * f) % p) (Int.natCast_emod _ _).symm (rgN (mb0 hb1 (by omega)))) gX0_times_X0_reduced rfl rfl rfl rfl (by decide +kernel) ⟨Nat.le_of_ble_eq_true rfl, Nat.le_of_ble_eq_true rfl⟩ rfl rfl rfl (Nat.le_of_ble_eq_true rfl) dX0_times_32 ⟨Nat.le_of_ble_eq_true rfl, Nat.le_of_ble_eq_true rfl⟩ rfl ?_
        refine xw_Vd (pc := 35) (q0 := 0) (na := 3) (rest := []) (st' := []) C (m_X0_write row k (((A (16 * row + k)) * f) % p) (by omega) (by omega)) gX0_times_X0_write rfl rfl rfl rfl (by decide +kernel) ⟨Nat.le_of_ble_eq_true rfl, Nat.le_of_ble_eq_true rfl⟩ rfl rfl rfl (Nat.le_of_ble_eq_true rfl) dX0_times_35 ⟨Nat.le_of_ble_eq_true rfl, Nat.le_of_ble_eq_true rfl⟩ rfl ?_
        refine xw_wo (w' := wX cI h a n p b w wi ni (mr A row (fun i => A (16 * row + i) * f % p) (k + 1))) (by rw [mr_s rfl]) ?_
        refine xw_iinc_N (pc := 38) (b := k + 1) (lv' := [(0, .ref h), (1, nV row), (2, nV f), (3, nV (k + 1))]) C 3 [1, 2, 3, 0] dX0_times_38 rfl (by decide) rfl rfl ?_
        refine xw_goto (pc := 41) (tgt := 12) C dX0_times_41 (by decide) ?_
        exact ih12 (k + 1) (by omega) (by omega)
  refine xw_wo (w' := wX cI h a n p b w wi ni (mr A row (fun i => A (16 * row + i) * f % p) 0)) (by rw [mr_0]) ?_
  exact L12 (n + 1) 0 (by omega) (by omega)

set_option maxHeartbeats 4000000 in
set_option maxRecDepth 100000 in
theorem m_X0_move {l : Launch} {D : va_G} {cI : ClassId} {h a n p b w wi ni : Nat} {A : Nat → Nat} (hn : n = 4 ∨ n = 8 ∨ n = 16) (hA : ∀ j, A j < 500) (row : Nat) (hrw : row < 4) (q : Nat) (hq : q < n) : CT l yX0_move wsX0_move (rmN 2 49) D vwCl [(cI, .int)] [.ref h, nV row, nV q] (wX cI h a n p b w wi ni A) (PD (some (nV ((fun m => A (16 * row + (m + n - q) % n)) 0))) (wX cI h a n p b w wi ni (ly A (fun m => A (16 * row + (m + n - q) % n)) row n))) 0 0 := by
  refine ct_of (plainFor_of_name (by decide)) rfl (Nat.le_of_ble_eq_true rfl) (fun φ C rX => ?_)
  have hin : ∀ w ∈ wsX00, w ∈ wsX0_move := by decide +kernel
  refine xw_le (lv' := [(0, .ref h), (1, nV row), (2, nV q)]) rfl ?_
  have hn3 := lt3 hn
  refine xw_aload_n (pc := 0) C 0 dX0_move_0 rfl ?_
  refine xw_iload_n (pc := 1) C 1 dX0_move_1 rfl ?_
  refine xw_Vd (pc := 2) (q0 := 0) (na := 1) (rest := []) (st' := []) C (m_X0_requireRow row (by omega)) gX0_move_X0_requireRow rfl rfl rfl rfl (by decide +kernel) ⟨Nat.le_of_ble_eq_true rfl, Nat.le_of_ble_eq_true rfl⟩ rfl rfl rfl (Nat.le_of_ble_eq_true rfl) dX0_move_2 ⟨Nat.le_of_ble_eq_true rfl, Nat.le_of_ble_eq_true rfl⟩ rfl ?_
  refine xw_iload_n (pc := 5) C 2 dX0_move_5 rfl ?_
  refine xw_if_lt_N (pc := 6) (tgt := 17) C dX0_move_6 (by decide) (by omega) (fun c_1 => (by exfalso; omega)) (fun c_1 => ?_)
  refine xw_iload_n (pc := 9) C 2 dX0_move_9 rfl ?_
  refine xw_aload_n (pc := 10) C 0 dX0_move_10 rfl ?_
  refine xw_get (pc := 11) (T := TX0) (N := 7) (ref := "ToneButterflies") C hin 0 1 rfl rfl (by decide) (by decide +kernel) rfl rfl dX0_move_11 ?_
  refine xw_icmp_lt_N (pc := 14) (tgt := 27) C dX0_move_14 (by decide) (by omega) (by omega) (fun c_2 => ?_) (fun c_2 => (by exfalso; omega))
  refine xw_iconst_N (pc := 27) C 0 dX0_move_27 rfl ?_
  refine xw_istore_n (pc := 28) (lv' := [(0, .ref h), (1, nV row), (2, nV q), (3, nV 0)]) C [1, 2, 3, 0] dX0_move_28 rfl (by decide) rfl ?_
  have L29 : ∀ (fuel : Nat) (k : Nat), n < k + fuel → k ≤ n → xw φ 0 0 (wX cI h a n p b w wi ni (pf A n (fun m => (m + n - q) % n) (fun k => A (16 * row + k)) k)) 29 [(0, .ref h), (1, nV row), (2, nV q), (3, nV k)] [] := by
    intro fuel
    induction fuel with
    | zero =>
      intro k hk hkn
      omega
    | succ fuel ih29 =>
      intro k hk hkn
      refine xw_iload_n (pc := 29) C 3 dX0_move_29 rfl ?_
      refine xw_aload_n (pc := 30) C 0 dX0_move_30 rfl ?_
      refine xw_get (pc := 31) (T := TX0) (N := 7) (ref := "ToneButterflies") C hin 0 1 rfl rfl (by decide) (by decide +kernel) rfl rfl dX0_move_31 ?_
      refine xw_icmp_ge_N (pc := 34) (tgt := 61) C dX0_move_34 (by decide) (by omega) (by omega) (fun c_3 => ?_) (fun c_3 => ?_)
      ·
        refine xw_wo (w' := wX cI h a n p b w wi ni (sv A (fun m => A (16 * row + (m + n - q) % n)) n)) (by rw [show k = n from by omega, pf_n (fun m hm => Nat.mod_lt _ (by omega))]) ?_
        refine xw_aload_n (pc := 61) C 0 dX0_move_61 rfl ?_
        refine xw_iconst_N (pc := 62) C 4 dX0_move_62 rfl ?_
        refine xw_iload_n (pc := 63) C 1 dX0_move_63 rfl ?_
        refine xw_Vd (pc := 64) (q0 := 0) (na := 2) (rest := []) (st' := [nV (cc (fun j => decide ((sv A (fun m => A (16 * row + (m + n - q) % n)) n) (16 * row + j) ≠ (sv A (fun m => A (16 * row + (m + n - q) % n)) n) (16 * 4 + j))) n)]) C (m_X0_copyRow hn (sv_lt (g := (fun m => A (16 * row + (m + n - q) % n))) hA (fun j _ => hA _)) 4 row (by omega) (by omega)) gX0_move_X0_copyRow rfl rfl rfl rfl (by decide +kernel) ⟨Nat.le_of_ble_eq_true rfl, Nat.le_of_ble_eq_true rfl⟩ rfl rfl rfl (Nat.le_of_ble_eq_true rfl) dX0_move_64 ⟨Nat.le_of_ble_eq_true rfl, Nat.le_of_ble_eq_true rfl⟩ rfl ?_
        refine xw_wo (w' := wX cI h a n p b w wi ni (ly A (fun m => A (16 * row + (m + n - q) % n)) row n)) rfl ?_
        refine xw_pop (pc := 67) C dX0_move_67 rfl ?_
        refine xw_aload_n (pc := 68) C 0 dX0_move_68 rfl ?_
        refine xw_iload_n (pc := 69) C 1 dX0_move_69 rfl ?_
        refine xw_iconst_N (pc := 70) C 0 dX0_move_70 rfl ?_
        refine xw_Vd (pc := 71) (q0 := 0) (na := 2) (rest := []) (st' := [nV ((ly A (fun m => A (16 * row + (m + n - q) % n)) row n) (16 * row + 0))]) C (m_X0_read row 0 (by omega) (by omega)) gX0_move_X0_read rfl rfl rfl rfl (by decide +kernel) ⟨Nat.le_of_ble_eq_true rfl, Nat.le_of_ble_eq_true rfl⟩ rfl rfl rfl (Nat.le_of_ble_eq_true rfl) dX0_move_71 ⟨Nat.le_of_ble_eq_true rfl, Nat.le_of_ble_eq_true rfl⟩ rfl ?_
        refine xw_st (st' := [nV ((fun m => A (16 * row + (m + n - q) % n)) 0)]) (by rw [ly_at (by omega)]) ?_
        exact xw_iret (pc := 74) C rX (Nat.le_refl _) (Nat.le_refl _) dX0_move_74 (PD.i)
      ·
        have hm := Nat.mod_lt (k + q) (show n > 0 by omega)
        have hm2 := (mv_p hq (show k < n by omega)).1
        refine xw_aload_n (pc := 37) C 0 dX0_move_37 rfl ?_
        refine xw_iconst_N (pc := 38) C 4 dX0_move_38 rfl ?_
        refine xw_aload_n (pc := 39) C 0 dX0_move_39 rfl ?_
        refine xw_iload_n (pc := 40) C 3 dX0_move_40 rfl ?_
        refine xw_iload_n (pc := 41) C 2 dX0_move_41 rfl ?_
        refine xw_iadd_N (pc := 42) C dX0_move_42 ?_
        refine xw_Vd (pc := 43) (q0 := 0) (na := 1) (rest := [nV 4, .ref h]) (st' := [nV ((k + q) % n), nV 4, .ref h]) C (m_X0_wrapped hn (((k + q : Nat) : Int)) ((k + q) % n) ((Int.natCast_emod _ _).symm)) gX0_move_X0_wrapped rfl rfl rfl rfl (by decide +kernel) ⟨Nat.le_of_ble_eq_true rfl, Nat.le_of_ble_eq_true rfl⟩ rfl rfl rfl (Nat.le_of_ble_eq_true rfl) dX0_move_43 ⟨Nat.le_of_ble_eq_true rfl, Nat.le_of_ble_eq_true rfl⟩ rfl ?_
        refine xw_aload_n (pc := 46) C 0 dX0_move_46 rfl ?_
        refine xw_iload_n (pc := 47) C 1 dX0_move_47 rfl ?_
        refine xw_iload_n (pc := 48) C 3 dX0_move_48 rfl ?_
        refine xw_Vd (pc := 49) (q0 := 0) (na := 2) (rest := [nV ((k + q) % n), nV 4, .ref h]) (st' := [nV ((pf A n (fun m => (m + n - q) % n) (fun k => A (16 * row + k)) k) (16 * row + k)), nV ((k + q) % n), nV 4, .ref h]) C (m_X0_read row k (by omega) (by omega)) gX0_move_X0_read rfl rfl rfl rfl (by decide +kernel) ⟨Nat.le_of_ble_eq_true rfl, Nat.le_of_ble_eq_true rfl⟩ rfl rfl rfl (Nat.le_of_ble_eq_true rfl) dX0_move_49 ⟨Nat.le_of_ble_eq_true rfl, Nat.le_of_ble_eq_true rfl⟩ rfl ?_
        refine xw_st (st' := [nV (A (16 * row + k)), nV ((k + q) % n), nV 4, .ref h]) (by rw [pf_lo (by omega)]) ?_
        refine xw_Vd (pc := 52) (q0 := 0) (na := 3) (rest := []) (st' := []) C (m_X0_write 4 ((k + q) % n) (A (16 * row + k)) (by omega) (by omega)) gX0_move_X0_write rfl rfl rfl rfl (by decide +kernel) ⟨Nat.le_of_ble_eq_true rfl, Nat.le_of_ble_eq_true rfl⟩ rfl rfl rfl (Nat.le_of_ble_eq_true rfl) dX0_move_52 ⟨Nat.le_of_ble_eq_true rfl, Nat.le_of_ble_eq_true rfl⟩ rfl ?_
        refine xw_wo (w' := wX cI h a n p b w wi ni (pf A n (fun m => (m + n - q) % n) (fun k => A (16 * row + k)) (k + 1))) (by rw [pf_s rfl hm hm2 (fun m hm1 hm3 => by rw [← (mv_p hq hm1).2]; exact congrArg (fun z => (z + q) % n) hm3)]) ?_
        refine xw_iinc_N (pc := 55) (b := k + 1) (lv' := [(0, .ref h), (1, nV row), (2, nV q), (3, nV (k + 1))]) C 3 [1, 2, 3, 0] dX0_move_55 rfl (by decide) rfl rfl ?_
        refine xw_goto (pc := 58) (tgt := 29) C dX0_move_58 (by decide) ?_
        exact ih29 (k + 1) (by omega) (by omega)
  refine xw_wo (w' := wX cI h a n p b w wi ni (pf A n (fun m => (m + n - q) % n) (fun k => A (16 * row + k)) 0)) (by rw [pf_0]) ?_
  exact L29 (n + 1) 0 (by omega) (by omega)

set_option maxHeartbeats 4000000 in
set_option maxRecDepth 100000 in
theorem m_X0_at {l : Launch} {D : va_G} {cI : ClassId} {h a n p b w wi ni : Nat} {A : Nat → Nat} (hn : n = 4 ∨ n = 8 ∨ n = 16) (row : Nat) (hrw : row < 4) (q : Nat) (hq : q < n) : CT l yX0_at wsX0_at (rmN 1 23) D vwCl [(cI, .int)] [.ref h, nV row, nV q] (wX cI h a n p b w wi ni A) (PD (some (nV (A (16 * row + q)))) (wX cI h a n p b w wi ni A)) 0 0 := by
  refine ct_of (plainFor_of_name (by decide)) rfl (Nat.le_of_ble_eq_true rfl) (fun φ C rX => ?_)
  refine xw_le (lv' := [(0, .ref h), (1, nV row), (2, nV q)]) rfl ?_
  have hn3 := lt3 hn
  refine xw_aload_n (pc := 0) C 0 dX0_at_0 rfl ?_
  refine xw_iload_n (pc := 1) C 1 dX0_at_1 rfl ?_
  refine xw_Vd (pc := 2) (q0 := 0) (na := 1) (rest := []) (st' := []) C (m_X0_requireRow row (by omega)) gX0_at_X0_requireRow rfl rfl rfl rfl (by decide +kernel) ⟨Nat.le_of_ble_eq_true rfl, Nat.le_of_ble_eq_true rfl⟩ rfl rfl rfl (Nat.le_of_ble_eq_true rfl) dX0_at_2 ⟨Nat.le_of_ble_eq_true rfl, Nat.le_of_ble_eq_true rfl⟩ rfl ?_
  refine xw_aload_n (pc := 5) C 0 dX0_at_5 rfl ?_
  refine xw_iload_n (pc := 6) C 2 dX0_at_6 rfl ?_
  refine xw_Vd (pc := 7) (q0 := 0) (na := 1) (rest := []) (st' := []) C (m_X0_requirePlace (by omega) q (by omega)) gX0_at_X0_requirePlace rfl rfl rfl rfl (by decide +kernel) ⟨Nat.le_of_ble_eq_true rfl, Nat.le_of_ble_eq_true rfl⟩ rfl rfl rfl (Nat.le_of_ble_eq_true rfl) dX0_at_7 ⟨Nat.le_of_ble_eq_true rfl, Nat.le_of_ble_eq_true rfl⟩ rfl ?_
  refine xw_aload_n (pc := 10) C 0 dX0_at_10 rfl ?_
  refine xw_iload_n (pc := 11) C 1 dX0_at_11 rfl ?_
  refine xw_iload_n (pc := 12) C 2 dX0_at_12 rfl ?_
  refine xw_Vd (pc := 13) (q0 := 0) (na := 2) (rest := []) (st' := [nV (A (16 * row + q))]) C (m_X0_read row q (by omega) (by omega)) gX0_at_X0_read rfl rfl rfl rfl (by decide +kernel) ⟨Nat.le_of_ble_eq_true rfl, Nat.le_of_ble_eq_true rfl⟩ rfl rfl rfl (Nat.le_of_ble_eq_true rfl) dX0_at_13 ⟨Nat.le_of_ble_eq_true rfl, Nat.le_of_ble_eq_true rfl⟩ rfl ?_
  exact xw_iret (pc := 16) C rX (Nat.le_refl _) (Nat.le_refl _) dX0_at_16 (PD.i)

set_option maxHeartbeats 4000000 in
set_option maxRecDepth 100000 in
theorem m_X0_point {l : Launch} {D : va_G} {cI : ClassId} {h a n p b w wi ni : Nat} {A : Nat → Nat} (hp : 0 < p) (hp5 : p < 500) (hn : n = 4 ∨ n = 8 ∨ n = 16) (hA : ∀ j, A j < 500) (row : Nat) (hrw : row < 4) (x : Nat) (hx : x < p) : CT l yX0_point wsX0_point (rmN 3 67) D vwCl [(cI, .int)] [.ref h, nV row, nV x] (wX cI h a n p b w wi ni A) (PD (some (nV (pv p n A row x))) (wX cI h a n p b w wi ni A)) 0 0 := by
  refine ct_of (plainFor_of_name (by decide)) rfl (Nat.le_of_ble_eq_true rfl) (fun φ C rX => ?_)
  refine xw_le (lv' := [(0, .ref h), (1, nV row), (2, nV x)]) rfl ?_
  have hn3 := lt3 hn
  refine xw_aload_n (pc := 0) C 0 dX0_point_0 rfl ?_
  refine xw_iload_n (pc := 1) C 1 dX0_point_1 rfl ?_
  refine xw_Vd (pc := 2) (q0 := 0) (na := 1) (rest := []) (st' := []) C (m_X0_requireRow row (by omega)) gX0_point_X0_requireRow rfl rfl rfl rfl (by decide +kernel) ⟨Nat.le_of_ble_eq_true rfl, Nat.le_of_ble_eq_true rfl⟩ rfl rfl rfl (Nat.le_of_ble_eq_true rfl) dX0_point_2 ⟨Nat.le_of_ble_eq_true rfl, Nat.le_of_ble_eq_true rfl⟩ rfl ?_
  refine xw_aload_n (pc := 5) C 0 dX0_point_5 rfl ?_
  refine xw_iload_n (pc := 6) C 2 dX0_point_6 rfl ?_
  refine xw_Vd (pc := 7) (q0 := 0) (na := 1) (rest := []) (st' := []) C (m_X0_requireNumber hp5 x (by omega)) gX0_point_X0_requireNumber rfl rfl rfl rfl (by decide +kernel) ⟨Nat.le_of_ble_eq_true rfl, Nat.le_of_ble_eq_true rfl⟩ rfl rfl rfl (Nat.le_of_ble_eq_true rfl) dX0_point_7 ⟨Nat.le_of_ble_eq_true rfl, Nat.le_of_ble_eq_true rfl⟩ rfl ?_
  refine xw_aload_n (pc := 10) C 0 dX0_point_10 rfl ?_
  refine xw_iload_n (pc := 11) C 1 dX0_point_11 rfl ?_
  refine xw_iload_n (pc := 12) C 2 dX0_point_12 rfl ?_
  refine xw_Vd (pc := 13) (q0 := 0) (na := 2) (rest := []) (st' := [nV (pv p n A row x)]) C (m_X0_valueAt hp hp5 hn (hA) row x (by omega) (by omega)) gX0_point_X0_valueAt rfl rfl rfl rfl (by decide +kernel) ⟨Nat.le_of_ble_eq_true rfl, Nat.le_of_ble_eq_true rfl⟩ rfl rfl rfl (Nat.le_of_ble_eq_true rfl) dX0_point_13 ⟨Nat.le_of_ble_eq_true rfl, Nat.le_of_ble_eq_true rfl⟩ rfl ?_
  exact xw_iret (pc := 16) C rX (Nat.le_refl _) (Nat.le_refl _) dX0_point_16 (PD.i)

set_option maxHeartbeats 4000000 in
set_option maxRecDepth 100000 in
theorem m_X0_about {l : Launch} {D : va_G} {cI : ClassId} {h a n p b w wi ni : Nat} {A : Nat → Nat} (hp : 0 < p) (hp5 : p < 500) (hn : n = 4 ∨ n = 8 ∨ n = 16) (hA : ∀ j, A j < 500) (row : Nat) (hrw : row < 4) (what : Nat) (hwh : what < 5) : CT l yX0_about wsX0_about (rmN 4 91) D vwCl [(cI, .int)] [.ref h, nV row, nV what] (wX cI h a n p b w wi ni A) (PD (some (iV (tl p n A row what))) (wX cI h a n p b w wi ni A)) 0 0 := by
  refine ct_of (plainFor_of_name (by decide)) rfl (Nat.le_of_ble_eq_true rfl) (fun φ C rX => ?_)
  refine xw_le (lv' := [(0, .ref h), (1, nV row), (2, nV what)]) rfl ?_
  have hn3 := lt3 hn
  refine xw_aload_n (pc := 0) C 0 dX0_about_0 rfl ?_
  refine xw_iload_n (pc := 1) C 1 dX0_about_1 rfl ?_
  refine xw_Vd (pc := 2) (q0 := 0) (na := 1) (rest := []) (st' := []) C (m_X0_requireRow row (by omega)) gX0_about_X0_requireRow rfl rfl rfl rfl (by decide +kernel) ⟨Nat.le_of_ble_eq_true rfl, Nat.le_of_ble_eq_true rfl⟩ rfl rfl rfl (Nat.le_of_ble_eq_true rfl) dX0_about_2 ⟨Nat.le_of_ble_eq_true rfl, Nat.le_of_ble_eq_true rfl⟩ rfl ?_
  refine xw_iload_n (pc := 5) C 2 dX0_about_5 rfl ?_
  refine xw_if_lt_N (pc := 6) (tgt := 14) C dX0_about_6 (by decide) (by omega) (fun c_1 => (by exfalso; omega)) (fun c_1 => ?_)
  refine xw_iload_n (pc := 9) C 2 dX0_about_9 rfl ?_
  refine xw_iconst_N (pc := 10) C 5 dX0_about_10 rfl ?_
  refine xw_icmp_lt_N (pc := 11) (tgt := 24) C dX0_about_11 (by decide) (by omega) (by omega) (fun c_2 => ?_) (fun c_2 => (by exfalso; omega))
  refine xw_aload_n (pc := 24) C 0 dX0_about_24 rfl ?_
  refine xw_iload_n (pc := 25) C 1 dX0_about_25 rfl ?_
  refine xw_iload_n (pc := 26) C 2 dX0_about_26 rfl ?_
  refine xw_Vd (pc := 27) (q0 := 0) (na := 2) (rest := []) (st' := [iV (tl p n A row what)]) C (m_X0_told hp hp5 hn (hA) row what (by omega) (by omega)) gX0_about_X0_told rfl rfl rfl rfl (by decide +kernel) ⟨Nat.le_of_ble_eq_true rfl, Nat.le_of_ble_eq_true rfl⟩ rfl rfl rfl (Nat.le_of_ble_eq_true rfl) dX0_about_27 ⟨Nat.le_of_ble_eq_true rfl, Nat.le_of_ble_eq_true rfl⟩ rfl ?_
  exact xw_iret (pc := 30) C rX (Nat.le_refl _) (Nat.le_refl _) dX0_about_30 (PD.i)

set_option maxHeartbeats 4000000 in
set_option maxRecDepth 100000 in
theorem m_X0_count {l : Launch} {D : va_G} {cI : ClassId} {h a n p b w wi ni : Nat} {A : Nat → Nat} (what : Nat) (hwh : what < 6) : CT l yX0_count wsX0_count (rmN 1 21) D vwCl [(cI, .int)] [.ref h, nV what] (wX cI h a n p b w wi ni A) (PD (some (nV (ct n p b w wi ni what))) (wX cI h a n p b w wi ni A)) 0 0 := by
  refine ct_of (plainFor_of_name (by decide)) rfl (Nat.le_of_ble_eq_true rfl) (fun φ C rX => ?_)
  refine xw_le (lv' := [(0, .ref h), (1, nV what)]) rfl ?_
  refine xw_iload_n (pc := 0) C 1 dX0_count_0 rfl ?_
  refine xw_if_lt_N (pc := 1) (tgt := 10) C dX0_count_1 (by decide) (by omega) (fun c_1 => (by exfalso; omega)) (fun c_1 => ?_)
  refine xw_iload_n (pc := 4) C 1 dX0_count_4 rfl ?_
  refine xw_bipush_N (pc := 5) C 6 dX0_count_5 (by decide) ?_
  refine xw_icmp_lt_N (pc := 7) (tgt := 20) C dX0_count_7 (by decide) (by omega) (by omega) (fun c_2 => ?_) (fun c_2 => (by exfalso; omega))
  refine xw_aload_n (pc := 20) C 0 dX0_count_20 rfl ?_
  refine xw_iload_n (pc := 21) C 1 dX0_count_21 rfl ?_
  refine xw_Vd (pc := 22) (q0 := 0) (na := 1) (rest := []) (st' := [nV (ct n p b w wi ni what)]) C (m_X0_counted what (by omega)) gX0_count_X0_counted rfl rfl rfl rfl (by decide +kernel) ⟨Nat.le_of_ble_eq_true rfl, Nat.le_of_ble_eq_true rfl⟩ rfl rfl rfl (Nat.le_of_ble_eq_true rfl) dX0_count_22 ⟨Nat.le_of_ble_eq_true rfl, Nat.le_of_ble_eq_true rfl⟩ rfl ?_
  exact xw_iret (pc := 25) C rX (Nat.le_refl _) (Nat.le_refl _) dX0_count_25 (PD.i)

set_option maxHeartbeats 4000000 in
set_option maxRecDepth 100000 in
theorem m_X0_would {l : Launch} {D : va_G} {cI : ClassId} {h a n p b w wi ni : Nat} {A : Nat → Nat} (hp : 0 < p) (hp5 : p < 500) (hn : n = 4 ∨ n = 8 ∨ n = 16) (hA : ∀ j, A j < 500) (ra rb : Nat) (hra : ra < 4) (hrb : rb < 4) (q : Nat) (hq : q < n) : CT l yX0_would wsX0_would (rmN 3 68) D vwCl [(cI, .int)] [.ref h, nV ra, nV rb, nV q] (wX cI h a n p b w wi ni A) (PD (some (nV (fo p n A ra rb q n))) (wX cI h a n p b w wi ni A)) 0 0 := by
  refine ct_of (plainFor_of_name (by decide)) rfl (Nat.le_of_ble_eq_true rfl) (fun φ C rX => ?_)
  refine xw_le (lv' := [(0, .ref h), (1, nV ra), (2, nV rb), (3, nV q)]) rfl ?_
  have hn3 := lt3 hn
  refine xw_aload_n (pc := 0) C 0 dX0_would_0 rfl ?_
  refine xw_iload_n (pc := 1) C 1 dX0_would_1 rfl ?_
  refine xw_Vd (pc := 2) (q0 := 0) (na := 1) (rest := []) (st' := []) C (m_X0_requireRow ra (by omega)) gX0_would_X0_requireRow rfl rfl rfl rfl (by decide +kernel) ⟨Nat.le_of_ble_eq_true rfl, Nat.le_of_ble_eq_true rfl⟩ rfl rfl rfl (Nat.le_of_ble_eq_true rfl) dX0_would_2 ⟨Nat.le_of_ble_eq_true rfl, Nat.le_of_ble_eq_true rfl⟩ rfl ?_
  refine xw_aload_n (pc := 5) C 0 dX0_would_5 rfl ?_
  refine xw_iload_n (pc := 6) C 2 dX0_would_6 rfl ?_
  refine xw_Vd (pc := 7) (q0 := 0) (na := 1) (rest := []) (st' := []) C (m_X0_requireRow rb (by omega)) gX0_would_X0_requireRow rfl rfl rfl rfl (by decide +kernel) ⟨Nat.le_of_ble_eq_true rfl, Nat.le_of_ble_eq_true rfl⟩ rfl rfl rfl (Nat.le_of_ble_eq_true rfl) dX0_would_7 ⟨Nat.le_of_ble_eq_true rfl, Nat.le_of_ble_eq_true rfl⟩ rfl ?_
  refine xw_aload_n (pc := 10) C 0 dX0_would_10 rfl ?_
  refine xw_iload_n (pc := 11) C 3 dX0_would_11 rfl ?_
  refine xw_Vd (pc := 12) (q0 := 0) (na := 1) (rest := []) (st' := []) C (m_X0_requirePlace (by omega) q (by omega)) gX0_would_X0_requirePlace rfl rfl rfl rfl (by decide +kernel) ⟨Nat.le_of_ble_eq_true rfl, Nat.le_of_ble_eq_true rfl⟩ rfl rfl rfl (Nat.le_of_ble_eq_true rfl) dX0_would_12 ⟨Nat.le_of_ble_eq_true rfl, Nat.le_of_ble_eq_true rfl⟩ rfl ?_
  refine xw_aload_n (pc := 15) C 0 dX0_would_15 rfl ?_
  refine xw_iload_n (pc := 16) C 1 dX0_would_16 rfl ?_
  refine xw_iload_n (pc := 17) C 2 dX0_would_17 rfl ?_
  refine xw_iload_n (pc := 18) C 3 dX0_would_18 rfl ?_
  refine xw_Vd (pc := 19) (q0 := 0) (na := 3) (rest := []) (st' := [nV (fo p n A ra rb q n)]) C (m_X0_foldedAt hp hp5 hn (hA) ra rb q (by omega) (by omega) (by omega)) gX0_would_X0_foldedAt rfl rfl rfl rfl (by decide +kernel) ⟨Nat.le_of_ble_eq_true rfl, Nat.le_of_ble_eq_true rfl⟩ rfl rfl rfl (Nat.le_of_ble_eq_true rfl) dX0_would_19 ⟨Nat.le_of_ble_eq_true rfl, Nat.le_of_ble_eq_true rfl⟩ rfl ?_
  exact xw_iret (pc := 22) C rX (Nat.le_refl _) (Nat.le_refl _) dX0_would_22 (PD.i)

theorem amP {p n ra rb k best : Nat} {A : Nat → Nat} (hb : best = am (fun q => so p n A ra rb q n) k) (h : 0 < k → so p n A ra rb best n < so p n A ra rb k n) : k = am (fun q => so p n A ra rb q n) (k + 1) := by
  rw [am, ← hb]
  rcases Nat.eq_zero_or_pos k with z | z
  · subst z
    rw [show best = 0 from hb]; split <;> rfl
  · exact (if_pos (h z)).symm
set_option maxHeartbeats 4000000 in
set_option maxRecDepth 100000 in
theorem m_X0_comes {l : Launch} {D : va_G} {cI : ClassId} {h a n p b w wi ni : Nat} {A : Nat → Nat} (hn : n = 4 ∨ n = 8 ∨ n = 16) (hA : ∀ j, A j < 500) (ra rb : Nat) (hra : ra < 4) (hrb : rb < 4) : CT l yX0_comes wsX0_comes (rmN 2 47) D vwCl [(cI, .int)] [.ref h, nV ra, nV rb] (wX cI h a n p b w wi ni A) (PD (some (iV (cm n A ra rb))) (wX cI h a n p b w wi ni A)) 0 0 := by
  refine ct_of (plainFor_of_name (by decide)) rfl (Nat.le_of_ble_eq_true rfl) (fun φ C rX => ?_)
  have hin : ∀ w ∈ wsX00, w ∈ wsX0_comes := by decide +kernel
  refine xw_le (lv' := [(0, .ref h), (1, nV ra), (2, nV rb)]) rfl ?_
  have hn3 := lt3 hn
  refine xw_aload_n (pc := 0) C 0 dX0_comes_0 rfl ?_
  refine xw_iload_n (pc := 1) C 1 dX0_comes_1 rfl ?_
  refine xw_Vd (pc := 2) (q0 := 0) (na := 1) (rest := []) (st' := []) C (m_X0_requireRow ra (by omega)) gX0_comes_X0_requireRow rfl rfl rfl rfl (by decide +kernel) ⟨Nat.le_of_ble_eq_true rfl, Nat.le_of_ble_eq_true rfl⟩ rfl rfl rfl (Nat.le_of_ble_eq_true rfl) dX0_comes_2 ⟨Nat.le_of_ble_eq_true rfl, Nat.le_of_ble_eq_true rfl⟩ rfl ?_
  refine xw_aload_n (pc := 5) C 0 dX0_comes_5 rfl ?_
  refine xw_iload_n (pc := 6) C 2 dX0_comes_6 rfl ?_
  refine xw_Vd (pc := 7) (q0 := 0) (na := 1) (rest := []) (st' := []) C (m_X0_requireRow rb (by omega)) gX0_comes_X0_requireRow rfl rfl rfl rfl (by decide +kernel) ⟨Nat.le_of_ble_eq_true rfl, Nat.le_of_ble_eq_true rfl⟩ rfl rfl rfl (Nat.le_of_ble_eq_true rfl) dX0_comes_7 ⟨Nat.le_of_ble_eq_true rfl, Nat.le_of_ble_eq_true rfl⟩ rfl ?_
  refine xw_iconst_N (pc := 10) C 0 dX0_comes_10 rfl ?_
  refine xw_istore_n (pc := 11) (lv' := [(0, .ref h), (1, nV ra), (2, nV rb), (3, nV 0)]) C [1, 2, 3, 0] dX0_comes_11 rfl (by decide) rfl ?_
  have L12 : ∀ (fuel : Nat) (k : Nat), n < k + fuel → k ≤ n → fs (im n A ra rb) n 0 = fs (im n A ra rb) (n - k) k → xw φ 0 0 (wX cI h a n p b w wi ni A) 12 [(0, .ref h), (1, nV ra), (2, nV rb), (3, nV k)] [] := by
    intro fuel
    induction fuel with
    | zero =>
      intro k hk hkn hfs
      omega
    | succ fuel ih12 =>
      intro k hk hkn hfs
      refine xw_iload_n (pc := 12) C 3 dX0_comes_12 rfl ?_
      refine xw_aload_n (pc := 13) C 0 dX0_comes_13 rfl ?_
      refine xw_get (pc := 14) (T := TX0) (N := 7) (ref := "ToneButterflies") C hin 0 1 rfl rfl (by decide) (by decide +kernel) rfl rfl dX0_comes_14 ?_
      refine xw_icmp_ge_N (pc := 17) (tgt := 38) C dX0_comes_17 (by decide) (by omega) (by omega) (fun c_1 => ?_) (fun c_1 => ?_)
      ·
        refine xw_iconst (pc := 38) C dX0_comes_38 ?_
        exact xw_iret (pc := 39) C rX (Nat.le_refl _) (Nat.le_refl _) dX0_comes_39 (PD.e (by unfold cm; rw [hfs, show n - k = 0 by omega, fs, if_neg (by omega)]) rfl)
      ·
        refine xw_aload_n (pc := 20) C 0 dX0_comes_20 rfl ?_
        refine xw_iload_n (pc := 21) C 1 dX0_comes_21 rfl ?_
        refine xw_iload_n (pc := 22) C 3 dX0_comes_22 rfl ?_
        refine xw_iload_n (pc := 23) C 2 dX0_comes_23 rfl ?_
        refine xw_Vd (pc := 24) (q0 := 0) (na := 3) (rest := []) (st' := [bV (im n A ra rb k)]) C (m_X0_isWhenMoved hn (hA) ra k rb (by omega) (by omega) (by omega)) gX0_comes_X0_isWhenMoved rfl rfl rfl rfl (by decide +kernel) ⟨Nat.le_of_ble_eq_true rfl, Nat.le_of_ble_eq_true rfl⟩ rfl rfl rfl (Nat.le_of_ble_eq_true rfl) dX0_comes_24 ⟨Nat.le_of_ble_eq_true rfl, Nat.le_of_ble_eq_true rfl⟩ rfl ?_
        refine xw_if_eq_B (pc := 27) (tgt := 32) C dX0_comes_27 (by decide)  (fun c_2 => ?_) (fun c_2 => ?_)
        ·
          refine xw_iinc_N (pc := 32) (b := k + 1) (lv' := [(0, .ref h), (1, nV ra), (2, nV rb), (3, nV (k + 1))]) C 3 [1, 2, 3, 0] dX0_comes_32 rfl (by decide) rfl rfl ?_
          refine xw_goto (pc := 35) (tgt := 12) C dX0_comes_35 (by decide) ?_
          exact ih12 (k + 1) (by omega) (by omega) (by rw [hfs, show n - k = (n - (k + 1)) + 1 by omega, fs_f c_2])
        ·
          refine xw_iload_n (pc := 30) C 3 dX0_comes_30 rfl ?_
          exact xw_iret (pc := 31) C rX (Nat.le_refl _) (Nat.le_refl _) dX0_comes_31 (PD.e (by unfold cm; rw [hfs, show n - k = (n - (k + 1)) + 1 by omega, fs_t c_2, if_pos (show k < n by omega)]) rfl)
  exact L12 (n + 1) 0 (by omega) (by omega) rfl

set_option maxHeartbeats 4000000 in
set_option maxRecDepth 100000 in
theorem m_X0_tones {l : Launch} {D : va_G} {cI : ClassId} {h a n p b w wi ni : Nat} {A : Nat → Nat} (hp : 0 < p) (hp5 : p < 500) (hn : n = 4 ∨ n = 8 ∨ n = 16) (hA : ∀ j, A j < 500) (hw : w < 500) (ra rb : Nat) (hra : ra < 4) (hrb : rb < 4) : CT l yX0_tones wsX0_tones (rmN 5 113) D vwCl [(cI, .int)] [.ref h, nV ra, nV rb] (wX cI h a n p b w wi ni A) (PD (some (bV (im n (sv A (tn p n A ra w 1) n) 4 rb 0))) (wX cI h a n p b w wi ni (sv A (tn p n A ra w 1) n))) 0 0 := by
  refine ct_of (plainFor_of_name (by decide)) rfl (Nat.le_of_ble_eq_true rfl) (fun φ C rX => ?_)
  refine xw_le (lv' := [(0, .ref h), (1, nV ra), (2, nV rb)]) rfl ?_
  have hn3 := lt3 hn
  refine xw_aload_n (pc := 0) C 0 dX0_tones_0 rfl ?_
  refine xw_iload_n (pc := 1) C 1 dX0_tones_1 rfl ?_
  refine xw_Vd (pc := 2) (q0 := 0) (na := 1) (rest := []) (st' := []) C (m_X0_requireRow ra (by omega)) gX0_tones_X0_requireRow rfl rfl rfl rfl (by decide +kernel) ⟨Nat.le_of_ble_eq_true rfl, Nat.le_of_ble_eq_true rfl⟩ rfl rfl rfl (Nat.le_of_ble_eq_true rfl) dX0_tones_2 ⟨Nat.le_of_ble_eq_true rfl, Nat.le_of_ble_eq_true rfl⟩ rfl ?_
  refine xw_aload_n (pc := 5) C 0 dX0_tones_5 rfl ?_
  refine xw_iload_n (pc := 6) C 2 dX0_tones_6 rfl ?_
  refine xw_Vd (pc := 7) (q0 := 0) (na := 1) (rest := []) (st' := []) C (m_X0_requireRow rb (by omega)) gX0_tones_X0_requireRow rfl rfl rfl rfl (by decide +kernel) ⟨Nat.le_of_ble_eq_true rfl, Nat.le_of_ble_eq_true rfl⟩ rfl rfl rfl (Nat.le_of_ble_eq_true rfl) dX0_tones_7 ⟨Nat.le_of_ble_eq_true rfl, Nat.le_of_ble_eq_true rfl⟩ rfl ?_
  refine xw_aload_n (pc := 10) C 0 dX0_tones_10 rfl ?_
  refine xw_iload_n (pc := 11) C 1 dX0_tones_11 rfl ?_
  refine xw_Vd (pc := 12) (q0 := 0) (na := 1) (rest := []) (st' := []) C (m_X0_scratchTones hp hp5 hn (hA) hw ra (by omega)) gX0_tones_X0_scratchTones rfl rfl rfl rfl (by decide +kernel) ⟨Nat.le_of_ble_eq_true rfl, Nat.le_of_ble_eq_true rfl⟩ rfl rfl rfl (Nat.le_of_ble_eq_true rfl) dX0_tones_12 ⟨Nat.le_of_ble_eq_true rfl, Nat.le_of_ble_eq_true rfl⟩ rfl ?_
  refine xw_aload_n (pc := 15) C 0 dX0_tones_15 rfl ?_
  refine xw_iconst_N (pc := 16) C 4 dX0_tones_16 rfl ?_
  refine xw_iconst_N (pc := 17) C 0 dX0_tones_17 rfl ?_
  refine xw_iload_n (pc := 18) C 2 dX0_tones_18 rfl ?_
  refine xw_Vd (pc := 19) (q0 := 0) (na := 3) (rest := []) (st' := [bV (im n (sv A (tn p n A ra w 1) n) 4 rb 0)]) C (m_X0_isWhenMoved hn (sv_lt (g := tn p n A ra w 1) hA (fun j _ => ml hp hp5)) 4 0 rb (by omega) (by omega) (by omega)) gX0_tones_X0_isWhenMoved rfl rfl rfl rfl (by decide +kernel) ⟨Nat.le_of_ble_eq_true rfl, Nat.le_of_ble_eq_true rfl⟩ rfl rfl rfl (Nat.le_of_ble_eq_true rfl) dX0_tones_19 ⟨Nat.le_of_ble_eq_true rfl, Nat.le_of_ble_eq_true rfl⟩ rfl ?_
  exact xw_bret (pc := 22) C rX (Nat.le_refl _) (Nat.le_refl _) dX0_tones_22 (PD.i)
end
section
set_option maxHeartbeats 4000000 in
set_option maxRecDepth 100000 in
theorem m_X0_mean {l : Launch} {D : va_G} {cI : ClassId} {h a n p b w wi ni : Nat} {A : Nat → Nat} (hn : n = 4 ∨ n = 8 ∨ n = 16) (hA : ∀ j, A j < 500) (row : Nat) (hrw : row < 4) : CT l yX0_mean wsX0_mean (rmN 2 46) D vwCl [(cI, .int)] [.ref h, nV row] (wX cI h a n p b w wi ni A) (PD (some (.double (dq (sm A row n) n))) (wX cI h a n p b w wi ni A)) 0 0 := by
  refine ct_of (plainFor_of_name (by decide)) rfl (Nat.le_of_ble_eq_true rfl) (fun φ C rX => ?_)
  have hin : ∀ w ∈ wsX00, w ∈ wsX0_mean := by decide +kernel
  refine xw_le (lv' := [(0, .ref h), (1, nV row)]) rfl ?_
  have hn3 := lt3 hn
  have hsm := sm_le (r := row) hA n
  refine xw_aload_n (pc := 0) C 0 dX0_mean_0 rfl ?_
  refine xw_iload_n (pc := 1) C 1 dX0_mean_1 rfl ?_
  refine xw_Vd (pc := 2) (q0 := 0) (na := 1) (rest := []) (st' := []) C (m_X0_requireRow row (by omega)) gX0_mean_X0_requireRow rfl rfl rfl rfl (by decide +kernel) ⟨Nat.le_of_ble_eq_true rfl, Nat.le_of_ble_eq_true rfl⟩ rfl rfl rfl (Nat.le_of_ble_eq_true rfl) dX0_mean_2 ⟨Nat.le_of_ble_eq_true rfl, Nat.le_of_ble_eq_true rfl⟩ rfl ?_
  refine xw_aload_n (pc := 5) C 0 dX0_mean_5 rfl ?_
  refine xw_get (pc := 6) (T := TX0) (N := 7) (ref := "ToneButterflies") C hin 0 1 rfl rfl (by decide) (by decide +kernel) rfl rfl dX0_mean_6 ?_
  refine xw_if_le_N (pc := 9) (tgt := 27) C dX0_mean_9 (by decide) (by omega) (fun c_1 => (by exfalso; omega)) (fun c_1 => ?_)
  refine xw_aload_n (pc := 12) C 0 dX0_mean_12 rfl ?_
  refine xw_iload_n (pc := 13) C 1 dX0_mean_13 rfl ?_
  refine xw_Vd (pc := 14) (q0 := 0) (na := 1) (rest := []) (st' := [nV (sm A row n)]) C (m_X0_plainSum hn hA row (by omega)) gX0_mean_X0_plainSum rfl rfl rfl rfl (by decide +kernel) ⟨Nat.le_of_ble_eq_true rfl, Nat.le_of_ble_eq_true rfl⟩ rfl rfl rfl (Nat.le_of_ble_eq_true rfl) dX0_mean_14 ⟨Nat.le_of_ble_eq_true rfl, Nat.le_of_ble_eq_true rfl⟩ rfl ?_
  refine xw_i2d (pc := 17) C dX0_mean_17 ?_
  refine xw_aload_n (pc := 18) C 0 dX0_mean_18 rfl ?_
  refine xw_get (pc := 19) (T := TX0) (N := 7) (ref := "ToneButterflies") C hin 0 1 rfl rfl (by decide) (by decide +kernel) rfl rfl dX0_mean_19 ?_
  refine xw_i2d (pc := 22) C dX0_mean_22 ?_
  refine xw_ddiv (pc := 23) C dX0_mean_23 (dq_n (s := sm A row n) (by omega) hn) ?_
  refine xw_goto (pc := 24) (tgt := 28) C dX0_mean_24 (by decide) ?_
  exact xw_dret (pc := 28) C rX (Nat.le_refl _) (Nat.le_refl _) dX0_mean_28 (PD.i)

set_option maxHeartbeats 4000000 in
set_option maxRecDepth 100000 in
theorem m_X0_digestRow {l : Launch} {D : va_G} {cI : ClassId} {h a n p b w wi ni : Nat} {A : Nat → Nat} (hn : n = 4 ∨ n = 8 ∨ n = 16) (d0 : Int64) (row : Nat) (hrw : row < 5) : CT l yX0_digestRow wsX0_digestRow (rmN 1 23) D vwCl [(cI, .int)] [.ref h, .long d0, nV row] (wX cI h a n p b w wi ni A) (PD (some (.long (dgc (fun k => ((A (16 * row + k) : Nat) : Int)) d0 n))) (wX cI h a n p b w wi ni A)) 0 0 := by
  refine ct_of (plainFor_of_name (by decide)) rfl (Nat.le_of_ble_eq_true rfl) (fun φ C rX => ?_)
  have hin : ∀ w ∈ wsX00, w ∈ wsX0_digestRow := by decide +kernel
  refine xw_le (lv' := [(0, .ref h), (1, .long d0), (3, nV row)]) rfl ?_
  have hn3 := lt3 hn
  refine xw_lload_n (pc := 0) C 1 dX0_digestRow_0 rfl ?_
  refine xw_lstore (pc := 1) (lv' := [(0, .ref h), (1, .long d0), (3, nV row), (4, .long d0)]) C [1, 2, 3, 0] dX0_digestRow_1 (by decide) rfl ?_
  refine xw_iconst_N (pc := 3) C 0 dX0_digestRow_3 rfl ?_
  refine xw_istore (pc := 4) (lv' := [(0, .ref h), (1, .long d0), (3, nV row), (4, .long d0), (6, nV 0)]) C [1, 2, 3, 4, 0] dX0_digestRow_4 (by decide) rfl ?_
  have L6 : ∀ (fuel : Nat) (k : Nat) (d : Int64), n < k + fuel → k ≤ n → d = dgc (fun k => ((A (16 * row + k) : Nat) : Int)) d0 k → xw φ 0 0 (wX cI h a n p b w wi ni A) 6 [(0, .ref h), (1, .long d0), (3, nV row), (4, .long d), (6, nV k)] [] := by
    intro fuel
    induction fuel with
    | zero =>
      intro k d hk hkn hd
      omega
    | succ fuel ih6 =>
      intro k d hk hkn hd
      refine xw_iload (pc := 6) C 4 dX0_digestRow_6 rfl ?_
      refine xw_aload_n (pc := 8) C 0 dX0_digestRow_8 rfl ?_
      refine xw_get (pc := 9) (T := TX0) (N := 7) (ref := "ToneButterflies") C hin 0 1 rfl rfl (by decide) (by decide +kernel) rfl rfl dX0_digestRow_9 ?_
      refine xw_icmp_ge_N (pc := 12) (tgt := 38) C dX0_digestRow_12 (by decide) (by omega) (by omega) (fun c_1 => ?_) (fun c_1 => ?_)
      ·
        refine xw_lload (pc := 38) C 3 dX0_digestRow_38 rfl ?_
        exact xw_lret (pc := 40) C rX (Nat.le_refl _) (Nat.le_refl _) dX0_digestRow_40 (PD.e (by rw [hd, show k = n by omega]) rfl)
      ·
        refine xw_lload (pc := 15) C 3 dX0_digestRow_15 rfl ?_
        refine xw_ldc2 (pc := 17) (v := 31) C (by decide +kernel) dX0_digestRow_17 ?_
        refine xw_lmul (pc := 20) C dX0_digestRow_20 ?_
        refine xw_aload_n (pc := 21) C 0 dX0_digestRow_21 rfl ?_
        refine xw_iload_n (pc := 22) C 2 dX0_digestRow_22 rfl ?_
        refine xw_iload (pc := 23) C 4 dX0_digestRow_23 rfl ?_
        refine xw_Vd (pc := 25) (q0 := 0) (na := 2) (rest := [.long (d * 31)]) (st' := [nV (A (16 * row + k)), .long (d * 31)]) C (m_X0_read row k (by omega) (by omega)) gX0_digestRow_X0_read rfl rfl rfl rfl (by decide +kernel) ⟨Nat.le_of_ble_eq_true rfl, Nat.le_of_ble_eq_true rfl⟩ rfl rfl rfl (Nat.le_of_ble_eq_true rfl) dX0_digestRow_25 ⟨Nat.le_of_ble_eq_true rfl, Nat.le_of_ble_eq_true rfl⟩ rfl ?_
        refine xw_i2l (pc := 28) C dX0_digestRow_28 ?_
        refine xw_ladd (pc := 29) C dX0_digestRow_29 ?_
        refine xw_lstore (pc := 30) (lv' := [(0, .ref h), (1, .long d0), (3, nV row), (4, .long ((d * 31) + ((iI ((A (16 * row + k) : Nat) : Int)).toInt64))), (6, nV k)]) C [1, 2, 3, 0, 4] dX0_digestRow_30 (by decide) rfl ?_
        refine xw_iinc_N (pc := 32) (b := k + 1) (lv' := [(0, .ref h), (1, .long d0), (3, nV row), (4, .long ((d * 31) + ((iI ((A (16 * row + k) : Nat) : Int)).toInt64))), (6, nV (k + 1))]) C 4 [1, 2, 3, 4, 0] dX0_digestRow_32 rfl (by decide) rfl rfl ?_
        refine xw_goto (pc := 35) (tgt := 6) C dX0_digestRow_35 (by decide) ?_
        exact ih6 (k + 1) _ (by omega) (by omega) (by rw [dgc, ← hd]; rfl)
  exact L6 (n + 1) 0 _ (by omega) (by omega) rfl

set_option maxHeartbeats 4000000 in
set_option maxRecDepth 100000 in
theorem m_X0_digest {l : Launch} {D : va_G} {cI : ClassId} {h a n p b w wi ni : Nat} {A : Nat → Nat} (hp : 0 < p) (hp5 : p < 500) (hn : n = 4 ∨ n = 8 ∨ n = 16) (hA : ∀ j, A j < 500) (hw : w < 500) : CT l yX0_digest wsX0_digest (rmN 5 113) D vwCl [(cI, .int)] [.ref h] (wX cI h a n p b w wi ni A) (fun v w1 => ∃ A9 : Nat → Nat, (∀ j, j < 64 → A9 j = A j) ∧ (∀ j, A9 j < 500) ∧ v = some (.long (drs p n w A (dgc (fun k => ((ct n p b w wi ni k : Nat) : Int)) 1777 6) 4)) ∧ w1 = wX cI h a n p b w wi ni A9) 0 0 := by
  refine ct_of (plainFor_of_name (by decide)) rfl (Nat.le_of_ble_eq_true rfl) (fun φ C rX => ?_)
  refine xw_le (lv' := [(0, .ref h)]) rfl ?_
  have hn3 := lt3 hn
  refine xw_ldc2 (pc := 0) (v := 1777) C (by decide +kernel) dX0_digest_0 ?_
  refine xw_lstore_n (pc := 3) (lv' := [(0, .ref h), (1, .long 1777)]) C [1, 0] dX0_digest_3 rfl (by decide) rfl ?_
  refine xw_iconst_N (pc := 4) C 0 dX0_digest_4 rfl ?_
  refine xw_istore_n (pc := 5) (lv' := [(0, .ref h), (1, .long 1777), (3, nV 0)]) C [1, 2, 0] dX0_digest_5 rfl (by decide) rfl ?_
  have L6 : ∀ (fuel : Nat) (k : Nat) (d : Int64), 6 < k + fuel → k ≤ 6 → d = dgc (fun k => ((ct n p b w wi ni k : Nat) : Int)) 1777 k → xw φ 0 0 (wX cI h a n p b w wi ni A) 6 [(0, .ref h), (1, .long d), (3, nV k)] [] := by
    intro fuel
    induction fuel with
    | zero =>
      intro k d hk hkn hd
      omega
    | succ fuel ih6 =>
      intro k d hk hkn hd
      refine xw_iload_n (pc := 6) C 2 dX0_digest_6 rfl ?_
      refine xw_bipush_N (pc := 7) C 6 dX0_digest_7 (by decide) ?_
      refine xw_icmp_ge_N (pc := 9) (tgt := 31) C dX0_digest_9 (by decide) (by omega) (by omega) (fun c_1 => ?_) (fun c_1 => ?_)
      ·
        refine xw_iconst_N (pc := 31) C 0 dX0_digest_31 rfl ?_
        refine xw_istore_n (pc := 32) (lv' := [(0, .ref h), (1, .long d), (3, nV 0)]) C [1, 2, 0] dX0_digest_32 rfl (by decide) rfl ?_
        have L33 : ∀ (fuel : Nat) (row : Nat) (A9 : Nat → Nat) (d : Int64), 4 < row + fuel → row ≤ 4 → (∀ j, j < 64 → A9 j = A j) → (∀ j, A9 j < 500) → d = drs p n w A (dgc (fun k => ((ct n p b w wi ni k : Nat) : Int)) 1777 6) row → xw φ 0 0 (wX cI h a n p b w wi ni A9) 33 [(0, .ref h), (1, .long d), (3, nV row)] [] := by
          intro fuel
          induction fuel with
          | zero =>
            intro row A9 d hk hkn hA9 hA8 hd
            omega
          | succ fuel ih33 =>
            intro row A9 d hk hkn hA9 hA8 hd
            refine xw_iload_n (pc := 33) C 2 dX0_digest_33 rfl ?_
            refine xw_iconst_N (pc := 34) C 4 dX0_digest_34 rfl ?_
            refine xw_icmp_ge_N (pc := 35) (tgt := 93) C dX0_digest_35 (by decide) (by omega) (by omega) (fun c_2 => ?_) (fun c_2 => ?_)
            ·
              refine xw_lload_n (pc := 93) C 1 dX0_digest_93 rfl ?_
              exact xw_lret (pc := 94) C rX (Nat.le_refl _) (Nat.le_refl _) dX0_digest_94 (⟨A9, hA9, hA8, by rw [hd, show row = 4 by omega], rfl⟩)
            ·
              refine xw_aload_n (pc := 38) C 0 dX0_digest_38 rfl ?_
              refine xw_lload_n (pc := 39) C 1 dX0_digest_39 rfl ?_
              refine xw_iload_n (pc := 40) C 2 dX0_digest_40 rfl ?_
              refine xw_Vd (pc := 41) (q0 := 0) (na := 2) (rest := []) (st' := [.long (dgc (fun k => ((A9 (16 * row + k) : Nat) : Int)) d n)]) C (m_X0_digestRow hn d row (by omega)) gX0_digest_X0_digestRow rfl rfl rfl rfl (by decide +kernel) ⟨Nat.le_of_ble_eq_true rfl, Nat.le_of_ble_eq_true rfl⟩ rfl rfl rfl (Nat.le_of_ble_eq_true rfl) dX0_digest_41 ⟨Nat.le_of_ble_eq_true rfl, Nat.le_of_ble_eq_true rfl⟩ rfl ?_
              obtain ⟨e1, he1⟩ : ∃ e1, e1 = dgc (fun k => ((A9 (16 * row + k) : Nat) : Int)) d n := ⟨_, rfl⟩
              refine xw_st (st' := [.long e1]) (by rw [he1]) ?_
              refine xw_lstore_n (pc := 44) (lv' := [(0, .ref h), (1, .long e1), (3, nV row)]) C [1, 0, 2] dX0_digest_44 rfl (by decide) rfl ?_
              refine xw_iconst_N (pc := 45) C 0 dX0_digest_45 rfl ?_
              refine xw_istore (pc := 46) (lv' := [(0, .ref h), (1, .long e1), (3, nV row), (4, nV 0)]) C [1, 2, 3, 0] dX0_digest_46 (by decide) rfl ?_
              have L48 : ∀ (fuel : Nat) (q : Nat) (e : Int64), 5 < q + fuel → q ≤ 5 → e = dgc (tl p n A9 row) e1 q → xw φ 0 0 (wX cI h a n p b w wi ni A9) 48 [(0, .ref h), (1, .long e), (3, nV row), (4, nV q)] [] := by
                intro fuel
                induction fuel with
                | zero =>
                  intro q e hq hqn he2
                  omega
                | succ fuel ih48 =>
                  intro q e hq hqn he2
                  refine xw_iload (pc := 48) C 3 dX0_digest_48 rfl ?_
                  refine xw_iconst_N (pc := 50) C 5 dX0_digest_50 rfl ?_
                  refine xw_icmp_ge_N (pc := 51) (tgt := 75) C dX0_digest_51 (by decide) (by omega) (by omega) (fun c_3 => ?_) (fun c_3 => ?_)
                  ·
                    rw [show q = 5 from by omega] at he2
                    refine xw_aload_n (pc := 75) C 0 dX0_digest_75 rfl ?_
                    refine xw_iload_n (pc := 76) C 2 dX0_digest_76 rfl ?_
                    refine xw_Vd (pc := 77) (q0 := 0) (na := 1) (rest := []) (st' := []) C (m_X0_scratchTones hp hp5 hn (hA8) hw row (by omega)) gX0_digest_X0_scratchTones rfl rfl rfl rfl (by decide +kernel) ⟨Nat.le_of_ble_eq_true rfl, Nat.le_of_ble_eq_true rfl⟩ rfl rfl rfl (Nat.le_of_ble_eq_true rfl) dX0_digest_77 ⟨Nat.le_of_ble_eq_true rfl, Nat.le_of_ble_eq_true rfl⟩ rfl ?_
                    refine xw_aload_n (pc := 80) C 0 dX0_digest_80 rfl ?_
                    refine xw_lload_n (pc := 81) C 1 dX0_digest_81 rfl ?_
                    refine xw_iconst_N (pc := 82) C 4 dX0_digest_82 rfl ?_
                    refine xw_Vd (pc := 83) (q0 := 0) (na := 2) (rest := []) (st' := [.long (dgc (fun k => (((sv A9 (tn p n A9 row w 1) n) (16 * 4 + k) : Nat) : Int)) e n)]) C (m_X0_digestRow hn e 4 (by omega)) gX0_digest_X0_digestRow rfl rfl rfl rfl (by decide +kernel) ⟨Nat.le_of_ble_eq_true rfl, Nat.le_of_ble_eq_true rfl⟩ rfl rfl rfl (Nat.le_of_ble_eq_true rfl) dX0_digest_83 ⟨Nat.le_of_ble_eq_true rfl, Nat.le_of_ble_eq_true rfl⟩ rfl ?_
                    refine xw_lstore_n (pc := 86) (lv' := [(0, .ref h), (1, .long (dgc (fun k => (((sv A9 (tn p n A9 row w 1) n) (16 * 4 + k) : Nat) : Int)) e n)), (3, nV row), (4, nV q)]) C [1, 0, 2, 3] dX0_digest_86 rfl (by decide) rfl ?_
                    have dgS : dgc (fun k => ((sv A9 (tn p n A9 row w 1) n (16 * 4 + k) : Nat) : Int)) e n = dgc (fun k => ((tn p n A9 row w 1 k : Nat) : Int)) e n := dgc_cg n (fun j hj => by show ((sv A9 (tn p n A9 row w 1) n (16 * 4 + j) : Nat) : Int) = _; unfold sv; rw [if_pos (by omega), show 16 * 4 + j - 64 = j by omega])
                    refine xw_iinc_N (pc := 87) (b := row + 1) (lv' := [(0, .ref h), (1, .long (dgc (fun k => (((sv A9 (tn p n A9 row w 1) n) (16 * 4 + k) : Nat) : Int)) e n)), (3, nV (row + 1)), (4, nV q)]) C 2 [1, 2, 0, 3] dX0_digest_87 rfl (by decide) rfl rfl ?_
                    refine xw_goto (pc := 90) (tgt := 33) C dX0_digest_90 (by decide) ?_
                    refine xw_lv (lv' := [(0, .ref h), (1, .long (dgc (fun k => (((sv A9 (tn p n A9 row w 1) n) (16 * 4 + k) : Nat) : Int)) e n)), (3, nV (row + 1))]) [0, 1, 2] rfl ?_
                    exact ih33 (row + 1) _ _ (by omega) (by omega) (fun j hj => by rw [sv_lo hj]; exact hA9 j hj) (sv_lt (g := tn p n A9 row w 1) hA8 (fun j _ => ml hp hp5)) (by rw [drs, ← hd, ← dro_cg (A := A9) (B := A) (r := row) (show 0 < n by omega) (fun k hk => hA9 _ (by omega))]; unfold dro; rw [← he1, ← he2]; exact dgS)
                  ·
                    refine xw_lload_n (pc := 54) C 1 dX0_digest_54 rfl ?_
                    refine xw_ldc2 (pc := 55) (v := 31) C (by decide +kernel) dX0_digest_55 ?_
                    refine xw_lmul (pc := 58) C dX0_digest_58 ?_
                    refine xw_aload_n (pc := 59) C 0 dX0_digest_59 rfl ?_
                    refine xw_iload_n (pc := 60) C 2 dX0_digest_60 rfl ?_
                    refine xw_iload (pc := 61) C 3 dX0_digest_61 rfl ?_
                    refine xw_Vd (pc := 63) (q0 := 0) (na := 2) (rest := [.long (e * 31)]) (st' := [iV (tl p n A9 row q), .long (e * 31)]) C (m_X0_told hp hp5 hn (hA8) row q (by omega) (by omega)) gX0_digest_X0_told rfl rfl rfl rfl (by decide +kernel) ⟨Nat.le_of_ble_eq_true rfl, Nat.le_of_ble_eq_true rfl⟩ rfl rfl rfl (Nat.le_of_ble_eq_true rfl) dX0_digest_63 ⟨Nat.le_of_ble_eq_true rfl, Nat.le_of_ble_eq_true rfl⟩ rfl ?_
                    refine xw_i2l (pc := 66) C dX0_digest_66 ?_
                    refine xw_ladd (pc := 67) C dX0_digest_67 ?_
                    refine xw_lstore_n (pc := 68) (lv' := [(0, .ref h), (1, .long ((e * 31) + ((iI (tl p n A9 row q)).toInt64))), (3, nV row), (4, nV q)]) C [1, 0, 2, 3] dX0_digest_68 rfl (by decide) rfl ?_
                    refine xw_iinc_N (pc := 69) (b := q + 1) (lv' := [(0, .ref h), (1, .long ((e * 31) + ((iI (tl p n A9 row q)).toInt64))), (3, nV row), (4, nV (q + 1))]) C 3 [1, 2, 3, 0] dX0_digest_69 rfl (by decide) rfl rfl ?_
                    refine xw_goto (pc := 72) (tgt := 48) C dX0_digest_72 (by decide) ?_
                    exact ih48 (q + 1) _ (by omega) (by omega) (by rw [dgc, ← he2]; rfl)
              exact L48 6 0 _ (by omega) (by omega) rfl
        exact L33 5 0 A d (by omega) (by omega) (fun j _ => rfl) hA (by rw [hd, show k = 6 by omega]; rfl)
      ·
        refine xw_lload_n (pc := 12) C 1 dX0_digest_12 rfl ?_
        refine xw_ldc2 (pc := 13) (v := 31) C (by decide +kernel) dX0_digest_13 ?_
        refine xw_lmul (pc := 16) C dX0_digest_16 ?_
        refine xw_aload_n (pc := 17) C 0 dX0_digest_17 rfl ?_
        refine xw_iload_n (pc := 18) C 2 dX0_digest_18 rfl ?_
        refine xw_Vd (pc := 19) (q0 := 0) (na := 1) (rest := [.long (d * 31)]) (st' := [nV (ct n p b w wi ni k), .long (d * 31)]) C (m_X0_counted k (by omega)) gX0_digest_X0_counted rfl rfl rfl rfl (by decide +kernel) ⟨Nat.le_of_ble_eq_true rfl, Nat.le_of_ble_eq_true rfl⟩ rfl rfl rfl (Nat.le_of_ble_eq_true rfl) dX0_digest_19 ⟨Nat.le_of_ble_eq_true rfl, Nat.le_of_ble_eq_true rfl⟩ rfl ?_
        refine xw_i2l (pc := 22) C dX0_digest_22 ?_
        refine xw_ladd (pc := 23) C dX0_digest_23 ?_
        refine xw_lstore_n (pc := 24) (lv' := [(0, .ref h), (1, .long ((d * 31) + ((iI ((ct n p b w wi ni k : Nat) : Int)).toInt64))), (3, nV k)]) C [1, 0, 2] dX0_digest_24 rfl (by decide) rfl ?_
        refine xw_iinc_N (pc := 25) (b := k + 1) (lv' := [(0, .ref h), (1, .long ((d * 31) + ((iI ((ct n p b w wi ni k : Nat) : Int)).toInt64))), (3, nV (k + 1))]) C 2 [1, 2, 0] dX0_digest_25 rfl (by decide) rfl rfl ?_
        refine xw_goto (pc := 28) (tgt := 6) C dX0_digest_28 (by decide) ?_
        exact ih6 (k + 1) _ (by omega) (by omega) (by rw [dgc, ← hd]; rfl)
  exact L6 7 0 _ (by omega) (by omega) rfl

def od (p v : Nat) : Nat := fs (fun k => decide (v ^ k % p = 1)) (p - 1) 1
set_option maxHeartbeats 4000000 in
set_option maxRecDepth 100000 in
theorem m_X0_order {l : Launch} {D : va_G} {cI : ClassId} {h a n p b w wi ni : Nat} {A : Nat → Nat} (hp : 1 < p) (hp5 : p < 500) (v : Nat) (h1 : 1 ≤ v) (hv : v < p) : CT l yX0_order wsX0_order (rmN 2 43) D vwCl [(cI, .int)] [.ref h, nV v] (wX cI h a n p b w wi ni A) (PD (some (nV (od p v))) (wX cI h a n p b w wi ni A)) 0 0 := by
  refine ct_of (plainFor_of_name (by decide)) rfl (Nat.le_of_ble_eq_true rfl) (fun φ C rX => ?_)
  have hin : ∀ w ∈ wsX00, w ∈ wsX0_order := by decide +kernel
  refine xw_le (lv' := [(0, .ref h), (1, nV v)]) rfl ?_
  refine xw_aload_n (pc := 0) C 0 dX0_order_0 rfl ?_
  refine xw_iload_n (pc := 1) C 1 dX0_order_1 rfl ?_
  refine xw_Vd (pc := 2) (q0 := 0) (na := 1) (rest := []) (st' := []) C (m_X0_requireInvertible hp5 v (by omega) (by omega)) gX0_order_X0_requireInvertible rfl rfl rfl rfl (by decide +kernel) ⟨Nat.le_of_ble_eq_true rfl, Nat.le_of_ble_eq_true rfl⟩ rfl rfl rfl (Nat.le_of_ble_eq_true rfl) dX0_order_2 ⟨Nat.le_of_ble_eq_true rfl, Nat.le_of_ble_eq_true rfl⟩ rfl ?_
  refine xw_iconst_N (pc := 5) C 1 dX0_order_5 rfl ?_
  refine xw_istore_n (pc := 6) (lv' := [(0, .ref h), (1, nV v), (2, nV 1)]) C [1, 2, 0] dX0_order_6 rfl (by decide) rfl ?_
  refine xw_iload_n (pc := 7) C 1 dX0_order_7 rfl ?_
  refine xw_istore_n (pc := 8) (lv' := [(0, .ref h), (1, nV v), (2, nV 1), (3, nV v)]) C [1, 2, 3, 0] dX0_order_8 rfl (by decide) rfl ?_
  have L9 : ∀ (fuel : Nat) (k x : Nat), p < k + fuel → k ≤ p → x = v ^ k % p → od p v = fs (fun k => decide (v ^ k % p = 1)) (p - k) k → xw φ 0 0 (wX cI h a n p b w wi ni A) 9 [(0, .ref h), (1, nV v), (2, nV k), (3, nV x)] [] := by
    intro fuel
    induction fuel with
    | zero =>
      intro k x hk hkn hx hfs
      omega
    | succ fuel ih9 =>
      intro k x hk hkn hx hfs
      have hxp : x < p := by rw [hx]; exact Nat.mod_lt _ (by omega)
      refine xw_iload_n (pc := 9) C 3 dX0_order_9 rfl ?_
      refine xw_iconst_N (pc := 10) C 1 dX0_order_10 rfl ?_
      refine xw_icmp_eq_N (pc := 11) (tgt := 36) C dX0_order_11 (by decide) (by omega) (by omega) (fun c_1 => ?_) (fun c_1 => ?_)
      ·
        refine xw_iload_n (pc := 36) C 2 dX0_order_36 rfl ?_
        exact xw_iret (pc := 37) C rX (Nat.le_refl _) (Nat.le_refl _) dX0_order_37 (PD.e (by rcases Nat.eq_or_lt_of_le hkn with z | z; rw [hfs, show p - k = 0 by omega, fs]; rw [hfs, show p - k = (p - (k + 1)) + 1 by omega, fs_t (decide_eq_true (hx.symm.trans c_1))]) rfl)
      ·
        refine xw_iload_n (pc := 14) C 2 dX0_order_14 rfl ?_
        refine xw_aload_n (pc := 15) C 0 dX0_order_15 rfl ?_
        refine xw_get (pc := 16) (T := TX0) (N := 7) (ref := "ToneButterflies") C hin 0 2 rfl rfl (by decide) (by decide +kernel) rfl rfl dX0_order_16 ?_
        refine xw_icmp_ge_N (pc := 19) (tgt := 36) C dX0_order_19 (by decide) (by omega) (by omega) (fun c_2 => ?_) (fun c_2 => ?_)
        ·
          refine xw_iload_n (pc := 36) C 2 dX0_order_36 rfl ?_
          exact xw_iret (pc := 37) C rX (Nat.le_refl _) (Nat.le_refl _) dX0_order_37 (PD.e (by rw [hfs, show p - k = 0 by omega, fs]) rfl)
        ·
          refine xw_aload_n (pc := 22) C 0 dX0_order_22 rfl ?_
          refine xw_iload_n (pc := 23) C 3 dX0_order_23 rfl ?_
          refine xw_iload_n (pc := 24) C 1 dX0_order_24 rfl ?_
          refine xw_imul_N (pc := 25) C dX0_order_25 ?_
          refine xw_Vd (pc := 26) (q0 := 0) (na := 1) (rest := []) (st' := [nV ((x * v) % p)]) C (m_X0_reduced (show 0 < p by omega) hp5 ((x * v : Nat) : Int) ((x * v) % p) (Int.natCast_emod _ _).symm (rgN (mb0 (by omega) (by omega)))) gX0_order_X0_reduced rfl rfl rfl rfl (by decide +kernel) ⟨Nat.le_of_ble_eq_true rfl, Nat.le_of_ble_eq_true rfl⟩ rfl rfl rfl (Nat.le_of_ble_eq_true rfl) dX0_order_26 ⟨Nat.le_of_ble_eq_true rfl, Nat.le_of_ble_eq_true rfl⟩ rfl ?_
          refine xw_istore_n (pc := 29) (lv' := [(0, .ref h), (1, nV v), (2, nV k), (3, nV ((x * v) % p))]) C [1, 2, 3, 0] dX0_order_29 rfl (by decide) rfl ?_
          refine xw_iinc_N (pc := 30) (b := k + 1) (lv' := [(0, .ref h), (1, nV v), (2, nV (k + 1)), (3, nV ((x * v) % p))]) C 2 [1, 2, 0, 3] dX0_order_30 rfl (by decide) rfl rfl ?_
          refine xw_goto (pc := 33) (tgt := 9) C dX0_order_33 (by decide) ?_
          exact ih9 (k + 1) _ (by omega) (by omega) (by rw [hx, mm3, Nat.pow_succ]) (by rw [hfs, show p - k = (p - (k + 1)) + 1 by omega, fs_f (decide_eq_false (fun z => c_1 (hx.trans z)))])
  exact L9 (p + 1) 1 v (by omega) (by omega) (by rw [Nat.pow_one, Nat.mod_eq_of_lt hv]) rfl

set_option maxHeartbeats 4000000 in
set_option maxRecDepth 100000 in
theorem m_X0_inverse {l : Launch} {D : va_G} {cI : ClassId} {h a n p b w wi ni : Nat} {A : Nat → Nat} (hp : 1 < p) (hp5 : p < 500) (v : Nat) (h1 : 1 ≤ v) (hv : v < p) : CT l yX0_inverse wsX0_inverse (rmN 4 89) D vwCl [(cI, .int)] [.ref h, nV v] (wX cI h a n p b w wi ni A) (PD (some (nV (v ^ (p - 2) % p))) (wX cI h a n p b w wi ni A)) 0 0 := by
  refine ct_of (plainFor_of_name (by decide)) rfl (Nat.le_of_ble_eq_true rfl) (fun φ C rX => ?_)
  refine xw_le (lv' := [(0, .ref h), (1, nV v)]) rfl ?_
  refine xw_aload_n (pc := 0) C 0 dX0_inverse_0 rfl ?_
  refine xw_iload_n (pc := 1) C 1 dX0_inverse_1 rfl ?_
  refine xw_Vd (pc := 2) (q0 := 0) (na := 1) (rest := []) (st' := []) C (m_X0_requireInvertible hp5 v (by omega) (by omega)) gX0_inverse_X0_requireInvertible rfl rfl rfl rfl (by decide +kernel) ⟨Nat.le_of_ble_eq_true rfl, Nat.le_of_ble_eq_true rfl⟩ rfl rfl rfl (Nat.le_of_ble_eq_true rfl) dX0_inverse_2 ⟨Nat.le_of_ble_eq_true rfl, Nat.le_of_ble_eq_true rfl⟩ rfl ?_
  refine xw_aload_n (pc := 5) C 0 dX0_inverse_5 rfl ?_
  refine xw_iload_n (pc := 6) C 1 dX0_inverse_6 rfl ?_
  refine xw_Vd (pc := 7) (q0 := 0) (na := 1) (rest := []) (st' := [nV (v ^ (p - 2) % p)]) C (m_X0_inverseOf hp hp5 v (by omega)) gX0_inverse_X0_inverseOf rfl rfl rfl rfl (by decide +kernel) ⟨Nat.le_of_ble_eq_true rfl, Nat.le_of_ble_eq_true rfl⟩ rfl rfl rfl (Nat.le_of_ble_eq_true rfl) dX0_inverse_7 ⟨Nat.le_of_ble_eq_true rfl, Nat.le_of_ble_eq_true rfl⟩ rfl ?_
  exact xw_iret (pc := 10) C rX (Nat.le_refl _) (Nat.le_refl _) dX0_inverse_10 (PD.i)

set_option maxHeartbeats 4000000 in
set_option maxRecDepth 100000 in
theorem m_X0_root {l : Launch} {D : va_G} {cI : ClassId} {h a n p b w wi ni : Nat} {A : Nat → Nat} (hp : 1 < p) (hp5 : p < 500) (hw : w < 500) (e : Nat) (he : e ≤ 9999) : CT l yX0_root wsX0_root (rmN 3 68) D vwCl [(cI, .int)] [.ref h, nV e] (wX cI h a n p b w wi ni A) (PD (some (nV (w ^ e % p))) (wX cI h a n p b w wi ni A)) 0 0 := by
  refine ct_of (plainFor_of_name (by decide)) rfl (Nat.le_of_ble_eq_true rfl) (fun φ C rX => ?_)
  have hin : ∀ w ∈ wsX00, w ∈ wsX0_root := by decide +kernel
  refine xw_le (lv' := [(0, .ref h), (1, nV e)]) rfl ?_
  refine xw_iload_n (pc := 0) C 1 dX0_root_0 rfl ?_
  refine xw_if_lt_N (pc := 1) (tgt := 11) C dX0_root_1 (by decide) (by omega) (fun c_1 => (by exfalso; omega)) (fun c_1 => ?_)
  refine xw_iload_n (pc := 4) C 1 dX0_root_4 rfl ?_
  refine xw_sipush_N (pc := 5) C 9999 dX0_root_5 (by decide) ?_
  refine xw_icmp_le_N (pc := 8) (tgt := 21) C dX0_root_8 (by decide) (by omega) (by omega) (fun c_2 => ?_) (fun c_2 => (by exfalso; omega))
  refine xw_aload_n (pc := 21) C 0 dX0_root_21 rfl ?_
  refine xw_aload_n (pc := 22) C 0 dX0_root_22 rfl ?_
  refine xw_get (pc := 23) (T := TX0) (N := 7) (ref := "ToneButterflies") C hin 0 4 rfl rfl (by decide) (by decide +kernel) rfl rfl dX0_root_23 ?_
  refine xw_iload_n (pc := 26) C 1 dX0_root_26 rfl ?_
  refine xw_Vd (pc := 27) (q0 := 0) (na := 2) (rest := []) (st' := [nV (w ^ e % p)]) C (m_X0_powerOf hp hp5 w e (by omega) (by omega)) gX0_root_X0_powerOf rfl rfl rfl rfl (by decide +kernel) ⟨Nat.le_of_ble_eq_true rfl, Nat.le_of_ble_eq_true rfl⟩ rfl rfl rfl (Nat.le_of_ble_eq_true rfl) dX0_root_27 ⟨Nat.le_of_ble_eq_true rfl, Nat.le_of_ble_eq_true rfl⟩ rfl ?_
  exact xw_iret (pc := 30) C rX (Nat.le_refl _) (Nat.le_refl _) dX0_root_30 (PD.i)

set_option maxHeartbeats 4000000 in
set_option maxRecDepth 100000 in
theorem m_X0_ring {l : Launch} {D : va_G} {cI : ClassId} {h a n p b w wi ni : Nat} {A : Nat → Nat} (n1 p1 : Nat) (hn : n1 = 4 ∨ n1 = 8 ∨ n1 = 16) (hp : 4 < p1) (hp5 : p1 < 500) (hprm : prm p1 = true) (hdv : (p1 - 1) % n1 = 0) : CT l yX0_ring wsX0_ring (rmN 5 112) D vwCl [(cI, .int)] [.ref h, nV n1, nV p1] (wX cI h a n p b w wi ni A) (PD (some (nV (rt n1 p1))) (wX cI h a n1 p1 (bt n1) (rt n1 p1) (rt n1 p1 ^ (p1 - 2) % p1) (n1 ^ (p1 - 2) % p1) (zf A 80))) 0 0 := by
  refine ct_of (plainFor_of_name (by decide)) rfl (Nat.le_of_ble_eq_true rfl) (fun φ C rX => ?_)
  have hin : ∀ w ∈ wsX00, w ∈ wsX0_ring := by decide +kernel
  refine xw_le (lv' := [(0, .ref h), (1, nV n1), (2, nV p1)]) rfl ?_
  refine xw_iload_n (pc := 0) C 1 dX0_ring_0 rfl ?_
  refine xw_Sd (pc := 1) (na := 1) (rest := []) (st' := [bV (decide (((n1 : Nat) : Int) = 4 ∨ ((n1 : Nat) : Int) = 8 ∨ ((n1 : Nat) : Int) = 16))]) C (m_X0_isLength (((n1 : Nat) : Int)) (by omega)) gX0_ring_X0_isLength rfl rfl rfl rfl (by decide +kernel) ⟨Nat.le_of_ble_eq_true rfl, Nat.le_of_ble_eq_true rfl⟩ rfl (Nat.le_of_ble_eq_true rfl) dX0_ring_1 ⟨Nat.le_of_ble_eq_true rfl, Nat.le_of_ble_eq_true rfl⟩ rfl ?_
  refine xw_if_eq_B (pc := 4) (tgt := 24) C dX0_ring_4 (by decide)  (fun c_1 => (by exact absurd (of_decide_eq_false c_1) (by omega))) (fun c_1 => ?_)
  refine xw_iload_n (pc := 7) C 2 dX0_ring_7 rfl ?_
  refine xw_Sd (pc := 8) (na := 1) (rest := []) (st' := [bV (decide (5 ≤ (((p1 : Nat) : Int)) ∧ (((p1 : Nat) : Int)) ≤ 499) && prm (((p1 : Nat) : Int)).toNat)]) C (m_X0_isPrimeOfRing (((p1 : Nat) : Int)) (by omega)) gX0_ring_X0_isPrimeOfRing rfl rfl rfl rfl (by decide +kernel) ⟨Nat.le_of_ble_eq_true rfl, Nat.le_of_ble_eq_true rfl⟩ rfl (Nat.le_of_ble_eq_true rfl) dX0_ring_8 ⟨Nat.le_of_ble_eq_true rfl, Nat.le_of_ble_eq_true rfl⟩ rfl ?_
  refine xw_if_eq_B (pc := 11) (tgt := 24) C dX0_ring_11 (by decide)  (fun c_2 => (by exact absurd c_2 (by rw [decide_eq_true (by omega), show (((p1 : Nat) : Int)).toNat = p1 from rfl, hprm]; decide))) (fun c_2 => ?_)
  refine xw_iload_n (pc := 14) C 1 dX0_ring_14 rfl ?_
  refine xw_iload_n (pc := 15) C 2 dX0_ring_15 rfl ?_
  refine xw_iconst_N (pc := 16) C 1 dX0_ring_16 rfl ?_
  refine xw_isub_N (pc := 17) C dX0_ring_17 (by omega) ?_
  refine xw_Sd (pc := 18) (na := 2) (rest := []) (st' := [bV (decide ((p1 - 1) % n1 = 0))]) C (m_X0_divides n1 (p1 - 1) (by omega) (by omega) (by omega)) gX0_ring_X0_divides rfl rfl rfl rfl (by decide +kernel) ⟨Nat.le_of_ble_eq_true rfl, Nat.le_of_ble_eq_true rfl⟩ rfl (Nat.le_of_ble_eq_true rfl) dX0_ring_18 ⟨Nat.le_of_ble_eq_true rfl, Nat.le_of_ble_eq_true rfl⟩ rfl ?_
  refine xw_if_ne_B (pc := 21) (tgt := 34) C dX0_ring_21 (by decide)  (fun c_3 => ?_) (fun c_3 => (by exact absurd (of_decide_eq_false c_3) (by omega)))
  refine xw_aload_n (pc := 34) C 0 dX0_ring_34 rfl ?_
  refine xw_iload_n (pc := 35) C 1 dX0_ring_35 rfl ?_
  refine xw_iload_n (pc := 36) C 2 dX0_ring_36 rfl ?_
  refine xw_Vd (pc := 37) (q0 := 0) (na := 2) (rest := []) (st' := []) C (m_X0_takeRing n1 p1 hn hp hp5) gX0_ring_X0_takeRing rfl rfl rfl rfl (by decide +kernel) ⟨Nat.le_of_ble_eq_true rfl, Nat.le_of_ble_eq_true rfl⟩ rfl rfl rfl (Nat.le_of_ble_eq_true rfl) dX0_ring_37 ⟨Nat.le_of_ble_eq_true rfl, Nat.le_of_ble_eq_true rfl⟩ rfl ?_
  refine xw_aload_n (pc := 40) C 0 dX0_ring_40 rfl ?_
  refine xw_get (pc := 41) (T := TX0) (N := 7) (ref := "ToneButterflies") C hin 0 4 rfl rfl (by decide) (by decide +kernel) rfl rfl dX0_ring_41 ?_
  exact xw_iret (pc := 44) C rX (Nat.le_refl _) (Nat.le_refl _) dX0_ring_44 (PD.i)
end
section
theorem dX1_init_0 : decode cX1_init 0 = .ok (.aload_n 0, 1) := by decide +kernel
theorem dX1_init_1 : decode cX1_init 1 = .ok (.invokespecial 1, 3) := by decide +kernel
theorem dX1_init_4 : decode cX1_init 4 = .ok (.aload_n 0, 1) := by decide +kernel
theorem dX1_init_5 : decode cX1_init 5 = .ok (.bipush 8, 2) := by decide +kernel
theorem dX1_init_7 : decode cX1_init 7 = .ok (.putfield 7, 3) := by decide +kernel
theorem dX1_init_10 : decode cX1_init 10 = .ok (.aload_n 0, 1) := by decide +kernel
theorem dX1_init_11 : decode cX1_init 11 = .ok (.bipush 17, 2) := by decide +kernel
theorem dX1_init_13 : decode cX1_init 13 = .ok (.putfield 13, 3) := by decide +kernel
theorem dX1_init_16 : decode cX1_init 16 = .ok (.aload_n 0, 1) := by decide +kernel
theorem dX1_init_17 : decode cX1_init 17 = .ok (.iconst 2, 1) := by decide +kernel
theorem dX1_init_18 : decode cX1_init 18 = .ok (.putfield 16, 3) := by decide +kernel
theorem dX1_init_21 : decode cX1_init 21 = .ok (.aload_n 0, 1) := by decide +kernel
theorem dX1_init_22 : decode cX1_init 22 = .ok (.iconst 4, 1) := by decide +kernel
theorem dX1_init_23 : decode cX1_init 23 = .ok (.bipush 8, 2) := by decide +kernel
theorem dX1_init_25 : decode cX1_init 25 = .ok (.multianewarray 19 2, 4) := by decide +kernel
theorem dX1_init_29 : decode cX1_init 29 = .ok (.putfield 21, 3) := by decide +kernel
theorem dX1_init_32 : decode cX1_init 32 = .ok (.return_, 1) := by decide +kernel
theorem dX1_power_0 : decode cX1_power 0 = .ok (.iconst 1, 1) := by decide +kernel
theorem dX1_power_1 : decode cX1_power 1 = .ok (.istore_n 3, 1) := by decide +kernel
theorem dX1_power_2 : decode cX1_power 2 = .ok (.iconst 0, 1) := by decide +kernel
theorem dX1_power_3 : decode cX1_power 3 = .ok (.istore 4, 2) := by decide +kernel
theorem dX1_power_5 : decode cX1_power 5 = .ok (.iload 4, 2) := by decide +kernel
theorem dX1_power_7 : decode cX1_power 7 = .ok (.iload_n 2, 1) := by decide +kernel
theorem dX1_power_8 : decode cX1_power 8 = .ok (.if_icmp .ge 18, 3) := by decide +kernel
theorem dX1_power_11 : decode cX1_power 11 = .ok (.iload_n 3, 1) := by decide +kernel
theorem dX1_power_12 : decode cX1_power 12 = .ok (.iload_n 1, 1) := by decide +kernel
theorem dX1_power_13 : decode cX1_power 13 = .ok (.imul, 1) := by decide +kernel
theorem dX1_power_14 : decode cX1_power 14 = .ok (.aload_n 0, 1) := by decide +kernel
theorem dX1_power_15 : decode cX1_power 15 = .ok (.getfield 13, 3) := by decide +kernel
theorem dX1_power_18 : decode cX1_power 18 = .ok (.irem, 1) := by decide +kernel
theorem dX1_power_19 : decode cX1_power 19 = .ok (.istore_n 3, 1) := by decide +kernel
theorem dX1_power_20 : decode cX1_power 20 = .ok (.iinc 4 1, 3) := by decide +kernel
theorem dX1_power_23 : decode cX1_power 23 = .ok (.goto (-18), 3) := by decide +kernel
theorem dX1_power_26 : decode cX1_power 26 = .ok (.iload_n 3, 1) := by decide +kernel
theorem dX1_power_27 : decode cX1_power 27 = .ok (.ireturn, 1) := by decide +kernel
theorem dX1_order_0 : decode cX1_order 0 = .ok (.iconst 1, 1) := by decide +kernel
theorem dX1_order_1 : decode cX1_order 1 = .ok (.istore_n 2, 1) := by decide +kernel
theorem dX1_order_2 : decode cX1_order 2 = .ok (.iload_n 1, 1) := by decide +kernel
theorem dX1_order_3 : decode cX1_order 3 = .ok (.istore_n 3, 1) := by decide +kernel
theorem dX1_order_4 : decode cX1_order 4 = .ok (.iload_n 3, 1) := by decide +kernel
theorem dX1_order_5 : decode cX1_order 5 = .ok (.iconst 1, 1) := by decide +kernel
theorem dX1_order_6 : decode cX1_order 6 = .ok (.if_icmp .eq 18, 3) := by decide +kernel
theorem dX1_order_9 : decode cX1_order 9 = .ok (.iinc 2 1, 3) := by decide +kernel
theorem dX1_order_12 : decode cX1_order 12 = .ok (.iload_n 3, 1) := by decide +kernel
theorem dX1_order_13 : decode cX1_order 13 = .ok (.iload_n 1, 1) := by decide +kernel
theorem dX1_order_14 : decode cX1_order 14 = .ok (.imul, 1) := by decide +kernel
theorem dX1_order_15 : decode cX1_order 15 = .ok (.aload_n 0, 1) := by decide +kernel
theorem dX1_order_16 : decode cX1_order 16 = .ok (.getfield 13, 3) := by decide +kernel
theorem dX1_order_19 : decode cX1_order 19 = .ok (.irem, 1) := by decide +kernel
theorem dX1_order_20 : decode cX1_order 20 = .ok (.istore_n 3, 1) := by decide +kernel
theorem dX1_order_21 : decode cX1_order 21 = .ok (.goto (-17), 3) := by decide +kernel
theorem dX1_order_24 : decode cX1_order 24 = .ok (.iload_n 2, 1) := by decide +kernel
theorem dX1_order_25 : decode cX1_order 25 = .ok (.ireturn, 1) := by decide +kernel
theorem dX1_inverse_0 : decode cX1_inverse 0 = .ok (.iconst 1, 1) := by decide +kernel
theorem dX1_inverse_1 : decode cX1_inverse 1 = .ok (.istore_n 2, 1) := by decide +kernel
theorem dX1_inverse_2 : decode cX1_inverse 2 = .ok (.iload_n 2, 1) := by decide +kernel
theorem dX1_inverse_3 : decode cX1_inverse 3 = .ok (.iload_n 1, 1) := by decide +kernel
theorem dX1_inverse_4 : decode cX1_inverse 4 = .ok (.imul, 1) := by decide +kernel
theorem dX1_inverse_5 : decode cX1_inverse 5 = .ok (.aload_n 0, 1) := by decide +kernel
theorem dX1_inverse_6 : decode cX1_inverse 6 = .ok (.getfield 13, 3) := by decide +kernel
theorem dX1_inverse_9 : decode cX1_inverse 9 = .ok (.irem, 1) := by decide +kernel
theorem dX1_inverse_10 : decode cX1_inverse 10 = .ok (.iconst 1, 1) := by decide +kernel
theorem dX1_inverse_11 : decode cX1_inverse 11 = .ok (.if_icmp .eq 9, 3) := by decide +kernel
theorem dX1_inverse_14 : decode cX1_inverse 14 = .ok (.iinc 2 1, 3) := by decide +kernel
theorem dX1_inverse_17 : decode cX1_inverse 17 = .ok (.goto (-15), 3) := by decide +kernel
theorem dX1_inverse_20 : decode cX1_inverse 20 = .ok (.iload_n 2, 1) := by decide +kernel
theorem dX1_inverse_21 : decode cX1_inverse 21 = .ok (.ireturn, 1) := by decide +kernel
set_option maxRecDepth 20000 in
theorem ggX1_ring_X1_order : GoodIn wsX1_ring wsX1_order := goodIn_r _ [11, 2, 12, 13, 14, 15] (by decide +kernel) (by decide +kernel)
set_option maxRecDepth 20000 in
theorem gX1_ring_X1_order : GoodIn wsX1_ring (wsV RX1 24 RX1 yX1_order wsX1_order) := goodIn_app (goodIn_of _ (by decide +kernel)) ggX1_ring_X1_order
theorem dX1_ring_0 : decode cX1_ring 0 = .ok (.aload_n 0, 1) := by decide +kernel
theorem dX1_ring_1 : decode cX1_ring 1 = .ok (.iload_n 1, 1) := by decide +kernel
theorem dX1_ring_2 : decode cX1_ring 2 = .ok (.putfield 7, 3) := by decide +kernel
theorem dX1_ring_5 : decode cX1_ring 5 = .ok (.aload_n 0, 1) := by decide +kernel
theorem dX1_ring_6 : decode cX1_ring 6 = .ok (.iload_n 2, 1) := by decide +kernel
theorem dX1_ring_7 : decode cX1_ring 7 = .ok (.putfield 13, 3) := by decide +kernel
theorem dX1_ring_10 : decode cX1_ring 10 = .ok (.aload_n 0, 1) := by decide +kernel
theorem dX1_ring_11 : decode cX1_ring 11 = .ok (.iconst 2, 1) := by decide +kernel
theorem dX1_ring_12 : decode cX1_ring 12 = .ok (.putfield 16, 3) := by decide +kernel
theorem dX1_ring_15 : decode cX1_ring 15 = .ok (.aload_n 0, 1) := by decide +kernel
theorem dX1_ring_16 : decode cX1_ring 16 = .ok (.aload_n 0, 1) := by decide +kernel
theorem dX1_ring_17 : decode cX1_ring 17 = .ok (.getfield 16, 3) := by decide +kernel
theorem dX1_ring_20 : decode cX1_ring 20 = .ok (.invokevirtual 24, 3) := by decide +kernel
theorem dX1_ring_23 : decode cX1_ring 23 = .ok (.aload_n 0, 1) := by decide +kernel
theorem dX1_ring_24 : decode cX1_ring 24 = .ok (.getfield 7, 3) := by decide +kernel
theorem dX1_ring_27 : decode cX1_ring 27 = .ok (.if_icmp .eq 16, 3) := by decide +kernel
theorem dX1_ring_30 : decode cX1_ring 30 = .ok (.aload_n 0, 1) := by decide +kernel
theorem dX1_ring_31 : decode cX1_ring 31 = .ok (.dup, 1) := by decide +kernel
theorem dX1_ring_32 : decode cX1_ring 32 = .ok (.getfield 16, 3) := by decide +kernel
theorem dX1_ring_35 : decode cX1_ring 35 = .ok (.iconst 1, 1) := by decide +kernel
theorem dX1_ring_36 : decode cX1_ring 36 = .ok (.iadd, 1) := by decide +kernel
theorem dX1_ring_37 : decode cX1_ring 37 = .ok (.putfield 16, 3) := by decide +kernel
theorem dX1_ring_40 : decode cX1_ring 40 = .ok (.goto (-25), 3) := by decide +kernel
theorem dX1_ring_43 : decode cX1_ring 43 = .ok (.aload_n 0, 1) := by decide +kernel
theorem dX1_ring_44 : decode cX1_ring 44 = .ok (.iconst 4, 1) := by decide +kernel
theorem dX1_ring_45 : decode cX1_ring 45 = .ok (.aload_n 0, 1) := by decide +kernel
theorem dX1_ring_46 : decode cX1_ring 46 = .ok (.getfield 7, 3) := by decide +kernel
theorem dX1_ring_49 : decode cX1_ring 49 = .ok (.multianewarray 19 2, 4) := by decide +kernel
theorem dX1_ring_53 : decode cX1_ring 53 = .ok (.putfield 21, 3) := by decide +kernel
theorem dX1_ring_56 : decode cX1_ring 56 = .ok (.aload_n 0, 1) := by decide +kernel
theorem dX1_ring_57 : decode cX1_ring 57 = .ok (.getfield 16, 3) := by decide +kernel
theorem dX1_ring_60 : decode cX1_ring 60 = .ok (.ireturn, 1) := by decide +kernel
set_option maxRecDepth 20000 in
theorem ggX1_tones_X1_power : GoodIn wsX1_tones wsX1_power := goodIn_r _ [9, 4, 10, 11, 12, 13] (by decide +kernel) (by decide +kernel)
set_option maxRecDepth 20000 in
theorem gX1_tones_X1_power : GoodIn wsX1_tones (wsV RX1 28 RX1 yX1_power wsX1_power) := goodIn_app (goodIn_of _ (by decide +kernel)) ggX1_tones_X1_power
theorem dX1_tones_0 : decode cX1_tones 0 = .ok (.aload_n 0, 1) := by decide +kernel
theorem dX1_tones_1 : decode cX1_tones 1 = .ok (.getfield 7, 3) := by decide +kernel
theorem dX1_tones_4 : decode cX1_tones 4 = .ok (.newarray .int, 2) := by decide +kernel
theorem dX1_tones_6 : decode cX1_tones 6 = .ok (.astore_n 2, 1) := by decide +kernel
theorem dX1_tones_7 : decode cX1_tones 7 = .ok (.iconst 0, 1) := by decide +kernel
theorem dX1_tones_8 : decode cX1_tones 8 = .ok (.istore_n 3, 1) := by decide +kernel
theorem dX1_tones_9 : decode cX1_tones 9 = .ok (.iload_n 3, 1) := by decide +kernel
theorem dX1_tones_10 : decode cX1_tones 10 = .ok (.aload_n 0, 1) := by decide +kernel
theorem dX1_tones_11 : decode cX1_tones 11 = .ok (.getfield 7, 3) := by decide +kernel
theorem dX1_tones_14 : decode cX1_tones 14 = .ok (.if_icmp .ge 61, 3) := by decide +kernel
theorem dX1_tones_17 : decode cX1_tones 17 = .ok (.iconst 0, 1) := by decide +kernel
theorem dX1_tones_18 : decode cX1_tones 18 = .ok (.istore 4, 2) := by decide +kernel
theorem dX1_tones_20 : decode cX1_tones 20 = .ok (.iload 4, 2) := by decide +kernel
theorem dX1_tones_22 : decode cX1_tones 22 = .ok (.aload_n 0, 1) := by decide +kernel
theorem dX1_tones_23 : decode cX1_tones 23 = .ok (.getfield 7, 3) := by decide +kernel
theorem dX1_tones_26 : decode cX1_tones 26 = .ok (.if_icmp .ge 43, 3) := by decide +kernel
theorem dX1_tones_29 : decode cX1_tones 29 = .ok (.aload_n 2, 1) := by decide +kernel
theorem dX1_tones_30 : decode cX1_tones 30 = .ok (.iload_n 3, 1) := by decide +kernel
theorem dX1_tones_31 : decode cX1_tones 31 = .ok (.aload_n 2, 1) := by decide +kernel
theorem dX1_tones_32 : decode cX1_tones 32 = .ok (.iload_n 3, 1) := by decide +kernel
theorem dX1_tones_33 : decode cX1_tones 33 = .ok (.iaload, 1) := by decide +kernel
theorem dX1_tones_34 : decode cX1_tones 34 = .ok (.aload_n 1, 1) := by decide +kernel
theorem dX1_tones_35 : decode cX1_tones 35 = .ok (.iload 4, 2) := by decide +kernel
theorem dX1_tones_37 : decode cX1_tones 37 = .ok (.iaload, 1) := by decide +kernel
theorem dX1_tones_38 : decode cX1_tones 38 = .ok (.aload_n 0, 1) := by decide +kernel
theorem dX1_tones_39 : decode cX1_tones 39 = .ok (.aload_n 0, 1) := by decide +kernel
theorem dX1_tones_40 : decode cX1_tones 40 = .ok (.getfield 16, 3) := by decide +kernel
theorem dX1_tones_43 : decode cX1_tones 43 = .ok (.iload 4, 2) := by decide +kernel
theorem dX1_tones_45 : decode cX1_tones 45 = .ok (.iload_n 3, 1) := by decide +kernel
theorem dX1_tones_46 : decode cX1_tones 46 = .ok (.imul, 1) := by decide +kernel
theorem dX1_tones_47 : decode cX1_tones 47 = .ok (.aload_n 0, 1) := by decide +kernel
theorem dX1_tones_48 : decode cX1_tones 48 = .ok (.getfield 7, 3) := by decide +kernel
theorem dX1_tones_51 : decode cX1_tones 51 = .ok (.irem, 1) := by decide +kernel
theorem dX1_tones_52 : decode cX1_tones 52 = .ok (.invokevirtual 28, 3) := by decide +kernel
theorem dX1_tones_55 : decode cX1_tones 55 = .ok (.imul, 1) := by decide +kernel
theorem dX1_tones_56 : decode cX1_tones 56 = .ok (.iadd, 1) := by decide +kernel
theorem dX1_tones_57 : decode cX1_tones 57 = .ok (.aload_n 0, 1) := by decide +kernel
theorem dX1_tones_58 : decode cX1_tones 58 = .ok (.getfield 13, 3) := by decide +kernel
theorem dX1_tones_61 : decode cX1_tones 61 = .ok (.irem, 1) := by decide +kernel
theorem dX1_tones_62 : decode cX1_tones 62 = .ok (.iastore, 1) := by decide +kernel
theorem dX1_tones_63 : decode cX1_tones 63 = .ok (.iinc 4 1, 3) := by decide +kernel
theorem dX1_tones_66 : decode cX1_tones 66 = .ok (.goto (-46), 3) := by decide +kernel
theorem dX1_tones_69 : decode cX1_tones 69 = .ok (.iinc 3 1, 3) := by decide +kernel
theorem dX1_tones_72 : decode cX1_tones 72 = .ok (.goto (-63), 3) := by decide +kernel
theorem dX1_tones_75 : decode cX1_tones 75 = .ok (.aload_n 2, 1) := by decide +kernel
theorem dX1_tones_76 : decode cX1_tones 76 = .ok (.areturn, 1) := by decide +kernel
set_option maxRecDepth 20000 in
theorem ggX1_back_X1_power : GoodIn wsX1_back wsX1_power := goodIn_r _ [9, 4, 14, 15, 16, 17] (by decide +kernel) (by decide +kernel)
set_option maxRecDepth 20000 in
theorem gX1_back_X1_power : GoodIn wsX1_back (wsV RX1 28 RX1 yX1_power wsX1_power) := goodIn_app (goodIn_of _ (by decide +kernel)) ggX1_back_X1_power
set_option maxRecDepth 20000 in
theorem ggX1_back_X1_inverse : GoodIn wsX1_back wsX1_inverse := goodIn_r _ [13, 4, 14, 15, 16, 17] (by decide +kernel) (by decide +kernel)
set_option maxRecDepth 20000 in
theorem gX1_back_X1_inverse : GoodIn wsX1_back (wsV RX1 32 RX1 yX1_inverse wsX1_inverse) := goodIn_app (goodIn_of _ (by decide +kernel)) ggX1_back_X1_inverse
theorem dX1_back_0 : decode cX1_back 0 = .ok (.aload_n 0, 1) := by decide +kernel
theorem dX1_back_1 : decode cX1_back 1 = .ok (.getfield 7, 3) := by decide +kernel
theorem dX1_back_4 : decode cX1_back 4 = .ok (.newarray .int, 2) := by decide +kernel
theorem dX1_back_6 : decode cX1_back 6 = .ok (.astore_n 2, 1) := by decide +kernel
theorem dX1_back_7 : decode cX1_back 7 = .ok (.iconst 0, 1) := by decide +kernel
theorem dX1_back_8 : decode cX1_back 8 = .ok (.istore_n 3, 1) := by decide +kernel
theorem dX1_back_9 : decode cX1_back 9 = .ok (.iload_n 3, 1) := by decide +kernel
theorem dX1_back_10 : decode cX1_back 10 = .ok (.aload_n 0, 1) := by decide +kernel
theorem dX1_back_11 : decode cX1_back 11 = .ok (.getfield 7, 3) := by decide +kernel
theorem dX1_back_14 : decode cX1_back 14 = .ok (.if_icmp .ge 91, 3) := by decide +kernel
theorem dX1_back_17 : decode cX1_back 17 = .ok (.iconst 0, 1) := by decide +kernel
theorem dX1_back_18 : decode cX1_back 18 = .ok (.istore 4, 2) := by decide +kernel
theorem dX1_back_20 : decode cX1_back 20 = .ok (.iload 4, 2) := by decide +kernel
theorem dX1_back_22 : decode cX1_back 22 = .ok (.aload_n 0, 1) := by decide +kernel
theorem dX1_back_23 : decode cX1_back 23 = .ok (.getfield 7, 3) := by decide +kernel
theorem dX1_back_26 : decode cX1_back 26 = .ok (.if_icmp .ge 53, 3) := by decide +kernel
theorem dX1_back_29 : decode cX1_back 29 = .ok (.aload_n 2, 1) := by decide +kernel
theorem dX1_back_30 : decode cX1_back 30 = .ok (.iload_n 3, 1) := by decide +kernel
theorem dX1_back_31 : decode cX1_back 31 = .ok (.aload_n 2, 1) := by decide +kernel
theorem dX1_back_32 : decode cX1_back 32 = .ok (.iload_n 3, 1) := by decide +kernel
theorem dX1_back_33 : decode cX1_back 33 = .ok (.iaload, 1) := by decide +kernel
theorem dX1_back_34 : decode cX1_back 34 = .ok (.aload_n 1, 1) := by decide +kernel
theorem dX1_back_35 : decode cX1_back 35 = .ok (.iload 4, 2) := by decide +kernel
theorem dX1_back_37 : decode cX1_back 37 = .ok (.iaload, 1) := by decide +kernel
theorem dX1_back_38 : decode cX1_back 38 = .ok (.aload_n 0, 1) := by decide +kernel
theorem dX1_back_39 : decode cX1_back 39 = .ok (.aload_n 0, 1) := by decide +kernel
theorem dX1_back_40 : decode cX1_back 40 = .ok (.getfield 16, 3) := by decide +kernel
theorem dX1_back_43 : decode cX1_back 43 = .ok (.aload_n 0, 1) := by decide +kernel
theorem dX1_back_44 : decode cX1_back 44 = .ok (.getfield 7, 3) := by decide +kernel
theorem dX1_back_47 : decode cX1_back 47 = .ok (.iload_n 3, 1) := by decide +kernel
theorem dX1_back_48 : decode cX1_back 48 = .ok (.iload 4, 2) := by decide +kernel
theorem dX1_back_50 : decode cX1_back 50 = .ok (.imul, 1) := by decide +kernel
theorem dX1_back_51 : decode cX1_back 51 = .ok (.aload_n 0, 1) := by decide +kernel
theorem dX1_back_52 : decode cX1_back 52 = .ok (.getfield 7, 3) := by decide +kernel
theorem dX1_back_55 : decode cX1_back 55 = .ok (.irem, 1) := by decide +kernel
theorem dX1_back_56 : decode cX1_back 56 = .ok (.isub, 1) := by decide +kernel
theorem dX1_back_57 : decode cX1_back 57 = .ok (.aload_n 0, 1) := by decide +kernel
theorem dX1_back_58 : decode cX1_back 58 = .ok (.getfield 7, 3) := by decide +kernel
theorem dX1_back_61 : decode cX1_back 61 = .ok (.irem, 1) := by decide +kernel
theorem dX1_back_62 : decode cX1_back 62 = .ok (.invokevirtual 28, 3) := by decide +kernel
theorem dX1_back_65 : decode cX1_back 65 = .ok (.imul, 1) := by decide +kernel
theorem dX1_back_66 : decode cX1_back 66 = .ok (.iadd, 1) := by decide +kernel
theorem dX1_back_67 : decode cX1_back 67 = .ok (.aload_n 0, 1) := by decide +kernel
theorem dX1_back_68 : decode cX1_back 68 = .ok (.getfield 13, 3) := by decide +kernel
theorem dX1_back_71 : decode cX1_back 71 = .ok (.irem, 1) := by decide +kernel
theorem dX1_back_72 : decode cX1_back 72 = .ok (.iastore, 1) := by decide +kernel
theorem dX1_back_73 : decode cX1_back 73 = .ok (.iinc 4 1, 3) := by decide +kernel
theorem dX1_back_76 : decode cX1_back 76 = .ok (.goto (-56), 3) := by decide +kernel
theorem dX1_back_79 : decode cX1_back 79 = .ok (.aload_n 2, 1) := by decide +kernel
theorem dX1_back_80 : decode cX1_back 80 = .ok (.iload_n 3, 1) := by decide +kernel
theorem dX1_back_81 : decode cX1_back 81 = .ok (.aload_n 2, 1) := by decide +kernel
theorem dX1_back_82 : decode cX1_back 82 = .ok (.iload_n 3, 1) := by decide +kernel
theorem dX1_back_83 : decode cX1_back 83 = .ok (.iaload, 1) := by decide +kernel
theorem dX1_back_84 : decode cX1_back 84 = .ok (.aload_n 0, 1) := by decide +kernel
theorem dX1_back_85 : decode cX1_back 85 = .ok (.aload_n 0, 1) := by decide +kernel
theorem dX1_back_86 : decode cX1_back 86 = .ok (.getfield 7, 3) := by decide +kernel
theorem dX1_back_89 : decode cX1_back 89 = .ok (.invokevirtual 32, 3) := by decide +kernel
theorem dX1_back_92 : decode cX1_back 92 = .ok (.imul, 1) := by decide +kernel
theorem dX1_back_93 : decode cX1_back 93 = .ok (.aload_n 0, 1) := by decide +kernel
theorem dX1_back_94 : decode cX1_back 94 = .ok (.getfield 13, 3) := by decide +kernel
theorem dX1_back_97 : decode cX1_back 97 = .ok (.irem, 1) := by decide +kernel
theorem dX1_back_98 : decode cX1_back 98 = .ok (.iastore, 1) := by decide +kernel
theorem dX1_back_99 : decode cX1_back 99 = .ok (.iinc 3 1, 3) := by decide +kernel
theorem dX1_back_102 : decode cX1_back 102 = .ok (.goto (-93), 3) := by decide +kernel
theorem dX1_back_105 : decode cX1_back 105 = .ok (.aload_n 2, 1) := by decide +kernel
theorem dX1_back_106 : decode cX1_back 106 = .ok (.areturn, 1) := by decide +kernel
theorem dX1_mirrored_0 : decode cX1_mirrored 0 = .ok (.aload_n 0, 1) := by decide +kernel
theorem dX1_mirrored_1 : decode cX1_mirrored 1 = .ok (.getfield 7, 3) := by decide +kernel
theorem dX1_mirrored_4 : decode cX1_mirrored 4 = .ok (.newarray .int, 2) := by decide +kernel
theorem dX1_mirrored_6 : decode cX1_mirrored 6 = .ok (.astore_n 2, 1) := by decide +kernel
theorem dX1_mirrored_7 : decode cX1_mirrored 7 = .ok (.iconst 0, 1) := by decide +kernel
theorem dX1_mirrored_8 : decode cX1_mirrored 8 = .ok (.istore_n 3, 1) := by decide +kernel
theorem dX1_mirrored_9 : decode cX1_mirrored 9 = .ok (.iload_n 3, 1) := by decide +kernel
theorem dX1_mirrored_10 : decode cX1_mirrored 10 = .ok (.aload_n 0, 1) := by decide +kernel
theorem dX1_mirrored_11 : decode cX1_mirrored 11 = .ok (.getfield 7, 3) := by decide +kernel
theorem dX1_mirrored_14 : decode cX1_mirrored 14 = .ok (.if_icmp .ge 68, 3) := by decide +kernel
theorem dX1_mirrored_17 : decode cX1_mirrored 17 = .ok (.iconst 0, 1) := by decide +kernel
theorem dX1_mirrored_18 : decode cX1_mirrored 18 = .ok (.istore 4, 2) := by decide +kernel
theorem dX1_mirrored_20 : decode cX1_mirrored 20 = .ok (.iconst 1, 1) := by decide +kernel
theorem dX1_mirrored_21 : decode cX1_mirrored 21 = .ok (.istore 5, 2) := by decide +kernel
theorem dX1_mirrored_23 : decode cX1_mirrored 23 = .ok (.aload_n 0, 1) := by decide +kernel
theorem dX1_mirrored_24 : decode cX1_mirrored 24 = .ok (.getfield 7, 3) := by decide +kernel
theorem dX1_mirrored_27 : decode cX1_mirrored 27 = .ok (.iconst 2, 1) := by decide +kernel
theorem dX1_mirrored_28 : decode cX1_mirrored 28 = .ok (.idiv, 1) := by decide +kernel
theorem dX1_mirrored_29 : decode cX1_mirrored 29 = .ok (.istore 6, 2) := by decide +kernel
theorem dX1_mirrored_31 : decode cX1_mirrored 31 = .ok (.iload 5, 2) := by decide +kernel
theorem dX1_mirrored_33 : decode cX1_mirrored 33 = .ok (.aload_n 0, 1) := by decide +kernel
theorem dX1_mirrored_34 : decode cX1_mirrored 34 = .ok (.getfield 7, 3) := by decide +kernel
theorem dX1_mirrored_37 : decode cX1_mirrored 37 = .ok (.if_icmp .ge 32, 3) := by decide +kernel
theorem dX1_mirrored_40 : decode cX1_mirrored 40 = .ok (.iload 4, 2) := by decide +kernel
theorem dX1_mirrored_42 : decode cX1_mirrored 42 = .ok (.iload_n 3, 1) := by decide +kernel
theorem dX1_mirrored_43 : decode cX1_mirrored 43 = .ok (.iload 5, 2) := by decide +kernel
theorem dX1_mirrored_45 : decode cX1_mirrored 45 = .ok (.idiv, 1) := by decide +kernel
theorem dX1_mirrored_46 : decode cX1_mirrored 46 = .ok (.iconst 2, 1) := by decide +kernel
theorem dX1_mirrored_47 : decode cX1_mirrored 47 = .ok (.irem, 1) := by decide +kernel
theorem dX1_mirrored_48 : decode cX1_mirrored 48 = .ok (.iload 6, 2) := by decide +kernel
theorem dX1_mirrored_50 : decode cX1_mirrored 50 = .ok (.imul, 1) := by decide +kernel
theorem dX1_mirrored_51 : decode cX1_mirrored 51 = .ok (.iadd, 1) := by decide +kernel
theorem dX1_mirrored_52 : decode cX1_mirrored 52 = .ok (.istore 4, 2) := by decide +kernel
theorem dX1_mirrored_54 : decode cX1_mirrored 54 = .ok (.iload 5, 2) := by decide +kernel
theorem dX1_mirrored_56 : decode cX1_mirrored 56 = .ok (.iconst 2, 1) := by decide +kernel
theorem dX1_mirrored_57 : decode cX1_mirrored 57 = .ok (.imul, 1) := by decide +kernel
theorem dX1_mirrored_58 : decode cX1_mirrored 58 = .ok (.istore 5, 2) := by decide +kernel
theorem dX1_mirrored_60 : decode cX1_mirrored 60 = .ok (.iload 6, 2) := by decide +kernel
theorem dX1_mirrored_62 : decode cX1_mirrored 62 = .ok (.iconst 2, 1) := by decide +kernel
theorem dX1_mirrored_63 : decode cX1_mirrored 63 = .ok (.idiv, 1) := by decide +kernel
theorem dX1_mirrored_64 : decode cX1_mirrored 64 = .ok (.istore 6, 2) := by decide +kernel
theorem dX1_mirrored_66 : decode cX1_mirrored 66 = .ok (.goto (-35), 3) := by decide +kernel
theorem dX1_mirrored_69 : decode cX1_mirrored 69 = .ok (.aload_n 2, 1) := by decide +kernel
theorem dX1_mirrored_70 : decode cX1_mirrored 70 = .ok (.iload 4, 2) := by decide +kernel
theorem dX1_mirrored_72 : decode cX1_mirrored 72 = .ok (.aload_n 1, 1) := by decide +kernel
theorem dX1_mirrored_73 : decode cX1_mirrored 73 = .ok (.iload_n 3, 1) := by decide +kernel
theorem dX1_mirrored_74 : decode cX1_mirrored 74 = .ok (.iaload, 1) := by decide +kernel
theorem dX1_mirrored_75 : decode cX1_mirrored 75 = .ok (.iastore, 1) := by decide +kernel
theorem dX1_mirrored_76 : decode cX1_mirrored 76 = .ok (.iinc 3 1, 3) := by decide +kernel
theorem dX1_mirrored_79 : decode cX1_mirrored 79 = .ok (.goto (-70), 3) := by decide +kernel
theorem dX1_mirrored_82 : decode cX1_mirrored 82 = .ok (.aload_n 2, 1) := by decide +kernel
theorem dX1_mirrored_83 : decode cX1_mirrored 83 = .ok (.areturn, 1) := by decide +kernel
set_option maxRecDepth 20000 in
theorem ggX1_staged_X1_power : GoodIn wsX1_staged wsX1_power := goodIn_r _ [9, 4, 10, 11, 12, 13] (by decide +kernel) (by decide +kernel)
set_option maxRecDepth 20000 in
theorem gX1_staged_X1_power : GoodIn wsX1_staged (wsV RX1 28 RX1 yX1_power wsX1_power) := goodIn_app (goodIn_of _ (by decide +kernel)) ggX1_staged_X1_power
theorem dX1_staged_0 : decode cX1_staged 0 = .ok (.iconst 1, 1) := by decide +kernel
theorem dX1_staged_1 : decode cX1_staged 1 = .ok (.istore_n 3, 1) := by decide +kernel
theorem dX1_staged_2 : decode cX1_staged 2 = .ok (.iconst 0, 1) := by decide +kernel
theorem dX1_staged_3 : decode cX1_staged 3 = .ok (.istore 4, 2) := by decide +kernel
theorem dX1_staged_5 : decode cX1_staged 5 = .ok (.iload 4, 2) := by decide +kernel
theorem dX1_staged_7 : decode cX1_staged 7 = .ok (.iload_n 2, 1) := by decide +kernel
theorem dX1_staged_8 : decode cX1_staged 8 = .ok (.if_icmp .ge 13, 3) := by decide +kernel
theorem dX1_staged_11 : decode cX1_staged 11 = .ok (.iload_n 3, 1) := by decide +kernel
theorem dX1_staged_12 : decode cX1_staged 12 = .ok (.iconst 2, 1) := by decide +kernel
theorem dX1_staged_13 : decode cX1_staged 13 = .ok (.imul, 1) := by decide +kernel
theorem dX1_staged_14 : decode cX1_staged 14 = .ok (.istore_n 3, 1) := by decide +kernel
theorem dX1_staged_15 : decode cX1_staged 15 = .ok (.iinc 4 1, 3) := by decide +kernel
theorem dX1_staged_18 : decode cX1_staged 18 = .ok (.goto (-13), 3) := by decide +kernel
theorem dX1_staged_21 : decode cX1_staged 21 = .ok (.aload_n 0, 1) := by decide +kernel
theorem dX1_staged_22 : decode cX1_staged 22 = .ok (.getfield 7, 3) := by decide +kernel
theorem dX1_staged_25 : decode cX1_staged 25 = .ok (.newarray .int, 2) := by decide +kernel
theorem dX1_staged_27 : decode cX1_staged 27 = .ok (.astore 4, 2) := by decide +kernel
theorem dX1_staged_29 : decode cX1_staged 29 = .ok (.iconst 0, 1) := by decide +kernel
theorem dX1_staged_30 : decode cX1_staged 30 = .ok (.istore 5, 2) := by decide +kernel
theorem dX1_staged_32 : decode cX1_staged 32 = .ok (.iload 5, 2) := by decide +kernel
theorem dX1_staged_34 : decode cX1_staged 34 = .ok (.aload_n 0, 1) := by decide +kernel
theorem dX1_staged_35 : decode cX1_staged 35 = .ok (.getfield 7, 3) := by decide +kernel
theorem dX1_staged_38 : decode cX1_staged 38 = .ok (.if_icmp .ge 118, 3) := by decide +kernel
theorem dX1_staged_41 : decode cX1_staged 41 = .ok (.iconst 0, 1) := by decide +kernel
theorem dX1_staged_42 : decode cX1_staged 42 = .ok (.istore 6, 2) := by decide +kernel
theorem dX1_staged_44 : decode cX1_staged 44 = .ok (.iload 6, 2) := by decide +kernel
theorem dX1_staged_46 : decode cX1_staged 46 = .ok (.iload_n 3, 1) := by decide +kernel
theorem dX1_staged_47 : decode cX1_staged 47 = .ok (.if_icmp .ge 98, 3) := by decide +kernel
theorem dX1_staged_50 : decode cX1_staged 50 = .ok (.aload_n 1, 1) := by decide +kernel
theorem dX1_staged_51 : decode cX1_staged 51 = .ok (.iload 5, 2) := by decide +kernel
theorem dX1_staged_53 : decode cX1_staged 53 = .ok (.iload 6, 2) := by decide +kernel
theorem dX1_staged_55 : decode cX1_staged 55 = .ok (.iadd, 1) := by decide +kernel
theorem dX1_staged_56 : decode cX1_staged 56 = .ok (.iload_n 3, 1) := by decide +kernel
theorem dX1_staged_57 : decode cX1_staged 57 = .ok (.iadd, 1) := by decide +kernel
theorem dX1_staged_58 : decode cX1_staged 58 = .ok (.iaload, 1) := by decide +kernel
theorem dX1_staged_59 : decode cX1_staged 59 = .ok (.aload_n 0, 1) := by decide +kernel
theorem dX1_staged_60 : decode cX1_staged 60 = .ok (.aload_n 0, 1) := by decide +kernel
theorem dX1_staged_61 : decode cX1_staged 61 = .ok (.getfield 16, 3) := by decide +kernel
theorem dX1_staged_64 : decode cX1_staged 64 = .ok (.iload 6, 2) := by decide +kernel
theorem dX1_staged_66 : decode cX1_staged 66 = .ok (.aload_n 0, 1) := by decide +kernel
theorem dX1_staged_67 : decode cX1_staged 67 = .ok (.getfield 7, 3) := by decide +kernel
theorem dX1_staged_70 : decode cX1_staged 70 = .ok (.imul, 1) := by decide +kernel
theorem dX1_staged_71 : decode cX1_staged 71 = .ok (.iconst 2, 1) := by decide +kernel
theorem dX1_staged_72 : decode cX1_staged 72 = .ok (.iload_n 3, 1) := by decide +kernel
theorem dX1_staged_73 : decode cX1_staged 73 = .ok (.imul, 1) := by decide +kernel
theorem dX1_staged_74 : decode cX1_staged 74 = .ok (.idiv, 1) := by decide +kernel
theorem dX1_staged_75 : decode cX1_staged 75 = .ok (.invokevirtual 28, 3) := by decide +kernel
theorem dX1_staged_78 : decode cX1_staged 78 = .ok (.imul, 1) := by decide +kernel
theorem dX1_staged_79 : decode cX1_staged 79 = .ok (.aload_n 0, 1) := by decide +kernel
theorem dX1_staged_80 : decode cX1_staged 80 = .ok (.getfield 13, 3) := by decide +kernel
theorem dX1_staged_83 : decode cX1_staged 83 = .ok (.irem, 1) := by decide +kernel
theorem dX1_staged_84 : decode cX1_staged 84 = .ok (.istore 7, 2) := by decide +kernel
theorem dX1_staged_86 : decode cX1_staged 86 = .ok (.aload 4, 2) := by decide +kernel
theorem dX1_staged_88 : decode cX1_staged 88 = .ok (.iload 5, 2) := by decide +kernel
theorem dX1_staged_90 : decode cX1_staged 90 = .ok (.iload 6, 2) := by decide +kernel
theorem dX1_staged_92 : decode cX1_staged 92 = .ok (.iadd, 1) := by decide +kernel
theorem dX1_staged_93 : decode cX1_staged 93 = .ok (.aload_n 1, 1) := by decide +kernel
theorem dX1_staged_94 : decode cX1_staged 94 = .ok (.iload 5, 2) := by decide +kernel
theorem dX1_staged_96 : decode cX1_staged 96 = .ok (.iload 6, 2) := by decide +kernel
theorem dX1_staged_98 : decode cX1_staged 98 = .ok (.iadd, 1) := by decide +kernel
theorem dX1_staged_99 : decode cX1_staged 99 = .ok (.iaload, 1) := by decide +kernel
theorem dX1_staged_100 : decode cX1_staged 100 = .ok (.iload 7, 2) := by decide +kernel
theorem dX1_staged_102 : decode cX1_staged 102 = .ok (.iadd, 1) := by decide +kernel
theorem dX1_staged_103 : decode cX1_staged 103 = .ok (.aload_n 0, 1) := by decide +kernel
theorem dX1_staged_104 : decode cX1_staged 104 = .ok (.getfield 13, 3) := by decide +kernel
theorem dX1_staged_107 : decode cX1_staged 107 = .ok (.irem, 1) := by decide +kernel
theorem dX1_staged_108 : decode cX1_staged 108 = .ok (.iastore, 1) := by decide +kernel
theorem dX1_staged_109 : decode cX1_staged 109 = .ok (.aload 4, 2) := by decide +kernel
theorem dX1_staged_111 : decode cX1_staged 111 = .ok (.iload 5, 2) := by decide +kernel
theorem dX1_staged_113 : decode cX1_staged 113 = .ok (.iload 6, 2) := by decide +kernel
theorem dX1_staged_115 : decode cX1_staged 115 = .ok (.iadd, 1) := by decide +kernel
theorem dX1_staged_116 : decode cX1_staged 116 = .ok (.iload_n 3, 1) := by decide +kernel
theorem dX1_staged_117 : decode cX1_staged 117 = .ok (.iadd, 1) := by decide +kernel
theorem dX1_staged_118 : decode cX1_staged 118 = .ok (.aload_n 1, 1) := by decide +kernel
theorem dX1_staged_119 : decode cX1_staged 119 = .ok (.iload 5, 2) := by decide +kernel
theorem dX1_staged_121 : decode cX1_staged 121 = .ok (.iload 6, 2) := by decide +kernel
theorem dX1_staged_123 : decode cX1_staged 123 = .ok (.iadd, 1) := by decide +kernel
theorem dX1_staged_124 : decode cX1_staged 124 = .ok (.iaload, 1) := by decide +kernel
theorem dX1_staged_125 : decode cX1_staged 125 = .ok (.aload_n 0, 1) := by decide +kernel
theorem dX1_staged_126 : decode cX1_staged 126 = .ok (.getfield 13, 3) := by decide +kernel
theorem dX1_staged_129 : decode cX1_staged 129 = .ok (.iadd, 1) := by decide +kernel
theorem dX1_staged_130 : decode cX1_staged 130 = .ok (.iload 7, 2) := by decide +kernel
theorem dX1_staged_132 : decode cX1_staged 132 = .ok (.isub, 1) := by decide +kernel
theorem dX1_staged_133 : decode cX1_staged 133 = .ok (.aload_n 0, 1) := by decide +kernel
theorem dX1_staged_134 : decode cX1_staged 134 = .ok (.getfield 13, 3) := by decide +kernel
theorem dX1_staged_137 : decode cX1_staged 137 = .ok (.irem, 1) := by decide +kernel
theorem dX1_staged_138 : decode cX1_staged 138 = .ok (.iastore, 1) := by decide +kernel
theorem dX1_staged_139 : decode cX1_staged 139 = .ok (.iinc 6 1, 3) := by decide +kernel
theorem dX1_staged_142 : decode cX1_staged 142 = .ok (.goto (-98), 3) := by decide +kernel
theorem dX1_staged_145 : decode cX1_staged 145 = .ok (.iload 5, 2) := by decide +kernel
theorem dX1_staged_147 : decode cX1_staged 147 = .ok (.iconst 2, 1) := by decide +kernel
theorem dX1_staged_148 : decode cX1_staged 148 = .ok (.iload_n 3, 1) := by decide +kernel
theorem dX1_staged_149 : decode cX1_staged 149 = .ok (.imul, 1) := by decide +kernel
theorem dX1_staged_150 : decode cX1_staged 150 = .ok (.iadd, 1) := by decide +kernel
theorem dX1_staged_151 : decode cX1_staged 151 = .ok (.istore 5, 2) := by decide +kernel
theorem dX1_staged_153 : decode cX1_staged 153 = .ok (.goto (-121), 3) := by decide +kernel
theorem dX1_staged_156 : decode cX1_staged 156 = .ok (.aload 4, 2) := by decide +kernel
theorem dX1_staged_158 : decode cX1_staged 158 = .ok (.areturn, 1) := by decide +kernel
theorem dX1_folded_0 : decode cX1_folded 0 = .ok (.aload_n 0, 1) := by decide +kernel
theorem dX1_folded_1 : decode cX1_folded 1 = .ok (.getfield 7, 3) := by decide +kernel
theorem dX1_folded_4 : decode cX1_folded 4 = .ok (.newarray .int, 2) := by decide +kernel
theorem dX1_folded_6 : decode cX1_folded 6 = .ok (.astore_n 3, 1) := by decide +kernel
theorem dX1_folded_7 : decode cX1_folded 7 = .ok (.iconst 0, 1) := by decide +kernel
theorem dX1_folded_8 : decode cX1_folded 8 = .ok (.istore 4, 2) := by decide +kernel
theorem dX1_folded_10 : decode cX1_folded 10 = .ok (.iload 4, 2) := by decide +kernel
theorem dX1_folded_12 : decode cX1_folded 12 = .ok (.aload_n 0, 1) := by decide +kernel
theorem dX1_folded_13 : decode cX1_folded 13 = .ok (.getfield 7, 3) := by decide +kernel
theorem dX1_folded_16 : decode cX1_folded 16 = .ok (.if_icmp .ge 66, 3) := by decide +kernel
theorem dX1_folded_19 : decode cX1_folded 19 = .ok (.iconst 0, 1) := by decide +kernel
theorem dX1_folded_20 : decode cX1_folded 20 = .ok (.istore 5, 2) := by decide +kernel
theorem dX1_folded_22 : decode cX1_folded 22 = .ok (.iload 5, 2) := by decide +kernel
theorem dX1_folded_24 : decode cX1_folded 24 = .ok (.aload_n 0, 1) := by decide +kernel
theorem dX1_folded_25 : decode cX1_folded 25 = .ok (.getfield 7, 3) := by decide +kernel
theorem dX1_folded_28 : decode cX1_folded 28 = .ok (.if_icmp .ge 48, 3) := by decide +kernel
theorem dX1_folded_31 : decode cX1_folded 31 = .ok (.aload_n 3, 1) := by decide +kernel
theorem dX1_folded_32 : decode cX1_folded 32 = .ok (.iload 4, 2) := by decide +kernel
theorem dX1_folded_34 : decode cX1_folded 34 = .ok (.iload 5, 2) := by decide +kernel
theorem dX1_folded_36 : decode cX1_folded 36 = .ok (.iadd, 1) := by decide +kernel
theorem dX1_folded_37 : decode cX1_folded 37 = .ok (.aload_n 0, 1) := by decide +kernel
theorem dX1_folded_38 : decode cX1_folded 38 = .ok (.getfield 7, 3) := by decide +kernel
theorem dX1_folded_41 : decode cX1_folded 41 = .ok (.irem, 1) := by decide +kernel
theorem dX1_folded_42 : decode cX1_folded 42 = .ok (.aload_n 3, 1) := by decide +kernel
theorem dX1_folded_43 : decode cX1_folded 43 = .ok (.iload 4, 2) := by decide +kernel
theorem dX1_folded_45 : decode cX1_folded 45 = .ok (.iload 5, 2) := by decide +kernel
theorem dX1_folded_47 : decode cX1_folded 47 = .ok (.iadd, 1) := by decide +kernel
theorem dX1_folded_48 : decode cX1_folded 48 = .ok (.aload_n 0, 1) := by decide +kernel
theorem dX1_folded_49 : decode cX1_folded 49 = .ok (.getfield 7, 3) := by decide +kernel
theorem dX1_folded_52 : decode cX1_folded 52 = .ok (.irem, 1) := by decide +kernel
theorem dX1_folded_53 : decode cX1_folded 53 = .ok (.iaload, 1) := by decide +kernel
theorem dX1_folded_54 : decode cX1_folded 54 = .ok (.aload_n 1, 1) := by decide +kernel
theorem dX1_folded_55 : decode cX1_folded 55 = .ok (.iload 4, 2) := by decide +kernel
theorem dX1_folded_57 : decode cX1_folded 57 = .ok (.iaload, 1) := by decide +kernel
theorem dX1_folded_58 : decode cX1_folded 58 = .ok (.aload_n 2, 1) := by decide +kernel
theorem dX1_folded_59 : decode cX1_folded 59 = .ok (.iload 5, 2) := by decide +kernel
theorem dX1_folded_61 : decode cX1_folded 61 = .ok (.iaload, 1) := by decide +kernel
theorem dX1_folded_62 : decode cX1_folded 62 = .ok (.imul, 1) := by decide +kernel
theorem dX1_folded_63 : decode cX1_folded 63 = .ok (.iadd, 1) := by decide +kernel
theorem dX1_folded_64 : decode cX1_folded 64 = .ok (.aload_n 0, 1) := by decide +kernel
theorem dX1_folded_65 : decode cX1_folded 65 = .ok (.getfield 13, 3) := by decide +kernel
theorem dX1_folded_68 : decode cX1_folded 68 = .ok (.irem, 1) := by decide +kernel
theorem dX1_folded_69 : decode cX1_folded 69 = .ok (.iastore, 1) := by decide +kernel
theorem dX1_folded_70 : decode cX1_folded 70 = .ok (.iinc 5 1, 3) := by decide +kernel
theorem dX1_folded_73 : decode cX1_folded 73 = .ok (.goto (-51), 3) := by decide +kernel
theorem dX1_folded_76 : decode cX1_folded 76 = .ok (.iinc 4 1, 3) := by decide +kernel
theorem dX1_folded_79 : decode cX1_folded 79 = .ok (.goto (-69), 3) := by decide +kernel
theorem dX1_folded_82 : decode cX1_folded 82 = .ok (.aload_n 3, 1) := by decide +kernel
theorem dX1_folded_83 : decode cX1_folded 83 = .ok (.areturn, 1) := by decide +kernel
theorem dX1_moved_0 : decode cX1_moved 0 = .ok (.aload_n 0, 1) := by decide +kernel
theorem dX1_moved_1 : decode cX1_moved 1 = .ok (.getfield 7, 3) := by decide +kernel
theorem dX1_moved_4 : decode cX1_moved 4 = .ok (.newarray .int, 2) := by decide +kernel
theorem dX1_moved_6 : decode cX1_moved 6 = .ok (.astore_n 3, 1) := by decide +kernel
theorem dX1_moved_7 : decode cX1_moved 7 = .ok (.iconst 0, 1) := by decide +kernel
theorem dX1_moved_8 : decode cX1_moved 8 = .ok (.istore 4, 2) := by decide +kernel
theorem dX1_moved_10 : decode cX1_moved 10 = .ok (.iload 4, 2) := by decide +kernel
theorem dX1_moved_12 : decode cX1_moved 12 = .ok (.aload_n 0, 1) := by decide +kernel
theorem dX1_moved_13 : decode cX1_moved 13 = .ok (.getfield 7, 3) := by decide +kernel
theorem dX1_moved_16 : decode cX1_moved 16 = .ok (.if_icmp .ge 24, 3) := by decide +kernel
theorem dX1_moved_19 : decode cX1_moved 19 = .ok (.aload_n 3, 1) := by decide +kernel
theorem dX1_moved_20 : decode cX1_moved 20 = .ok (.iload 4, 2) := by decide +kernel
theorem dX1_moved_22 : decode cX1_moved 22 = .ok (.iload_n 2, 1) := by decide +kernel
theorem dX1_moved_23 : decode cX1_moved 23 = .ok (.iadd, 1) := by decide +kernel
theorem dX1_moved_24 : decode cX1_moved 24 = .ok (.aload_n 0, 1) := by decide +kernel
theorem dX1_moved_25 : decode cX1_moved 25 = .ok (.getfield 7, 3) := by decide +kernel
theorem dX1_moved_28 : decode cX1_moved 28 = .ok (.irem, 1) := by decide +kernel
theorem dX1_moved_29 : decode cX1_moved 29 = .ok (.aload_n 1, 1) := by decide +kernel
theorem dX1_moved_30 : decode cX1_moved 30 = .ok (.iload 4, 2) := by decide +kernel
theorem dX1_moved_32 : decode cX1_moved 32 = .ok (.iaload, 1) := by decide +kernel
theorem dX1_moved_33 : decode cX1_moved 33 = .ok (.iastore, 1) := by decide +kernel
theorem dX1_moved_34 : decode cX1_moved 34 = .ok (.iinc 4 1, 3) := by decide +kernel
theorem dX1_moved_37 : decode cX1_moved 37 = .ok (.goto (-27), 3) := by decide +kernel
theorem dX1_moved_40 : decode cX1_moved 40 = .ok (.aload_n 3, 1) := by decide +kernel
theorem dX1_moved_41 : decode cX1_moved 41 = .ok (.areturn, 1) := by decide +kernel
theorem dX1_others_0 : decode cX1_others 0 = .ok (.iconst 0, 1) := by decide +kernel
theorem dX1_others_1 : decode cX1_others 1 = .ok (.istore_n 1, 1) := by decide +kernel
theorem dX1_others_2 : decode cX1_others 2 = .ok (.aload_n 0, 1) := by decide +kernel
theorem dX1_others_3 : decode cX1_others 3 = .ok (.astore_n 2, 1) := by decide +kernel
theorem dX1_others_4 : decode cX1_others 4 = .ok (.aload_n 2, 1) := by decide +kernel
theorem dX1_others_5 : decode cX1_others 5 = .ok (.arraylength, 1) := by decide +kernel
theorem dX1_others_6 : decode cX1_others 6 = .ok (.istore_n 3, 1) := by decide +kernel
theorem dX1_others_7 : decode cX1_others 7 = .ok (.iconst 0, 1) := by decide +kernel
theorem dX1_others_8 : decode cX1_others 8 = .ok (.istore 4, 2) := by decide +kernel
theorem dX1_others_10 : decode cX1_others 10 = .ok (.iload 4, 2) := by decide +kernel
theorem dX1_others_12 : decode cX1_others 12 = .ok (.iload_n 3, 1) := by decide +kernel
theorem dX1_others_13 : decode cX1_others 13 = .ok (.if_icmp .ge 28, 3) := by decide +kernel
theorem dX1_others_16 : decode cX1_others 16 = .ok (.aload_n 2, 1) := by decide +kernel
theorem dX1_others_17 : decode cX1_others 17 = .ok (.iload 4, 2) := by decide +kernel
theorem dX1_others_19 : decode cX1_others 19 = .ok (.iaload, 1) := by decide +kernel
theorem dX1_others_20 : decode cX1_others 20 = .ok (.istore 5, 2) := by decide +kernel
theorem dX1_others_22 : decode cX1_others 22 = .ok (.iload_n 1, 1) := by decide +kernel
theorem dX1_others_23 : decode cX1_others 23 = .ok (.iload 5, 2) := by decide +kernel
theorem dX1_others_25 : decode cX1_others 25 = .ok (.ifCond .ne 7, 3) := by decide +kernel
theorem dX1_others_28 : decode cX1_others 28 = .ok (.iconst 0, 1) := by decide +kernel
theorem dX1_others_29 : decode cX1_others 29 = .ok (.goto 4, 3) := by decide +kernel
theorem dX1_others_32 : decode cX1_others 32 = .ok (.iconst 1, 1) := by decide +kernel
theorem dX1_others_33 : decode cX1_others 33 = .ok (.iadd, 1) := by decide +kernel
theorem dX1_others_34 : decode cX1_others 34 = .ok (.istore_n 1, 1) := by decide +kernel
theorem dX1_others_35 : decode cX1_others 35 = .ok (.iinc 4 1, 3) := by decide +kernel
theorem dX1_others_38 : decode cX1_others 38 = .ok (.goto (-28), 3) := by decide +kernel
theorem dX1_others_41 : decode cX1_others 41 = .ok (.iload_n 1, 1) := by decide +kernel
theorem dX1_others_42 : decode cX1_others 42 = .ok (.ireturn, 1) := by decide +kernel
theorem dX1_unlike_0 : decode cX1_unlike 0 = .ok (.iconst 0, 1) := by decide +kernel
theorem dX1_unlike_1 : decode cX1_unlike 1 = .ok (.istore_n 2, 1) := by decide +kernel
theorem dX1_unlike_2 : decode cX1_unlike 2 = .ok (.iconst 0, 1) := by decide +kernel
theorem dX1_unlike_3 : decode cX1_unlike 3 = .ok (.istore_n 3, 1) := by decide +kernel
theorem dX1_unlike_4 : decode cX1_unlike 4 = .ok (.iload_n 3, 1) := by decide +kernel
theorem dX1_unlike_5 : decode cX1_unlike 5 = .ok (.aload_n 0, 1) := by decide +kernel
theorem dX1_unlike_6 : decode cX1_unlike 6 = .ok (.arraylength, 1) := by decide +kernel
theorem dX1_unlike_7 : decode cX1_unlike 7 = .ok (.if_icmp .ge 26, 3) := by decide +kernel
theorem dX1_unlike_10 : decode cX1_unlike 10 = .ok (.iload_n 2, 1) := by decide +kernel
theorem dX1_unlike_11 : decode cX1_unlike 11 = .ok (.aload_n 0, 1) := by decide +kernel
theorem dX1_unlike_12 : decode cX1_unlike 12 = .ok (.iload_n 3, 1) := by decide +kernel
theorem dX1_unlike_13 : decode cX1_unlike 13 = .ok (.iaload, 1) := by decide +kernel
theorem dX1_unlike_14 : decode cX1_unlike 14 = .ok (.aload_n 1, 1) := by decide +kernel
theorem dX1_unlike_15 : decode cX1_unlike 15 = .ok (.iload_n 3, 1) := by decide +kernel
theorem dX1_unlike_16 : decode cX1_unlike 16 = .ok (.iaload, 1) := by decide +kernel
theorem dX1_unlike_17 : decode cX1_unlike 17 = .ok (.if_icmp .ne 7, 3) := by decide +kernel
theorem dX1_unlike_20 : decode cX1_unlike 20 = .ok (.iconst 0, 1) := by decide +kernel
theorem dX1_unlike_21 : decode cX1_unlike 21 = .ok (.goto 4, 3) := by decide +kernel
theorem dX1_unlike_24 : decode cX1_unlike 24 = .ok (.iconst 1, 1) := by decide +kernel
theorem dX1_unlike_25 : decode cX1_unlike 25 = .ok (.iadd, 1) := by decide +kernel
theorem dX1_unlike_26 : decode cX1_unlike 26 = .ok (.istore_n 2, 1) := by decide +kernel
theorem dX1_unlike_27 : decode cX1_unlike 27 = .ok (.iinc 3 1, 3) := by decide +kernel
theorem dX1_unlike_30 : decode cX1_unlike 30 = .ok (.goto (-26), 3) := by decide +kernel
theorem dX1_unlike_33 : decode cX1_unlike 33 = .ok (.iload_n 2, 1) := by decide +kernel
theorem dX1_unlike_34 : decode cX1_unlike 34 = .ok (.ireturn, 1) := by decide +kernel
set_option maxRecDepth 20000 in
theorem ggX1_about_X1_moved : GoodIn wsX1_about wsX1_moved := goodIn_r _ [12, 1, 6, 19, 20, 21, 22] (by decide +kernel) (by decide +kernel)
set_option maxRecDepth 20000 in
theorem gX1_about_X1_moved : GoodIn wsX1_about (wsV RX1 40 RX1 yX1_moved wsX1_moved) := goodIn_app (goodIn_of _ (by decide +kernel)) ggX1_about_X1_moved
set_option maxRecDepth 20000 in
theorem ggX1_about_X1_unlike : GoodIn wsX1_about wsX1_unlike := goodIn_r _ [15] (by decide +kernel) (by decide +kernel)
set_option maxRecDepth 20000 in
theorem gX1_about_X1_unlike : GoodIn wsX1_about (va_wsS RX1 44 yX1_unlike wsX1_unlike) := goodIn_app (goodIn_of _ (by decide +kernel)) ggX1_about_X1_unlike
set_option maxRecDepth 20000 in
theorem ggX1_about_X1_others : GoodIn wsX1_about wsX1_others := goodIn_r _ [18] (by decide +kernel) (by decide +kernel)
set_option maxRecDepth 20000 in
theorem gX1_about_X1_others : GoodIn wsX1_about (va_wsS RX1 48 yX1_others wsX1_others) := goodIn_app (goodIn_of _ (by decide +kernel)) ggX1_about_X1_others
theorem dX1_about_0 : decode cX1_about 0 = .ok (.iconst 0, 1) := by decide +kernel
theorem dX1_about_1 : decode cX1_about 1 = .ok (.istore_n 2, 1) := by decide +kernel
theorem dX1_about_2 : decode cX1_about 2 = .ok (.iconst (-1), 1) := by decide +kernel
theorem dX1_about_3 : decode cX1_about 3 = .ok (.istore_n 3, 1) := by decide +kernel
theorem dX1_about_4 : decode cX1_about 4 = .ok (.iconst 0, 1) := by decide +kernel
theorem dX1_about_5 : decode cX1_about 5 = .ok (.istore 4, 2) := by decide +kernel
theorem dX1_about_7 : decode cX1_about 7 = .ok (.iconst 0, 1) := by decide +kernel
theorem dX1_about_8 : decode cX1_about 8 = .ok (.istore 5, 2) := by decide +kernel
theorem dX1_about_10 : decode cX1_about 10 = .ok (.iload 5, 2) := by decide +kernel
theorem dX1_about_12 : decode cX1_about 12 = .ok (.aload_n 0, 1) := by decide +kernel
theorem dX1_about_13 : decode cX1_about 13 = .ok (.getfield 7, 3) := by decide +kernel
theorem dX1_about_16 : decode cX1_about 16 = .ok (.if_icmp .ge 37, 3) := by decide +kernel
theorem dX1_about_19 : decode cX1_about 19 = .ok (.iload_n 2, 1) := by decide +kernel
theorem dX1_about_20 : decode cX1_about 20 = .ok (.aload_n 1, 1) := by decide +kernel
theorem dX1_about_21 : decode cX1_about 21 = .ok (.iload 5, 2) := by decide +kernel
theorem dX1_about_23 : decode cX1_about 23 = .ok (.iaload, 1) := by decide +kernel
theorem dX1_about_24 : decode cX1_about 24 = .ok (.iadd, 1) := by decide +kernel
theorem dX1_about_25 : decode cX1_about 25 = .ok (.istore_n 2, 1) := by decide +kernel
theorem dX1_about_26 : decode cX1_about 26 = .ok (.aload_n 1, 1) := by decide +kernel
theorem dX1_about_27 : decode cX1_about 27 = .ok (.iload 5, 2) := by decide +kernel
theorem dX1_about_29 : decode cX1_about 29 = .ok (.iaload, 1) := by decide +kernel
theorem dX1_about_30 : decode cX1_about 30 = .ok (.ifCond .le 6, 3) := by decide +kernel
theorem dX1_about_33 : decode cX1_about 33 = .ok (.iload 5, 2) := by decide +kernel
theorem dX1_about_35 : decode cX1_about 35 = .ok (.istore_n 3, 1) := by decide +kernel
theorem dX1_about_36 : decode cX1_about 36 = .ok (.iload 4, 2) := by decide +kernel
theorem dX1_about_38 : decode cX1_about 38 = .ok (.aload_n 1, 1) := by decide +kernel
theorem dX1_about_39 : decode cX1_about 39 = .ok (.iload 5, 2) := by decide +kernel
theorem dX1_about_41 : decode cX1_about 41 = .ok (.iaload, 1) := by decide +kernel
theorem dX1_about_42 : decode cX1_about 42 = .ok (.invokestatic 35, 3) := by decide +kernel
theorem dX1_about_45 : decode cX1_about 45 = .ok (.istore 4, 2) := by decide +kernel
theorem dX1_about_47 : decode cX1_about 47 = .ok (.iinc 5 1, 3) := by decide +kernel
theorem dX1_about_50 : decode cX1_about 50 = .ok (.goto (-40), 3) := by decide +kernel
theorem dX1_about_53 : decode cX1_about 53 = .ok (.iconst 1, 1) := by decide +kernel
theorem dX1_about_54 : decode cX1_about 54 = .ok (.istore 5, 2) := by decide +kernel
theorem dX1_about_56 : decode cX1_about 56 = .ok (.aload_n 0, 1) := by decide +kernel
theorem dX1_about_57 : decode cX1_about 57 = .ok (.aload_n 1, 1) := by decide +kernel
theorem dX1_about_58 : decode cX1_about 58 = .ok (.iload 5, 2) := by decide +kernel
theorem dX1_about_60 : decode cX1_about 60 = .ok (.invokevirtual 40, 3) := by decide +kernel
theorem dX1_about_63 : decode cX1_about 63 = .ok (.aload_n 1, 1) := by decide +kernel
theorem dX1_about_64 : decode cX1_about 64 = .ok (.invokestatic 44, 3) := by decide +kernel
theorem dX1_about_67 : decode cX1_about 67 = .ok (.ifCond .le 9, 3) := by decide +kernel
theorem dX1_about_70 : decode cX1_about 70 = .ok (.iinc 5 1, 3) := by decide +kernel
theorem dX1_about_73 : decode cX1_about 73 = .ok (.goto (-17), 3) := by decide +kernel
theorem dX1_about_76 : decode cX1_about 76 = .ok (.bipush 6, 2) := by decide +kernel
theorem dX1_about_78 : decode cX1_about 78 = .ok (.newarray .int, 2) := by decide +kernel
theorem dX1_about_80 : decode cX1_about 80 = .ok (.dup, 1) := by decide +kernel
theorem dX1_about_81 : decode cX1_about 81 = .ok (.iconst 0, 1) := by decide +kernel
theorem dX1_about_82 : decode cX1_about 82 = .ok (.iload_n 2, 1) := by decide +kernel
theorem dX1_about_83 : decode cX1_about 83 = .ok (.aload_n 0, 1) := by decide +kernel
theorem dX1_about_84 : decode cX1_about 84 = .ok (.getfield 13, 3) := by decide +kernel
theorem dX1_about_87 : decode cX1_about 87 = .ok (.irem, 1) := by decide +kernel
theorem dX1_about_88 : decode cX1_about 88 = .ok (.iastore, 1) := by decide +kernel
theorem dX1_about_89 : decode cX1_about 89 = .ok (.dup, 1) := by decide +kernel
theorem dX1_about_90 : decode cX1_about 90 = .ok (.iconst 1, 1) := by decide +kernel
theorem dX1_about_91 : decode cX1_about 91 = .ok (.aload_n 1, 1) := by decide +kernel
theorem dX1_about_92 : decode cX1_about 92 = .ok (.invokestatic 48, 3) := by decide +kernel
theorem dX1_about_95 : decode cX1_about 95 = .ok (.iastore, 1) := by decide +kernel
theorem dX1_about_96 : decode cX1_about 96 = .ok (.dup, 1) := by decide +kernel
theorem dX1_about_97 : decode cX1_about 97 = .ok (.iconst 2, 1) := by decide +kernel
theorem dX1_about_98 : decode cX1_about 98 = .ok (.iload_n 3, 1) := by decide +kernel
theorem dX1_about_99 : decode cX1_about 99 = .ok (.iastore, 1) := by decide +kernel
theorem dX1_about_100 : decode cX1_about 100 = .ok (.dup, 1) := by decide +kernel
theorem dX1_about_101 : decode cX1_about 101 = .ok (.iconst 3, 1) := by decide +kernel
theorem dX1_about_102 : decode cX1_about 102 = .ok (.iload 5, 2) := by decide +kernel
theorem dX1_about_104 : decode cX1_about 104 = .ok (.iastore, 1) := by decide +kernel
theorem dX1_about_105 : decode cX1_about 105 = .ok (.dup, 1) := by decide +kernel
theorem dX1_about_106 : decode cX1_about 106 = .ok (.iconst 4, 1) := by decide +kernel
theorem dX1_about_107 : decode cX1_about 107 = .ok (.iload 4, 2) := by decide +kernel
theorem dX1_about_109 : decode cX1_about 109 = .ok (.iastore, 1) := by decide +kernel
theorem dX1_about_110 : decode cX1_about 110 = .ok (.dup, 1) := by decide +kernel
theorem dX1_about_111 : decode cX1_about 111 = .ok (.iconst 5, 1) := by decide +kernel
theorem dX1_about_112 : decode cX1_about 112 = .ok (.iload_n 2, 1) := by decide +kernel
theorem dX1_about_113 : decode cX1_about 113 = .ok (.iastore, 1) := by decide +kernel
theorem dX1_about_114 : decode cX1_about 114 = .ok (.areturn, 1) := by decide +kernel
set_option maxRecDepth 20000 in
theorem ggX1_isSame_X1_inverse : GoodIn wsX1_isSame wsX1_inverse := goodIn_r _ [10, 3, 112, 113, 114, 115] (by decide +kernel) (by decide +kernel)
set_option maxRecDepth 20000 in
theorem gX1_isSame_X1_inverse : GoodIn wsX1_isSame (wsV RX1 32 RX1 yX1_inverse wsX1_inverse) := goodIn_app (goodIn_of _ (by decide +kernel)) ggX1_isSame_X1_inverse
set_option maxRecDepth 20000 in
theorem ggX1_isSame_X0_count : GoodIn wsX1_isSame wsX0_count := goodIn_ca (goodIn_r _ [15, 16, 17, 18, 19, 20, 14, 21, 22, 23, 24, 25, 26, 27, 116, 117, 118, 119, 120, 121, 122] (by decide +kernel) (by decide +kernel)) (goodIn_sub (fun _ h => List.mem_cons_of_mem _ (List.mem_append_right _ h)) (by decide +kernel))
set_option maxRecDepth 20000 in
theorem gX1_isSame_X0_count : GoodIn wsX1_isSame (wsV RX1 52 RX0 yX0_count wsX0_count) := goodIn_app (goodIn_of _ (by decide +kernel)) ggX1_isSame_X0_count
set_option maxRecDepth 20000 in
theorem ggX1_isSame_X0_at : GoodIn wsX1_isSame wsX0_at := goodIn_ca (goodIn_r _ [31, 32, 33, 34, 14, 35, 16, 17, 36, 37, 38, 39, 22, 40, 41, 42, 43, 44, 116, 117, 118, 119, 120, 121, 122] (by decide +kernel) (by decide +kernel)) (goodIn_sub (fun _ h => List.mem_cons_of_mem _ (List.mem_append_right _ h)) (by decide +kernel))
set_option maxRecDepth 20000 in
theorem gX1_isSame_X0_at : GoodIn wsX1_isSame (wsV RX1 57 RX0 yX0_at wsX0_at) := goodIn_app (goodIn_of _ (by decide +kernel)) ggX1_isSame_X0_at
set_option maxRecDepth 20000 in
theorem ggX1_isSame_X1_about : GoodIn wsX1_isSame wsX1_about := goodIn_r _ [48, 1, 49, 50, 51, 52, 2, 3, 53, 54, 55, 9, 56, 57, 58, 59, 60, 61, 62, 112, 113, 114, 115] (by decide +kernel) (by decide +kernel)
set_option maxRecDepth 20000 in
theorem gX1_isSame_X1_about : GoodIn wsX1_isSame (wsV RX1 60 RX1 yX1_about wsX1_about) := goodIn_app (goodIn_of _ (by decide +kernel)) ggX1_isSame_X1_about
set_option maxRecDepth 20000 in
theorem ggX1_isSame_X0_about : GoodIn wsX1_isSame wsX0_about := goodIn_ca (goodIn_r _ [66, 16, 17, 32, 33, 34, 14, 35, 67, 68, 69, 70, 71, 72, 73, 74, 22, 40, 41, 42, 43, 44, 75, 76, 77, 78, 23, 79, 80, 81, 82, 83, 84, 85, 86, 87, 88, 89, 90, 91, 92, 93, 94, 95, 96, 97, 98, 99, 100, 101, 102, 103, 104, 105, 106, 107, 50, 51, 52, 116, 117, 118, 119, 120, 121, 122] (by decide +kernel) (by decide +kernel)) (goodIn_sub (fun _ h => List.mem_cons_of_mem _ (List.mem_append_right _ h)) (by decide +kernel))
set_option maxRecDepth 20000 in
theorem gX1_isSame_X0_about : GoodIn wsX1_isSame (wsV RX1 64 RX0 yX0_about wsX0_about) := goodIn_app (goodIn_of _ (by decide +kernel)) ggX1_isSame_X0_about
set_option maxRecDepth 20000 in
theorem ggX1_isSame_X0_mean : GoodIn wsX1_isSame wsX0_mean := goodIn_ca (goodIn_r _ [111, 22, 32, 33, 34, 14, 35, 16, 17, 71, 72, 73, 74, 40, 41, 42, 43, 44, 116, 117, 118, 119, 120, 121, 122] (by decide +kernel) (by decide +kernel)) (goodIn_sub (fun _ h => List.mem_cons_of_mem _ (List.mem_append_right _ h)) (by decide +kernel))
set_option maxRecDepth 20000 in
theorem gX1_isSame_X0_mean : GoodIn wsX1_isSame (wsV RX1 66 RX0 yX0_mean wsX0_mean) := goodIn_app (goodIn_of _ (by decide +kernel)) ggX1_isSame_X0_mean
theorem dX1_isSame_0 : decode cX1_isSame 0 = .ok (.aload_n 0, 1) := by decide +kernel
theorem dX1_isSame_1 : decode cX1_isSame 1 = .ok (.getfield 7, 3) := by decide +kernel
theorem dX1_isSame_4 : decode cX1_isSame 4 = .ok (.iconst 4, 1) := by decide +kernel
theorem dX1_isSame_5 : decode cX1_isSame 5 = .ok (.if_icmp .ne 7, 3) := by decide +kernel
theorem dX1_isSame_8 : decode cX1_isSame 8 = .ok (.iconst 2, 1) := by decide +kernel
theorem dX1_isSame_9 : decode cX1_isSame 9 = .ok (.goto 17, 3) := by decide +kernel
theorem dX1_isSame_12 : decode cX1_isSame 12 = .ok (.aload_n 0, 1) := by decide +kernel
theorem dX1_isSame_13 : decode cX1_isSame 13 = .ok (.getfield 7, 3) := by decide +kernel
theorem dX1_isSame_16 : decode cX1_isSame 16 = .ok (.bipush 8, 2) := by decide +kernel
theorem dX1_isSame_18 : decode cX1_isSame 18 = .ok (.if_icmp .ne 7, 3) := by decide +kernel
theorem dX1_isSame_21 : decode cX1_isSame 21 = .ok (.iconst 3, 1) := by decide +kernel
theorem dX1_isSame_22 : decode cX1_isSame 22 = .ok (.goto 4, 3) := by decide +kernel
theorem dX1_isSame_25 : decode cX1_isSame 25 = .ok (.iconst 4, 1) := by decide +kernel
theorem dX1_isSame_26 : decode cX1_isSame 26 = .ok (.istore_n 2, 1) := by decide +kernel
theorem dX1_isSame_27 : decode cX1_isSame 27 = .ok (.bipush 6, 2) := by decide +kernel
theorem dX1_isSame_29 : decode cX1_isSame 29 = .ok (.newarray .int, 2) := by decide +kernel
theorem dX1_isSame_31 : decode cX1_isSame 31 = .ok (.dup, 1) := by decide +kernel
theorem dX1_isSame_32 : decode cX1_isSame 32 = .ok (.iconst 0, 1) := by decide +kernel
theorem dX1_isSame_33 : decode cX1_isSame 33 = .ok (.aload_n 0, 1) := by decide +kernel
theorem dX1_isSame_34 : decode cX1_isSame 34 = .ok (.getfield 7, 3) := by decide +kernel
theorem dX1_isSame_37 : decode cX1_isSame 37 = .ok (.iastore, 1) := by decide +kernel
theorem dX1_isSame_38 : decode cX1_isSame 38 = .ok (.dup, 1) := by decide +kernel
theorem dX1_isSame_39 : decode cX1_isSame 39 = .ok (.iconst 1, 1) := by decide +kernel
theorem dX1_isSame_40 : decode cX1_isSame 40 = .ok (.aload_n 0, 1) := by decide +kernel
theorem dX1_isSame_41 : decode cX1_isSame 41 = .ok (.getfield 13, 3) := by decide +kernel
theorem dX1_isSame_44 : decode cX1_isSame 44 = .ok (.iastore, 1) := by decide +kernel
theorem dX1_isSame_45 : decode cX1_isSame 45 = .ok (.dup, 1) := by decide +kernel
theorem dX1_isSame_46 : decode cX1_isSame 46 = .ok (.iconst 2, 1) := by decide +kernel
theorem dX1_isSame_47 : decode cX1_isSame 47 = .ok (.aload_n 0, 1) := by decide +kernel
theorem dX1_isSame_48 : decode cX1_isSame 48 = .ok (.getfield 16, 3) := by decide +kernel
theorem dX1_isSame_51 : decode cX1_isSame 51 = .ok (.iastore, 1) := by decide +kernel
theorem dX1_isSame_52 : decode cX1_isSame 52 = .ok (.dup, 1) := by decide +kernel
theorem dX1_isSame_53 : decode cX1_isSame 53 = .ok (.iconst 3, 1) := by decide +kernel
theorem dX1_isSame_54 : decode cX1_isSame 54 = .ok (.aload_n 0, 1) := by decide +kernel
theorem dX1_isSame_55 : decode cX1_isSame 55 = .ok (.aload_n 0, 1) := by decide +kernel
theorem dX1_isSame_56 : decode cX1_isSame 56 = .ok (.getfield 16, 3) := by decide +kernel
theorem dX1_isSame_59 : decode cX1_isSame 59 = .ok (.invokevirtual 32, 3) := by decide +kernel
theorem dX1_isSame_62 : decode cX1_isSame 62 = .ok (.iastore, 1) := by decide +kernel
theorem dX1_isSame_63 : decode cX1_isSame 63 = .ok (.dup, 1) := by decide +kernel
theorem dX1_isSame_64 : decode cX1_isSame 64 = .ok (.iconst 4, 1) := by decide +kernel
theorem dX1_isSame_65 : decode cX1_isSame 65 = .ok (.aload_n 0, 1) := by decide +kernel
theorem dX1_isSame_66 : decode cX1_isSame 66 = .ok (.aload_n 0, 1) := by decide +kernel
theorem dX1_isSame_67 : decode cX1_isSame 67 = .ok (.getfield 7, 3) := by decide +kernel
theorem dX1_isSame_70 : decode cX1_isSame 70 = .ok (.invokevirtual 32, 3) := by decide +kernel
theorem dX1_isSame_73 : decode cX1_isSame 73 = .ok (.iastore, 1) := by decide +kernel
theorem dX1_isSame_74 : decode cX1_isSame 74 = .ok (.dup, 1) := by decide +kernel
theorem dX1_isSame_75 : decode cX1_isSame 75 = .ok (.iconst 5, 1) := by decide +kernel
theorem dX1_isSame_76 : decode cX1_isSame 76 = .ok (.iload_n 2, 1) := by decide +kernel
theorem dX1_isSame_77 : decode cX1_isSame 77 = .ok (.iastore, 1) := by decide +kernel
theorem dX1_isSame_78 : decode cX1_isSame 78 = .ok (.astore_n 3, 1) := by decide +kernel
theorem dX1_isSame_79 : decode cX1_isSame 79 = .ok (.iconst 0, 1) := by decide +kernel
theorem dX1_isSame_80 : decode cX1_isSame 80 = .ok (.istore 4, 2) := by decide +kernel
theorem dX1_isSame_82 : decode cX1_isSame 82 = .ok (.iload 4, 2) := by decide +kernel
theorem dX1_isSame_84 : decode cX1_isSame 84 = .ok (.bipush 6, 2) := by decide +kernel
theorem dX1_isSame_86 : decode cX1_isSame 86 = .ok (.if_icmp .ge 24, 3) := by decide +kernel
theorem dX1_isSame_89 : decode cX1_isSame 89 = .ok (.aload_n 1, 1) := by decide +kernel
theorem dX1_isSame_90 : decode cX1_isSame 90 = .ok (.iload 4, 2) := by decide +kernel
theorem dX1_isSame_92 : decode cX1_isSame 92 = .ok (.invokevirtual 52, 3) := by decide +kernel
theorem dX1_isSame_95 : decode cX1_isSame 95 = .ok (.aload_n 3, 1) := by decide +kernel
theorem dX1_isSame_96 : decode cX1_isSame 96 = .ok (.iload 4, 2) := by decide +kernel
theorem dX1_isSame_98 : decode cX1_isSame 98 = .ok (.iaload, 1) := by decide +kernel
theorem dX1_isSame_99 : decode cX1_isSame 99 = .ok (.if_icmp .eq 5, 3) := by decide +kernel
theorem dX1_isSame_102 : decode cX1_isSame 102 = .ok (.iconst 0, 1) := by decide +kernel
theorem dX1_isSame_103 : decode cX1_isSame 103 = .ok (.ireturn, 1) := by decide +kernel
theorem dX1_isSame_104 : decode cX1_isSame 104 = .ok (.iinc 4 1, 3) := by decide +kernel
theorem dX1_isSame_107 : decode cX1_isSame 107 = .ok (.goto (-25), 3) := by decide +kernel
theorem dX1_isSame_110 : decode cX1_isSame 110 = .ok (.iconst 0, 1) := by decide +kernel
theorem dX1_isSame_111 : decode cX1_isSame 111 = .ok (.istore 4, 2) := by decide +kernel
theorem dX1_isSame_113 : decode cX1_isSame 113 = .ok (.iload 4, 2) := by decide +kernel
theorem dX1_isSame_115 : decode cX1_isSame 115 = .ok (.iconst 4, 1) := by decide +kernel
theorem dX1_isSame_116 : decode cX1_isSame 116 = .ok (.if_icmp .ge 119, 3) := by decide +kernel
theorem dX1_isSame_119 : decode cX1_isSame 119 = .ok (.iconst 0, 1) := by decide +kernel
theorem dX1_isSame_120 : decode cX1_isSame 120 = .ok (.istore 5, 2) := by decide +kernel
theorem dX1_isSame_122 : decode cX1_isSame 122 = .ok (.iload 5, 2) := by decide +kernel
theorem dX1_isSame_124 : decode cX1_isSame 124 = .ok (.aload_n 0, 1) := by decide +kernel
theorem dX1_isSame_125 : decode cX1_isSame 125 = .ok (.getfield 7, 3) := by decide +kernel
theorem dX1_isSame_128 : decode cX1_isSame 128 = .ok (.if_icmp .ge 32, 3) := by decide +kernel
theorem dX1_isSame_131 : decode cX1_isSame 131 = .ok (.aload_n 1, 1) := by decide +kernel
theorem dX1_isSame_132 : decode cX1_isSame 132 = .ok (.iload 4, 2) := by decide +kernel
theorem dX1_isSame_134 : decode cX1_isSame 134 = .ok (.iload 5, 2) := by decide +kernel
theorem dX1_isSame_136 : decode cX1_isSame 136 = .ok (.invokevirtual 57, 3) := by decide +kernel
theorem dX1_isSame_139 : decode cX1_isSame 139 = .ok (.aload_n 0, 1) := by decide +kernel
theorem dX1_isSame_140 : decode cX1_isSame 140 = .ok (.getfield 21, 3) := by decide +kernel
theorem dX1_isSame_143 : decode cX1_isSame 143 = .ok (.iload 4, 2) := by decide +kernel
theorem dX1_isSame_145 : decode cX1_isSame 145 = .ok (.aaload, 1) := by decide +kernel
theorem dX1_isSame_146 : decode cX1_isSame 146 = .ok (.iload 5, 2) := by decide +kernel
theorem dX1_isSame_148 : decode cX1_isSame 148 = .ok (.iaload, 1) := by decide +kernel
theorem dX1_isSame_149 : decode cX1_isSame 149 = .ok (.if_icmp .eq 5, 3) := by decide +kernel
theorem dX1_isSame_152 : decode cX1_isSame 152 = .ok (.iconst 0, 1) := by decide +kernel
theorem dX1_isSame_153 : decode cX1_isSame 153 = .ok (.ireturn, 1) := by decide +kernel
theorem dX1_isSame_154 : decode cX1_isSame 154 = .ok (.iinc 5 1, 3) := by decide +kernel
theorem dX1_isSame_157 : decode cX1_isSame 157 = .ok (.goto (-35), 3) := by decide +kernel
theorem dX1_isSame_160 : decode cX1_isSame 160 = .ok (.aload_n 0, 1) := by decide +kernel
theorem dX1_isSame_161 : decode cX1_isSame 161 = .ok (.aload_n 0, 1) := by decide +kernel
theorem dX1_isSame_162 : decode cX1_isSame 162 = .ok (.getfield 21, 3) := by decide +kernel
theorem dX1_isSame_165 : decode cX1_isSame 165 = .ok (.iload 4, 2) := by decide +kernel
theorem dX1_isSame_167 : decode cX1_isSame 167 = .ok (.aaload, 1) := by decide +kernel
theorem dX1_isSame_168 : decode cX1_isSame 168 = .ok (.invokevirtual 60, 3) := by decide +kernel
theorem dX1_isSame_171 : decode cX1_isSame 171 = .ok (.astore 5, 2) := by decide +kernel
theorem dX1_isSame_173 : decode cX1_isSame 173 = .ok (.iconst 0, 1) := by decide +kernel
theorem dX1_isSame_174 : decode cX1_isSame 174 = .ok (.istore 6, 2) := by decide +kernel
theorem dX1_isSame_176 : decode cX1_isSame 176 = .ok (.iload 6, 2) := by decide +kernel
theorem dX1_isSame_178 : decode cX1_isSame 178 = .ok (.iconst 5, 1) := by decide +kernel
theorem dX1_isSame_179 : decode cX1_isSame 179 = .ok (.if_icmp .ge 27, 3) := by decide +kernel
theorem dX1_isSame_182 : decode cX1_isSame 182 = .ok (.aload_n 1, 1) := by decide +kernel
theorem dX1_isSame_183 : decode cX1_isSame 183 = .ok (.iload 4, 2) := by decide +kernel
theorem dX1_isSame_185 : decode cX1_isSame 185 = .ok (.iload 6, 2) := by decide +kernel
theorem dX1_isSame_187 : decode cX1_isSame 187 = .ok (.invokevirtual 64, 3) := by decide +kernel
theorem dX1_isSame_190 : decode cX1_isSame 190 = .ok (.aload 5, 2) := by decide +kernel
theorem dX1_isSame_192 : decode cX1_isSame 192 = .ok (.iload 6, 2) := by decide +kernel
theorem dX1_isSame_194 : decode cX1_isSame 194 = .ok (.iaload, 1) := by decide +kernel
theorem dX1_isSame_195 : decode cX1_isSame 195 = .ok (.if_icmp .eq 5, 3) := by decide +kernel
theorem dX1_isSame_198 : decode cX1_isSame 198 = .ok (.iconst 0, 1) := by decide +kernel
theorem dX1_isSame_199 : decode cX1_isSame 199 = .ok (.ireturn, 1) := by decide +kernel
theorem dX1_isSame_200 : decode cX1_isSame 200 = .ok (.iinc 6 1, 3) := by decide +kernel
theorem dX1_isSame_203 : decode cX1_isSame 203 = .ok (.goto (-27), 3) := by decide +kernel
theorem dX1_isSame_206 : decode cX1_isSame 206 = .ok (.aload_n 1, 1) := by decide +kernel
theorem dX1_isSame_207 : decode cX1_isSame 207 = .ok (.iload 4, 2) := by decide +kernel
theorem dX1_isSame_209 : decode cX1_isSame 209 = .ok (.invokevirtual 66, 3) := by decide +kernel
theorem dX1_isSame_212 : decode cX1_isSame 212 = .ok (.aload 5, 2) := by decide +kernel
theorem dX1_isSame_214 : decode cX1_isSame 214 = .ok (.iconst 5, 1) := by decide +kernel
theorem dX1_isSame_215 : decode cX1_isSame 215 = .ok (.iaload, 1) := by decide +kernel
theorem dX1_isSame_216 : decode cX1_isSame 216 = .ok (.i2d, 1) := by decide +kernel
theorem dX1_isSame_217 : decode cX1_isSame 217 = .ok (.aload_n 0, 1) := by decide +kernel
theorem dX1_isSame_218 : decode cX1_isSame 218 = .ok (.getfield 7, 3) := by decide +kernel
theorem dX1_isSame_221 : decode cX1_isSame 221 = .ok (.i2d, 1) := by decide +kernel
theorem dX1_isSame_222 : decode cX1_isSame 222 = .ok (.ddiv, 1) := by decide +kernel
theorem dX1_isSame_223 : decode cX1_isSame 223 = .ok (.dcmp .l, 1) := by decide +kernel
theorem dX1_isSame_224 : decode cX1_isSame 224 = .ok (.ifCond .eq 5, 3) := by decide +kernel
theorem dX1_isSame_227 : decode cX1_isSame 227 = .ok (.iconst 0, 1) := by decide +kernel
theorem dX1_isSame_228 : decode cX1_isSame 228 = .ok (.ireturn, 1) := by decide +kernel
theorem dX1_isSame_229 : decode cX1_isSame 229 = .ok (.iinc 4 1, 3) := by decide +kernel
theorem dX1_isSame_232 : decode cX1_isSame 232 = .ok (.goto (-119), 3) := by decide +kernel
theorem dX1_isSame_235 : decode cX1_isSame 235 = .ok (.iconst 1, 1) := by decide +kernel
theorem dX1_isSame_236 : decode cX1_isSame 236 = .ok (.ireturn, 1) := by decide +kernel
end
section
/-! ===== the model's numbers; what only trial shows of primes below 500 ===== -/
def eu : Nat → Nat → Nat → Int → Int → Int
  | 0, _, _, oa, _ => oa
  | f + 1, a, b, oa, ob => if b = 0 then oa else eu f b (a - a / b * b) ob (oa - ((a / b : Nat) : Int) * ob)
def eub : Nat → Nat → Nat → Int → Int → Bool
  | 0, _, _, _, _ => false
  | f + 1, a, b, oa, ob => decide (a < 500 ∧ b < 500 ∧ -500 ≤ oa ∧ oa ≤ 500) && (decide (b = 0) || eub f b (a - a / b * b) ob (oa - ((a / b : Nat) : Int) * ob))
def ck (p v : Nat) : Bool := eub 16 p v 0 1 && decide (Int.tmod (Int.tmod (eu 16 p v 0 1) (p : Int) + (p : Int)) (p : Int) = ((v ^ (p - 2) % p : Nat) : Int)) && decide (v ^ (p - 1) % p = 1)
def ckp (p : Nat) : Bool := !(decide (5 ≤ p) && prm p) || (List.range p).all (fun v => decide (v = 0) || ck p v)
def rck (n p : Nat) : Bool := (List.range (rt n p)).all (fun c => decide (c = 0) || decide (od p c ≠ n)) && decide (od p (rt n p) = n) && decide (rt n p < p) && decide (1 ≤ rt n p)
def rcp (n p : Nat) : Bool := !(decide (5 ≤ p) && prm p && decide ((p - 1) % n = 0)) || rck n p
set_option maxRecDepth 100000 in
theorem cks_0 : (List.range 10).all (fun q => ckp (q + 0)) = true := by decide +kernel
set_option maxRecDepth 100000 in
theorem cks_1 : (List.range 10).all (fun q => ckp (q + 10)) = true := by decide +kernel
set_option maxRecDepth 100000 in
theorem cks_2 : (List.range 10).all (fun q => ckp (q + 20)) = true := by decide +kernel
set_option maxRecDepth 100000 in
theorem cks_3 : (List.range 10).all (fun q => ckp (q + 30)) = true := by decide +kernel
set_option maxRecDepth 100000 in
theorem cks_4 : (List.range 10).all (fun q => ckp (q + 40)) = true := by decide +kernel
set_option maxRecDepth 100000 in
theorem cks_5 : (List.range 10).all (fun q => ckp (q + 50)) = true := by decide +kernel
set_option maxRecDepth 100000 in
theorem cks_6 : (List.range 10).all (fun q => ckp (q + 60)) = true := by decide +kernel
set_option maxRecDepth 100000 in
theorem cks_7 : (List.range 10).all (fun q => ckp (q + 70)) = true := by decide +kernel
set_option maxRecDepth 100000 in
theorem cks_8 : (List.range 10).all (fun q => ckp (q + 80)) = true := by decide +kernel
set_option maxRecDepth 100000 in
theorem cks_9 : (List.range 10).all (fun q => ckp (q + 90)) = true := by decide +kernel
set_option maxRecDepth 100000 in
theorem cks_10 : (List.range 10).all (fun q => ckp (q + 100)) = true := by decide +kernel
set_option maxRecDepth 100000 in
theorem cks_11 : (List.range 10).all (fun q => ckp (q + 110)) = true := by decide +kernel
set_option maxRecDepth 100000 in
theorem cks_12 : (List.range 10).all (fun q => ckp (q + 120)) = true := by decide +kernel
set_option maxRecDepth 100000 in
theorem cks_13 : (List.range 10).all (fun q => ckp (q + 130)) = true := by decide +kernel
set_option maxRecDepth 100000 in
theorem cks_14 : (List.range 10).all (fun q => ckp (q + 140)) = true := by decide +kernel
set_option maxRecDepth 100000 in
theorem cks_15 : (List.range 10).all (fun q => ckp (q + 150)) = true := by decide +kernel
set_option maxRecDepth 100000 in
theorem cks_16 : (List.range 10).all (fun q => ckp (q + 160)) = true := by decide +kernel
set_option maxRecDepth 100000 in
theorem cks_17 : (List.range 10).all (fun q => ckp (q + 170)) = true := by decide +kernel
set_option maxRecDepth 100000 in
theorem cks_18 : (List.range 10).all (fun q => ckp (q + 180)) = true := by decide +kernel
set_option maxRecDepth 100000 in
theorem cks_19 : (List.range 10).all (fun q => ckp (q + 190)) = true := by decide +kernel
set_option maxRecDepth 100000 in
theorem cks_20 : (List.range 10).all (fun q => ckp (q + 200)) = true := by decide +kernel
set_option maxRecDepth 100000 in
theorem cks_21 : (List.range 10).all (fun q => ckp (q + 210)) = true := by decide +kernel
set_option maxRecDepth 100000 in
theorem cks_22 : (List.range 10).all (fun q => ckp (q + 220)) = true := by decide +kernel
set_option maxRecDepth 100000 in
theorem cks_23 : (List.range 10).all (fun q => ckp (q + 230)) = true := by decide +kernel
set_option maxRecDepth 100000 in
theorem cks_24 : (List.range 10).all (fun q => ckp (q + 240)) = true := by decide +kernel
set_option maxRecDepth 100000 in
theorem cks_25 : (List.range 10).all (fun q => ckp (q + 250)) = true := by decide +kernel
set_option maxRecDepth 100000 in
theorem cks_26 : (List.range 10).all (fun q => ckp (q + 260)) = true := by decide +kernel
set_option maxRecDepth 100000 in
theorem cks_27 : (List.range 10).all (fun q => ckp (q + 270)) = true := by decide +kernel
set_option maxRecDepth 100000 in
theorem cks_28 : (List.range 10).all (fun q => ckp (q + 280)) = true := by decide +kernel
set_option maxRecDepth 100000 in
theorem cks_29 : (List.range 10).all (fun q => ckp (q + 290)) = true := by decide +kernel
set_option maxRecDepth 100000 in
theorem cks_30 : (List.range 10).all (fun q => ckp (q + 300)) = true := by decide +kernel
set_option maxRecDepth 100000 in
theorem cks_31 : (List.range 10).all (fun q => ckp (q + 310)) = true := by decide +kernel
set_option maxRecDepth 100000 in
theorem cks_32 : (List.range 10).all (fun q => ckp (q + 320)) = true := by decide +kernel
set_option maxRecDepth 100000 in
theorem cks_33 : (List.range 10).all (fun q => ckp (q + 330)) = true := by decide +kernel
set_option maxRecDepth 100000 in
theorem cks_34 : (List.range 10).all (fun q => ckp (q + 340)) = true := by decide +kernel
set_option maxRecDepth 100000 in
theorem cks_35 : (List.range 10).all (fun q => ckp (q + 350)) = true := by decide +kernel
set_option maxRecDepth 100000 in
theorem cks_36 : (List.range 10).all (fun q => ckp (q + 360)) = true := by decide +kernel
set_option maxRecDepth 100000 in
theorem cks_37 : (List.range 10).all (fun q => ckp (q + 370)) = true := by decide +kernel
set_option maxRecDepth 100000 in
theorem cks_38 : (List.range 10).all (fun q => ckp (q + 380)) = true := by decide +kernel
set_option maxRecDepth 100000 in
theorem cks_39 : (List.range 10).all (fun q => ckp (q + 390)) = true := by decide +kernel
set_option maxRecDepth 100000 in
theorem cks_40 : (List.range 10).all (fun q => ckp (q + 400)) = true := by decide +kernel
set_option maxRecDepth 100000 in
theorem cks_41 : (List.range 10).all (fun q => ckp (q + 410)) = true := by decide +kernel
set_option maxRecDepth 100000 in
theorem cks_42 : (List.range 10).all (fun q => ckp (q + 420)) = true := by decide +kernel
set_option maxRecDepth 100000 in
theorem cks_43 : (List.range 10).all (fun q => ckp (q + 430)) = true := by decide +kernel
set_option maxRecDepth 100000 in
theorem cks_44 : (List.range 10).all (fun q => ckp (q + 440)) = true := by decide +kernel
set_option maxRecDepth 100000 in
theorem cks_45 : (List.range 10).all (fun q => ckp (q + 450)) = true := by decide +kernel
set_option maxRecDepth 100000 in
theorem cks_46 : (List.range 10).all (fun q => ckp (q + 460)) = true := by decide +kernel
set_option maxRecDepth 100000 in
theorem cks_47 : (List.range 10).all (fun q => ckp (q + 470)) = true := by decide +kernel
set_option maxRecDepth 100000 in
theorem cks_48 : (List.range 10).all (fun q => ckp (q + 480)) = true := by decide +kernel
set_option maxRecDepth 100000 in
theorem cks_49 : (List.range 10).all (fun q => ckp (q + 490)) = true := by decide +kernel
set_option maxRecDepth 100000 in
theorem rcs_4_0 : (List.range 50).all (fun q => rcp 4 (q + 0)) = true := by decide +kernel
set_option maxRecDepth 100000 in
theorem rcs_4_1 : (List.range 50).all (fun q => rcp 4 (q + 50)) = true := by decide +kernel
set_option maxRecDepth 100000 in
theorem rcs_4_2 : (List.range 50).all (fun q => rcp 4 (q + 100)) = true := by decide +kernel
set_option maxRecDepth 100000 in
theorem rcs_4_3 : (List.range 50).all (fun q => rcp 4 (q + 150)) = true := by decide +kernel
set_option maxRecDepth 100000 in
theorem rcs_4_4 : (List.range 50).all (fun q => rcp 4 (q + 200)) = true := by decide +kernel
set_option maxRecDepth 100000 in
theorem rcs_4_5 : (List.range 50).all (fun q => rcp 4 (q + 250)) = true := by decide +kernel
set_option maxRecDepth 100000 in
theorem rcs_4_6 : (List.range 50).all (fun q => rcp 4 (q + 300)) = true := by decide +kernel
set_option maxRecDepth 100000 in
theorem rcs_4_7 : (List.range 50).all (fun q => rcp 4 (q + 350)) = true := by decide +kernel
set_option maxRecDepth 100000 in
theorem rcs_4_8 : (List.range 50).all (fun q => rcp 4 (q + 400)) = true := by decide +kernel
set_option maxRecDepth 100000 in
theorem rcs_4_9 : (List.range 50).all (fun q => rcp 4 (q + 450)) = true := by decide +kernel
set_option maxRecDepth 100000 in
theorem rcs_8_0 : (List.range 50).all (fun q => rcp 8 (q + 0)) = true := by decide +kernel
set_option maxRecDepth 100000 in
theorem rcs_8_1 : (List.range 50).all (fun q => rcp 8 (q + 50)) = true := by decide +kernel
set_option maxRecDepth 100000 in
theorem rcs_8_2 : (List.range 50).all (fun q => rcp 8 (q + 100)) = true := by decide +kernel
set_option maxRecDepth 100000 in
theorem rcs_8_3 : (List.range 50).all (fun q => rcp 8 (q + 150)) = true := by decide +kernel
set_option maxRecDepth 100000 in
theorem rcs_8_4 : (List.range 50).all (fun q => rcp 8 (q + 200)) = true := by decide +kernel
set_option maxRecDepth 100000 in
theorem rcs_8_5 : (List.range 50).all (fun q => rcp 8 (q + 250)) = true := by decide +kernel
set_option maxRecDepth 100000 in
theorem rcs_8_6 : (List.range 50).all (fun q => rcp 8 (q + 300)) = true := by decide +kernel
set_option maxRecDepth 100000 in
theorem rcs_8_7 : (List.range 50).all (fun q => rcp 8 (q + 350)) = true := by decide +kernel
set_option maxRecDepth 100000 in
theorem rcs_8_8 : (List.range 50).all (fun q => rcp 8 (q + 400)) = true := by decide +kernel
set_option maxRecDepth 100000 in
theorem rcs_8_9 : (List.range 50).all (fun q => rcp 8 (q + 450)) = true := by decide +kernel
set_option maxRecDepth 100000 in
theorem rcs_16_0 : (List.range 50).all (fun q => rcp 16 (q + 0)) = true := by decide +kernel
set_option maxRecDepth 100000 in
theorem rcs_16_1 : (List.range 50).all (fun q => rcp 16 (q + 50)) = true := by decide +kernel
set_option maxRecDepth 100000 in
theorem rcs_16_2 : (List.range 50).all (fun q => rcp 16 (q + 100)) = true := by decide +kernel
set_option maxRecDepth 100000 in
theorem rcs_16_3 : (List.range 50).all (fun q => rcp 16 (q + 150)) = true := by decide +kernel
set_option maxRecDepth 100000 in
theorem rcs_16_4 : (List.range 50).all (fun q => rcp 16 (q + 200)) = true := by decide +kernel
set_option maxRecDepth 100000 in
theorem rcs_16_5 : (List.range 50).all (fun q => rcp 16 (q + 250)) = true := by decide +kernel
set_option maxRecDepth 100000 in
theorem rcs_16_6 : (List.range 50).all (fun q => rcp 16 (q + 300)) = true := by decide +kernel
set_option maxRecDepth 100000 in
theorem rcs_16_7 : (List.range 50).all (fun q => rcp 16 (q + 350)) = true := by decide +kernel
set_option maxRecDepth 100000 in
theorem rcs_16_8 : (List.range 50).all (fun q => rcp 16 (q + 400)) = true := by decide +kernel
set_option maxRecDepth 100000 in
theorem rcs_16_9 : (List.range 50).all (fun q => rcp 16 (q + 450)) = true := by decide +kernel
end
section
theorem al_c {f : Nat → Bool} {m c p : Nat} (h : (List.range m).all (fun q => f (q + c)) = true) (h1 : c ≤ p) (h2 : p < c + m) : f p = true := by
  have h3 := List.all_eq_true.mp h (p - c) (List.mem_range.mpr (by omega))
  rwa [show p - c + c = p by omega] at h3
theorem ckp_all {p : Nat} (hp : p < 500) : ckp p = true := by
  rcases (show (0 ≤ p ∧ p < 0 + 10) ∨ (10 ≤ p ∧ p < 10 + 10) ∨ (20 ≤ p ∧ p < 20 + 10) ∨ (30 ≤ p ∧ p < 30 + 10) ∨ (40 ≤ p ∧ p < 40 + 10) ∨ (50 ≤ p ∧ p < 50 + 10) ∨ (60 ≤ p ∧ p < 60 + 10) ∨ (70 ≤ p ∧ p < 70 + 10) ∨ (80 ≤ p ∧ p < 80 + 10) ∨ (90 ≤ p ∧ p < 90 + 10) ∨ (100 ≤ p ∧ p < 100 + 10) ∨ (110 ≤ p ∧ p < 110 + 10) ∨ (120 ≤ p ∧ p < 120 + 10) ∨ (130 ≤ p ∧ p < 130 + 10) ∨ (140 ≤ p ∧ p < 140 + 10) ∨ (150 ≤ p ∧ p < 150 + 10) ∨ (160 ≤ p ∧ p < 160 + 10) ∨ (170 ≤ p ∧ p < 170 + 10) ∨ (180 ≤ p ∧ p < 180 + 10) ∨ (190 ≤ p ∧ p < 190 + 10) ∨ (200 ≤ p ∧ p < 200 + 10) ∨ (210 ≤ p ∧ p < 210 + 10) ∨ (220 ≤ p ∧ p < 220 + 10) ∨ (230 ≤ p ∧ p < 230 + 10) ∨ (240 ≤ p ∧ p < 240 + 10) ∨ (250 ≤ p ∧ p < 250 + 10) ∨ (260 ≤ p ∧ p < 260 + 10) ∨ (270 ≤ p ∧ p < 270 + 10) ∨ (280 ≤ p ∧ p < 280 + 10) ∨ (290 ≤ p ∧ p < 290 + 10) ∨ (300 ≤ p ∧ p < 300 + 10) ∨ (310 ≤ p ∧ p < 310 + 10) ∨ (320 ≤ p ∧ p < 320 + 10) ∨ (330 ≤ p ∧ p < 330 + 10) ∨ (340 ≤ p ∧ p < 340 + 10) ∨ (350 ≤ p ∧ p < 350 + 10) ∨ (360 ≤ p ∧ p < 360 + 10) ∨ (370 ≤ p ∧ p < 370 + 10) ∨ (380 ≤ p ∧ p < 380 + 10) ∨ (390 ≤ p ∧ p < 390 + 10) ∨ (400 ≤ p ∧ p < 400 + 10) ∨ (410 ≤ p ∧ p < 410 + 10) ∨ (420 ≤ p ∧ p < 420 + 10) ∨ (430 ≤ p ∧ p < 430 + 10) ∨ (440 ≤ p ∧ p < 440 + 10) ∨ (450 ≤ p ∧ p < 450 + 10) ∨ (460 ≤ p ∧ p < 460 + 10) ∨ (470 ≤ p ∧ p < 470 + 10) ∨ (480 ≤ p ∧ p < 480 + 10) ∨ (490 ≤ p ∧ p < 490 + 10) by omega) with h | h | h | h | h | h | h | h | h | h | h | h | h | h | h | h | h | h | h | h | h | h | h | h | h | h | h | h | h | h | h | h | h | h | h | h | h | h | h | h | h | h | h | h | h | h | h | h | h | h
  · exact al_c cks_0 h.1 h.2
  · exact al_c cks_1 h.1 h.2
  · exact al_c cks_2 h.1 h.2
  · exact al_c cks_3 h.1 h.2
  · exact al_c cks_4 h.1 h.2
  · exact al_c cks_5 h.1 h.2
  · exact al_c cks_6 h.1 h.2
  · exact al_c cks_7 h.1 h.2
  · exact al_c cks_8 h.1 h.2
  · exact al_c cks_9 h.1 h.2
  · exact al_c cks_10 h.1 h.2
  · exact al_c cks_11 h.1 h.2
  · exact al_c cks_12 h.1 h.2
  · exact al_c cks_13 h.1 h.2
  · exact al_c cks_14 h.1 h.2
  · exact al_c cks_15 h.1 h.2
  · exact al_c cks_16 h.1 h.2
  · exact al_c cks_17 h.1 h.2
  · exact al_c cks_18 h.1 h.2
  · exact al_c cks_19 h.1 h.2
  · exact al_c cks_20 h.1 h.2
  · exact al_c cks_21 h.1 h.2
  · exact al_c cks_22 h.1 h.2
  · exact al_c cks_23 h.1 h.2
  · exact al_c cks_24 h.1 h.2
  · exact al_c cks_25 h.1 h.2
  · exact al_c cks_26 h.1 h.2
  · exact al_c cks_27 h.1 h.2
  · exact al_c cks_28 h.1 h.2
  · exact al_c cks_29 h.1 h.2
  · exact al_c cks_30 h.1 h.2
  · exact al_c cks_31 h.1 h.2
  · exact al_c cks_32 h.1 h.2
  · exact al_c cks_33 h.1 h.2
  · exact al_c cks_34 h.1 h.2
  · exact al_c cks_35 h.1 h.2
  · exact al_c cks_36 h.1 h.2
  · exact al_c cks_37 h.1 h.2
  · exact al_c cks_38 h.1 h.2
  · exact al_c cks_39 h.1 h.2
  · exact al_c cks_40 h.1 h.2
  · exact al_c cks_41 h.1 h.2
  · exact al_c cks_42 h.1 h.2
  · exact al_c cks_43 h.1 h.2
  · exact al_c cks_44 h.1 h.2
  · exact al_c cks_45 h.1 h.2
  · exact al_c cks_46 h.1 h.2
  · exact al_c cks_47 h.1 h.2
  · exact al_c cks_48 h.1 h.2
  · exact al_c cks_49 h.1 h.2
theorem rcp_4 {p : Nat} (hp : p < 500) : rcp 4 p = true := by
  rcases (show (0 ≤ p ∧ p < 0 + 50) ∨ (50 ≤ p ∧ p < 50 + 50) ∨ (100 ≤ p ∧ p < 100 + 50) ∨ (150 ≤ p ∧ p < 150 + 50) ∨ (200 ≤ p ∧ p < 200 + 50) ∨ (250 ≤ p ∧ p < 250 + 50) ∨ (300 ≤ p ∧ p < 300 + 50) ∨ (350 ≤ p ∧ p < 350 + 50) ∨ (400 ≤ p ∧ p < 400 + 50) ∨ (450 ≤ p ∧ p < 450 + 50) by omega) with h | h | h | h | h | h | h | h | h | h
  · exact al_c rcs_4_0 h.1 h.2
  · exact al_c rcs_4_1 h.1 h.2
  · exact al_c rcs_4_2 h.1 h.2
  · exact al_c rcs_4_3 h.1 h.2
  · exact al_c rcs_4_4 h.1 h.2
  · exact al_c rcs_4_5 h.1 h.2
  · exact al_c rcs_4_6 h.1 h.2
  · exact al_c rcs_4_7 h.1 h.2
  · exact al_c rcs_4_8 h.1 h.2
  · exact al_c rcs_4_9 h.1 h.2
theorem rcp_8 {p : Nat} (hp : p < 500) : rcp 8 p = true := by
  rcases (show (0 ≤ p ∧ p < 0 + 50) ∨ (50 ≤ p ∧ p < 50 + 50) ∨ (100 ≤ p ∧ p < 100 + 50) ∨ (150 ≤ p ∧ p < 150 + 50) ∨ (200 ≤ p ∧ p < 200 + 50) ∨ (250 ≤ p ∧ p < 250 + 50) ∨ (300 ≤ p ∧ p < 300 + 50) ∨ (350 ≤ p ∧ p < 350 + 50) ∨ (400 ≤ p ∧ p < 400 + 50) ∨ (450 ≤ p ∧ p < 450 + 50) by omega) with h | h | h | h | h | h | h | h | h | h
  · exact al_c rcs_8_0 h.1 h.2
  · exact al_c rcs_8_1 h.1 h.2
  · exact al_c rcs_8_2 h.1 h.2
  · exact al_c rcs_8_3 h.1 h.2
  · exact al_c rcs_8_4 h.1 h.2
  · exact al_c rcs_8_5 h.1 h.2
  · exact al_c rcs_8_6 h.1 h.2
  · exact al_c rcs_8_7 h.1 h.2
  · exact al_c rcs_8_8 h.1 h.2
  · exact al_c rcs_8_9 h.1 h.2
theorem rcp_16 {p : Nat} (hp : p < 500) : rcp 16 p = true := by
  rcases (show (0 ≤ p ∧ p < 0 + 50) ∨ (50 ≤ p ∧ p < 50 + 50) ∨ (100 ≤ p ∧ p < 100 + 50) ∨ (150 ≤ p ∧ p < 150 + 50) ∨ (200 ≤ p ∧ p < 200 + 50) ∨ (250 ≤ p ∧ p < 250 + 50) ∨ (300 ≤ p ∧ p < 300 + 50) ∨ (350 ≤ p ∧ p < 350 + 50) ∨ (400 ≤ p ∧ p < 400 + 50) ∨ (450 ≤ p ∧ p < 450 + 50) by omega) with h | h | h | h | h | h | h | h | h | h
  · exact al_c rcs_16_0 h.1 h.2
  · exact al_c rcs_16_1 h.1 h.2
  · exact al_c rcs_16_2 h.1 h.2
  · exact al_c rcs_16_3 h.1 h.2
  · exact al_c rcs_16_4 h.1 h.2
  · exact al_c rcs_16_5 h.1 h.2
  · exact al_c rcs_16_6 h.1 h.2
  · exact al_c rcs_16_7 h.1 h.2
  · exact al_c rcs_16_8 h.1 h.2
  · exact al_c rcs_16_9 h.1 h.2
theorem ck_of {p v : Nat} (hp5 : p < 500) (hp : 5 ≤ p) (hprm : prm p = true) (h1 : 1 ≤ v) (hv : v < p) : ck p v = true := by
  have h := ckp_all hp5
  unfold ckp at h
  rw [decide_eq_true hp, hprm] at h
  have h2 := List.all_eq_true.mp (show (List.range p).all (fun v => decide (v = 0) || ck p v) = true from h) v (List.mem_range.mpr hv)
  have h3 : (decide (v = 0) || ck p v) = true := h2
  rwa [decide_eq_false (show ¬ v = 0 by omega), Bool.false_or] at h3
theorem ck_eub {p v : Nat} (h : ck p v = true) : eub 16 p v 0 1 = true := by
  unfold ck at h; rw [Bool.and_eq_true, Bool.and_eq_true] at h; exact h.1.1
theorem ck_inv {p v : Nat} (h : ck p v = true) : Int.tmod (Int.tmod (eu 16 p v 0 1) (p : Int) + (p : Int)) (p : Int) = ((v ^ (p - 2) % p : Nat) : Int) := by
  unfold ck at h; rw [Bool.and_eq_true, Bool.and_eq_true] at h; exact of_decide_eq_true h.1.2
theorem ck_fer {p v : Nat} (h : ck p v = true) : v ^ (p - 1) % p = 1 := by
  unfold ck at h; rw [Bool.and_eq_true] at h; exact of_decide_eq_true h.2
theorem rck_of {n p : Nat} (hn : n = 4 ∨ n = 8 ∨ n = 16) (hp5 : p < 500) (hp : 5 ≤ p) (hprm : prm p = true) (hd : (p - 1) % n = 0) : rck n p = true := by
  have h : rcp n p = true := by
    rcases hn with rfl | rfl | rfl
    · exact rcp_4 hp5
    · exact rcp_8 hp5
    · exact rcp_16 hp5
  unfold rcp at h
  rw [decide_eq_true hp, hprm, decide_eq_true hd] at h
  exact h
theorem rck_no {n p c : Nat} (h : rck n p = true) (h1 : 1 ≤ c) (hc : c < rt n p) : ¬ od p c = n := by
  unfold rck at h; rw [Bool.and_eq_true, Bool.and_eq_true, Bool.and_eq_true] at h
  have h2 : (decide (c = 0) || decide (od p c ≠ n)) = true := List.all_eq_true.mp h.1.1.1 c (List.mem_range.mpr hc)
  rw [decide_eq_false (show ¬ c = 0 by omega), Bool.false_or] at h2
  exact of_decide_eq_true h2
theorem rck_is {n p : Nat} (h : rck n p = true) : od p (rt n p) = n := by
  unfold rck at h; rw [Bool.and_eq_true, Bool.and_eq_true, Bool.and_eq_true] at h; exact of_decide_eq_true h.1.1.2
theorem rck_lt {n p : Nat} (h : rck n p = true) : rt n p < p := by
  unfold rck at h; rw [Bool.and_eq_true, Bool.and_eq_true, Bool.and_eq_true] at h; exact of_decide_eq_true h.1.2
theorem rck_ge {n p : Nat} (h : rck n p = true) : 1 ≤ rt n p := by
  unfold rck at h; rw [Bool.and_eq_true] at h; exact of_decide_eq_true h.2
/-- what is held of a ring -/
def rok (n p : Nat) : Prop := (n = 4 ∨ n = 8 ∨ n = 16) ∧ 5 ≤ p ∧ p < 500 ∧ prm p = true ∧ (p - 1) % n = 0
theorem rok_lt {n p : Nat} (h : rok n p) : n < p := by
  obtain ⟨h1, h2, h3, -, h5⟩ := h
  rcases Nat.lt_or_ge n p with z | z
  · exact z
  · exfalso
    rw [Nat.mod_eq_of_lt (show p - 1 < n by omega)] at h5; omega
theorem eub_s {f a b : Nat} {oa ob : Int} (h : eub (f + 1) a b oa ob = true) : (a < 500 ∧ b < 500 ∧ -500 ≤ oa ∧ oa ≤ 500) ∧ (¬ b = 0 → eub f b (a - a / b * b) ob (oa - ((a / b : Nat) : Int) * ob) = true) := by
  rw [eub, Bool.and_eq_true] at h
  refine ⟨of_decide_eq_true h.1, fun z => ?_⟩
  have h2 := h.2
  rwa [decide_eq_false z, Bool.false_or] at h2
/-- the model's row of results, k of them -/
def mk (M g : Nat → Nat) (k : Nat) : Nat → Nat := fun j => if j < k then g j else M j
theorem mk_0 (M g : Nat → Nat) : mk M g 0 = M := by
  funext j; unfold mk; rw [if_neg (by omega)]
theorem mk_s {M g : Nat → Nat} {k v : Nat} (hv : v = g k) : va_up (mk M g k) k v = mk M g (k + 1) := by
  funext j; unfold va_up mk
  by_cases h : j = k
  · rw [if_pos h, if_pos (by omega), hv, h]
  · rw [if_neg h]
    by_cases h2 : j < k
    · rw [if_pos h2, if_pos (by omega)]
    · rw [if_neg h2, if_neg (by omega)]
theorem mk_in {M g : Nat → Nat} {k j : Nat} (h : j < k) : mk M g k j = g j := by unfold mk; rw [if_pos h]
theorem mk_lt {M g : Nat → Nat} {k : Nat} (hM : ∀ j, M j < 500) (hg : ∀ j, j < k → g j < 500) : ∀ j, mk M g k j < 500 := fun j => by
  unfold mk; split
  · rename_i h; exact hg _ h
  · exact hM _
/-- .. filled in another order -/
def mo (M : Nat → Nat) (n : Nat) (s g : Nat → Nat) (k : Nat) : Nat → Nat := fun j => if j < n ∧ s j < k then g (s j) else M j
theorem mo_0 (M : Nat → Nat) (n : Nat) (s g : Nat → Nat) : mo M n s g 0 = M := by
  funext j; unfold mo; rw [if_neg (by omega)]
theorem mo_s {M : Nat → Nat} {n k v q : Nat} {s g : Nat → Nat} (hv : v = g k) (hq : q < n) (h1 : s q = k) (h2 : ∀ m, m < n → s m = k → m = q) : va_up (mo M n s g k) q v = mo M n s g (k + 1) := by
  funext j; unfold va_up mo
  by_cases h : j = q
  · rw [if_pos h, h, h1, if_pos (by omega), hv]
  · rw [if_neg h]
    by_cases h3 : j < n ∧ s j < k
    · rw [if_pos h3, if_pos (by omega)]
    · by_cases h4 : j < n ∧ s j < k + 1
      · exact absurd (h2 j h4.1 (by omega)) h
      · rw [if_neg h3, if_neg h4]
theorem mo_n {M : Nat → Nat} {n : Nat} {s g : Nat → Nat} (hs : ∀ m, m < n → s m < n) : mo M n s g n = mk M (fun m => g (s m)) n := by
  funext j; unfold mo mk
  by_cases h : j < n
  · rw [if_pos ⟨h, hs _ h⟩, if_pos h]
  · rw [if_neg (fun z => h z.1), if_neg h]
theorem lay_mr (M B : Nat → Nat) (r n : Nat) : va_cpy M B 0 (16 * r) n = mr B r M n := by
  funext j; unfold va_cpy mr
  by_cases h : 16 * r ≤ j ∧ j < 16 * r + n
  · rw [if_pos h, if_pos h, Nat.zero_add]
  · rw [if_neg h, if_neg h]
theorem mr_mk {A M g : Nat → Nat} {r n : Nat} : mr A r (mk M g n) n = mr A r g n := by
  funext j; unfold mr
  by_cases h : 16 * r ≤ j ∧ j < 16 * r + n
  · rw [if_pos h, if_pos h, mk_in (by omega)]
  · rw [if_neg h, if_neg h]
/-- places mirrored, bit by bit -/
def mj (q b : Nat) : Nat → Nat
  | 0 => 0
  | k + 1 => mj q b k ||| (q / 2 ^ k % 2 * 2 ^ (b - 1 - k))
theorem mj_lt : ∀ q, q < 16 → ∀ b, b < 5 → ∀ k, k < 5 → k ≤ b → mj q b k < 16 := by decide +kernel
theorem mj_mi : ∀ q, q < 16 → ∀ b, b < 5 → mj q b b = mi q b := by decide +kernel
theorem or_n : ∀ x, x < 16 → ∀ y, y < 16 → iI ((x : Nat) : Int) ||| iI ((y : Nat) : Int) = iI ((x ||| y : Nat) : Int) := by decide +kernel
theorem shl_b : ∀ x, x < 2 → ∀ k, k < 5 → iI ((x : Nat) : Int) <<< (iI ((k : Nat) : Int) &&& 31) = iI ((x * 2 ^ k : Nat) : Int) := by decide +kernel
theorem tmE {a b p : Nat} (h : b ≤ p) : Int.tmod (((a : Nat) : Int) - ((b : Nat) : Int) + ((p : Nat) : Int)) ((p : Nat) : Int) = (((a + p - b) % p : Nat) : Int) := by
  rw [show (((a : Nat) : Int) - ((b : Nat) : Int) + ((p : Nat) : Int)) = ((a + p - b : Nat) : Int) by omega, ← Int.ofNat_tmod]
theorem st_ex {n h j : Nat} (hd : n % (2 * h) = 0) : j * n / (2 * h) = j * (n / (2 * h)) := Nat.mul_div_assoc j (Nat.dvd_of_mod_eq_zero hd)
end
section
/-- the law's one-cell rows -/
def wO (cJ : ClassId) (o : Nat) (f : Nat → Int64) : va_W := [(o, .inl (cJ, 1, .inr (.inl f)))]
def wE (cD : ClassId) (o : Nat) (g : Nat → UInt64) : va_W := [(o, .inl (cD, 1, .inr (.inr (.inr (.inl g)))))]
def w0X (h : Nat) : va_W := [(h, .inr (0, [.null, nV 0, nV 0, nV 0, nV 0, nV 0, nV 0]))]
def w0M (h : Nat) : va_W := [(h, .inr (1, [nV 0, nV 0, nV 0, nV 0, nV 0, .null, .null]))]
/-- the script -/
def xsx : Fx → Nat → Nat → (Nat → Int32) → Prop
  | (_, _, _, _, s, _, _, _, _, _, _, _, _, _, A, _), b, L, xs => va_X b L xs s s.heap ∧ b < s.heap.size ∧ ¬ A b
theorem arrK {args : Array Value} {s : State} {ty : FieldType} (h : (Cond.arrayClass ty).before args s = true) : ∃ cA : ClassId, ArrOfT s cA ty ∧ s.vm.findClass ("[" ++ ty.toString) = some cA := by
  obtain ⟨c, kA, comp, h1, h2, h3⟩ := Cond.arrayClass_spec h
  exact ⟨c, fun n z => ⟨fun k h => (by cases h), kA, h2, comp, h3⟩, h1⟩
section XW4
variable {φ : Fx} {l : Launch} {D : va_G} {cl : List vw_C} {tys : List (ClassId × FieldType)} {R : Room} {cc : ByteArray} {own : String} {Ts : List Cond} {nL k n : Nat} {w : va_W} {pc : Nat} {lv : List (Nat × Value)} {st rest : List Value}
theorem xw_sld (C : xc φ l R D cl tys nL cc own Ts) {b L : Nat} {xs : Nat → Int32} (X : xsx φ b L xs) {i : Int} (j : Nat) (hi : i = (j : Int)) (hj : j < L) (hL : L < 2147483648) (d : decode cc pc = .ok (.iaload, 1)) (kk : xw φ k n w (pc + 1) lv (iV (xs j).toInt :: st)) : xw φ k n w pc lv (iV i :: .ref b :: st) := by
  obtain ⟨p, l, e, R, s, m, args, below, meth, c, Q, D, cl, tys, A, nL⟩ := φ
  obtain ⟨rfl, rfl, rfl, rfl, rfl, rfl, hx, hb, hml, hown, hts, hK, hA⟩ := C
  intro H locs ls hP hD hS h
  obtain ⟨hX, hbl, hbA⟩ := X
  subst hi
  refine va_sld hx hb hX hbl hbA hS (iI_in hj hL) d ?_
  rw [iI_cl (by omega), iI_of (xs j)]
  exact kk H locs ls hP hD hS h
theorem xw_slen (C : xc φ l R D cl tys nL cc own Ts) {b L : Nat} {xs : Nat → Int32} (X : xsx φ b L xs) (d : decode cc pc = .ok (.arraylength, 1)) (kk : xw φ k n w (pc + 1) lv (nV L :: st)) : xw φ k n w pc lv (.ref b :: st) := by
  obtain ⟨p, l, e, R, s, m, args, below, meth, c, Q, D, cl, tys, A, nL⟩ := φ
  obtain ⟨rfl, rfl, rfl, rfl, rfl, rfl, hx, hb, hml, hown, hts, hK, hA⟩ := C
  intro H locs ls hP hD hS h
  obtain ⟨hX, hbl, hbA⟩ := X
  refine va_slen hx hb hX hbl hbA hS d ?_
  have e9 : Int32.ofNat L = iI (L : Int) := (iI_nI L).symm
  rw [e9]
  exact kk H locs ls hP hD hS h
theorem xw_objInit (C : xc φ l R D cl tys nL cc own Ts) {idx a : Nat} (hw1 : Cond.methodLink own idx Lib.objectInit ∈ Ts) (hw2 : Cond.instanceMethod Lib.objectInit ∈ Ts) (hw3 : Cond.code Lib.objectInit ⟨#[0xb1]⟩ 1 none ∈ Ts) (hf : 1 ≤ R.frames) (hlo : (st.map fun v => v.category).sum + 12 ≤ R.locals) (d : decode cc pc = .ok (.invokespecial idx, 3)) (kk : xw φ k n w (pc + 3) lv st) : xw φ k n w pc lv (.ref a :: st) := by
  obtain ⟨p, l, e, R, s, m, args, below, meth, c, Q, D, cl, tys, A, nL⟩ := φ
  obtain ⟨rfl, rfl, rfl, rfl, rfl, rfl, hx, hb, hml, hown, hts, hK, hA⟩ := C
  intro H locs ls hP hD hS h
  refine W.objInit hx hb hown (hts _ hw1) (hts _ hw2) (hts _ hw3) rfl (h.1.trans hml.symm) rfl d hf (by show 2 * 0 + _ + 12 ≤ _; omega) ?_
  exact kk H locs ls hP hD hS h

theorem xw_newI (C : xc φ l R D cl tys nL cc own Ts) {cA : ClassId} {N : Nat} (t0 : Nat) (ht : tys[t0]? = some (cA, .int)) (hw : Cond.arrayClass .int ∈ Ts) (hN : N * componentBytes .int ≤ 536870912) (hc : k + 1 ≤ R.cells) (hs : n + N ≤ R.slots) (d : decode cc pc = .ok (.newarray .int, 2)) (kk : ∀ q : Nat, xw φ (k + 1) (n + N) (w ++ [(q, .inl (cA, N, .inl (fN (fun _ => 0))))]) (pc + 2) lv (.ref q :: st)) : xw φ k n w pc lv (nV N :: st) := by
  obtain ⟨p, l, e, R, s, m, args, below, meth, c, Q, D, cl, tys, A, nL⟩ := φ
  obtain ⟨rfl, rfl, rfl, rfl, rfl, rfl, hx, hb, hml, hown, hts, hK, hA⟩ := C
  intro H locs ls hP hD hS h
  have hN2 : N < 2147483648 := by
    have h9 : 1 ≤ componentBytes .int := by decide
    have h8 := Nat.mul_le_mul (Nat.le_refl N) h9
    omega
  have hn0 : ¬ iI (N : Int) < 0 := fun z => by
    have := (iI_lt (b := 0) (by omega) (by omega)).mp z
    omega
  refine va_newa (atype := .int) (ty := .int) hx hb (hts _ hw) rfl hK hP hD hS hA (a0 := (N, .inl (fN (fun _ => 0)))) (fun cA => rfl) hn0 (iI_cl hN2) hN hc hs d (fun q cB H1 hK1 hP hD hS => ?_)
  have e1 : s.vm.findClass ("[" ++ (FieldType.int).toString) = some cA := (hK.2 t0 _ ht).2
  have e2 : s.vm.findClass ("[" ++ (FieldType.int).toString) = some cB := (hK1.2 tys.length (cB, .int) (by rw [List.getElem?_append_right (Nat.le_refl _), Nat.sub_self]; rfl)).2
  obtain rfl : cA = cB := Option.some.inj (e1.symm.trans e2)
  exact kk q H1 locs ls hP hD hS h
theorem xw_newJ (C : xc φ l R D cl tys nL cc own Ts) {cA : ClassId} {N : Nat} (t0 : Nat) (ht : tys[t0]? = some (cA, .long)) (hw : Cond.arrayClass .long ∈ Ts) (hN : N * componentBytes .long ≤ 536870912) (hc : k + 1 ≤ R.cells) (hs : n + N ≤ R.slots) (d : decode cc pc = .ok (.newarray .long, 2)) (kk : ∀ q : Nat, xw φ (k + 1) (n + N) (w ++ [(q, .inl (cA, N, .inr (.inl (fun _ => 0))))]) (pc + 2) lv (.ref q :: st)) : xw φ k n w pc lv (nV N :: st) := by
  obtain ⟨p, l, e, R, s, m, args, below, meth, c, Q, D, cl, tys, A, nL⟩ := φ
  obtain ⟨rfl, rfl, rfl, rfl, rfl, rfl, hx, hb, hml, hown, hts, hK, hA⟩ := C
  intro H locs ls hP hD hS h
  have hN2 : N < 2147483648 := by
    have h9 : 1 ≤ componentBytes .long := by decide
    have h8 := Nat.mul_le_mul (Nat.le_refl N) h9
    omega
  have hn0 : ¬ iI (N : Int) < 0 := fun z => by
    have := (iI_lt (b := 0) (by omega) (by omega)).mp z
    omega
  refine va_newa (atype := .long) (ty := .long) hx hb (hts _ hw) rfl hK hP hD hS hA (a0 := (N, .inr (.inl (fun _ => 0)))) (fun cA => rfl) hn0 (iI_cl hN2) hN hc hs d (fun q cB H1 hK1 hP hD hS => ?_)
  have e1 : s.vm.findClass ("[" ++ (FieldType.long).toString) = some cA := (hK.2 t0 _ ht).2
  have e2 : s.vm.findClass ("[" ++ (FieldType.long).toString) = some cB := (hK1.2 tys.length (cB, .long) (by rw [List.getElem?_append_right (Nat.le_refl _), Nat.sub_self]; rfl)).2
  obtain rfl : cA = cB := Option.some.inj (e1.symm.trans e2)
  exact kk q H1 locs ls hP hD hS h
theorem xw_newD (C : xc φ l R D cl tys nL cc own Ts) {cA : ClassId} {N : Nat} (t0 : Nat) (ht : tys[t0]? = some (cA, .double)) (hw : Cond.arrayClass .double ∈ Ts) (hN : N * componentBytes .double ≤ 536870912) (hc : k + 1 ≤ R.cells) (hs : n + N ≤ R.slots) (d : decode cc pc = .ok (.newarray .double, 2)) (kk : ∀ q : Nat, xw φ (k + 1) (n + N) (w ++ [(q, .inl (cA, N, .inr (.inr (.inr (.inl (fun _ => 0))))))]) (pc + 2) lv (.ref q :: st)) : xw φ k n w pc lv (nV N :: st) := by
  obtain ⟨p, l, e, R, s, m, args, below, meth, c, Q, D, cl, tys, A, nL⟩ := φ
  obtain ⟨rfl, rfl, rfl, rfl, rfl, rfl, hx, hb, hml, hown, hts, hK, hA⟩ := C
  intro H locs ls hP hD hS h
  have hN2 : N < 2147483648 := by
    have h9 : 1 ≤ componentBytes .double := by decide
    have h8 := Nat.mul_le_mul (Nat.le_refl N) h9
    omega
  have hn0 : ¬ iI (N : Int) < 0 := fun z => by
    have := (iI_lt (b := 0) (by omega) (by omega)).mp z
    omega
  refine va_newa (atype := .double) (ty := .double) hx hb (hts _ hw) rfl hK hP hD hS hA (a0 := (N, .inr (.inr (.inr (.inl (fun _ => 0)))))) (fun cA => rfl) hn0 (iI_cl hN2) hN hc hs d (fun q cB H1 hK1 hP hD hS => ?_)
  have e1 : s.vm.findClass ("[" ++ (FieldType.double).toString) = some cA := (hK.2 t0 _ ht).2
  have e2 : s.vm.findClass ("[" ++ (FieldType.double).toString) = some cB := (hK1.2 tys.length (cB, .double) (by rw [List.getElem?_append_right (Nat.le_refl _), Nat.sub_self]; rfl)).2
  obtain rfl : cA = cB := Option.some.inj (e1.symm.trans e2)
  exact kk q H1 locs ls hP hD hS h
theorem xw_new (C : xc φ l R D cl tys nL cc own Ts) {Cn : String} {T : u_T} {N ci index : Nat} {fs : List Value} (hin : ∀ w ∈ u_ws Cn T N, w ∈ Ts) (ty : Nat → FieldType) (hty : ∀ k, k < N → parseFieldDescriptor (T k).2.2.1 = some (ty k)) (hw1 : Cond.classLink own index Cn ∈ Ts) (hw2 : Cond.instantiable Cn N ∈ Ts) (hw3 : Cond.initialized Cn ∈ Ts) (hc : cl[ci]? = some (Cn, T, N)) (hfs : ∀ j, j < N → defaultValue (ty j) = vp_V fs j) (hcl : k + 1 ≤ R.cells) (hsl : n + N ≤ R.slots) (d : decode cc pc = .ok (.new index, 3)) (kk : ∀ q : Nat, xw φ (k + 1) (n + N) (w ++ [(q, .inr (ci, fs))]) (pc + 3) lv (.ref q :: st)) : xw φ k n w pc lv st := by
  obtain ⟨p, l, e, R, s, m, args, below, meth, c, Q, D, cl, tys, A, nL⟩ := φ
  obtain ⟨rfl, rfl, rfl, rfl, rfl, rfl, hx, hb, hml, hown, hts, hK, hA⟩ := C
  intro H locs ls hP hD hS h
  exact va_new hx hb hts hin ty hty hown (hts _ hw1) (hts _ hw2) (hts _ hw3) hK hP hD hS hA hc hfs hcl hsl d (fun q H1 hP hD hS => kk q H1 locs ls hP hD hS h)
set_option maxHeartbeats 4000000 in
/-- a constructor called over a part of the world -/
theorem xw_IF (C : xc φ l R D cl tys nL cc own Ts) {index b maxL mc ms : Nat} {y : MethodName} {ws ws' : List Cond} {bytes : ByteArray} {rm : Room} {As : List Value} {Post : Option Value → va_W → Prop} {wc wr : va_W} {tysC : List (ClassId × FieldType)} (isC isR isT : List Nat)
    (hM : CT l y ws rm D cl tysC (.ref b :: As) wc Post mc ms) (hg : GoodIn Ts ws) (hw : ws = .code y bytes maxL none :: ws') (hrc : rm.cells = mc) (hrs : rm.slots = ms) (hw1 : Cond.initialized y.cls ∈ Ts) (hw2 : Cond.methodLink own index y ∈ Ts) (hw3 : Cond.instanceMethod y ∈ Ts) (hini : y.name = "<init>") {na : Nat} (hna : As.length = na)
    (hy : y.cls ≠ "java/lang/invoke/MethodHandle" ∧ y.cls ≠ "java/lang/invoke/VarHandle" ∧ (parseMethodDescriptor y.desc).map (fun d => d.parameters.length) = some na) (hR : rm.frames + 1 ≤ R.frames ∧ 8 + (maxL + 11) + rm.locals ≤ R.locals)
    (hC : isC.map (fun i => w[i]?) = wc.map some) (hC2 : isC.filterMap (fun i => w[i]?) = wc) (hRr : isR.map (fun i => w[i]?) = wr.map some) (hnd : va_nd isC = true ∧ va_nd isR = true) (hdis : ∀ i ∈ isR, i ∉ isC) (hT : isT.filterMap (fun i => tys[i]?) = tysC)
    (hst : st = As.reverse ++ .ref b :: rest) (hcat : (rest.map fun v => v.category).sum ≤ 8) (d : decode cc pc = .ok (.invokespecial index, 3)) (hf : k + mc ≤ R.cells ∧ n + ms ≤ R.slots)
    (kk : ∀ (v : Option Value) (w1 : va_W), Post v w1 → xw φ (k + mc) (n + ms) (wr ++ w1) (pc + 3) lv (v.toList ++ rest)) : xw φ k n w pc lv st := by
  obtain ⟨p, l, e, R, s, m, args, below, meth, c, Q, D, cl, tys, A, nL⟩ := φ
  obtain ⟨rfl, rfl, rfl, rfl, rfl, rfl, hx, hb, hml, hown, hts, hK, hA⟩ := C
  intro H locs ls hP hD hS h
  have hPc := hP.sub isC hC2
  have hDc := hD.sub isC hnd.1 hC
  have hKc := hK.sub isT hT
  have hF := va_free (wc := wc) hD hS hA isC hC
  refine xw_run (va_runI (As := As) (rest := rest) (b := b) ⟨hx, hb, hml, hown, hts⟩ (hM H.size) (cwI na hts hg hw hrc hrs (hts _ hw1) (hts _ hw2) (hts _ hw3) hini hy hR) ⟨ct_blind, fun U hU hW => ⟨rfl, by rw [hU], by rw [hU]; exact hPc, va_K.moved hW.alike hKc, hDc.weaken (fun _ _ _ _ => trivial)⟩⟩ rfl hna h.1 hst (lv_room hcat) d hf) hS hF ?_
  intro v w1 H1 locs1 hp hP1 hD1 hk1 hS1
  obtain ⟨hP2, hD2⟩ := va_join (wr := wr) (w1 := w1) hP hD isC isR hC hRr hnd.2 hdis hk1 hF hP1 hD1
  exact kk v w1 hp H1 locs1 ls hP2 hD2 hS1 h
end XW4
end
section
/-! ===== the layer over rows that are made anew: arrays of arrays, clones, a static table; contracts that find them ===== -/
abbrev nLaw : String := "ToneButterfliesLaw"
/-- the table of rings -/
def RG : Nat → Nat := fun j => [4, 5, 4, 13, 4, 409, 8, 17, 8, 41, 8, 73, 16, 17, 16, 97, 16, 113, 16, 433, 4, 17, 8, 97].getD j 0
def xyt (t : Nat) (A : Nat → Prop) (U : State) (H : Heap) : Prop := va_Z nLaw "RINGS" "[I" (.ref t) A U H ∧ va_T .int t 24 (fun j => nV (RG j)) A U H
/-- what making rows, cloning and the table want of a start -/
def xy (A : Nat → Prop) (U : State) : Prop := va_AOA .int U ∧ va_Nw (.castable "[I" "java/lang/Cloneable") U ∧ ∃ t : Nat, xyt t A U U.heap
theorem xy_call {A B : Nat → Prop} {s U : State} {H : Heap} {locs : List Loc} (h : xy A s) (hU : U.heap = H) (hW : s.WarmedH U.vm) (hS : va_S A s.heap H locs) (hB : ∀ q, B q → A q) : xy B U := by
  obtain ⟨h1, h2, t, h3, h4⟩ := h
  refine ⟨h1.moved hW.alike, va_Nw.warmC hW h2, t, ?_, ?_⟩
  · rw [hU]; exact ((h3.moved hW.alike).kept hS.2.1).narrow hB
  · rw [hU]; exact ((h4.moved hW.alike).kept hS.2.1).narrow hB
theorem xy_blind {A : Nat → Prop} {U : State} {g : JFrame} {mk : MethodId} {a : Array Value} (h : xy A U) : xy A (U.calling g mk a) := by
  obtain ⟨h1, h2, t, h3, h4⟩ := h
  exact ⟨h1.moved (Vm.Alike.refl U.vm), va_tabs rfl (u := U) rfl h2, t, h3.moved (Vm.Alike.refl U.vm), h4.moved (Vm.Alike.refl U.vm)⟩
def cyP (D : va_G) (cl : List vw_C) (tys : List (ClassId × FieldType)) (av : List Value) (w0 : va_W) (sz : Nat) : Array Value → State → Prop := va_Pc av (fun U => (U.heap.size = sz ∧ va_P D cl w0 U.heap ∧ va_K D cl tys U ∧ va_D (fun _ => True) w0) ∧ xy (va_A w0 sz) U)
theorem cy_blind {D : va_G} {cl : List vw_C} {tys : List (ClassId × FieldType)} {av : List Value} {w0 : va_W} {sz : Nat} : FrameBlind (cyP D cl tys av w0 sz) := fun a U g mk q => by
  obtain ⟨q0, ⟨q1, qP, qK, qD⟩, qz⟩ := q
  exact ⟨q0, ⟨q1, qP, va_K.moved (u := U) (U := U.calling g mk a) (Vm.Alike.refl U.vm) qK, qD⟩, xy_blind qz⟩
/-- a CONTRACT of a method that makes rows of rows, clones, or reads the table -/
def CY (l : Launch) (y : MethodName) (ws : List Cond) (rm : Room) (D : va_G) (cl : List vw_C) (tys : List (ClassId × FieldType)) (av : List Value) (w0 : va_W) (Post : Option Value → va_W → Prop) (mc ms : Nat) : Prop :=
  ∀ sz : Nat, Met l y ws rm (cyP D cl tys av w0 sz) (ctQ D cl w0 sz Post) mc ms (va_A w0 sz)
def xyc : Fx → Prop
  | (_, _, _, _, s, _, _, _, _, _, _, _, _, _, A, _) => xy A s
def xyf : Fx → Nat → Prop
  | (_, _, _, _, s, _, _, _, _, _, _, _, _, _, A, _), t => xyt t A s s.heap
theorem xyc_t {φ : Fx} (Y : xyc φ) : ∃ t : Nat, xyf φ t := by
  obtain ⟨p, l, e, R, s, m, args, below, meth, c, Q, D, cl, tys, A, nL⟩ := φ
  exact Y.2.2
set_option maxHeartbeats 4000000 in
theorem cy_ofI {l : Launch} {y : MethodName} {ws ws' : List Cond} {rm : Room} {D : va_G} {cl : List vw_C} {tys : List (ClassId × FieldType)} {av : List Value} {w0 : va_W} {Post : Option Value → va_W → Prop} {mc ms : Nat} {cc : ByteArray} {maxL : Nat} {ret : Option FieldType}
    (hy : plainFor y = true) (hw : ws = Cond.code y cc maxL ret :: ws') (hlen : (lg_sl av).length ≤ maxL)
    (body : ∀ φ : Fx, xc φ l rm D cl tys maxL cc y.cls ws → xr φ w0 Post ret mc ms → (y.name = "<init>" → xi φ) → xyc φ → xw φ 0 0 w0 0 (lv_args 0 av) []) : CY l y ws rm D cl tys av w0 Post mc ms := by
  intro sz
  refine va_MetF (cc := cc) (maxL := maxL) (ret := ret) hy hw ?_
  intro p e s m args below meth c s₁ B hml hv
  obtain ⟨rfl, ⟨hsz, hP, hK, hD0⟩, hz⟩ := hv
  have hts := atoms_spec (ws := ws) B.pre
  have hown : s.vm.findClass y.cls = some m.cls := findClass_of_methodNamed B.named
  subst hsz
  rw [lg_entry_eq]
  have hin : y.name = "<init>" → meth.name = "<init>" := fun h => (name_of_methodNamed B.named B.method).1.trans h
  exact body (p, l, e, rm, s, m, av.toArray, below, meth, c, MQ below (ctQ D cl w0 s.heap.size Post) av.toArray s mc ms (va_A w0 s.heap.size), D, cl, tys, va_A w0 s.heap.size, maxL)
    ⟨rfl, rfl, rfl, rfl, rfl, rfl, B.exec, B.bytes, hml, hown, hts, hK, fun q h => Or.inr h⟩ ⟨B.returns, B.notSynchronized, rfl, rfl⟩ hin hz s.heap [] _ hP hD0.self va_S.rf (lv_entry av hlen)
section XW5
variable {φ : Fx} {l : Launch} {D : va_G} {cl : List vw_C} {tys : List (ClassId × FieldType)} {R : Room} {cc : ByteArray} {own : String} {Ts : List Cond} {nL k n : Nat} {w : va_W} {pc : Nat} {lv : List (Nat × Value)} {st rest : List Value}
set_option maxHeartbeats 4000000 in
theorem xw_YVF (C : xc φ l R D cl tys nL cc own Ts) (Y : xyc φ) {Cn : String} {T : u_T} {N : Nat} {index b ci q0 maxL mc ms : Nat} {y : MethodName} {ws ws' : List Cond} {bytes : ByteArray} {ret : Option FieldType} {rm : Room} {As fs : List Value} {Post : Option Value → va_W → Prop} {wc wr : va_W} {tysC : List (ClassId × FieldType)} (isC isR isT : List Nat)
    (hM : CY l y ws rm D cl tysC (.ref b :: As) wc Post mc ms) (hg : GoodIn Ts (wsV own index Cn y ws)) (hw : ws = .code y bytes maxL ret :: ws') (hrc : rm.cells = mc) (hrs : rm.slots = ms) {na : Nat} (hna : As.length = na)
    (hy : y.cls = Cn ∧ y.cls ≠ "java/lang/invoke/MethodHandle" ∧ y.cls ≠ "java/lang/invoke/VarHandle" ∧ (parseMethodDescriptor y.desc).map (fun d => d.parameters.length) = some na) (hR : rm.frames + 1 ≤ R.frames ∧ 8 + (maxL + 11) + rm.locals ≤ R.locals)
    (hC : isC.map (fun i => w[i]?) = wc.map some) (hC2 : isC.filterMap (fun i => w[i]?) = wc) (hRr : isR.map (fun i => w[i]?) = wr.map some) (hnd : va_nd isC = true ∧ va_nd isR = true) (hdis : ∀ i ∈ isR, i ∉ isC) (hT : isT.filterMap (fun i => tys[i]?) = tysC)
    (hrecv : wc[q0]? = some (b, .inr (ci, fs))) (hci : cl[ci]? = some (Cn, T, N)) (hst : st = As.reverse ++ .ref b :: rest) (hcat : (rest.map fun v => v.category).sum ≤ 8) (d : decode cc pc = .ok (.invokevirtual index, 3)) (hf : k + mc ≤ R.cells ∧ n + ms ≤ R.slots)
    (kk : ∀ (v : Option Value) (w1 : va_W), Post v w1 → xw φ (k + mc) (n + ms) (wr ++ w1) (pc + 3) lv (v.toList ++ rest)) : xw φ k n w pc lv st := by
  obtain ⟨p, l, e, R, s, m, args, below, meth, c, Q, D, cl, tys, A, nL⟩ := φ
  obtain ⟨rfl, rfl, rfl, rfl, rfl, rfl, hx, hb, hml, hown, hts, hK, hA⟩ := C
  intro H locs ls hP hD hS h
  have hPc := hP.sub isC hC2
  have hDc := hD.sub isC hnd.1 hC
  have hKc := hK.sub isT hT
  have hF := va_free (wc := wc) hD hS hA isC hC
  refine xw_run (va_runV (As := As) (rest := rest) (b := b) (C := Cn) ⟨hx, hb, hml, hown, hts⟩ (hM H.size) (cwV na hts hg hw hrc hrs hy hR) ⟨cy_blind, va_recv hKc hPc hci hrecv, fun U hU hW => ⟨rfl, ⟨by rw [hU], by rw [hU]; exact hPc, va_K.moved hW.alike hKc, hDc.weaken (fun _ _ _ _ => trivial)⟩, xy_call Y hU hW hS hF⟩⟩ rfl hna h.1 hst (lv_room hcat) d hf) hS hF ?_
  intro v w1 H1 locs1 hp hP1 hD1 hk1 hS1
  obtain ⟨hP2, hD2⟩ := va_join (wr := wr) (w1 := w1) hP hD isC isR hC hRr hnd.2 hdis hk1 hF hP1 hD1
  exact kk v w1 hp H1 locs1 ls hP2 hD2 hS1 h
set_option maxHeartbeats 4000000 in
theorem xw_YSF (C : xc φ l R D cl tys nL cc own Ts) (Y : xyc φ) {index maxL mc ms : Nat} {y : MethodName} {ws ws' : List Cond} {bytes : ByteArray} {ret : Option FieldType} {rm : Room} {As : List Value} {Post : Option Value → va_W → Prop} {wc wr : va_W} {tysC : List (ClassId × FieldType)} (isC isR isT : List Nat)
    (hM : CY l y ws rm D cl tysC As wc Post mc ms) (hg : GoodIn Ts (va_wsS own index y ws)) (hw : ws = .code y bytes maxL ret :: ws') (hrc : rm.cells = mc) (hrs : rm.slots = ms) {na : Nat} (hna : As.length = na)
    (hy : y.cls ≠ "java/lang/invoke/MethodHandle" ∧ y.cls ≠ "java/lang/invoke/VarHandle" ∧ (parseMethodDescriptor y.desc).map (fun d => d.parameters.length) = some na) (hR : rm.frames + 1 ≤ R.frames ∧ 8 + (maxL + 11) + rm.locals ≤ R.locals)
    (hC : isC.map (fun i => w[i]?) = wc.map some) (hC2 : isC.filterMap (fun i => w[i]?) = wc) (hRr : isR.map (fun i => w[i]?) = wr.map some) (hnd : va_nd isC = true ∧ va_nd isR = true) (hdis : ∀ i ∈ isR, i ∉ isC) (hT : isT.filterMap (fun i => tys[i]?) = tysC)
    (hst : st = As.reverse ++ rest) (hcat : (rest.map fun v => v.category).sum ≤ 8) (d : decode cc pc = .ok (.invokestatic index, 3)) (hf : k + mc ≤ R.cells ∧ n + ms ≤ R.slots)
    (kk : ∀ (v : Option Value) (w1 : va_W), Post v w1 → xw φ (k + mc) (n + ms) (wr ++ w1) (pc + 3) lv (v.toList ++ rest)) : xw φ k n w pc lv st := by
  obtain ⟨p, l, e, R, s, m, args, below, meth, c, Q, D, cl, tys, A, nL⟩ := φ
  obtain ⟨rfl, rfl, rfl, rfl, rfl, rfl, hx, hb, hml, hown, hts, hK, hA⟩ := C
  intro H locs ls hP hD hS h
  have hPc := hP.sub isC hC2
  have hDc := hD.sub isC hnd.1 hC
  have hKc := hK.sub isT hT
  have hF := va_free (wc := wc) hD hS hA isC hC
  refine xw_run (va_runS (As := As) (rest := rest) ⟨hx, hb, hml, hown, hts⟩ (hM H.size) (va_cwS na hts hg hw hrc hrs hy hR) ⟨cy_blind, fun U hU hW => ⟨rfl, ⟨by rw [hU], by rw [hU]; exact hPc, va_K.moved hW.alike hKc, hDc.weaken (fun _ _ _ _ => trivial)⟩, xy_call Y hU hW hS hF⟩⟩ rfl hna h.1 hst (lv_room hcat) d hf) hS hF ?_
  intro v w1 H1 locs1 hp hP1 hD1 hk1 hS1
  obtain ⟨hP2, hD2⟩ := va_join (wr := wr) (w1 := w1) hP hD isC isR hC hRr hnd.2 hdis hk1 hF hP1 hD1
  exact kk v w1 hp H1 locs1 ls hP2 hD2 hS1 h
set_option maxHeartbeats 4000000 in
theorem xw_YIF (C : xc φ l R D cl tys nL cc own Ts) (Y : xyc φ) {index b maxL mc ms : Nat} {y : MethodName} {ws ws' : List Cond} {bytes : ByteArray} {rm : Room} {As : List Value} {Post : Option Value → va_W → Prop} {wc wr : va_W} {tysC : List (ClassId × FieldType)} (isC isR isT : List Nat)
    (hM : CY l y ws rm D cl tysC (.ref b :: As) wc Post mc ms) (hg : GoodIn Ts ws) (hw : ws = .code y bytes maxL none :: ws') (hrc : rm.cells = mc) (hrs : rm.slots = ms) (hw1 : Cond.initialized y.cls ∈ Ts) (hw2 : Cond.methodLink own index y ∈ Ts) (hw3 : Cond.instanceMethod y ∈ Ts) (hini : y.name = "<init>") {na : Nat} (hna : As.length = na)
    (hy : y.cls ≠ "java/lang/invoke/MethodHandle" ∧ y.cls ≠ "java/lang/invoke/VarHandle" ∧ (parseMethodDescriptor y.desc).map (fun d => d.parameters.length) = some na) (hR : rm.frames + 1 ≤ R.frames ∧ 8 + (maxL + 11) + rm.locals ≤ R.locals)
    (hC : isC.map (fun i => w[i]?) = wc.map some) (hC2 : isC.filterMap (fun i => w[i]?) = wc) (hRr : isR.map (fun i => w[i]?) = wr.map some) (hnd : va_nd isC = true ∧ va_nd isR = true) (hdis : ∀ i ∈ isR, i ∉ isC) (hT : isT.filterMap (fun i => tys[i]?) = tysC)
    (hst : st = As.reverse ++ .ref b :: rest) (hcat : (rest.map fun v => v.category).sum ≤ 8) (d : decode cc pc = .ok (.invokespecial index, 3)) (hf : k + mc ≤ R.cells ∧ n + ms ≤ R.slots)
    (kk : ∀ (v : Option Value) (w1 : va_W), Post v w1 → xw φ (k + mc) (n + ms) (wr ++ w1) (pc + 3) lv (v.toList ++ rest)) : xw φ k n w pc lv st := by
  obtain ⟨p, l, e, R, s, m, args, below, meth, c, Q, D, cl, tys, A, nL⟩ := φ
  obtain ⟨rfl, rfl, rfl, rfl, rfl, rfl, hx, hb, hml, hown, hts, hK, hA⟩ := C
  intro H locs ls hP hD hS h
  have hPc := hP.sub isC hC2
  have hDc := hD.sub isC hnd.1 hC
  have hKc := hK.sub isT hT
  have hF := va_free (wc := wc) hD hS hA isC hC
  refine xw_run (va_runI (As := As) (rest := rest) (b := b) ⟨hx, hb, hml, hown, hts⟩ (hM H.size) (cwI na hts hg hw hrc hrs (hts _ hw1) (hts _ hw2) (hts _ hw3) hini hy hR) ⟨cy_blind, fun U hU hW => ⟨rfl, ⟨by rw [hU], by rw [hU]; exact hPc, va_K.moved hW.alike hKc, hDc.weaken (fun _ _ _ _ => trivial)⟩, xy_call Y hU hW hS hF⟩⟩ rfl hna h.1 hst (lv_room hcat) d hf) hS hF ?_
  intro v w1 H1 locs1 hp hP1 hD1 hk1 hS1
  obtain ⟨hP2, hD2⟩ := va_join (wr := wr) (w1 := w1) hP hD isC isR hC hRr hnd.2 hdis hk1 hF hP1 hD1
  exact kk v w1 hp H1 locs1 ls hP2 hD2 hS1 h
theorem xw_drop {x : va_W} (kk : xw φ k n w pc lv st) : xw φ k n (w ++ x) pc lv st := by
  obtain ⟨p, l, e, R, s, m, args, below, meth, c, Q, D, cl, tys, A, nL⟩ := φ
  have g : ∀ (i : Nat) (q : Nat × va_E), w[i]? = some q → (w ++ x)[i]? = some q := fun i q h => by
    rw [List.getElem?_append_left (List.getElem?_eq_some_iff.mp h).1]; exact h
  exact fun H locs ls hP hD hS h => kk H locs ls (fun i q hq => hP i q (g i q hq)) ⟨fun i j a b hi hj => hD.1 i j a b (g i a hi) (g j b hj), fun i q hq => hD.2 i q (g i q hq)⟩ hS h
theorem xw_ldc (C : xc φ l R D cl tys nL cc own Ts) {index : Nat} {v : Int32} (hw : Cond.constant own index v ∈ Ts) (d : decode cc pc = .ok (.ldc index, 2)) (kk : xw φ k n w (pc + 2) lv (.int v :: st)) : xw φ k n w pc lv st := by
  obtain ⟨p, l, e, R, s, m, args, below, meth, c, Q, D, cl, tys, A, nL⟩ := φ
  obtain ⟨rfl, rfl, rfl, rfl, rfl, rfl, hx, hb, hml, hown, hts, hK, hA⟩ := C
  intro H locs ls hP hD hS h
  exact lv_ldc hx hb hown (hts _ hw) d (kk H locs ls hP hD hS h)
theorem xw_nonnull (C : xc φ l R D cl tys nL cc own Ts) {a : Nat} {off : Int} {tgt : Nat} (d : decode cc pc = .ok (.ifnonnull off, 3)) (ht : (pc : Int) + off = (tgt : Int)) (kk : xw φ k n w tgt lv st) : xw φ k n w pc lv (.ref a :: st) := by
  obtain ⟨p, l, e, R, s, m, args, below, meth, c, Q, D, cl, tys, A, nL⟩ := φ
  obtain ⟨rfl, rfl, rfl, rfl, rfl, rfl, hx, hb, hml, hown, hts, hK, hA⟩ := C
  intro H locs ls hP hD hS h
  exact lv_ifnonnull hx hb d ht (kk H locs ls hP hD hS h)
theorem xw_aret (C : xc φ l R D cl tys nL cc own Ts) {w0 : va_W} {Post : Option Value → va_W → Prop} {mc ms a : Nat} {rt : FieldType} (r : xr φ w0 Post (some rt) mc ms) (hrt : (∃ q, rt = .object q) ∨ ∃ t, rt = .array t) (hk : k ≤ mc) (hn : n ≤ ms) (d : decode cc pc = .ok (.areturn, 1)) (hp : Post (some (.ref a)) w) : xw φ k n w pc lv [.ref a] := by
  obtain ⟨p, l, e, R, s, m, args, below, meth, c, Q, D, cl, tys, A, nL⟩ := φ
  obtain ⟨rfl, rfl, rfl, rfl, rfl, rfl, hx, hb, hml, hown, hts, hK, hA⟩ := C
  intro H locs ls hP hD hS h
  obtain ⟨hr, hlocks, rfl, rfl⟩ := r
  exact W.widen hk hn (W.aret hx hb hr hrt (Or.inr ⟨a, rfl⟩) (fun t ht hW => ⟨⟨_, _, rfl, hp, by rw [ht]; exact hP, hD⟩, hS.F ht⟩) hS.2.2 d hlocks)
theorem xw_gets (C : xc φ l R D cl tys nL cc own Ts) {t index : Nat} (X : xyf φ t) (hw : Cond.fieldLink own index nLaw "RINGS" "[I" ∈ Ts) (d : decode cc pc = .ok (.getstatic index, 3)) (kk : xw φ k n w (pc + 3) lv (.ref t :: st)) : xw φ k n w pc lv st := by
  obtain ⟨p, l, e, R, s, m, args, below, meth, c, Q, D, cl, tys, A, nL⟩ := φ
  obtain ⟨rfl, rfl, rfl, rfl, rfl, rfl, hx, hb, hml, hown, hts, hK, hA⟩ := C
  intro H locs ls hP hD hS h
  exact va_gets hx hb X.1 hS hown (hts _ hw) (fun _ z => z) d (kk H locs ls hP hD hS h)
theorem xw_tlen (C : xc φ l R D cl tys nL cc own Ts) {t : Nat} (X : xyf φ t) (d : decode cc pc = .ok (.arraylength, 1)) (kk : xw φ k n w (pc + 1) lv (nV 24 :: st)) : xw φ k n w pc lv (.ref t :: st) := by
  obtain ⟨p, l, e, R, s, m, args, below, meth, c, Q, D, cl, tys, A, nL⟩ := φ
  obtain ⟨rfl, rfl, rfl, rfl, rfl, rfl, hx, hb, hml, hown, hts, hK, hA⟩ := C
  intro H locs ls hP hD hS h
  exact va_tlen hx hb X.2 hS (by decide) d (kk H locs ls hP hD hS h)
theorem xw_tald (C : xc φ l R D cl tys nL cc own Ts) {t j : Nat} (X : xyf φ t) (hj : j < 24) (d : decode cc pc = .ok (.iaload, 1)) (kk : xw φ k n w (pc + 1) lv (nV (RG j) :: st)) : xw φ k n w pc lv (nV j :: .ref t :: st) := by
  obtain ⟨p, l, e, R, s, m, args, below, meth, c, Q, D, cl, tys, A, nL⟩ := φ
  obtain ⟨rfl, rfl, rfl, rfl, rfl, rfl, hx, hb, hml, hown, hts, hK, hA⟩ := C
  intro H locs ls hP hD hS h
  exact va_ti hx hb X.2 hS (iI_in hj (by omega)) (by rw [iI_cl (by omega)]) d (kk H locs ls hP hD hS h)
theorem xw_aald (C : xc φ l R D cl tys nL cc own Ts) {a N r : Nat} {cQ : ClassId} {f : Nat → Option Nat} (q0 t0 j : Nat) (ha : w[q0]? = some (a, .inl (cQ, N, .inr (.inr (.inr (.inr f)))))) (ht : tys[t0]? = some (cQ, .array .int)) (hj : j < N) (hN : N < 2147483648) (hf : f j = some r) (d : decode cc pc = .ok (.aaload, 1)) (kk : xw φ k n w (pc + 1) lv (.ref r :: st)) : xw φ k n w pc lv (nV j :: .ref a :: st) := by
  obtain ⟨p, l, e, R, s, m, args, below, meth, c, Q, D, cl, tys, A, nL⟩ := φ
  obtain ⟨rfl, rfl, rfl, rfl, rfl, rfl, hx, hb, hml, hown, hts, hK, hA⟩ := C
  intro H locs ls hP hD hS h
  have hin := iI_in hj hN
  have hlt : (iI (j : Int)).toNatClampNeg < N := Nat.not_le.mp fun q => hin (Or.inr q)
  exact W.aald (v := .ref r) (ty := .array .int) hx hb (hP q0 _ ha) ((hK.2 t0 _ ht).1 N (fun j => va_rf (f j))) rfl (fun q => by cases q) (by show ¬ (iI (j : Int) < 0 ∨ (arrV _ _ _).slots.size ≤ _); rw [arrV_size]; exact hin) (by show (arrV _ _ _).slots[_]? = _; rw [arrV_read _ _ hlt, iI_cl (by omega), hf]; rfl) rfl rfl d (kk H locs ls hP hD hS h)
set_option maxHeartbeats 4000000 in
theorem xw_aast (C : xc φ l R D cl tys nL cc own Ts) (Y : xyc φ) {a N v N1 : Nat} {cQ cI : ClassId} {f : Nat → Option Nat} {g : Nat → Int32} {w' : va_W} (q0 t0 t1 qk j : Nat) (ha : w[q0]? = some (a, .inl (cQ, N, .inr (.inr (.inr (.inr f)))))) (ht : tys[t0]? = some (cQ, .array .int)) (ht1 : tys[t1]? = some (cI, .int)) (hv : w[qk]? = some (v, .inl (cI, N1, .inl g))) (hj : j < N) (hN : N < 2147483648) (hw : w.set q0 (a, .inl (cQ, N, .inr (.inr (.inr (.inr (va_up f j (some v))))))) = w') (d : decode cc pc = .ok (.aastore, 1)) (kk : xw φ k n w' (pc + 1) lv st) : xw φ k n w pc lv (.ref v :: nV j :: .ref a :: st) := by
  obtain ⟨p, l, e, R, s, m, args, below, meth, c, Q, D, cl, tys, A, nL⟩ := φ
  obtain ⟨rfl, rfl, rfl, rfl, rfl, rfl, hx, hb, hml, hown, hts, hK, hA⟩ := C
  intro H locs ls hP hD hS h
  have hin := iI_in hj hN
  have hlt : (iI (j : Int)).toNatClampNeg < N := Nat.not_le.mp fun q => hin (Or.inr q)
  have h0 : ¬ iI (j : Int) < 0 := fun q => hin (Or.inl q)
  obtain ⟨comp, cA2, kA, k3, -, k1, k2, k4⟩ := arrayOverA_spec (va_AOA.use (args := args) Y.1)
  have e1 : s.vm.findClass ("[" ++ (FieldType.array .int).toString) = some cQ := (hK.2 t0 _ ht).2
  obtain rfl : cQ = cA2 := Option.some.inj (e1.symm.trans k4)
  have e2 : s.vm.findClass ("[" ++ FieldType.int.toString) = some cI := (hK.2 t1 _ ht1).2
  have e3 : ("[" ++ FieldType.int.toString) = (FieldType.array .int).toString := by decide
  rw [e3] at e2
  obtain rfl : cI = comp := Option.some.inj (e2.symm.trans k3)
  obtain ⟨kE, hkE, -⟩ := Vm.findClass_spec k3
  refine W.aast hx hb (hP q0 _ ha) (fun q h => by cases h) (fun h => by cases h) k1 k2 rfl hkE ⟨h0, by show _ < (arrV _ _ _).slots.size; rw [arrV_size]; exact hlt⟩ (hP qk _ hv) (fun q h => by cases h) hkE (va_asg _ _) rfl rfl d fun H1 e z oq => ?_
  subst hw
  refine kk H1 _ ls (hP.set hD ha ?_ oq) (hD.set ha) (hS.put z oq (hD.2 q0 _ ha)) h
  show H1[a]? = some (vp_cell _ _)
  rw [e, iI_cl (show j < 2147483648 by omega)]
  rw [vp_cell_q, vp_cell_q, arrV_store]
  congr 2
  funext q
  by_cases hq : q = j
  · subst hq
    simp [updV, va_up, va_rf]
  · simp [updV, va_up, hq]
set_option maxHeartbeats 4000000 in
theorem xw_clone (C : xc φ l R D cl tys nL cc own Ts) (Y : xyc φ) {a N index : Nat} {cI : ClassId} {B : Nat → Nat} (q0 t0 : Nat) (ha : w[q0]? = some (a, .inl (cI, N, .inl (fN B)))) (ht : tys[t0]? = some (cI, .int)) (hw1 : Cond.methodLink own index ⟨"[I", "clone", "()Ljava/lang/Object;"⟩ ∈ Ts) (hw2 : Cond.sameMethod "[I" "java/lang/Object" "clone" "()Ljava/lang/Object;" ∈ Ts)
    (hw3 : Cond.native ⟨"java/lang/Object", "clone", "()Ljava/lang/Object;"⟩ ∈ Ts) (hw4 : Cond.instanceMethod ⟨"java/lang/Object", "clone", "()Ljava/lang/Object;"⟩ ∈ Ts) (hw5 : Cond.selects "[I" ⟨"[I", "clone", "()Ljava/lang/Object;"⟩ ⟨"java/lang/Object", "clone", "()Ljava/lang/Object;"⟩ ∈ Ts)
    (hf : 1 ≤ R.frames) (hlo : (st.map fun v => v.category).sum + 14 ≤ R.locals) (hc : k + 1 ≤ R.cells) (hs : n + N ≤ R.slots) (d : decode cc pc = .ok (.invokevirtual index, 3)) (kk : ∀ q : Nat, xw φ (k + 1) (n + N) (w ++ [(q, .inl (cI, N, .inl (fN B)))]) (pc + 3) lv (.ref q :: st)) : xw φ k n w pc lv (.ref a :: st) := by
  obtain ⟨p, l, e, R, s, m, args, below, meth, c, Q, D, cl, tys, A, nL⟩ := φ
  obtain ⟨rfl, rfl, rfl, rfl, rfl, rfl, hx, hb, hml, hown, hts, hK, hA⟩ := C
  intro H locs ls hP hD hS h
  refine va_clone hx hb (hml.trans h.1.symm) hown (hts _ hw1) (hts _ hw2) (hts _ hw3) (hts _ hw4) (hts _ hw5) Y.2.1 hK hP hD hS hA q0 t0 ha ht (va_nm_int (hK.2 t0 _ ht).2) (va_fit (fun i hi => rfl)) hf hlo hc hs d (fun q H1 hK1 hP hD hS => ?_)
  exact kk q H1 locs ls hP hD hS h
theorem xw_castA (C : xc φ l R D cl tys nL cc own Ts) {a N index : Nat} {cI : ClassId} {g : Nat → Int32} (q0 t0 : Nat) (ha : w[q0]? = some (a, .inl (cI, N, .inl g))) (ht : tys[t0]? = some (cI, .int)) (hw : Cond.classLink own index "[I" ∈ Ts) (d : decode cc pc = .ok (.checkcast index, 3)) (kk : xw φ k n w (pc + 3) lv (.ref a :: st)) : xw φ k n w pc lv (.ref a :: st) := by
  obtain ⟨p, l, e, R, s, m, args, below, meth, c, Q, D, cl, tys, A, nL⟩ := φ
  obtain ⟨rfl, rfl, rfl, rfl, rfl, rfl, hx, hb, hml, hown, hts, hK, hA⟩ := C
  intro H locs ls hP hD hS h
  exact va_castA hx hb hown (hts _ hw) hP q0 ha (va_nm_int (hK.2 t0 _ ht).2) d (kk H locs ls hP hD hS h)
/-- four rows of K zeros, made at once -/
def wR (cI cQ : ClassId) (q : Nat) (r : Nat → Nat) (K : Nat) (B : Nat → Nat → Nat) : va_W := [(q, .inl (cQ, 4, .inr (.inr (.inr (.inr (fun i => if i < 4 then some (r i) else none)))))), (r 0, .inl (cI, K, .inl (fN (B 0)))), (r 1, .inl (cI, K, .inl (fN (B 1)))), (r 2, .inl (cI, K, .inl (fN (B 2)))), (r 3, .inl (cI, K, .inl (fN (B 3))))]
set_option maxHeartbeats 4000000 in
theorem xw_mna (C : xc φ l R D cl tys nL cc own Ts) (Y : xyc φ) {index K : Nat} {cI cQ : ClassId} (t0 t1 : Nat) (ht : tys[t0]? = some (cI, .int)) (ht1 : tys[t1]? = some (cQ, .array .int)) (hw1 : Cond.classLink own index "[[I" ∈ Ts) (hw2 : Cond.arrayClass .int ∈ Ts) (hK1 : K ≤ 1000) (hc : k + 5 ≤ R.cells) (hs : n + (4 + 4 * K) ≤ R.slots) (d : decode cc pc = .ok (.multianewarray index 2, 4)) (kk : ∀ (q : Nat) (r : Nat → Nat), xw φ (k + 5) (n + (4 + 4 * K)) (w ++ wR cI cQ q r K (fun _ _ => 0)) (pc + 4) lv (.ref q :: st)) : xw φ k n w pc lv (nV K :: nV 4 :: st) := by
  obtain ⟨p, l, e, R, s, m, args, below, meth, c, Q, D, cl, tys, A, nL⟩ := φ
  obtain ⟨rfl, rfl, rfl, rfl, rfl, rfl, hx, hb, hml, hown, hts, hK, hA⟩ := C
  intro H locs ls hP hD hS h
  have n0 : ∀ q : Nat, q < 2147483648 → ¬ iI (q : Int) < 0 := fun q hq z => by
    have := (iI_lt (b := 0) (by omega) (by omega)).mp z
    omega
  have e1 : s.vm.findClass ("[" ++ FieldType.int.toString) = some cI := (hK.2 t0 _ ht).2
  have e3 : ("[" ++ FieldType.int.toString) = (FieldType.array .int).toString := by decide
  have e4 : ("[" ++ (FieldType.array .int).toString) = "[[I" := by decide
  refine va_mna (X := w) (L := []) (f := fun _ => .inl (cI, 0, .inl (fun _ => 0))) (own := own) (ty := .int) (cy := cI) hx hb hown (e4 ▸ hts _ hw1) Y.1 (hts _ hw2) (e3 ▸ e1) hK (by show va_P D cl (w ++ []) H; rw [List.append_nil]; exact hP) (by show va_D A (w ++ []); rw [List.append_nil]; exact hD) hS hA (n0 4 (by decide)) (n0 K (by omega)) (iI_cl (show 4 < 2147483648 by decide)) (iI_cl (show K < 2147483648 by omega)) (z := (K, .inl (fN (fun _ => 0)))) (by decide) (by show K * 4 ≤ _; omega) (by omega) rfl rfl (by show k + 5 ≤ _; exact hc) hs (fun c => arrV_new c K (.int 0)) d (fun q r cA H1 hr hL hK2 hP2 hD2 hS2 => ?_)
  have e5 : s.vm.findClass ("[" ++ (FieldType.array .int).toString) = some cQ := (hK.2 t1 _ ht1).2
  have e6 : s.vm.findClass ("[" ++ (FieldType.array .int).toString) = some cA := (hK2.2 tys.length (cA, .array .int) (by rw [List.getElem?_append_right (Nat.le_refl _), Nat.sub_self]; rfl)).2
  obtain rfl : cQ = cA := Option.some.inj (e5.symm.trans e6)
  have ew : (w ++ [(q, .inl (cQ, 4, .inr (.inr (.inr (.inr (fun i => if i < 4 then some (r i) else none))))))]) ++ va_pl ([] ++ (List.range 4).map r) (vr_up (fun _ => .inl (cI, 0, .inl (fun _ => 0))) ((List.range 4).map r) (.inl (cI, (K, .inl (fN (fun _ => 0)))))) = w ++ wR cI cQ q r K (fun _ _ => 0) := by
    rw [List.append_assoc]
    congr 1
    show _ :: [(r 0, vr_up _ _ _ (r 0)), (r 1, vr_up _ _ _ (r 1)), (r 2, vr_up _ _ _ (r 2)), (r 3, vr_up _ _ _ (r 3))] = _
    have m : ∀ i, i < 4 → r i ∈ (List.range 4).map r := fun i hi => List.mem_map.mpr ⟨i, List.mem_range.mpr hi, rfl⟩
    rw [vr_up_in (m 0 (by decide)), vr_up_in (m 1 (by decide)), vr_up_in (m 2 (by decide)), vr_up_in (m 3 (by decide))]
    rfl
  rw [ew] at hP2 hD2
  have h9 := kk q r H1 locs ls hP2 hD2 hS2 h
  exact W.widen (by omega) (by omega) h9

/-- places in a world with one row more -/
theorem gl_old {u x : va_W} {i : Nat} {c : Nat × va_E} (h : u[i]? = some c) : (u ++ x)[i]? = some c := by
  rw [List.getElem?_append_left (List.getElem?_eq_some_iff.mp h).1]; exact h
theorem gl_new {u : va_W} {c : Nat × va_E} : (u ++ [c])[u.length]? = some c := by
  rw [List.getElem?_append_right (Nat.le_refl _), Nat.sub_self]; rfl
theorem gl_set {u : va_W} {c d : Nat × va_E} : (u ++ [c]).set u.length d = u ++ [d] := by
  rw [List.set_append_right _ _ (Nat.le_refl _), Nat.sub_self]; rfl
def iN (A : Nat → Int) : Nat → Int32 := fun j => iI (A j)
theorem iN_upd (A : Nat → Int) (j : Nat) (v : Int) : upd (iN A) j (iI v) = iN (va_up A j v) := by
  funext i
  unfold upd iN va_up
  by_cases h : i = j
  · simp [h]
  · simp [h]
theorem xw_ialdZ (C : xc φ l R D cl tys nL cc own Ts) {a N : Nat} {cA : ClassId} {B : Nat → Int} {i : Int} (q0 t0 j : Nat) (ha : w[q0]? = some (a, .inl (cA, N, .inl (iN B)))) (ht : tys[t0]? = some (cA, .int)) (hi : i = (j : Int)) (hj : j < N) (hN : N < 2147483648) (d : decode cc pc = .ok (.iaload, 1)) (kk : xw φ k n w (pc + 1) lv (iV (B j) :: st)) : xw φ k n w pc lv (iV i :: .ref a :: st) := by
  obtain ⟨p, l, e, R, s, m, args, below, meth, c, Q, D, cl, tys, A, nL⟩ := φ
  obtain ⟨rfl, rfl, rfl, rfl, rfl, rfl, hx, hb, hml, hown, hts, hK, hA⟩ := C
  intro H locs ls hP hD hS h
  subst hi
  refine va_iald hx hb hK hP q0 t0 ha ht (iI_in hj hN) d ?_
  rw [iI_cl (by omega)]
  exact kk H locs ls hP hD hS h
theorem xw_iastZ (C : xc φ l R D cl tys nL cc own Ts) {a N : Nat} {cA : ClassId} {B : Nat → Int} {i x : Int} {w' : va_W} (q0 t0 j : Nat) (ha : w[q0]? = some (a, .inl (cA, N, .inl (iN B)))) (ht : tys[t0]? = some (cA, .int)) (hi : i = (j : Int)) (hj : j < N) (hN : N < 2147483648) (hw : w.set q0 (a, .inl (cA, N, .inl (iN (va_up B j x)))) = w') (d : decode cc pc = .ok (.iastore, 1)) (kk : xw φ k n w' (pc + 1) lv st) : xw φ k n w pc lv (iV x :: iV i :: .ref a :: st) := by
  obtain ⟨p, l, e, R, s, m, args, below, meth, c, Q, D, cl, tys, A, nL⟩ := φ
  obtain ⟨rfl, rfl, rfl, rfl, rfl, rfl, hx, hb, hml, hown, hts, hK, hA⟩ := C
  intro H locs ls hP hD hS h
  subst hi
  refine va_iast hx hb hK hP hD hS q0 t0 ha ht (iI_in hj hN) d (fun H1 locs1 hP hD hS => ?_)
  rw [iI_cl (by omega), iN_upd, hw] at hP hD
  exact kk H1 locs1 ls hP hD hS h
end XW5
/-- the hand: its object, and with its four rows -/
def wH (h n p w rr : Nat) : va_W := [(h, .inr (1, [nV n, nV p, nV w, .ref rr]))]
def wS (cI cQ : ClassId) (h n p w q : Nat) (r : Nat → Nat) (A : Nat → Nat) : va_W := wH h n p w q ++ wR cI cQ q r n (fun i k => A (16 * i + k))
theorem wH_0 {h n p w rr : Nat} : (wH h n p w rr)[0]? = some (h, .inr (1, [nV n, nV p, nV w, .ref rr])) := rfl
/-- a row made anew, of n numbers F, behind the world u -/
def PR (cI : ClassId) (n : Nat) (u : va_W) (F : Nat → Nat) : Option Value → va_W → Prop := fun v w1 => ∃ q : Nat, v = some (.ref q) ∧ w1 = u ++ [(q, .inl (cI, n, .inl (fN F)))]
theorem PR.i {cI : ClassId} {n q : Nat} {u : va_W} {F : Nat → Nat} : PR cI n u F (some (.ref q)) (u ++ [(q, .inl (cI, n, .inl (fN F)))]) := ⟨q, rfl, rfl⟩
theorem PR.e {cI : ClassId} {n q : Nat} {u : va_W} {F G : Nat → Nat} (h : G = F) : PR cI n u F (some (.ref q)) (u ++ [(q, .inl (cI, n, .inl (fN G)))]) := ⟨q, rfl, by rw [h]⟩
end
section
/-! ===== the hand's numbers ===== -/
theorem va_uu {α : Type} {F : Nat → α} {k : Nat} {a b : α} : va_up (va_up F k a) k b = va_up F k b := by
  funext j; unfold va_up
  by_cases h : j = k
  · rw [if_pos h, if_pos h]
  · rw [if_neg h, if_neg h, if_neg h]
theorem va_us {α : Type} {F : Nat → α} {k : Nat} {a : α} : va_up F k a k = a := by unfold va_up; rw [if_pos rfl]
theorem va_un {α : Type} {F : Nat → α} {k j : Nat} {a : α} (h : j ≠ k) : va_up F k a j = F j := by unfold va_up; rw [if_neg h]
theorem mk_u {g : Nat → Nat} {k : Nat} : va_up (mk (fun _ => 0) g k) k 0 = mk (fun _ => 0) g k := by
  funext j; unfold va_up mk
  by_cases h : j = k
  · rw [if_pos h, if_neg (by omega)]
  · rw [if_neg h]
/-- the inverse is the least number that serves -/
theorem iv_is {p v : Nat} (hp : 1 < p) (hv : v < p) (hex : v ^ (p - 1) % p = 1) : 1 ≤ v ^ (p - 2) % p ∧ v ^ (p - 2) % p * v % p = 1 ∧ ∀ k, 1 ≤ k → k ≤ v ^ (p - 2) % p → k * v % p = 1 → k = v ^ (p - 2) % p := by
  have e1 : v ^ (p - 2) % p * v % p = 1 := by
    rw [mm3, ← Nat.pow_succ]
    rcases Nat.lt_or_ge p 3 with z | z
    · have e : p = 2 := by omega
      subst e
      exact hex
    · show v ^ (p - 2 + 1) % p = 1
      rw [show p - 2 + 1 = p - 1 by omega]; exact hex
  have hl : v ^ (p - 2) % p < p := Nat.mod_lt _ (by omega)
  refine ⟨?_, e1, fun k _ h2 h3 => ?_⟩
  · rcases Nat.eq_zero_or_pos (v ^ (p - 2) % p) with z | z
    · rw [z, Nat.zero_mul, Nat.zero_mod] at e1; omega
    · exact z
  · have a0 : ∀ z, k * v % p * z % p = k * (z * v % p) % p := fun z => by rw [mm3, mm4, Nat.mul_assoc, Nat.mul_comm v]
    have a1 := a0 (v ^ (p - 2) % p)
    rw [h3, e1, Nat.one_mul, Nat.mul_one, Nat.mod_eq_of_lt hl, Nat.mod_eq_of_lt (show k < p by omega)] at a1
    exact a1.symm
/-- sums of a row times powers of the root: a tone, and turned back -/
def ts (p w n : Nat) (R : Nat → Nat) (k : Nat) : Nat → Nat
  | 0 => 0
  | i + 1 => (ts p w n R k i + R i * pw p w (i * k % n)) % p
def bs (p w n : Nat) (R : Nat → Nat) (i : Nat) : Nat → Nat
  | 0 => 0
  | k + 1 => (bs p w n R i k + R k * pw p w ((n - i * k % n) % n)) % p
theorem ts_lt {p w n : Nat} {R : Nat → Nat} {k : Nat} (hp : 0 < p) : ∀ i, ts p w n R k i < p
  | 0 => hp
  | _ + 1 => Nat.mod_lt _ hp
theorem bs_lt {p w n : Nat} {R : Nat → Nat} {k : Nat} (hp : 0 < p) : ∀ i, bs p w n R k i < p
  | 0 => hp
  | _ + 1 => Nat.mod_lt _ hp
/-- places mirrored, as the hand adds them up -/
def ms (n k : Nat) : Nat → Nat
  | 0 => 0
  | j + 1 => ms n k j + k / 2 ^ j % 2 * (n / 2 ^ (j + 1))
theorem ms_4 : ∀ k, k < 4 → ms 4 k 2 = mi k 2 ∧ ∀ j, j < 3 → ms 4 k j < 16 := by decide +kernel
theorem ms_8 : ∀ k, k < 8 → ms 8 k 3 = mi k 3 ∧ ∀ j, j < 4 → ms 8 k j < 16 := by decide +kernel
theorem ms_16 : ∀ k, k < 16 → ms 16 k 4 = mi k 4 ∧ ∀ j, j < 5 → ms 16 k j < 16 := by decide +kernel
theorem ms_p {n k : Nat} (hn : n = 4 ∨ n = 8 ∨ n = 16) (hk : k < n) : ms n k (bt n) = mi k (bt n) ∧ ∀ j, j ≤ bt n → ms n k j < 16 := by
  rcases hn with rfl | rfl | rfl
  · exact ⟨(ms_4 k hk).1, fun j hj => (ms_4 k hk).2 j (Nat.lt_succ_of_le hj)⟩
  · exact ⟨(ms_8 k hk).1, fun j hj => (ms_8 k hk).2 j (Nat.lt_succ_of_le hj)⟩
  · exact ⟨(ms_16 k hk).1, fun j hj => (ms_16 k hk).2 j (Nat.lt_succ_of_le hj)⟩
theorem bt_p {n j : Nat} (hn : n = 4 ∨ n = 8 ∨ n = 16) (hj : j ≤ bt n) : (2 ^ j < n ↔ j < bt n) ∧ 1 ≤ 2 ^ j ∧ 2 ^ j ≤ 16 ∧ n / 2 ^ (j + 1) ≤ 8 ∧ j ≤ 4 := by
  have h4 : j ≤ 4 := by rcases hn with rfl | rfl | rfl <;> exact Nat.le_trans hj (by decide)
  rcases hn with rfl | rfl | rfl
  · have h2 : j ≤ 2 := hj
    rcases (show j = 0 ∨ j = 1 ∨ j = 2 by omega) with rfl | rfl | rfl <;> decide
  · have h2 : j ≤ 3 := hj
    rcases (show j = 0 ∨ j = 1 ∨ j = 2 ∨ j = 3 by omega) with rfl | rfl | rfl | rfl <;> decide
  · have h2 : j ≤ 4 := hj
    rcases (show j = 0 ∨ j = 1 ∨ j = 2 ∨ j = 3 ∨ j = 4 by omega) with rfl | rfl | rfl | rfl | rfl <;> decide
/-- a stage of a row -/
def sgR (p n w : Nat) (R : Nat → Nat) (h : Nat) : Nat → Nat := fun k =>
  if k / h % 2 = 0 then (R k + R (k + h) * (w ^ (k % h * (n / (2 * h))) % p) % p) % p
  else (R (k - h) + p - R k * (w ^ (k % h * (n / (2 * h))) % p) % p) % p
def stm (p n w : Nat) (R : Nat → Nat) (h bk j : Nat) : Nat → Nat := fun x => if x < n ∧ (x < bk ∨ (x < bk + 2 * h ∧ x % h < j)) then sgR p n w R h x else 0
theorem stm_0 {p n w : Nat} {R : Nat → Nat} {h : Nat} : stm p n w R h 0 0 = fun _ => 0 := by
  funext x; unfold stm; rw [if_neg (by omega)]
theorem stm_o {p n w : Nat} {R : Nat → Nat} {h bk : Nat} (hh : 0 < h) : stm p n w R h bk h = stm p n w R h (bk + 2 * h) 0 := by
  funext x; unfold stm
  have hm := Nat.mod_lt x hh
  by_cases h1 : x < n ∧ x < bk + 2 * h
  · rw [if_pos ⟨h1.1, Or.inr ⟨h1.2, hm⟩⟩, if_pos ⟨h1.1, Or.inl h1.2⟩]
  · rw [if_neg (by omega), if_neg (by omega)]
theorem stm_n {p n w : Nat} {R : Nat → Nat} {h : Nat} : stm p n w R h n 0 = mk (fun _ => 0) (sgR p n w R h) n := by
  funext x; unfold stm mk
  by_cases h1 : x < n
  · rw [if_pos ⟨h1, Or.inl h1⟩, if_pos h1]
  · rw [if_neg (fun z => h1 z.1), if_neg h1]
theorem stm_s {p n w : Nat} {R : Nat → Nat} {h bk j c : Nat} (hh : h = 1 ∨ h = 2 ∨ h = 4 ∨ h = 8) (hbk : bk = 2 * h * c) (hj : j < h) (hn : bk + 2 * h ≤ n) :
    va_up (va_up (stm p n w R h bk j) (bk + j) ((R (bk + j) + R (bk + j + h) * (w ^ (j * (n / (2 * h))) % p) % p) % p)) (bk + j + h) ((R (bk + j) + p - R (bk + j + h) * (w ^ (j * (n / (2 * h))) % p) % p) % p) = stm p n w R h bk (j + 1) := by
  have m1 : (bk + j) % h = j := by rcases hh with rfl | rfl | rfl | rfl <;> omega
  have m2 : (bk + j + h) % h = j := by rcases hh with rfl | rfl | rfl | rfl <;> omega
  have d1 : (bk + j) / h % 2 = 0 := by rcases hh with rfl | rfl | rfl | rfl <;> omega
  have d2 : ¬ (bk + j + h) / h % 2 = 0 := by rcases hh with rfl | rfl | rfl | rfl <;> omega
  funext x
  unfold va_up
  by_cases h1 : x = bk + j + h
  · rw [if_pos h1]; unfold stm
    subst h1
    rw [m2, if_pos (by omega)]
    unfold sgR
    rw [if_neg d2, m2, show bk + j + h - h = bk + j by omega]
  · rw [if_neg h1]
    by_cases h2 : x = bk + j
    · rw [if_pos h2]; unfold stm
      subst h2
      rw [m1, if_pos (by omega)]
      unfold sgR
      rw [if_pos d1, m1]
    · rw [if_neg h2]; unfold stm
      by_cases h3 : x < n ∧ (x < bk ∨ (x < bk + 2 * h ∧ x % h < j))
      · rw [if_pos h3, if_pos (by omega)]
      · rw [if_neg h3, if_neg]
        intro h4
        obtain ⟨a2, a3⟩ := h4
        rcases hh with rfl | rfl | rfl | rfl <;> omega
/-- rows folded; some of the places one number further -/
def fR (p n : Nat) (R S : Nat → Nat) (q : Nat) : Nat → Nat
  | 0 => 0
  | k + 1 => (fR p n R S q k + R k * S ((q + n - k) % n)) % p
theorem fR_lt {p n : Nat} {R S : Nat → Nat} {q : Nat} (hp : 0 < p) : ∀ i, fR p n R S q i < p
  | 0 => hp
  | _ + 1 => Nat.mod_lt _ hp
def fkm (p n : Nat) (R S : Nat → Nat) (i k : Nat) : Nat → Nat := fun m => if m < n then (if (m + n - i) % n < k then fR p n R S m (i + 1) else fR p n R S m i) else 0
theorem fkm_0 {p n : Nat} {R S : Nat → Nat} : fkm p n R S 0 0 = fun _ => 0 := by
  funext m; unfold fkm
  split
  · rw [if_neg (by omega)]; rfl
  · rfl
theorem fkm_n {p n : Nat} {R S : Nat → Nat} {i : Nat} (hn : 0 < n) : fkm p n R S i n = fkm p n R S (i + 1) 0 := by
  funext m; unfold fkm
  by_cases h : m < n
  · rw [if_pos h, if_pos h, if_pos (Nat.mod_lt _ hn), if_neg (by omega)]
  · rw [if_neg h, if_neg h]
theorem fkm_e {p n : Nat} {R S : Nat → Nat} : fkm p n R S n 0 = mk (fun _ => 0) (fun m => fR p n R S m n) n := by
  funext m; unfold fkm mk
  by_cases h : m < n
  · rw [if_pos h, if_pos h, if_neg (by omega)]
  · rw [if_neg h, if_neg h]
theorem fkm_at {p n : Nat} {R S : Nat → Nat} {i k : Nat} (hi : i < n) (hk : k < n) : fkm p n R S i k ((i + k) % n) = fR p n R S ((i + k) % n) i := by
  unfold fkm
  have h := (mv_p (n := n) (q := i) (k := k) hi hk).1
  rw [show k + i = i + k by omega] at h
  rw [if_pos (Nat.mod_lt _ (by omega)), h, if_neg (by omega)]
theorem fkm_s {p n : Nat} {R S : Nat → Nat} {i k : Nat} (hi : i < n) (hk : k < n) : va_up (fkm p n R S i k) ((i + k) % n) ((fR p n R S ((i + k) % n) i + R i * S k) % p) = fkm p n R S i (k + 1) := by
  have h := (mv_p (n := n) (q := i) (k := k) hi hk).1
  rw [show k + i = i + k by omega] at h
  have hl := Nat.mod_lt (i + k) (show n > 0 by omega)
  funext m
  unfold va_up
  by_cases e : m = (i + k) % n
  · rw [if_pos e]; unfold fkm
    subst e
    rw [if_pos hl, h, if_pos (by omega), fR, h]
  · rw [if_neg e]; unfold fkm
    by_cases h1 : m < n
    · rw [if_pos h1, if_pos h1]
      have h2 : (m + n - i) % n ≠ k := fun z => e (by
        have h3 := (mv_p (n := n) (q := i) (k := m) hi h1).2
        rw [z, show k + i = i + k by omega] at h3
        exact h3.symm)
      by_cases h3 : (m + n - i) % n < k
      · rw [if_pos h3, if_pos (by omega)]
      · rw [if_neg h3, if_neg (by omega)]
    · rw [if_neg h1, if_neg h1]
theorem mv_q {n q k : Nat} (hq : q ≤ n) (hk : k < n) : ((k + q) % n + n - q) % n = k ∧ ((k + n - q) % n + q) % n = k := by
  rcases Nat.lt_or_ge q n with h | h
  · exact mv_p h hk
  · obtain rfl : q = n := by omega
    constructor
    · rw [Nat.add_mod_right, Nat.mod_eq_of_lt hk, show k + q - q = k by omega, Nat.mod_eq_of_lt hk]
    · rw [show k + q - q = k by omega, Nat.mod_eq_of_lt hk, Nat.add_mod_right, Nat.mod_eq_of_lt hk]
/-- what a row tells, told by the row alone -/
def smR (R : Nat → Nat) : Nat → Nat
  | 0 => 0
  | k + 1 => smR R k + R k
def grR (R : Nat → Nat) : Nat → Nat
  | 0 => 0
  | k + 1 => if grR R k < R k then R k else grR R k
def lnR (R : Nat → Nat) : Nat → Int
  | 0 => -1
  | j + 1 => if R j = 0 then lnR R j else (j : Int)
theorem smR_le {R : Nat → Nat} (hR : ∀ j, R j < 500) : ∀ j, smR R j ≤ 499 * j
  | 0 => Nat.le_refl 0
  | j + 1 => by
    have h1 := smR_le hR j
    have h2 := hR j
    rw [smR]; omega
theorem grR_lt {R : Nat → Nat} (hR : ∀ j, R j < 500) : ∀ j, grR R j < 500
  | 0 => show 0 < 500 from by decide
  | j + 1 => by
    have h1 := grR_lt hR j
    have h2 := hR j
    rw [grR]; split <;> assumption
/-- R moved by q -/
def mvR (n q : Nat) (R : Nat → Nat) : Nat → Nat := fun m => R ((m + n - q) % n)
/-- how many places of R are unlike S, how many of R are not 0 -/
def unR (R S : Nat → Nat) (n : Nat) : Nat := cc (fun k => decide (R k ≠ S k)) n
def otR (R : Nat → Nat) (n : Nat) : Nat := cc (fun k => decide (R k ≠ 0)) n
/-- the least move by which R is itself -/
def peR (n : Nat) (R : Nat → Nat) : Nat := fs (fun q => decide (unR (mk (fun _ => 0) (mvR n q R) n) R n = 0)) (n - 1) 1
theorem unR_n {n : Nat} {R : Nat → Nat} : unR (mk (fun _ => 0) (mvR n n R) n) R n = 0 := by
  have h : ∀ k, k ≤ n → cc (fun k => decide (mk (fun _ => 0) (mvR n n R) n k ≠ R k)) k = 0 := by
    intro k
    induction k with
    | zero => intro _; rfl
    | succ k ih =>
      intro hk
      rw [cc, ih (by omega), if_neg]
      rw [decide_eq_true_eq, mk_in (by omega)]
      unfold mvR
      rw [show k + n - n = k by omega, Nat.mod_eq_of_lt (by omega)]
      exact fun z => z rfl
  exact h n (Nat.le_refl n)
end
section
set_option maxHeartbeats 4000000 in
set_option maxRecDepth 100000 in
theorem m_X1_power {l : Launch} {D : va_G} {cI cQ : ClassId} {u : va_W} {h n p w rr qs : Nat} (hs : u[qs]? = some (h, .inr (1, [nV n, nV p, nV w, .ref rr]))) (hp : 1 < p) (hp5 : p < 500) (base times : Nat) (hb : base < 500) (ht : times < 500) : CT l yX1_power wsX1_power (rmN 0 0) D vwCl [(cI, .int), (cQ, .array .int)] [.ref h, nV base, nV times] (u) (PD (some (nV (pw p base times))) (u)) 0 0 := by
  refine ct_of (plainFor_of_name (by decide)) rfl (Nat.le_of_ble_eq_true rfl) (fun φ C rX => ?_)
  have hin : ∀ w ∈ wsX10, w ∈ wsX1_power := by decide +kernel
  refine xw_le (lv' := [(0, .ref h), (1, nV base), (2, nV times)]) rfl ?_
  have hp0 : 0 < p := by omega
  refine xw_iconst_N (pc := 0) C 1 dX1_power_0 rfl ?_
  refine xw_istore_n (pc := 1) (lv' := [(0, .ref h), (1, nV base), (2, nV times), (3, nV 1)]) C [1, 2, 3, 0] dX1_power_1 rfl (by decide) rfl ?_
  refine xw_iconst_N (pc := 2) C 0 dX1_power_2 rfl ?_
  refine xw_istore (pc := 3) (lv' := [(0, .ref h), (1, nV base), (2, nV times), (3, nV 1), (4, nV 0)]) C [1, 2, 3, 4, 0] dX1_power_3 (by decide) rfl ?_
  have L5 : ∀ (fuel : Nat) (k : Nat) (m : Nat), times < k + fuel → k ≤ times → m = pw p base k → xw φ 0 0 (u) 5 [(0, .ref h), (1, nV base), (2, nV times), (3, nV m), (4, nV k)] [] := by
    intro fuel
    induction fuel with
    | zero =>
      intro k m hk hkt hm
      omega
    | succ fuel ih5 =>
      intro k m hk hkt hm
      have hml : m < p := by rw [hm]; exact pw_lt hp k
      have hmb := mb0 (show m < 500 by omega) hb
      refine xw_iload (pc := 5) C 4 dX1_power_5 rfl ?_
      refine xw_iload_n (pc := 7) C 2 dX1_power_7 rfl ?_
      refine xw_icmp_ge_N (pc := 8) (tgt := 26) C dX1_power_8 (by decide) (by omega) (by omega) (fun c_1 => ?_) (fun c_1 => ?_)
      ·
        refine xw_iload_n (pc := 26) C 3 dX1_power_26 rfl ?_
        exact xw_iret (pc := 27) C rX (Nat.le_refl _) (Nat.le_refl _) dX1_power_27 (PD.e (by rw [hm, show k = times by omega]) rfl)
      ·
        refine xw_iload_n (pc := 11) C 3 dX1_power_11 rfl ?_
        refine xw_iload_n (pc := 12) C 1 dX1_power_12 rfl ?_
        refine xw_imul_N (pc := 13) C dX1_power_13 ?_
        refine xw_aload_n (pc := 14) C 0 dX1_power_14 rfl ?_
        refine xw_get (pc := 15) (T := TX1) (N := 4) (ref := "ToneButterfliesLaw$Sim") C hin qs 1 hs rfl (by decide) (by decide +kernel) rfl rfl dX1_power_15 ?_
        refine xw_irem_N (pc := 18) C dX1_power_18 (hmb) (by omega) ?_
        refine xw_istore_n (pc := 19) (lv' := [(0, .ref h), (1, nV base), (2, nV times), (3, nV ((m * base) % p)), (4, nV k)]) C [1, 2, 3, 0, 4] dX1_power_19 rfl (by decide) rfl ?_
        refine xw_iinc_N (pc := 20) (b := k + 1) (lv' := [(0, .ref h), (1, nV base), (2, nV times), (3, nV ((m * base) % p)), (4, nV (k + 1))]) C 4 [1, 2, 3, 4, 0] dX1_power_20 rfl (by decide) rfl rfl ?_
        refine xw_goto (pc := 23) (tgt := 5) C dX1_power_23 (by decide) ?_
        exact ih5 (k + 1) _ (by omega) (by omega) (by rw [hm, pw])
  exact L5 (times + 1) 0 1 (by omega) (by omega) rfl

set_option maxHeartbeats 4000000 in
set_option maxRecDepth 100000 in
theorem m_X1_order {l : Launch} {D : va_G} {cI cQ : ClassId} {u : va_W} {h n p w rr qs : Nat} (hs : u[qs]? = some (h, .inr (1, [nV n, nV p, nV w, .ref rr]))) (hp : 1 < p) (hp5 : p < 500) (v : Nat) (h1 : 1 ≤ v) (hv : v < p) (hex : v ^ (p - 1) % p = 1) : CT l yX1_order wsX1_order (rmN 0 0) D vwCl [(cI, .int), (cQ, .array .int)] [.ref h, nV v] (u) (PD (some (nV (od p v))) (u)) 0 0 := by
  refine ct_of (plainFor_of_name (by decide)) rfl (Nat.le_of_ble_eq_true rfl) (fun φ C rX => ?_)
  have hin : ∀ w ∈ wsX10, w ∈ wsX1_order := by decide +kernel
  refine xw_le (lv' := [(0, .ref h), (1, nV v)]) rfl ?_
  have hp0 : 0 < p := by omega
  refine xw_iconst_N (pc := 0) C 1 dX1_order_0 rfl ?_
  refine xw_istore_n (pc := 1) (lv' := [(0, .ref h), (1, nV v), (2, nV 1)]) C [1, 2, 0] dX1_order_1 rfl (by decide) rfl ?_
  refine xw_iload_n (pc := 2) C 1 dX1_order_2 rfl ?_
  refine xw_istore_n (pc := 3) (lv' := [(0, .ref h), (1, nV v), (2, nV 1), (3, nV v)]) C [1, 2, 3, 0] dX1_order_3 rfl (by decide) rfl ?_
  have L4 : ∀ (fuel : Nat) (k : Nat) (m : Nat), p ≤ k + fuel → 1 ≤ k ∧ k ≤ p - 1 → m = v ^ k % p → fs (fun j => decide (v ^ j % p = 1)) (p - 1 - (k - 1)) k = od p v → xw φ 0 0 (u) 4 [(0, .ref h), (1, nV v), (2, nV k), (3, nV m)] [] := by
    intro fuel
    induction fuel with
    | zero =>
      intro k m hk hk1 hm hno
      omega
    | succ fuel ih4 =>
      intro k m hk hk1 hm hno
      have hml : m < p := by rw [hm]; exact Nat.mod_lt _ hp0
      have hmb := mb0 (show m < 500 by omega) (show v < 500 by omega)
      refine xw_iload_n (pc := 4) C 3 dX1_order_4 rfl ?_
      refine xw_iconst_N (pc := 5) C 1 dX1_order_5 rfl ?_
      refine xw_icmp_eq_N (pc := 6) (tgt := 24) C dX1_order_6 (by decide) (by omega) (by omega) (fun c_1 => ?_) (fun c_1 => ?_)
      ·
        refine xw_iload_n (pc := 24) C 2 dX1_order_24 rfl ?_
        exact xw_iret (pc := 25) C rX (Nat.le_refl _) (Nat.le_refl _) dX1_order_25 (PD.e (by rw [← hno, show p - 1 - (k - 1) = (p - 1 - k) + 1 by omega, fs_t (decide_eq_true (by rw [← hm]; exact c_1))]) rfl)
      ·
        have hk2 : k < p - 1 := by
          rcases Nat.lt_or_ge k (p - 1) with z | z
          · exact z
          · exact absurd (hm.trans (by rw [show k = p - 1 by omega]; exact hex)) c_1
        refine xw_iinc_N (pc := 9) (b := k + 1) (lv' := [(0, .ref h), (1, nV v), (2, nV (k + 1)), (3, nV m)]) C 2 [1, 2, 0, 3] dX1_order_9 rfl (by decide) rfl rfl ?_
        refine xw_iload_n (pc := 12) C 3 dX1_order_12 rfl ?_
        refine xw_iload_n (pc := 13) C 1 dX1_order_13 rfl ?_
        refine xw_imul_N (pc := 14) C dX1_order_14 ?_
        refine xw_aload_n (pc := 15) C 0 dX1_order_15 rfl ?_
        refine xw_get (pc := 16) (T := TX1) (N := 4) (ref := "ToneButterfliesLaw$Sim") C hin qs 1 hs rfl (by decide) (by decide +kernel) rfl rfl dX1_order_16 ?_
        refine xw_irem_N (pc := 19) C dX1_order_19 (hmb) (by omega) ?_
        refine xw_istore_n (pc := 20) (lv' := [(0, .ref h), (1, nV v), (2, nV (k + 1)), (3, nV ((m * v) % p))]) C [1, 2, 3, 0] dX1_order_20 rfl (by decide) rfl ?_
        refine xw_goto (pc := 21) (tgt := 4) C dX1_order_21 (by decide) ?_
        exact ih4 (k + 1) _ (by omega) (by omega) (by rw [hm, mm3, Nat.pow_succ]) (by rw [← hno, show p - 1 - (k - 1) = (p - 1 - (k + 1 - 1)) + 1 by omega, fs_f (decide_eq_false (by rw [← hm]; exact c_1))])
  exact L4 (p - 1) 1 _ (by omega) (by omega) (by rw [Nat.pow_one, Nat.mod_eq_of_lt hv]) rfl

set_option maxHeartbeats 4000000 in
set_option maxRecDepth 100000 in
theorem m_X1_inverse {l : Launch} {D : va_G} {cI cQ : ClassId} {u : va_W} {h n p w rr qs : Nat} (hs : u[qs]? = some (h, .inr (1, [nV n, nV p, nV w, .ref rr]))) (hp : 1 < p) (hp5 : p < 500) (v : Nat) (h1 : 1 ≤ v) (hv : v < p) (hex : v ^ (p - 1) % p = 1) : CT l yX1_inverse wsX1_inverse (rmN 0 0) D vwCl [(cI, .int), (cQ, .array .int)] [.ref h, nV v] (u) (PD (some (nV (v ^ (p - 2) % p))) (u)) 0 0 := by
  refine ct_of (plainFor_of_name (by decide)) rfl (Nat.le_of_ble_eq_true rfl) (fun φ C rX => ?_)
  have hin : ∀ w ∈ wsX10, w ∈ wsX1_inverse := by decide +kernel
  refine xw_le (lv' := [(0, .ref h), (1, nV v)]) rfl ?_
  have hp0 : 0 < p := by omega
  have hiv := iv_is hp hv hex
  refine xw_iconst_N (pc := 0) C 1 dX1_inverse_0 rfl ?_
  refine xw_istore_n (pc := 1) (lv' := [(0, .ref h), (1, nV v), (2, nV 1)]) C [1, 2, 0] dX1_inverse_1 rfl (by decide) rfl ?_
  have L2 : ∀ (fuel : Nat) (k : Nat), p ≤ k + fuel → 1 ≤ k ∧ k ≤ v ^ (p - 2) % p → xw φ 0 0 (u) 2 [(0, .ref h), (1, nV v), (2, nV k)] [] := by
    intro fuel
    induction fuel with
    | zero =>
      intro k hk hk1
      have := Nat.mod_lt (v ^ (p - 2)) hp0; omega
    | succ fuel ih2 =>
      intro k hk hk1
      have hml : v ^ (p - 2) % p < p := Nat.mod_lt _ hp0
      have hmb := mb0 (show k < 500 by omega) (show v < 500 by omega)
      refine xw_iload_n (pc := 2) C 2 dX1_inverse_2 rfl ?_
      refine xw_iload_n (pc := 3) C 1 dX1_inverse_3 rfl ?_
      refine xw_imul_N (pc := 4) C dX1_inverse_4 ?_
      refine xw_aload_n (pc := 5) C 0 dX1_inverse_5 rfl ?_
      refine xw_get (pc := 6) (T := TX1) (N := 4) (ref := "ToneButterfliesLaw$Sim") C hin qs 1 hs rfl (by decide) (by decide +kernel) rfl rfl dX1_inverse_6 ?_
      refine xw_irem_N (pc := 9) C dX1_inverse_9 (hmb) (by omega) ?_
      refine xw_iconst_N (pc := 10) C 1 dX1_inverse_10 rfl ?_
      refine xw_icmp_eq_N (pc := 11) (tgt := 20) C dX1_inverse_11 (by decide) (by have := Nat.mod_lt (k * v) hp0; omega) (by omega) (fun c_1 => ?_) (fun c_1 => ?_)
      ·
        refine xw_iload_n (pc := 20) C 2 dX1_inverse_20 rfl ?_
        exact xw_iret (pc := 21) C rX (Nat.le_refl _) (Nat.le_refl _) dX1_inverse_21 (PD.e (by rw [hiv.2.2 k (by omega) (by omega) c_1]) rfl)
      ·
        have hk2 : k < v ^ (p - 2) % p := by
          rcases Nat.lt_or_ge k (v ^ (p - 2) % p) with z | z
          · exact z
          · exact absurd (by rw [show k = v ^ (p - 2) % p by omega]; exact hiv.2.1) c_1
        refine xw_iinc_N (pc := 14) (b := k + 1) (lv' := [(0, .ref h), (1, nV v), (2, nV (k + 1))]) C 2 [1, 2, 0] dX1_inverse_14 rfl (by decide) rfl rfl ?_
        refine xw_goto (pc := 17) (tgt := 2) C dX1_inverse_17 (by decide) ?_
        exact ih2 (k + 1) (by omega) (by omega)
  exact L2 p 1 (by omega) ⟨by omega, hiv.1⟩

set_option maxHeartbeats 4000000 in
set_option maxRecDepth 100000 in
theorem m_X1_tones {l : Launch} {D : va_G} {cI cQ : ClassId} {u : va_W} {h n p w rr qs : Nat} (hs : u[qs]? = some (h, .inr (1, [nV n, nV p, nV w, .ref rr]))) (hp : 1 < p) (hp5 : p < 500) (hn : n = 4 ∨ n = 8 ∨ n = 16) (hw : w < 500) {R : Nat → Nat} (hR : ∀ j, R j < 500) {qa ra : Nat} (hra : u[qa]? = some (ra, .inl (cI, n, .inl (fN R)))) : CT l yX1_tones wsX1_tones { frames := 1, cells := 1, slots := 16, locals := 24 } D vwCl [(cI, .int), (cQ, .array .int)] [.ref h, .ref ra] (u) (PR cI n u (mk (fun _ => 0) (fun k => ts p w n R k n) n)) 1 16 := by
  refine ct_of (plainFor_of_name (by decide)) rfl (Nat.le_of_ble_eq_true rfl) (fun φ C rX => ?_)
  have hin : ∀ w ∈ wsX10, w ∈ wsX1_tones := by decide +kernel
  refine xw_le (lv' := [(0, .ref h), (1, .ref ra)]) rfl ?_
  have hn3 := lt3 hn
  have hp0 : 0 < p := by omega
  refine xw_aload_n (pc := 0) C 0 dX1_tones_0 rfl ?_
  refine xw_get (pc := 1) (T := TX1) (N := 4) (ref := "ToneButterfliesLaw$Sim") C hin qs 0 hs rfl (by decide) (by decide +kernel) rfl rfl dX1_tones_1 ?_
  refine xw_newI (pc := 4) C 0 rfl (by decide +kernel) (by show n * 4 ≤ 536870912; omega) (by show 0 + 1 ≤ 1; omega) (by show 0 + n ≤ 16; omega) dX1_tones_4 (fun q_1 => ?_)
  refine xw_wd (k' := 1) (n' := 16) (by omega) (by omega) ?_
  refine xw_astore_n (pc := 6) (lv' := [(0, .ref h), (1, .ref ra), (2, .ref q_1)]) C [1, 2, 0] dX1_tones_6 rfl (by decide) rfl ?_
  refine xw_iconst_N (pc := 7) C 0 dX1_tones_7 rfl ?_
  refine xw_istore_n (pc := 8) (lv' := [(0, .ref h), (1, .ref ra), (2, .ref q_1), (3, nV 0)]) C [1, 2, 3, 0] dX1_tones_8 rfl (by decide) rfl ?_
  have L9 : ∀ (fuel : Nat) (k : Nat), n < k + fuel → k ≤ n → xw φ 1 16 (u ++ [(q_1, .inl (cI, n, .inl (fN (mk (fun _ => 0) (fun k => ts p w n R k n) k))))]) 9 [(0, .ref h), (1, .ref ra), (2, .ref q_1), (3, nV k)] [] := by
    intro fuel
    induction fuel with
    | zero =>
      intro k hk hkn
      omega
    | succ fuel ih9 =>
      intro k hk hkn
      refine xw_iload_n (pc := 9) C 3 dX1_tones_9 rfl ?_
      refine xw_aload_n (pc := 10) C 0 dX1_tones_10 rfl ?_
      refine xw_get (pc := 11) (T := TX1) (N := 4) (ref := "ToneButterfliesLaw$Sim") C hin qs 0 (gl_old hs) rfl (by decide) (by decide +kernel) rfl rfl dX1_tones_11 ?_
      refine xw_icmp_ge_N (pc := 14) (tgt := 75) C dX1_tones_14 (by decide) (by omega) (by omega) (fun c_2 => ?_) (fun c_2 => ?_)
      ·
        refine xw_aload_n (pc := 75) C 2 dX1_tones_75 rfl ?_
        exact xw_aret (pc := 76) C rX (Or.inr ⟨_, rfl⟩) (Nat.le_refl _) (Nat.le_refl _) dX1_tones_76 (PR.e (by rw [show k = n by omega]))
      ·
        refine xw_iconst_N (pc := 17) C 0 dX1_tones_17 rfl ?_
        refine xw_istore (pc := 18) (lv' := [(0, .ref h), (1, .ref ra), (2, .ref q_1), (3, nV k), (4, nV 0)]) C [1, 2, 3, 4, 0] dX1_tones_18 (by decide) rfl ?_
        have L20 : ∀ (fuel : Nat) (i : Nat) (M : Nat → Nat), n < i + fuel → i ≤ n → M = va_up (mk (fun _ => 0) (fun k => ts p w n R k n) k) k (ts p w n R k i) → xw φ 1 16 (u ++ [(q_1, .inl (cI, n, .inl (fN M)))]) 20 [(0, .ref h), (1, .ref ra), (2, .ref q_1), (3, nV k), (4, nV i)] [] := by
          intro fuel
          induction fuel with
          | zero =>
            intro i M hi hile hM
            omega
          | succ fuel ih20 =>
            intro i M hi hile hM
            have hMk : M k = ts p w n R k i := by rw [hM, va_us]
            have hMl : M k < p := by rw [hMk]; exact ts_lt hp0 i
            have hb1 := hR i
            have hb2 := pw_lt (p := p) (b := w) hp (i * k % n)
            have hmb : M k + R i * pw p w (i * k % n) < 2147483648 := mb' hb1 (by omega) (by omega)
            have hik : i * k < 2147483648 := mb0 (by omega) (by omega)
            have hml := Nat.mod_lt (i * k) (show n > 0 by omega)
            refine xw_iload (pc := 20) C 4 dX1_tones_20 rfl ?_
            refine xw_aload_n (pc := 22) C 0 dX1_tones_22 rfl ?_
            refine xw_get (pc := 23) (T := TX1) (N := 4) (ref := "ToneButterfliesLaw$Sim") C hin qs 0 (gl_old hs) rfl (by decide) (by decide +kernel) rfl rfl dX1_tones_23 ?_
            refine xw_icmp_ge_N (pc := 26) (tgt := 69) C dX1_tones_26 (by decide) (by omega) (by omega) (fun c_3 => ?_) (fun c_3 => ?_)
            ·
              refine xw_iinc_N (pc := 69) (b := k + 1) (lv' := [(0, .ref h), (1, .ref ra), (2, .ref q_1), (3, nV (k + 1)), (4, nV i)]) C 3 [1, 2, 3, 0, 4] dX1_tones_69 rfl (by decide) rfl rfl ?_
              refine xw_goto (pc := 72) (tgt := 9) C dX1_tones_72 (by decide) ?_
              refine xw_lv (lv' := [(0, .ref h), (1, .ref ra), (2, .ref q_1), (3, nV (k + 1))]) [0, 1, 2, 3] rfl ?_
              refine xw_wo (w' := u ++ [(q_1, .inl (cI, n, .inl (fN (mk (fun _ => 0) (fun k => ts p w n R k n) (k + 1)))))]) (by rw [hM, show i = n by omega, mk_s rfl]) ?_
              exact ih9 (k + 1) (by omega) (by omega)
            ·
              refine xw_aload_n (pc := 29) C 2 dX1_tones_29 rfl ?_
              refine xw_iload_n (pc := 30) C 3 dX1_tones_30 rfl ?_
              refine xw_aload_n (pc := 31) C 2 dX1_tones_31 rfl ?_
              refine xw_iload_n (pc := 32) C 3 dX1_tones_32 rfl ?_
              refine xw_iald (pc := 33) C u.length 0 k gl_new rfl (rfl) (by omega) (by omega) dX1_tones_33 ?_
              refine xw_aload_n (pc := 34) C 1 dX1_tones_34 rfl ?_
              refine xw_iload (pc := 35) C 4 dX1_tones_35 rfl ?_
              refine xw_iald (pc := 37) C qa 0 i (gl_old hra) rfl (rfl) (by omega) (by omega) dX1_tones_37 ?_
              refine xw_aload_n (pc := 38) C 0 dX1_tones_38 rfl ?_
              refine xw_aload_n (pc := 39) C 0 dX1_tones_39 rfl ?_
              refine xw_get (pc := 40) (T := TX1) (N := 4) (ref := "ToneButterfliesLaw$Sim") C hin qs 2 (gl_old hs) rfl (by decide) (by decide +kernel) rfl rfl dX1_tones_40 ?_
              refine xw_iload (pc := 43) C 4 dX1_tones_43 rfl ?_
              refine xw_iload_n (pc := 45) C 3 dX1_tones_45 rfl ?_
              refine xw_imul_N (pc := 46) C dX1_tones_46 ?_
              refine xw_aload_n (pc := 47) C 0 dX1_tones_47 rfl ?_
              refine xw_get (pc := 48) (T := TX1) (N := 4) (ref := "ToneButterfliesLaw$Sim") C hin qs 0 (gl_old hs) rfl (by decide) (by decide +kernel) rfl rfl dX1_tones_48 ?_
              refine xw_irem_N (pc := 51) C dX1_tones_51 (hik) (by omega) ?_
              refine xw_Vd (pc := 52) (q0 := qs) (na := 2) (rest := [nV (R i), nV (M k), nV k, .ref q_1]) (st' := [nV (pw p w ((i * k) % n)), nV (R i), nV (M k), nV k, .ref q_1]) C (m_X1_power (gl_old hs) (by omega) hp5 w ((i * k) % n) (by omega) (by omega)) gX1_tones_X1_power rfl rfl rfl rfl (by decide +kernel) ⟨(Nat.le_of_ble_eq_true rfl), (Nat.le_of_ble_eq_true rfl)⟩ (gl_old hs) rfl rfl (Nat.le_of_ble_eq_true rfl) dX1_tones_52 ⟨(Nat.le_of_ble_eq_true rfl), (Nat.le_of_ble_eq_true rfl)⟩ rfl ?_
              refine xw_imul_N (pc := 55) C dX1_tones_55 ?_
              refine xw_iadd_N (pc := 56) C dX1_tones_56 ?_
              refine xw_aload_n (pc := 57) C 0 dX1_tones_57 rfl ?_
              refine xw_get (pc := 58) (T := TX1) (N := 4) (ref := "ToneButterfliesLaw$Sim") C hin qs 1 (gl_old hs) rfl (by decide) (by decide +kernel) rfl rfl dX1_tones_58 ?_
              refine xw_irem_N (pc := 61) C dX1_tones_61 (hmb) (by omega) ?_
              refine xw_iast (pc := 62) (w' := u ++ [(q_1, .inl (cI, n, .inl (fN (va_up M k (((M k) + ((R i) * (pw p w ((i * k) % n)))) % p)))))]) C u.length 0 k (((M k) + ((R i) * (pw p w ((i * k) % n)))) % p) gl_new rfl (rfl) rfl (by omega) (by omega) gl_set dX1_tones_62 ?_
              refine xw_iinc_N (pc := 63) (b := i + 1) (lv' := [(0, .ref h), (1, .ref ra), (2, .ref q_1), (3, nV k), (4, nV (i + 1))]) C 4 [1, 2, 3, 4, 0] dX1_tones_63 rfl (by decide) rfl rfl ?_
              refine xw_goto (pc := 66) (tgt := 20) C dX1_tones_66 (by decide) ?_
              exact ih20 (i + 1) _ (by omega) (by omega) (by rw [hMk, hM, va_uu]; rfl)
        exact L20 (n + 1) 0 _ (by omega) (by omega) mk_u.symm
  refine xw_wo (w' := u ++ [(q_1, .inl (cI, n, .inl (fN (mk (fun _ => 0) (fun k => ts p w n R k n) 0))))]) (by rw [mk_0]) ?_
  exact L9 (n + 1) 0 (by omega) (by omega)

set_option maxHeartbeats 4000000 in
set_option maxRecDepth 100000 in
theorem m_X1_back {l : Launch} {D : va_G} {cI cQ : ClassId} {u : va_W} {h n p w rr qs : Nat} (hs : u[qs]? = some (h, .inr (1, [nV n, nV p, nV w, .ref rr]))) (hp : 1 < p) (hp5 : p < 500) (hn : n = 4 ∨ n = 8 ∨ n = 16) (hw : w < 500) (hnp : n < p) (hex : n ^ (p - 1) % p = 1) {R : Nat → Nat} (hR : ∀ j, R j < 500) {qa ra : Nat} (hra : u[qa]? = some (ra, .inl (cI, n, .inl (fN R)))) : CT l yX1_back wsX1_back { frames := 1, cells := 1, slots := 16, locals := 24 } D vwCl [(cI, .int), (cQ, .array .int)] [.ref h, .ref ra] (u) (PR cI n u (mk (fun _ => 0) (fun k => bs p w n R k n * (n ^ (p - 2) % p) % p) n)) 1 16 := by
  refine ct_of (plainFor_of_name (by decide)) rfl (Nat.le_of_ble_eq_true rfl) (fun φ C rX => ?_)
  have hin : ∀ w ∈ wsX10, w ∈ wsX1_back := by decide +kernel
  refine xw_le (lv' := [(0, .ref h), (1, .ref ra)]) rfl ?_
  have hn3 := lt3 hn
  have hp0 : 0 < p := by omega
  refine xw_aload_n (pc := 0) C 0 dX1_back_0 rfl ?_
  refine xw_get (pc := 1) (T := TX1) (N := 4) (ref := "ToneButterfliesLaw$Sim") C hin qs 0 hs rfl (by decide) (by decide +kernel) rfl rfl dX1_back_1 ?_
  refine xw_newI (pc := 4) C 0 rfl (by decide +kernel) (by show n * 4 ≤ 536870912; omega) (by show 0 + 1 ≤ 1; omega) (by show 0 + n ≤ 16; omega) dX1_back_4 (fun q_1 => ?_)
  refine xw_wd (k' := 1) (n' := 16) (by omega) (by omega) ?_
  refine xw_astore_n (pc := 6) (lv' := [(0, .ref h), (1, .ref ra), (2, .ref q_1)]) C [1, 2, 0] dX1_back_6 rfl (by decide) rfl ?_
  refine xw_iconst_N (pc := 7) C 0 dX1_back_7 rfl ?_
  refine xw_istore_n (pc := 8) (lv' := [(0, .ref h), (1, .ref ra), (2, .ref q_1), (3, nV 0)]) C [1, 2, 3, 0] dX1_back_8 rfl (by decide) rfl ?_
  have L9 : ∀ (fuel : Nat) (k : Nat), n < k + fuel → k ≤ n → xw φ 1 16 (u ++ [(q_1, .inl (cI, n, .inl (fN (mk (fun _ => 0) (fun k => bs p w n R k n * (n ^ (p - 2) % p) % p) k))))]) 9 [(0, .ref h), (1, .ref ra), (2, .ref q_1), (3, nV k)] [] := by
    intro fuel
    induction fuel with
    | zero =>
      intro k hk hkn
      omega
    | succ fuel ih9 =>
      intro k hk hkn
      refine xw_iload_n (pc := 9) C 3 dX1_back_9 rfl ?_
      refine xw_aload_n (pc := 10) C 0 dX1_back_10 rfl ?_
      refine xw_get (pc := 11) (T := TX1) (N := 4) (ref := "ToneButterfliesLaw$Sim") C hin qs 0 (gl_old hs) rfl (by decide) (by decide +kernel) rfl rfl dX1_back_11 ?_
      refine xw_icmp_ge_N (pc := 14) (tgt := 105) C dX1_back_14 (by decide) (by omega) (by omega) (fun c_2 => ?_) (fun c_2 => ?_)
      ·
        refine xw_aload_n (pc := 105) C 2 dX1_back_105 rfl ?_
        exact xw_aret (pc := 106) C rX (Or.inr ⟨_, rfl⟩) (Nat.le_refl _) (Nat.le_refl _) dX1_back_106 (PR.e (by rw [show k = n by omega]))
      ·
        refine xw_iconst_N (pc := 17) C 0 dX1_back_17 rfl ?_
        refine xw_istore (pc := 18) (lv' := [(0, .ref h), (1, .ref ra), (2, .ref q_1), (3, nV k), (4, nV 0)]) C [1, 2, 3, 4, 0] dX1_back_18 (by decide) rfl ?_
        have L20 : ∀ (fuel : Nat) (i : Nat) (M : Nat → Nat), n < i + fuel → i ≤ n → M = va_up (mk (fun _ => 0) (fun k => bs p w n R k n * (n ^ (p - 2) % p) % p) k) k (bs p w n R k i) → xw φ 1 16 (u ++ [(q_1, .inl (cI, n, .inl (fN M)))]) 20 [(0, .ref h), (1, .ref ra), (2, .ref q_1), (3, nV k), (4, nV i)] [] := by
          intro fuel
          induction fuel with
          | zero =>
            intro i M hi hile hM
            omega
          | succ fuel ih20 =>
            intro i M hi hile hM
            have hMk : M k = bs p w n R k i := by rw [hM, va_us]
            have hMl : M k < p := by rw [hMk]; exact bs_lt hp0 i
            have hb1 := hR i
            have hb2 := pw_lt (p := p) (b := w) hp ((n - k * i % n) % n)
            have hmb : M k + R i * pw p w ((n - k * i % n) % n) < 2147483648 := mb' hb1 (by omega) (by omega)
            have hik : k * i < 2147483648 := mb0 (by omega) (by omega)
            have hml := Nat.mod_lt (k * i) (show n > 0 by omega)
            have hml2 := Nat.mod_lt (n - k * i % n) (show n > 0 by omega)
            have hni : n ^ (p - 2) % p < p := Nat.mod_lt _ hp0
            have hmn : M k * (n ^ (p - 2) % p) < 2147483648 := mb0 (by omega) (by omega)
            refine xw_iload (pc := 20) C 4 dX1_back_20 rfl ?_
            refine xw_aload_n (pc := 22) C 0 dX1_back_22 rfl ?_
            refine xw_get (pc := 23) (T := TX1) (N := 4) (ref := "ToneButterfliesLaw$Sim") C hin qs 0 (gl_old hs) rfl (by decide) (by decide +kernel) rfl rfl dX1_back_23 ?_
            refine xw_icmp_ge_N (pc := 26) (tgt := 79) C dX1_back_26 (by decide) (by omega) (by omega) (fun c_3 => ?_) (fun c_3 => ?_)
            ·
              refine xw_aload_n (pc := 79) C 2 dX1_back_79 rfl ?_
              refine xw_iload_n (pc := 80) C 3 dX1_back_80 rfl ?_
              refine xw_aload_n (pc := 81) C 2 dX1_back_81 rfl ?_
              refine xw_iload_n (pc := 82) C 3 dX1_back_82 rfl ?_
              refine xw_iald (pc := 83) C u.length 0 k gl_new rfl (rfl) (by omega) (by omega) dX1_back_83 ?_
              refine xw_aload_n (pc := 84) C 0 dX1_back_84 rfl ?_
              refine xw_aload_n (pc := 85) C 0 dX1_back_85 rfl ?_
              refine xw_get (pc := 86) (T := TX1) (N := 4) (ref := "ToneButterfliesLaw$Sim") C hin qs 0 (gl_old hs) rfl (by decide) (by decide +kernel) rfl rfl dX1_back_86 ?_
              refine xw_Vd (pc := 89) (q0 := qs) (na := 1) (rest := [nV (M k), nV k, .ref q_1]) (st' := [nV (n ^ (p - 2) % p), nV (M k), nV k, .ref q_1]) C (m_X1_inverse (gl_old hs) hp hp5 n (by omega) hnp hex) gX1_back_X1_inverse rfl rfl rfl rfl (by decide +kernel) ⟨(Nat.le_of_ble_eq_true rfl), (Nat.le_of_ble_eq_true rfl)⟩ (gl_old hs) rfl rfl (Nat.le_of_ble_eq_true rfl) dX1_back_89 ⟨(Nat.le_of_ble_eq_true rfl), (Nat.le_of_ble_eq_true rfl)⟩ rfl ?_
              refine xw_imul_N (pc := 92) C dX1_back_92 ?_
              refine xw_aload_n (pc := 93) C 0 dX1_back_93 rfl ?_
              refine xw_get (pc := 94) (T := TX1) (N := 4) (ref := "ToneButterfliesLaw$Sim") C hin qs 1 (gl_old hs) rfl (by decide) (by decide +kernel) rfl rfl dX1_back_94 ?_
              refine xw_irem_N (pc := 97) C dX1_back_97 (hmn) (by omega) ?_
              refine xw_iast (pc := 98) (w' := u ++ [(q_1, .inl (cI, n, .inl (fN (va_up M k (((M k) * (n ^ (p - 2) % p)) % p)))))]) C u.length 0 k (((M k) * (n ^ (p - 2) % p)) % p) gl_new rfl (rfl) rfl (by omega) (by omega) gl_set dX1_back_98 ?_
              refine xw_iinc_N (pc := 99) (b := k + 1) (lv' := [(0, .ref h), (1, .ref ra), (2, .ref q_1), (3, nV (k + 1)), (4, nV i)]) C 3 [1, 2, 3, 0, 4] dX1_back_99 rfl (by decide) rfl rfl ?_
              refine xw_goto (pc := 102) (tgt := 9) C dX1_back_102 (by decide) ?_
              refine xw_lv (lv' := [(0, .ref h), (1, .ref ra), (2, .ref q_1), (3, nV (k + 1))]) [0, 1, 2, 3] rfl ?_
              refine xw_wo (w' := u ++ [(q_1, .inl (cI, n, .inl (fN (mk (fun _ => 0) (fun k => bs p w n R k n * (n ^ (p - 2) % p) % p) (k + 1)))))]) (by rw [hMk, hM, va_uu, show i = n by omega, mk_s rfl]) ?_
              exact ih9 (k + 1) (by omega) (by omega)
            ·
              refine xw_aload_n (pc := 29) C 2 dX1_back_29 rfl ?_
              refine xw_iload_n (pc := 30) C 3 dX1_back_30 rfl ?_
              refine xw_aload_n (pc := 31) C 2 dX1_back_31 rfl ?_
              refine xw_iload_n (pc := 32) C 3 dX1_back_32 rfl ?_
              refine xw_iald (pc := 33) C u.length 0 k gl_new rfl (rfl) (by omega) (by omega) dX1_back_33 ?_
              refine xw_aload_n (pc := 34) C 1 dX1_back_34 rfl ?_
              refine xw_iload (pc := 35) C 4 dX1_back_35 rfl ?_
              refine xw_iald (pc := 37) C qa 0 i (gl_old hra) rfl (rfl) (by omega) (by omega) dX1_back_37 ?_
              refine xw_aload_n (pc := 38) C 0 dX1_back_38 rfl ?_
              refine xw_aload_n (pc := 39) C 0 dX1_back_39 rfl ?_
              refine xw_get (pc := 40) (T := TX1) (N := 4) (ref := "ToneButterfliesLaw$Sim") C hin qs 2 (gl_old hs) rfl (by decide) (by decide +kernel) rfl rfl dX1_back_40 ?_
              refine xw_aload_n (pc := 43) C 0 dX1_back_43 rfl ?_
              refine xw_get (pc := 44) (T := TX1) (N := 4) (ref := "ToneButterfliesLaw$Sim") C hin qs 0 (gl_old hs) rfl (by decide) (by decide +kernel) rfl rfl dX1_back_44 ?_
              refine xw_iload_n (pc := 47) C 3 dX1_back_47 rfl ?_
              refine xw_iload (pc := 48) C 4 dX1_back_48 rfl ?_
              refine xw_imul_N (pc := 50) C dX1_back_50 ?_
              refine xw_aload_n (pc := 51) C 0 dX1_back_51 rfl ?_
              refine xw_get (pc := 52) (T := TX1) (N := 4) (ref := "ToneButterfliesLaw$Sim") C hin qs 0 (gl_old hs) rfl (by decide) (by decide +kernel) rfl rfl dX1_back_52 ?_
              refine xw_irem_N (pc := 55) C dX1_back_55 (hik) (by omega) ?_
              refine xw_isub_N (pc := 56) C dX1_back_56 (by omega) ?_
              refine xw_aload_n (pc := 57) C 0 dX1_back_57 rfl ?_
              refine xw_get (pc := 58) (T := TX1) (N := 4) (ref := "ToneButterfliesLaw$Sim") C hin qs 0 (gl_old hs) rfl (by decide) (by decide +kernel) rfl rfl dX1_back_58 ?_
              refine xw_irem_N (pc := 61) C dX1_back_61 (by omega) (by omega) ?_
              refine xw_Vd (pc := 62) (q0 := qs) (na := 2) (rest := [nV (R i), nV (M k), nV k, .ref q_1]) (st' := [nV (pw p w ((n - ((k * i) % n)) % n)), nV (R i), nV (M k), nV k, .ref q_1]) C (m_X1_power (gl_old hs) (by omega) hp5 w ((n - ((k * i) % n)) % n) (by omega) (by omega)) gX1_back_X1_power rfl rfl rfl rfl (by decide +kernel) ⟨(Nat.le_of_ble_eq_true rfl), (Nat.le_of_ble_eq_true rfl)⟩ (gl_old hs) rfl rfl (Nat.le_of_ble_eq_true rfl) dX1_back_62 ⟨(Nat.le_of_ble_eq_true rfl), (Nat.le_of_ble_eq_true rfl)⟩ rfl ?_
              refine xw_imul_N (pc := 65) C dX1_back_65 ?_
              refine xw_iadd_N (pc := 66) C dX1_back_66 ?_
              refine xw_aload_n (pc := 67) C 0 dX1_back_67 rfl ?_
              refine xw_get (pc := 68) (T := TX1) (N := 4) (ref := "ToneButterfliesLaw$Sim") C hin qs 1 (gl_old hs) rfl (by decide) (by decide +kernel) rfl rfl dX1_back_68 ?_
              refine xw_irem_N (pc := 71) C dX1_back_71 (hmb) (by omega) ?_
              refine xw_iast (pc := 72) (w' := u ++ [(q_1, .inl (cI, n, .inl (fN (va_up M k (((M k) + ((R i) * (pw p w ((n - ((k * i) % n)) % n)))) % p)))))]) C u.length 0 k (((M k) + ((R i) * (pw p w ((n - ((k * i) % n)) % n)))) % p) gl_new rfl (rfl) rfl (by omega) (by omega) gl_set dX1_back_72 ?_
              refine xw_iinc_N (pc := 73) (b := i + 1) (lv' := [(0, .ref h), (1, .ref ra), (2, .ref q_1), (3, nV k), (4, nV (i + 1))]) C 4 [1, 2, 3, 4, 0] dX1_back_73 rfl (by decide) rfl rfl ?_
              refine xw_goto (pc := 76) (tgt := 20) C dX1_back_76 (by decide) ?_
              exact ih20 (i + 1) _ (by omega) (by omega) (by rw [hMk, hM, va_uu]; rfl)
        exact L20 (n + 1) 0 _ (by omega) (by omega) mk_u.symm
  refine xw_wo (w' := u ++ [(q_1, .inl (cI, n, .inl (fN (mk (fun _ => 0) (fun k => bs p w n R k n * (n ^ (p - 2) % p) % p) 0))))]) (by rw [mk_0]) ?_
  exact L9 (n + 1) 0 (by omega) (by omega)

set_option maxHeartbeats 4000000 in
set_option maxRecDepth 100000 in
theorem m_X1_mirrored {l : Launch} {D : va_G} {cI cQ : ClassId} {u : va_W} {h n p w rr qs : Nat} (hs : u[qs]? = some (h, .inr (1, [nV n, nV p, nV w, .ref rr]))) (hp : 1 < p) (hp5 : p < 500) (hn : n = 4 ∨ n = 8 ∨ n = 16) {R : Nat → Nat} (hR : ∀ j, R j < 500) {qa ra : Nat} (hra : u[qa]? = some (ra, .inl (cI, n, .inl (fN R)))) : CT l yX1_mirrored wsX1_mirrored { frames := 0, cells := 1, slots := 16, locals := 0 } D vwCl [(cI, .int), (cQ, .array .int)] [.ref h, .ref ra] (u) (PR cI n u (mk (fun _ => 0) (fun m => R (mi m (bt n))) n)) 1 16 := by
  refine ct_of (plainFor_of_name (by decide)) rfl (Nat.le_of_ble_eq_true rfl) (fun φ C rX => ?_)
  have hin : ∀ w ∈ wsX10, w ∈ wsX1_mirrored := by decide +kernel
  refine xw_le (lv' := [(0, .ref h), (1, .ref ra)]) rfl ?_
  have hn3 := lt3 hn
  have hp0 : 0 < p := by omega
  refine xw_aload_n (pc := 0) C 0 dX1_mirrored_0 rfl ?_
  refine xw_get (pc := 1) (T := TX1) (N := 4) (ref := "ToneButterfliesLaw$Sim") C hin qs 0 hs rfl (by decide) (by decide +kernel) rfl rfl dX1_mirrored_1 ?_
  refine xw_newI (pc := 4) C 0 rfl (by decide +kernel) (by show n * 4 ≤ 536870912; omega) (by show 0 + 1 ≤ 1; omega) (by show 0 + n ≤ 16; omega) dX1_mirrored_4 (fun q_1 => ?_)
  refine xw_wd (k' := 1) (n' := 16) (by omega) (by omega) ?_
  refine xw_astore_n (pc := 6) (lv' := [(0, .ref h), (1, .ref ra), (2, .ref q_1)]) C [1, 2, 0] dX1_mirrored_6 rfl (by decide) rfl ?_
  refine xw_iconst_N (pc := 7) C 0 dX1_mirrored_7 rfl ?_
  refine xw_istore_n (pc := 8) (lv' := [(0, .ref h), (1, .ref ra), (2, .ref q_1), (3, nV 0)]) C [1, 2, 3, 0] dX1_mirrored_8 rfl (by decide) rfl ?_
  have L9 : ∀ (fuel : Nat) (k : Nat), n < k + fuel → k ≤ n → xw φ 1 16 (u ++ [(q_1, .inl (cI, n, .inl (fN (mo (fun _ => 0) n (fun m => mi m (bt n)) R k))))]) 9 [(0, .ref h), (1, .ref ra), (2, .ref q_1), (3, nV k)] [] := by
    intro fuel
    induction fuel with
    | zero =>
      intro k hk hkn
      omega
    | succ fuel ih9 =>
      intro k hk hkn
      refine xw_iload_n (pc := 9) C 3 dX1_mirrored_9 rfl ?_
      refine xw_aload_n (pc := 10) C 0 dX1_mirrored_10 rfl ?_
      refine xw_get (pc := 11) (T := TX1) (N := 4) (ref := "ToneButterfliesLaw$Sim") C hin qs 0 (gl_old hs) rfl (by decide) (by decide +kernel) rfl rfl dX1_mirrored_11 ?_
      refine xw_icmp_ge_N (pc := 14) (tgt := 82) C dX1_mirrored_14 (by decide) (by omega) (by omega) (fun c_2 => ?_) (fun c_2 => ?_)
      ·
        refine xw_aload_n (pc := 82) C 2 dX1_mirrored_82 rfl ?_
        exact xw_aret (pc := 83) C rX (Or.inr ⟨_, rfl⟩) (Nat.le_refl _) (Nat.le_refl _) dX1_mirrored_83 (PR.e (by rw [show k = n by omega, mo_n (fun m hm => (mi_p n (by omega) hn m (by omega) hm).1)]))
      ·
        refine xw_iconst_N (pc := 17) C 0 dX1_mirrored_17 rfl ?_
        refine xw_istore (pc := 18) (lv' := [(0, .ref h), (1, .ref ra), (2, .ref q_1), (3, nV k), (4, nV 0)]) C [1, 2, 3, 4, 0] dX1_mirrored_18 (by decide) rfl ?_
        refine xw_iconst_N (pc := 20) C 1 dX1_mirrored_20 rfl ?_
        refine xw_istore (pc := 21) (lv' := [(0, .ref h), (1, .ref ra), (2, .ref q_1), (3, nV k), (4, nV 0), (5, nV 1)]) C [1, 2, 3, 4, 5, 0] dX1_mirrored_21 (by decide) rfl ?_
        refine xw_aload_n (pc := 23) C 0 dX1_mirrored_23 rfl ?_
        refine xw_get (pc := 24) (T := TX1) (N := 4) (ref := "ToneButterfliesLaw$Sim") C hin qs 0 (gl_old hs) rfl (by decide) (by decide +kernel) rfl rfl dX1_mirrored_24 ?_
        refine xw_iconst_N (pc := 27) C 2 dX1_mirrored_27 rfl ?_
        refine xw_idiv_N (pc := 28) C dX1_mirrored_28 (by omega) (by omega) ?_
        refine xw_istore (pc := 29) (lv' := [(0, .ref h), (1, .ref ra), (2, .ref q_1), (3, nV k), (4, nV 0), (5, nV 1), (6, nV (n / 2))]) C [1, 2, 3, 4, 5, 6, 0] dX1_mirrored_29 (by decide) rfl ?_
        have L31 : ∀ (fuel : Nat) (j t b y : Nat), bt n < j + fuel → j ≤ bt n → t = ms n k j → b = 2 ^ j → y = n / 2 ^ (j + 1) → xw φ 1 16 (u ++ [(q_1, .inl (cI, n, .inl (fN (mo (fun _ => 0) n (fun m => mi m (bt n)) R k))))]) 31 [(0, .ref h), (1, .ref ra), (2, .ref q_1), (3, nV k), (4, nV t), (5, nV b), (6, nV y)] [] := by
          intro fuel
          induction fuel with
          | zero =>
            intro j t b y hj hjb ht hb hy
            omega
          | succ fuel ih31 =>
            intro j t b y hj hjb ht hb hy
            have hkk : k < n := by omega
            have hbp := bt_p hn hjb
            have ht16 : t < 16 := by rw [ht]; exact (ms_p hn hkk).2 j hjb
            rw [← hb, ← hy] at hbp
            have hm1 := Nat.mod_lt (k / b) (show 2 > 0 by omega)
            have hmy : k / b % 2 * y ≤ 1 * 8 := Nat.mul_le_mul (by omega) hbp.2.2.2.1
            have hkd := Nat.div_le_self k b
            refine xw_iload (pc := 31) C 5 dX1_mirrored_31 rfl ?_
            refine xw_aload_n (pc := 33) C 0 dX1_mirrored_33 rfl ?_
            refine xw_get (pc := 34) (T := TX1) (N := 4) (ref := "ToneButterfliesLaw$Sim") C hin qs 0 (gl_old hs) rfl (by decide) (by decide +kernel) rfl rfl dX1_mirrored_34 ?_
            refine xw_icmp_ge_N (pc := 37) (tgt := 69) C dX1_mirrored_37 (by decide) (by omega) (by omega) (fun c_3 => ?_) (fun c_3 => ?_)
            ·
              have hje : j = bt n := by omega
              have hte : t < n ∧ (fun m => mi m (bt n)) t = k ∧ ∀ m, m < n → (fun m => mi m (bt n)) m = k → m = t := by
                have e : t = mi k (bt n) := by rw [ht, hje, (ms_p hn hkk).1]
                have hp1 := mi_p n (by omega) hn k (by omega) hkk
                refine ⟨by rw [e]; exact hp1.1, by rw [e]; exact hp1.2, fun m hm hmk => ?_⟩
                have hp2 := mi_p n (by omega) hn m (by omega) hm
                rw [e, ← hp2.2]; exact congrArg (fun z => mi z (bt n)) hmk
              refine xw_aload_n (pc := 69) C 2 dX1_mirrored_69 rfl ?_
              refine xw_iload (pc := 70) C 4 dX1_mirrored_70 rfl ?_
              refine xw_aload_n (pc := 72) C 1 dX1_mirrored_72 rfl ?_
              refine xw_iload_n (pc := 73) C 3 dX1_mirrored_73 rfl ?_
              refine xw_iald (pc := 74) C qa 0 k (gl_old hra) rfl (rfl) (by omega) (by omega) dX1_mirrored_74 ?_
              refine xw_iast (pc := 75) (w' := u ++ [(q_1, .inl (cI, n, .inl (fN (va_up (mo (fun _ => 0) n (fun m => mi m (bt n)) R k) t (R k)))))]) C u.length 0 t (R k) gl_new rfl (rfl) rfl (by omega) (by omega) gl_set dX1_mirrored_75 ?_
              refine xw_iinc_N (pc := 76) (b := k + 1) (lv' := [(0, .ref h), (1, .ref ra), (2, .ref q_1), (3, nV (k + 1)), (4, nV t), (5, nV b), (6, nV y)]) C 3 [1, 2, 3, 0, 4, 5, 6] dX1_mirrored_76 rfl (by decide) rfl rfl ?_
              refine xw_goto (pc := 79) (tgt := 9) C dX1_mirrored_79 (by decide) ?_
              refine xw_lv (lv' := [(0, .ref h), (1, .ref ra), (2, .ref q_1), (3, nV (k + 1))]) [0, 1, 2, 3] rfl ?_
              refine xw_wo (w' := u ++ [(q_1, .inl (cI, n, .inl (fN (mo (fun _ => 0) n (fun m => mi m (bt n)) R (k + 1)))))]) (by rw [mo_s rfl hte.1 hte.2.1 hte.2.2]) ?_
              exact ih9 (k + 1) (by omega) (by omega)
            ·
              have hjl : j < bt n := by omega
              refine xw_iload (pc := 40) C 4 dX1_mirrored_40 rfl ?_
              refine xw_iload_n (pc := 42) C 3 dX1_mirrored_42 rfl ?_
              refine xw_iload (pc := 43) C 5 dX1_mirrored_43 rfl ?_
              refine xw_idiv_N (pc := 45) C dX1_mirrored_45 (by omega) (by omega) ?_
              refine xw_iconst_N (pc := 46) C 2 dX1_mirrored_46 rfl ?_
              refine xw_irem_N (pc := 47) C dX1_mirrored_47 (by omega) (by omega) ?_
              refine xw_iload (pc := 48) C 6 dX1_mirrored_48 rfl ?_
              refine xw_imul_N (pc := 50) C dX1_mirrored_50 ?_
              refine xw_iadd_N (pc := 51) C dX1_mirrored_51 ?_
              refine xw_istore (pc := 52) (lv' := [(0, .ref h), (1, .ref ra), (2, .ref q_1), (3, nV k), (4, nV (t + (((k / b) % 2) * y))), (5, nV b), (6, nV y)]) C [1, 2, 3, 4, 0, 5, 6] dX1_mirrored_52 (by decide) rfl ?_
              refine xw_iload (pc := 54) C 5 dX1_mirrored_54 rfl ?_
              refine xw_iconst_N (pc := 56) C 2 dX1_mirrored_56 rfl ?_
              refine xw_imul_N (pc := 57) C dX1_mirrored_57 ?_
              refine xw_istore (pc := 58) (lv' := [(0, .ref h), (1, .ref ra), (2, .ref q_1), (3, nV k), (4, nV (t + (((k / b) % 2) * y))), (5, nV (b * 2)), (6, nV y)]) C [1, 2, 3, 4, 5, 0, 6] dX1_mirrored_58 (by decide) rfl ?_
              refine xw_iload (pc := 60) C 6 dX1_mirrored_60 rfl ?_
              refine xw_iconst_N (pc := 62) C 2 dX1_mirrored_62 rfl ?_
              refine xw_idiv_N (pc := 63) C dX1_mirrored_63 (by omega) (by omega) ?_
              refine xw_istore (pc := 64) (lv' := [(0, .ref h), (1, .ref ra), (2, .ref q_1), (3, nV k), (4, nV (t + (((k / b) % 2) * y))), (5, nV (b * 2)), (6, nV (y / 2))]) C [1, 2, 3, 4, 5, 6, 0] dX1_mirrored_64 (by decide) rfl ?_
              refine xw_goto (pc := 66) (tgt := 31) C dX1_mirrored_66 (by decide) ?_
              exact ih31 (j + 1) _ _ _ (by omega) (by omega) (by rw [ht, hb, hy]; rfl) (by rw [hb, Nat.pow_succ]) (by rw [hy, Nat.div_div_eq_div_mul, ← Nat.pow_succ])
        exact L31 (bt n + 1) 0 0 1 _ (by omega) (by omega) rfl rfl rfl
  refine xw_wo (w' := u ++ [(q_1, .inl (cI, n, .inl (fN (mo (fun _ => 0) n (fun m => mi m (bt n)) R 0))))]) (by rw [mo_0]) ?_
  exact L9 (n + 1) 0 (by omega) (by omega)

set_option maxHeartbeats 4000000 in
set_option maxRecDepth 100000 in
theorem m_X1_staged {l : Launch} {D : va_G} {cI cQ : ClassId} {u : va_W} {h n p w rr qs : Nat} (hs : u[qs]? = some (h, .inr (1, [nV n, nV p, nV w, .ref rr]))) (hp : 1 < p) (hp5 : p < 500) (hn : n = 4 ∨ n = 8 ∨ n = 16) (hw : w < 500) {R : Nat → Nat} (hR : ∀ j, R j < 500) (hRp : ∀ j, R j < p) {qa ra : Nat} (hra : u[qa]? = some (ra, .inl (cI, n, .inl (fN R)))) (st : Nat) (hst : st < bt n) : CT l yX1_staged wsX1_staged { frames := 1, cells := 1, slots := 16, locals := 24 } D vwCl [(cI, .int), (cQ, .array .int)] [.ref h, .ref ra, nV st] (u) (PR cI n u (mk (fun _ => 0) (sgR p n w R (2 ^ st)) n)) 1 16 := by
  refine ct_of (plainFor_of_name (by decide)) rfl (Nat.le_of_ble_eq_true rfl) (fun φ C rX => ?_)
  have hin : ∀ w ∈ wsX10, w ∈ wsX1_staged := by decide +kernel
  refine xw_le (lv' := [(0, .ref h), (1, .ref ra), (2, nV st)]) rfl ?_
  have hn3 := lt3 hn
  have hp0 : 0 < p := by omega
  obtain ⟨hh, hh2, hh3, hst4⟩ := stH n hn st hst _ rfl
  have hz : ∀ i, i ≤ st → 2 ^ i ≤ 16 := fun i hi => (bt_p hn (show i ≤ bt n by omega)).2.2.1
  refine xw_iconst_N (pc := 0) C 1 dX1_staged_0 rfl ?_
  refine xw_istore_n (pc := 1) (lv' := [(0, .ref h), (1, .ref ra), (2, nV st), (3, nV 1)]) C [1, 2, 3, 0] dX1_staged_1 rfl (by decide) rfl ?_
  refine xw_iconst_N (pc := 2) C 0 dX1_staged_2 rfl ?_
  refine xw_istore (pc := 3) (lv' := [(0, .ref h), (1, .ref ra), (2, nV st), (3, nV 1), (4, nV 0)]) C [1, 2, 3, 4, 0] dX1_staged_3 (by decide) rfl ?_
  have L5 : ∀ (fuel : Nat) (i x : Nat), st < i + fuel → i ≤ st → x = 2 ^ i → xw φ 0 0 (u) 5 [(0, .ref h), (1, .ref ra), (2, nV st), (3, nV x), (4, nV i)] [] := by
    intro fuel
    induction fuel with
    | zero =>
      intro i x hi hist hx
      omega
    | succ fuel ih5 =>
      intro i x hi hist hx
      have hx16 := hz i hist
      rw [← hx] at hx16
      refine xw_iload (pc := 5) C 4 dX1_staged_5 rfl ?_
      refine xw_iload_n (pc := 7) C 2 dX1_staged_7 rfl ?_
      refine xw_icmp_ge_N (pc := 8) (tgt := 21) C dX1_staged_8 (by decide) (by omega) (by omega) (fun c_1 => ?_) (fun c_1 => ?_)
      ·
        obtain rfl : st = i := by omega
        have hx4 : x = 1 ∨ x = 2 ∨ x = 4 ∨ x = 8 := by rw [hx]; exact hh
        have hx2 : 2 * x ≤ n := by rw [hx]; exact hh2
        have hx3 : n % (2 * x) = 0 := by rw [hx]; exact hh3
        clear hh hh2 hh3
        refine xw_aload_n (pc := 21) C 0 dX1_staged_21 rfl ?_
        refine xw_get (pc := 22) (T := TX1) (N := 4) (ref := "ToneButterfliesLaw$Sim") C hin qs 0 hs rfl (by decide) (by decide +kernel) rfl rfl dX1_staged_22 ?_
        refine xw_newI (pc := 25) C 0 rfl (by decide +kernel) (by show n * 4 ≤ 536870912; omega) (by show 0 + 1 ≤ 1; omega) (by show 0 + n ≤ 16; omega) dX1_staged_25 (fun q_2 => ?_)
        refine xw_wd (k' := 1) (n' := 16) (by omega) (by omega) ?_
        refine xw_astore (pc := 27) (lv' := [(0, .ref h), (1, .ref ra), (2, nV st), (3, nV x), (4, .ref q_2)]) C [1, 2, 3, 4, 0] dX1_staged_27 (by decide) rfl ?_
        refine xw_iconst_N (pc := 29) C 0 dX1_staged_29 rfl ?_
        refine xw_istore (pc := 30) (lv' := [(0, .ref h), (1, .ref ra), (2, nV st), (3, nV x), (4, .ref q_2), (5, nV 0)]) C [1, 2, 3, 4, 5, 0] dX1_staged_30 (by decide) rfl ?_
        have L32 : ∀ (fuel : Nat) (b c : Nat), n < b + fuel → b ≤ n → b = 2 * x * c → xw φ 1 16 (u ++ [(q_2, .inl (cI, n, .inl (fN (stm p n w R x b 0))))]) 32 [(0, .ref h), (1, .ref ra), (2, nV st), (3, nV x), (4, .ref q_2), (5, nV b)] [] := by
          intro fuel
          induction fuel with
          | zero =>
            intro b c hb hbn hbc
            omega
          | succ fuel ih32 =>
            intro b c hb hbn hbc
            refine xw_iload (pc := 32) C 5 dX1_staged_32 rfl ?_
            refine xw_aload_n (pc := 34) C 0 dX1_staged_34 rfl ?_
            refine xw_get (pc := 35) (T := TX1) (N := 4) (ref := "ToneButterfliesLaw$Sim") C hin qs 0 (gl_old hs) rfl (by decide) (by decide +kernel) rfl rfl dX1_staged_35 ?_
            refine xw_icmp_ge_N (pc := 38) (tgt := 156) C dX1_staged_38 (by decide) (by omega) (by omega) (fun c_3 => ?_) (fun c_3 => ?_)
            ·
              refine xw_aload (pc := 156) C 4 dX1_staged_156 rfl ?_
              exact xw_aret (pc := 158) C rX (Or.inr ⟨_, rfl⟩) (Nat.le_refl _) (Nat.le_refl _) dX1_staged_158 (PR.e (by rw [show b = n by omega, stm_n, hx]))
            ·
              have hbx : b + 2 * x ≤ n := by
                obtain ⟨t, ht⟩ := Nat.dvd_of_mod_eq_zero hx3
                have h9 : c < t := by
                  rcases Nat.lt_or_ge c t with z | z
                  · exact z
                  · have := Nat.mul_le_mul (Nat.le_refl (2 * x)) z; omega
                have h8 := Nat.mul_le_mul (Nat.le_refl (2 * x)) (show c + 1 ≤ t by omega)
                rw [Nat.mul_add, Nat.mul_one] at h8; omega
              refine xw_iconst_N (pc := 41) C 0 dX1_staged_41 rfl ?_
              refine xw_istore (pc := 42) (lv' := [(0, .ref h), (1, .ref ra), (2, nV st), (3, nV x), (4, .ref q_2), (5, nV b), (6, nV 0)]) C [1, 2, 3, 4, 5, 6, 0] dX1_staged_42 (by decide) rfl ?_
              have L44 : ∀ (fuel : Nat) (j : Nat), x < j + fuel → j ≤ x → xw φ 1 16 (u ++ [(q_2, .inl (cI, n, .inl (fN (stm p n w R x b j))))]) 44 [(0, .ref h), (1, .ref ra), (2, nV st), (3, nV x), (4, .ref q_2), (5, nV b), (6, nV j)] [] := by
                intro fuel
                induction fuel with
                | zero =>
                  intro j hj hjx
                  omega
                | succ fuel ih44 =>
                  intro j hj hjx
                  refine xw_iload (pc := 44) C 6 dX1_staged_44 rfl ?_
                  refine xw_iload_n (pc := 46) C 3 dX1_staged_46 rfl ?_
                  refine xw_icmp_ge_N (pc := 47) (tgt := 145) C dX1_staged_47 (by decide) (by omega) (by omega) (fun c_4 => ?_) (fun c_4 => ?_)
                  ·
                    refine xw_iload (pc := 145) C 5 dX1_staged_145 rfl ?_
                    refine xw_iconst_N (pc := 147) C 2 dX1_staged_147 rfl ?_
                    refine xw_iload_n (pc := 148) C 3 dX1_staged_148 rfl ?_
                    refine xw_imul_N (pc := 149) C dX1_staged_149 ?_
                    refine xw_iadd_N (pc := 150) C dX1_staged_150 ?_
                    refine xw_istore (pc := 151) (lv' := [(0, .ref h), (1, .ref ra), (2, nV st), (3, nV x), (4, .ref q_2), (5, nV (b + (2 * x))), (6, nV j)]) C [1, 2, 3, 4, 5, 0, 6] dX1_staged_151 (by decide) rfl ?_
                    refine xw_goto (pc := 153) (tgt := 32) C dX1_staged_153 (by decide) ?_
                    refine xw_lv (lv' := [(0, .ref h), (1, .ref ra), (2, nV st), (3, nV x), (4, .ref q_2), (5, nV (b + (2 * x)))]) [0, 1, 2, 3, 4, 5] rfl ?_
                    have hjx : j = x := by omega
                    subst hjx
                    refine xw_wo (w' := u ++ [(q_2, .inl (cI, n, .inl (fN (stm p n w R j (b + 2 * j) 0))))]) (by rw [stm_o (by omega)]) ?_
                    exact ih32 (b + 2 * j) (c + 1) (by omega) (by omega) (by rw [hbc, Nat.mul_add, Nat.mul_one])
                  ·
                    have hpe : pw p w (j * n / (2 * x)) = w ^ (j * (n / (2 * x))) % p := by rw [pw_pow hp, st_ex hx3]
                    have hb1 := hR (b + j + x)
                    have hb2 := pw_lt (p := p) (b := w) hp (j * n / (2 * x))
                    have hmb : R (b + j + x) * pw p w (j * n / (2 * x)) < 2147483648 := mb0 hb1 (by omega)
                    have hjn : j * n < 2147483648 := mb0 (by omega) (by omega)
                    have hb3 := hR (b + j)
                    have hde : j * n / (2 * x) < 500 := by
                      have h7 := Nat.div_le_self (j * n) (2 * x)
                      have h6 := Nat.mul_le_mul (show j ≤ 8 by omega) (show n ≤ 16 by omega)
                      omega
                    have hml := Nat.mod_lt (R (b + j + x) * pw p w (j * n / (2 * x))) hp0
                    refine xw_aload_n (pc := 50) C 1 dX1_staged_50 rfl ?_
                    refine xw_iload (pc := 51) C 5 dX1_staged_51 rfl ?_
                    refine xw_iload (pc := 53) C 6 dX1_staged_53 rfl ?_
                    refine xw_iadd_N (pc := 55) C dX1_staged_55 ?_
                    refine xw_iload_n (pc := 56) C 3 dX1_staged_56 rfl ?_
                    refine xw_iadd_N (pc := 57) C dX1_staged_57 ?_
                    refine xw_iald (pc := 58) C qa 0 ((b + j) + x) (gl_old hra) rfl (rfl) (by omega) (by omega) dX1_staged_58 ?_
                    refine xw_aload_n (pc := 59) C 0 dX1_staged_59 rfl ?_
                    refine xw_aload_n (pc := 60) C 0 dX1_staged_60 rfl ?_
                    refine xw_get (pc := 61) (T := TX1) (N := 4) (ref := "ToneButterfliesLaw$Sim") C hin qs 2 (gl_old hs) rfl (by decide) (by decide +kernel) rfl rfl dX1_staged_61 ?_
                    refine xw_iload (pc := 64) C 6 dX1_staged_64 rfl ?_
                    refine xw_aload_n (pc := 66) C 0 dX1_staged_66 rfl ?_
                    refine xw_get (pc := 67) (T := TX1) (N := 4) (ref := "ToneButterfliesLaw$Sim") C hin qs 0 (gl_old hs) rfl (by decide) (by decide +kernel) rfl rfl dX1_staged_67 ?_
                    refine xw_imul_N (pc := 70) C dX1_staged_70 ?_
                    refine xw_iconst_N (pc := 71) C 2 dX1_staged_71 rfl ?_
                    refine xw_iload_n (pc := 72) C 3 dX1_staged_72 rfl ?_
                    refine xw_imul_N (pc := 73) C dX1_staged_73 ?_
                    refine xw_idiv_N (pc := 74) C dX1_staged_74 (hjn) (by omega) ?_
                    refine xw_Vd (pc := 75) (q0 := qs) (na := 2) (rest := [nV (R ((b + j) + x))]) (st' := [nV (pw p w ((j * n) / (2 * x))), nV (R ((b + j) + x))]) C (m_X1_power (gl_old hs) (by omega) hp5 w ((j * n) / (2 * x)) (by omega) (hde)) gX1_staged_X1_power rfl rfl rfl rfl (by decide +kernel) ⟨(Nat.le_of_ble_eq_true rfl), (Nat.le_of_ble_eq_true rfl)⟩ (gl_old hs) rfl rfl (Nat.le_of_ble_eq_true rfl) dX1_staged_75 ⟨(Nat.le_of_ble_eq_true rfl), (Nat.le_of_ble_eq_true rfl)⟩ rfl ?_
                    refine xw_imul_N (pc := 78) C dX1_staged_78 ?_
                    refine xw_aload_n (pc := 79) C 0 dX1_staged_79 rfl ?_
                    refine xw_get (pc := 80) (T := TX1) (N := 4) (ref := "ToneButterfliesLaw$Sim") C hin qs 1 (gl_old hs) rfl (by decide) (by decide +kernel) rfl rfl dX1_staged_80 ?_
                    refine xw_irem_N (pc := 83) C dX1_staged_83 (hmb) (by omega) ?_
                    refine xw_istore (pc := 84) (lv' := [(0, .ref h), (1, .ref ra), (2, nV st), (3, nV x), (4, .ref q_2), (5, nV b), (6, nV j), (7, nV (((R ((b + j) + x)) * (pw p w ((j * n) / (2 * x)))) % p))]) C [1, 2, 3, 4, 5, 6, 7, 0] dX1_staged_84 (by decide) rfl ?_
                    refine xw_aload (pc := 86) C 4 dX1_staged_86 rfl ?_
                    refine xw_iload (pc := 88) C 5 dX1_staged_88 rfl ?_
                    refine xw_iload (pc := 90) C 6 dX1_staged_90 rfl ?_
                    refine xw_iadd_N (pc := 92) C dX1_staged_92 ?_
                    refine xw_aload_n (pc := 93) C 1 dX1_staged_93 rfl ?_
                    refine xw_iload (pc := 94) C 5 dX1_staged_94 rfl ?_
                    refine xw_iload (pc := 96) C 6 dX1_staged_96 rfl ?_
                    refine xw_iadd_N (pc := 98) C dX1_staged_98 ?_
                    refine xw_iald (pc := 99) C qa 0 (b + j) (gl_old hra) rfl (rfl) (by omega) (by omega) dX1_staged_99 ?_
                    refine xw_iload (pc := 100) C 7 dX1_staged_100 rfl ?_
                    refine xw_iadd_N (pc := 102) C dX1_staged_102 ?_
                    refine xw_aload_n (pc := 103) C 0 dX1_staged_103 rfl ?_
                    refine xw_get (pc := 104) (T := TX1) (N := 4) (ref := "ToneButterfliesLaw$Sim") C hin qs 1 (gl_old hs) rfl (by decide) (by decide +kernel) rfl rfl dX1_staged_104 ?_
                    refine xw_irem_N (pc := 107) C dX1_staged_107 (by omega) (by omega) ?_
                    refine xw_iast (pc := 108) (w' := u ++ [(q_2, .inl (cI, n, .inl (fN (va_up (stm p n w R x b j) (b + j) (((R (b + j)) + (((R ((b + j) + x)) * (pw p w ((j * n) / (2 * x)))) % p)) % p)))))]) C u.length 0 (b + j) (((R (b + j)) + (((R ((b + j) + x)) * (pw p w ((j * n) / (2 * x)))) % p)) % p) gl_new rfl (rfl) rfl (by omega) (by omega) gl_set dX1_staged_108 ?_
                    refine xw_aload (pc := 109) C 4 dX1_staged_109 rfl ?_
                    refine xw_iload (pc := 111) C 5 dX1_staged_111 rfl ?_
                    refine xw_iload (pc := 113) C 6 dX1_staged_113 rfl ?_
                    refine xw_iadd_N (pc := 115) C dX1_staged_115 ?_
                    refine xw_iload_n (pc := 116) C 3 dX1_staged_116 rfl ?_
                    refine xw_iadd_N (pc := 117) C dX1_staged_117 ?_
                    refine xw_aload_n (pc := 118) C 1 dX1_staged_118 rfl ?_
                    refine xw_iload (pc := 119) C 5 dX1_staged_119 rfl ?_
                    refine xw_iload (pc := 121) C 6 dX1_staged_121 rfl ?_
                    refine xw_iadd_N (pc := 123) C dX1_staged_123 ?_
                    refine xw_iald (pc := 124) C qa 0 (b + j) (gl_old hra) rfl (rfl) (by omega) (by omega) dX1_staged_124 ?_
                    refine xw_aload_n (pc := 125) C 0 dX1_staged_125 rfl ?_
                    refine xw_get (pc := 126) (T := TX1) (N := 4) (ref := "ToneButterfliesLaw$Sim") C hin qs 1 (gl_old hs) rfl (by decide) (by decide +kernel) rfl rfl dX1_staged_126 ?_
                    refine xw_iadd_N (pc := 129) C dX1_staged_129 ?_
                    refine xw_iload (pc := 130) C 7 dX1_staged_130 rfl ?_
                    refine xw_isub_N (pc := 132) C dX1_staged_132 (by omega) ?_
                    refine xw_aload_n (pc := 133) C 0 dX1_staged_133 rfl ?_
                    refine xw_get (pc := 134) (T := TX1) (N := 4) (ref := "ToneButterfliesLaw$Sim") C hin qs 1 (gl_old hs) rfl (by decide) (by decide +kernel) rfl rfl dX1_staged_134 ?_
                    refine xw_irem_N (pc := 137) C dX1_staged_137 (by omega) (by omega) ?_
                    refine xw_iast (pc := 138) (w' := u ++ [(q_2, .inl (cI, n, .inl (fN (va_up (va_up (stm p n w R x b j) (b + j) (((R (b + j)) + (((R ((b + j) + x)) * (pw p w ((j * n) / (2 * x)))) % p)) % p)) ((b + j) + x) ((((R (b + j)) + p) - (((R ((b + j) + x)) * (pw p w ((j * n) / (2 * x)))) % p)) % p)))))]) C u.length 0 ((b + j) + x) ((((R (b + j)) + p) - (((R ((b + j) + x)) * (pw p w ((j * n) / (2 * x)))) % p)) % p) gl_new rfl (rfl) rfl (by omega) (by omega) gl_set dX1_staged_138 ?_
                    refine xw_iinc_N (pc := 139) (b := j + 1) (lv' := [(0, .ref h), (1, .ref ra), (2, nV st), (3, nV x), (4, .ref q_2), (5, nV b), (6, nV (j + 1)), (7, nV (((R ((b + j) + x)) * (pw p w ((j * n) / (2 * x)))) % p))]) C 6 [1, 2, 3, 4, 5, 6, 0, 7] dX1_staged_139 rfl (by decide) rfl rfl ?_
                    refine xw_goto (pc := 142) (tgt := 44) C dX1_staged_142 (by decide) ?_
                    refine xw_lv (lv' := [(0, .ref h), (1, .ref ra), (2, nV st), (3, nV x), (4, .ref q_2), (5, nV b), (6, nV (j + 1))]) [0, 1, 2, 3, 4, 5, 6] rfl ?_
                    refine xw_wo (w' := u ++ [(q_2, .inl (cI, n, .inl (fN (stm p n w R x b (j + 1)))))]) (by rw [hpe, stm_s hx4 hbc (by omega) hbx]) ?_
                    exact ih44 (j + 1) (by omega) (by omega)
              exact L44 (x + 1) 0 (by omega) (by omega)
        refine xw_wo (w' := u ++ [(q_2, .inl (cI, n, .inl (fN (stm p n w R x 0 0))))]) (by rw [stm_0]) ?_
        exact L32 (n + 1) 0 0 (by omega) (by omega) (by omega)
      ·
        refine xw_iload_n (pc := 11) C 3 dX1_staged_11 rfl ?_
        refine xw_iconst_N (pc := 12) C 2 dX1_staged_12 rfl ?_
        refine xw_imul_N (pc := 13) C dX1_staged_13 ?_
        refine xw_istore_n (pc := 14) (lv' := [(0, .ref h), (1, .ref ra), (2, nV st), (3, nV (x * 2)), (4, nV i)]) C [1, 2, 3, 0, 4] dX1_staged_14 rfl (by decide) rfl ?_
        refine xw_iinc_N (pc := 15) (b := i + 1) (lv' := [(0, .ref h), (1, .ref ra), (2, nV st), (3, nV (x * 2)), (4, nV (i + 1))]) C 4 [1, 2, 3, 4, 0] dX1_staged_15 rfl (by decide) rfl rfl ?_
        refine xw_goto (pc := 18) (tgt := 5) C dX1_staged_18 (by decide) ?_
        exact ih5 (i + 1) _ (by omega) (by omega) (by rw [hx, Nat.pow_succ])
  exact L5 (st + 1) 0 1 (by omega) (by omega) rfl

set_option maxHeartbeats 4000000 in
set_option maxRecDepth 100000 in
theorem m_X1_folded {l : Launch} {D : va_G} {cI cQ : ClassId} {u : va_W} {h n p w rr qs : Nat} (hs : u[qs]? = some (h, .inr (1, [nV n, nV p, nV w, .ref rr]))) (hp : 1 < p) (hp5 : p < 500) (hn : n = 4 ∨ n = 8 ∨ n = 16) {R S : Nat → Nat} (hR : ∀ j, R j < 500) (hS : ∀ j, S j < 500) {qa ra : Nat} (hra : u[qa]? = some (ra, .inl (cI, n, .inl (fN R)))) {qb rb : Nat} (hrb : u[qb]? = some (rb, .inl (cI, n, .inl (fN S)))) : CT l yX1_folded wsX1_folded { frames := 0, cells := 1, slots := 16, locals := 0 } D vwCl [(cI, .int), (cQ, .array .int)] [.ref h, .ref ra, .ref rb] (u) (PR cI n u (mk (fun _ => 0) (fun m => fR p n R S m n) n)) 1 16 := by
  refine ct_of (plainFor_of_name (by decide)) rfl (Nat.le_of_ble_eq_true rfl) (fun φ C rX => ?_)
  have hin : ∀ w ∈ wsX10, w ∈ wsX1_folded := by decide +kernel
  refine xw_le (lv' := [(0, .ref h), (1, .ref ra), (2, .ref rb)]) rfl ?_
  have hn3 := lt3 hn
  have hp0 : 0 < p := by omega
  refine xw_aload_n (pc := 0) C 0 dX1_folded_0 rfl ?_
  refine xw_get (pc := 1) (T := TX1) (N := 4) (ref := "ToneButterfliesLaw$Sim") C hin qs 0 hs rfl (by decide) (by decide +kernel) rfl rfl dX1_folded_1 ?_
  refine xw_newI (pc := 4) C 0 rfl (by decide +kernel) (by show n * 4 ≤ 536870912; omega) (by show 0 + 1 ≤ 1; omega) (by show 0 + n ≤ 16; omega) dX1_folded_4 (fun q_1 => ?_)
  refine xw_wd (k' := 1) (n' := 16) (by omega) (by omega) ?_
  refine xw_astore_n (pc := 6) (lv' := [(0, .ref h), (1, .ref ra), (2, .ref rb), (3, .ref q_1)]) C [1, 2, 3, 0] dX1_folded_6 rfl (by decide) rfl ?_
  refine xw_iconst_N (pc := 7) C 0 dX1_folded_7 rfl ?_
  refine xw_istore (pc := 8) (lv' := [(0, .ref h), (1, .ref ra), (2, .ref rb), (3, .ref q_1), (4, nV 0)]) C [1, 2, 3, 4, 0] dX1_folded_8 (by decide) rfl ?_
  have L10 : ∀ (fuel : Nat) (i : Nat), n < i + fuel → i ≤ n → xw φ 1 16 (u ++ [(q_1, .inl (cI, n, .inl (fN (fkm p n R S i 0))))]) 10 [(0, .ref h), (1, .ref ra), (2, .ref rb), (3, .ref q_1), (4, nV i)] [] := by
    intro fuel
    induction fuel with
    | zero =>
      intro i hi hile
      omega
    | succ fuel ih10 =>
      intro i hi hile
      refine xw_iload (pc := 10) C 4 dX1_folded_10 rfl ?_
      refine xw_aload_n (pc := 12) C 0 dX1_folded_12 rfl ?_
      refine xw_get (pc := 13) (T := TX1) (N := 4) (ref := "ToneButterfliesLaw$Sim") C hin qs 0 (gl_old hs) rfl (by decide) (by decide +kernel) rfl rfl dX1_folded_13 ?_
      refine xw_icmp_ge_N (pc := 16) (tgt := 82) C dX1_folded_16 (by decide) (by omega) (by omega) (fun c_2 => ?_) (fun c_2 => ?_)
      ·
        refine xw_aload_n (pc := 82) C 3 dX1_folded_82 rfl ?_
        exact xw_aret (pc := 83) C rX (Or.inr ⟨_, rfl⟩) (Nat.le_refl _) (Nat.le_refl _) dX1_folded_83 (PR.e (by rw [show i = n by omega, fkm_e]))
      ·
        refine xw_iconst_N (pc := 19) C 0 dX1_folded_19 rfl ?_
        refine xw_istore (pc := 20) (lv' := [(0, .ref h), (1, .ref ra), (2, .ref rb), (3, .ref q_1), (4, nV i), (5, nV 0)]) C [1, 2, 3, 4, 5, 0] dX1_folded_20 (by decide) rfl ?_
        have L22 : ∀ (fuel : Nat) (k : Nat), n < k + fuel → k ≤ n → xw φ 1 16 (u ++ [(q_1, .inl (cI, n, .inl (fN (fkm p n R S i k))))]) 22 [(0, .ref h), (1, .ref ra), (2, .ref rb), (3, .ref q_1), (4, nV i), (5, nV k)] [] := by
          intro fuel
          induction fuel with
          | zero =>
            intro k hk hkn
            omega
          | succ fuel ih22 =>
            intro k hk hkn
            refine xw_iload (pc := 22) C 5 dX1_folded_22 rfl ?_
            refine xw_aload_n (pc := 24) C 0 dX1_folded_24 rfl ?_
            refine xw_get (pc := 25) (T := TX1) (N := 4) (ref := "ToneButterfliesLaw$Sim") C hin qs 0 (gl_old hs) rfl (by decide) (by decide +kernel) rfl rfl dX1_folded_25 ?_
            refine xw_icmp_ge_N (pc := 28) (tgt := 76) C dX1_folded_28 (by decide) (by omega) (by omega) (fun c_3 => ?_) (fun c_3 => ?_)
            ·
              refine xw_iinc_N (pc := 76) (b := i + 1) (lv' := [(0, .ref h), (1, .ref ra), (2, .ref rb), (3, .ref q_1), (4, nV (i + 1)), (5, nV k)]) C 4 [1, 2, 3, 4, 0, 5] dX1_folded_76 rfl (by decide) rfl rfl ?_
              refine xw_goto (pc := 79) (tgt := 10) C dX1_folded_79 (by decide) ?_
              refine xw_lv (lv' := [(0, .ref h), (1, .ref ra), (2, .ref rb), (3, .ref q_1), (4, nV (i + 1))]) [0, 1, 2, 3, 4] rfl ?_
              obtain rfl : k = n := by omega
              refine xw_wo (w' := u ++ [(q_1, .inl (cI, k, .inl (fN (fkm p k R S (i + 1) 0))))]) (by rw [fkm_n (by omega)]) ?_
              exact ih10 (i + 1) (by omega) (by omega)
            ·
              have hat := fkm_at (p := p) (R := R) (S := S) (i := i) (k := k) (n := n) (by omega) (by omega)
              have hal : fkm p n R S i k ((i + k) % n) < p := by rw [hat]; exact fR_lt hp0 i
              have hb1 := hR i
              have hb2 := hS k
              have hmb : fkm p n R S i k ((i + k) % n) + R i * S k < 2147483648 := mb' hb1 hb2 (by omega)
              have hml := Nat.mod_lt (i + k) (show n > 0 by omega)
              refine xw_aload_n (pc := 31) C 3 dX1_folded_31 rfl ?_
              refine xw_iload (pc := 32) C 4 dX1_folded_32 rfl ?_
              refine xw_iload (pc := 34) C 5 dX1_folded_34 rfl ?_
              refine xw_iadd_N (pc := 36) C dX1_folded_36 ?_
              refine xw_aload_n (pc := 37) C 0 dX1_folded_37 rfl ?_
              refine xw_get (pc := 38) (T := TX1) (N := 4) (ref := "ToneButterfliesLaw$Sim") C hin qs 0 (gl_old hs) rfl (by decide) (by decide +kernel) rfl rfl dX1_folded_38 ?_
              refine xw_irem_N (pc := 41) C dX1_folded_41 (by omega) (by omega) ?_
              refine xw_aload_n (pc := 42) C 3 dX1_folded_42 rfl ?_
              refine xw_iload (pc := 43) C 4 dX1_folded_43 rfl ?_
              refine xw_iload (pc := 45) C 5 dX1_folded_45 rfl ?_
              refine xw_iadd_N (pc := 47) C dX1_folded_47 ?_
              refine xw_aload_n (pc := 48) C 0 dX1_folded_48 rfl ?_
              refine xw_get (pc := 49) (T := TX1) (N := 4) (ref := "ToneButterfliesLaw$Sim") C hin qs 0 (gl_old hs) rfl (by decide) (by decide +kernel) rfl rfl dX1_folded_49 ?_
              refine xw_irem_N (pc := 52) C dX1_folded_52 (by omega) (by omega) ?_
              refine xw_iald (pc := 53) C u.length 0 ((i + k) % n) gl_new rfl (rfl) (by omega) (by omega) dX1_folded_53 ?_
              refine xw_aload_n (pc := 54) C 1 dX1_folded_54 rfl ?_
              refine xw_iload (pc := 55) C 4 dX1_folded_55 rfl ?_
              refine xw_iald (pc := 57) C qa 0 i (gl_old hra) rfl (rfl) (by omega) (by omega) dX1_folded_57 ?_
              refine xw_aload_n (pc := 58) C 2 dX1_folded_58 rfl ?_
              refine xw_iload (pc := 59) C 5 dX1_folded_59 rfl ?_
              refine xw_iald (pc := 61) C qb 0 k (gl_old hrb) rfl (rfl) (by omega) (by omega) dX1_folded_61 ?_
              refine xw_imul_N (pc := 62) C dX1_folded_62 ?_
              refine xw_iadd_N (pc := 63) C dX1_folded_63 ?_
              refine xw_aload_n (pc := 64) C 0 dX1_folded_64 rfl ?_
              refine xw_get (pc := 65) (T := TX1) (N := 4) (ref := "ToneButterfliesLaw$Sim") C hin qs 1 (gl_old hs) rfl (by decide) (by decide +kernel) rfl rfl dX1_folded_65 ?_
              refine xw_irem_N (pc := 68) C dX1_folded_68 (hmb) (by omega) ?_
              refine xw_iast (pc := 69) (w' := u ++ [(q_1, .inl (cI, n, .inl (fN (va_up (fkm p n R S i k) ((i + k) % n) ((((fkm p n R S i k) ((i + k) % n)) + ((R i) * (S k))) % p)))))]) C u.length 0 ((i + k) % n) ((((fkm p n R S i k) ((i + k) % n)) + ((R i) * (S k))) % p) gl_new rfl (rfl) rfl (by omega) (by omega) gl_set dX1_folded_69 ?_
              refine xw_iinc_N (pc := 70) (b := k + 1) (lv' := [(0, .ref h), (1, .ref ra), (2, .ref rb), (3, .ref q_1), (4, nV i), (5, nV (k + 1))]) C 5 [1, 2, 3, 4, 5, 0] dX1_folded_70 rfl (by decide) rfl rfl ?_
              refine xw_goto (pc := 73) (tgt := 22) C dX1_folded_73 (by decide) ?_
              refine xw_wo (w' := u ++ [(q_1, .inl (cI, n, .inl (fN (fkm p n R S i (k + 1)))))]) (by rw [hat, fkm_s (by omega) (by omega)]) ?_
              exact ih22 (k + 1) (by omega) (by omega)
        exact L22 (n + 1) 0 (by omega) (by omega)
  refine xw_wo (w' := u ++ [(q_1, .inl (cI, n, .inl (fN (fkm p n R S 0 0))))]) (by rw [fkm_0]) ?_
  exact L10 (n + 1) 0 (by omega) (by omega)

set_option maxHeartbeats 4000000 in
set_option maxRecDepth 100000 in
theorem m_X1_moved {l : Launch} {D : va_G} {cI cQ : ClassId} {u : va_W} {h n p w rr qs : Nat} (hs : u[qs]? = some (h, .inr (1, [nV n, nV p, nV w, .ref rr]))) (hp : 1 < p) (hp5 : p < 500) (hn : n = 4 ∨ n = 8 ∨ n = 16) {R : Nat → Nat} {qa ra : Nat} (hra : u[qa]? = some (ra, .inl (cI, n, .inl (fN R)))) (q : Nat) (hq : q ≤ n) : CT l yX1_moved wsX1_moved { frames := 0, cells := 1, slots := 16, locals := 0 } D vwCl [(cI, .int), (cQ, .array .int)] [.ref h, .ref ra, nV q] (u) (PR cI n u (mk (fun _ => 0) (mvR n q R) n)) 1 16 := by
  refine ct_of (plainFor_of_name (by decide)) rfl (Nat.le_of_ble_eq_true rfl) (fun φ C rX => ?_)
  have hin : ∀ w ∈ wsX10, w ∈ wsX1_moved := by decide +kernel
  refine xw_le (lv' := [(0, .ref h), (1, .ref ra), (2, nV q)]) rfl ?_
  have hn3 := lt3 hn
  refine xw_aload_n (pc := 0) C 0 dX1_moved_0 rfl ?_
  refine xw_get (pc := 1) (T := TX1) (N := 4) (ref := "ToneButterfliesLaw$Sim") C hin qs 0 hs rfl (by decide) (by decide +kernel) rfl rfl dX1_moved_1 ?_
  refine xw_newI (pc := 4) C 0 rfl (by decide +kernel) (by show n * 4 ≤ 536870912; omega) (by show 0 + 1 ≤ 1; omega) (by show 0 + n ≤ 16; omega) dX1_moved_4 (fun q_1 => ?_)
  refine xw_wd (k' := 1) (n' := 16) (by omega) (by omega) ?_
  refine xw_astore_n (pc := 6) (lv' := [(0, .ref h), (1, .ref ra), (2, nV q), (3, .ref q_1)]) C [1, 2, 3, 0] dX1_moved_6 rfl (by decide) rfl ?_
  refine xw_iconst_N (pc := 7) C 0 dX1_moved_7 rfl ?_
  refine xw_istore (pc := 8) (lv' := [(0, .ref h), (1, .ref ra), (2, nV q), (3, .ref q_1), (4, nV 0)]) C [1, 2, 3, 4, 0] dX1_moved_8 (by decide) rfl ?_
  have L10 : ∀ (fuel : Nat) (k : Nat), n < k + fuel → k ≤ n → xw φ 1 16 (u ++ [(q_1, .inl (cI, n, .inl (fN (mo (fun _ => 0) n (fun m => (m + n - q) % n) R k))))]) 10 [(0, .ref h), (1, .ref ra), (2, nV q), (3, .ref q_1), (4, nV k)] [] := by
    intro fuel
    induction fuel with
    | zero =>
      intro k hk hkn
      omega
    | succ fuel ih10 =>
      intro k hk hkn
      refine xw_iload (pc := 10) C 4 dX1_moved_10 rfl ?_
      refine xw_aload_n (pc := 12) C 0 dX1_moved_12 rfl ?_
      refine xw_get (pc := 13) (T := TX1) (N := 4) (ref := "ToneButterfliesLaw$Sim") C hin qs 0 (gl_old hs) rfl (by decide) (by decide +kernel) rfl rfl dX1_moved_13 ?_
      refine xw_icmp_ge_N (pc := 16) (tgt := 40) C dX1_moved_16 (by decide) (by omega) (by omega) (fun c_2 => ?_) (fun c_2 => ?_)
      ·
        refine xw_aload_n (pc := 40) C 3 dX1_moved_40 rfl ?_
        exact xw_aret (pc := 41) C rX (Or.inr ⟨_, rfl⟩) (Nat.le_refl _) (Nat.le_refl _) dX1_moved_41 (PR.e (by rw [show k = n by omega, mo_n (fun m hm => Nat.mod_lt _ (by omega))]; rfl))
      ·
        have hml := Nat.mod_lt (k + q) (show n > 0 by omega)
        have hmq := mv_q (k := k) hq (by omega)
        refine xw_aload_n (pc := 19) C 3 dX1_moved_19 rfl ?_
        refine xw_iload (pc := 20) C 4 dX1_moved_20 rfl ?_
        refine xw_iload_n (pc := 22) C 2 dX1_moved_22 rfl ?_
        refine xw_iadd_N (pc := 23) C dX1_moved_23 ?_
        refine xw_aload_n (pc := 24) C 0 dX1_moved_24 rfl ?_
        refine xw_get (pc := 25) (T := TX1) (N := 4) (ref := "ToneButterfliesLaw$Sim") C hin qs 0 (gl_old hs) rfl (by decide) (by decide +kernel) rfl rfl dX1_moved_25 ?_
        refine xw_irem_N (pc := 28) C dX1_moved_28 (by omega) (by omega) ?_
        refine xw_aload_n (pc := 29) C 1 dX1_moved_29 rfl ?_
        refine xw_iload (pc := 30) C 4 dX1_moved_30 rfl ?_
        refine xw_iald (pc := 32) C qa 0 k (gl_old hra) rfl (rfl) (by omega) (by omega) dX1_moved_32 ?_
        refine xw_iast (pc := 33) (w' := u ++ [(q_1, .inl (cI, n, .inl (fN (va_up (mo (fun _ => 0) n (fun m => (m + n - q) % n) R k) ((k + q) % n) (R k)))))]) C u.length 0 ((k + q) % n) (R k) gl_new rfl (rfl) rfl (by omega) (by omega) gl_set dX1_moved_33 ?_
        refine xw_iinc_N (pc := 34) (b := k + 1) (lv' := [(0, .ref h), (1, .ref ra), (2, nV q), (3, .ref q_1), (4, nV (k + 1))]) C 4 [1, 2, 3, 4, 0] dX1_moved_34 rfl (by decide) rfl rfl ?_
        refine xw_goto (pc := 37) (tgt := 10) C dX1_moved_37 (by decide) ?_
        refine xw_wo (w' := u ++ [(q_1, .inl (cI, n, .inl (fN (mo (fun _ => 0) n (fun m => (m + n - q) % n) R (k + 1)))))]) (by rw [mo_s rfl hml hmq.1 (fun m hm z => by rw [← z]; exact ((mv_q hq hm).2).symm)]) ?_
        exact ih10 (k + 1) (by omega) (by omega)
  refine xw_wo (w' := u ++ [(q_1, .inl (cI, n, .inl (fN (mo (fun _ => 0) n (fun m => (m + n - q) % n) R 0))))]) (by rw [mo_0]) ?_
  exact L10 (n + 1) 0 (by omega) (by omega)
end
