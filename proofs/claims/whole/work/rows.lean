section
-- ===== PART A: goes FIRST, ahead of the names: the tables' words, and 'selects' of the private methods out of them =====
/-- a private method of a class that the tables say can be made, by its rows of tables_1 -/
def lw_okq (q : MethodName × Nat) : Prop := (q.1.cls ≠ "java/lang/invoke/MethodHandle" ∧ q.1.cls ≠ "java/lang/invoke/VarHandle") ∧ Cond.instantiable q.1.cls q.2 ∈ tables_1 ∧ Cond.privateMethod q.1 ∈ tables_1 ∧ Cond.instanceMethod q.1 ∈ tables_1
theorem lw_p0 : lw_okq (⟨"ToneButterflies", "takeRing", "(II)V"⟩, 7) := ⟨⟨by decide +kernel, by decide +kernel⟩, List.mem_of_getElem? (i := 11) (by decide +kernel), List.mem_of_getElem? (i := 19) (by decide +kernel), List.mem_of_getElem? (i := 20) (by decide +kernel)⟩
theorem lw_p1 : lw_okq (⟨"ToneButterflies", "smallestRoot", "()I"⟩, 7) := ⟨⟨by decide +kernel, by decide +kernel⟩, List.mem_of_getElem? (i := 11) (by decide +kernel), List.mem_of_getElem? (i := 23) (by decide +kernel), List.mem_of_getElem? (i := 24) (by decide +kernel)⟩
theorem lw_p2 : lw_okq (⟨"ToneButterflies", "powerOf", "(II)I"⟩, 7) := ⟨⟨by decide +kernel, by decide +kernel⟩, List.mem_of_getElem? (i := 11) (by decide +kernel), List.mem_of_getElem? (i := 27) (by decide +kernel), List.mem_of_getElem? (i := 28) (by decide +kernel)⟩
theorem lw_p3 : lw_okq (⟨"ToneButterflies", "reduced", "(I)I"⟩, 7) := ⟨⟨by decide +kernel, by decide +kernel⟩, List.mem_of_getElem? (i := 11) (by decide +kernel), List.mem_of_getElem? (i := 31) (by decide +kernel), List.mem_of_getElem? (i := 32) (by decide +kernel)⟩
theorem lw_p4 : lw_okq (⟨"ToneButterflies", "inverseOf", "(I)I"⟩, 7) := ⟨⟨by decide +kernel, by decide +kernel⟩, List.mem_of_getElem? (i := 11) (by decide +kernel), List.mem_of_getElem? (i := 38) (by decide +kernel), List.mem_of_getElem? (i := 39) (by decide +kernel)⟩
theorem lw_p5 : lw_okq (⟨"ToneButterflies", "counted", "(I)I"⟩, 7) := ⟨⟨by decide +kernel, by decide +kernel⟩, List.mem_of_getElem? (i := 11) (by decide +kernel), List.mem_of_getElem? (i := 71) (by decide +kernel), List.mem_of_getElem? (i := 72) (by decide +kernel)⟩
theorem lw_p6 : lw_okq (⟨"ToneButterflies", "digestRow", "(JI)J"⟩, 7) := ⟨⟨by decide +kernel, by decide +kernel⟩, List.mem_of_getElem? (i := 11) (by decide +kernel), List.mem_of_getElem? (i := 75) (by decide +kernel), List.mem_of_getElem? (i := 76) (by decide +kernel)⟩
theorem lw_p7 : lw_okq (⟨"ToneButterflies", "read", "(II)I"⟩, 7) := ⟨⟨by decide +kernel, by decide +kernel⟩, List.mem_of_getElem? (i := 11) (by decide +kernel), List.mem_of_getElem? (i := 79) (by decide +kernel), List.mem_of_getElem? (i := 80) (by decide +kernel)⟩
theorem lw_p8 : lw_okq (⟨"ToneButterflies", "told", "(II)I"⟩, 7) := ⟨⟨by decide +kernel, by decide +kernel⟩, List.mem_of_getElem? (i := 11) (by decide +kernel), List.mem_of_getElem? (i := 83) (by decide +kernel), List.mem_of_getElem? (i := 84) (by decide +kernel)⟩
theorem lw_p9 : lw_okq (⟨"ToneButterflies", "plainSum", "(I)I"⟩, 7) := ⟨⟨by decide +kernel, by decide +kernel⟩, List.mem_of_getElem? (i := 11) (by decide +kernel), List.mem_of_getElem? (i := 87) (by decide +kernel), List.mem_of_getElem? (i := 88) (by decide +kernel)⟩
theorem lw_p10 : lw_okq (⟨"ToneButterflies", "nonZeros", "(I)I"⟩, 7) := ⟨⟨by decide +kernel, by decide +kernel⟩, List.mem_of_getElem? (i := 11) (by decide +kernel), List.mem_of_getElem? (i := 91) (by decide +kernel), List.mem_of_getElem? (i := 92) (by decide +kernel)⟩
theorem lw_p11 : lw_okq (⟨"ToneButterflies", "lastNonZero", "(I)I"⟩, 7) := ⟨⟨by decide +kernel, by decide +kernel⟩, List.mem_of_getElem? (i := 11) (by decide +kernel), List.mem_of_getElem? (i := 95) (by decide +kernel), List.mem_of_getElem? (i := 96) (by decide +kernel)⟩
theorem lw_p12 : lw_okq (⟨"ToneButterflies", "period", "(I)I"⟩, 7) := ⟨⟨by decide +kernel, by decide +kernel⟩, List.mem_of_getElem? (i := 11) (by decide +kernel), List.mem_of_getElem? (i := 99) (by decide +kernel), List.mem_of_getElem? (i := 100) (by decide +kernel)⟩
theorem lw_p13 : lw_okq (⟨"ToneButterflies", "isWhenMoved", "(III)Z"⟩, 7) := ⟨⟨by decide +kernel, by decide +kernel⟩, List.mem_of_getElem? (i := 11) (by decide +kernel), List.mem_of_getElem? (i := 103) (by decide +kernel), List.mem_of_getElem? (i := 104) (by decide +kernel)⟩
theorem lw_p14 : lw_okq (⟨"ToneButterflies", "wrapped", "(I)I"⟩, 7) := ⟨⟨by decide +kernel, by decide +kernel⟩, List.mem_of_getElem? (i := 11) (by decide +kernel), List.mem_of_getElem? (i := 107) (by decide +kernel), List.mem_of_getElem? (i := 108) (by decide +kernel)⟩
theorem lw_p15 : lw_okq (⟨"ToneButterflies", "greatestNumber", "(I)I"⟩, 7) := ⟨⟨by decide +kernel, by decide +kernel⟩, List.mem_of_getElem? (i := 11) (by decide +kernel), List.mem_of_getElem? (i := 111) (by decide +kernel), List.mem_of_getElem? (i := 112) (by decide +kernel)⟩
def lw_privs_1 : List (MethodName × Nat) := [(⟨"ToneButterflies", "takeRing", "(II)V"⟩, 7), (⟨"ToneButterflies", "smallestRoot", "()I"⟩, 7), (⟨"ToneButterflies", "powerOf", "(II)I"⟩, 7), (⟨"ToneButterflies", "reduced", "(I)I"⟩, 7), (⟨"ToneButterflies", "inverseOf", "(I)I"⟩, 7), (⟨"ToneButterflies", "counted", "(I)I"⟩, 7), (⟨"ToneButterflies", "digestRow", "(JI)J"⟩, 7), (⟨"ToneButterflies", "read", "(II)I"⟩, 7), (⟨"ToneButterflies", "told", "(II)I"⟩, 7), (⟨"ToneButterflies", "plainSum", "(I)I"⟩, 7), (⟨"ToneButterflies", "nonZeros", "(I)I"⟩, 7), (⟨"ToneButterflies", "lastNonZero", "(I)I"⟩, 7), (⟨"ToneButterflies", "period", "(I)I"⟩, 7), (⟨"ToneButterflies", "isWhenMoved", "(III)Z"⟩, 7), (⟨"ToneButterflies", "wrapped", "(I)I"⟩, 7), (⟨"ToneButterflies", "greatestNumber", "(I)I"⟩, 7)]
theorem lw_r1 : ∀ q ∈ lw_privs_1, lw_okq q := List.forall_mem_cons.mpr ⟨lw_p0, List.forall_mem_cons.mpr ⟨lw_p1, List.forall_mem_cons.mpr ⟨lw_p2, List.forall_mem_cons.mpr ⟨lw_p3, List.forall_mem_cons.mpr ⟨lw_p4, List.forall_mem_cons.mpr ⟨lw_p5, List.forall_mem_cons.mpr ⟨lw_p6, List.forall_mem_cons.mpr ⟨lw_p7, List.forall_mem_cons.mpr ⟨lw_p8, List.forall_mem_cons.mpr ⟨lw_p9, List.forall_mem_cons.mpr ⟨lw_p10, List.forall_mem_cons.mpr ⟨lw_p11, List.forall_mem_cons.mpr ⟨lw_p12, List.forall_mem_cons.mpr ⟨lw_p13, List.forall_mem_cons.mpr ⟨lw_p14, List.forall_mem_cons.mpr ⟨lw_p15, fun _ h => absurd h List.not_mem_nil⟩⟩⟩⟩⟩⟩⟩⟩⟩⟩⟩⟩⟩⟩⟩⟩
theorem lw_p16 : lw_okq (⟨"ToneButterflies", "scratchTones", "(I)V"⟩, 7) := ⟨⟨by decide +kernel, by decide +kernel⟩, List.mem_of_getElem? (i := 11) (by decide +kernel), List.mem_of_getElem? (i := 118) (by decide +kernel), List.mem_of_getElem? (i := 119) (by decide +kernel)⟩
theorem lw_p17 : lw_okq (⟨"ToneButterflies", "scratchValues", "(III)V"⟩, 7) := ⟨⟨by decide +kernel, by decide +kernel⟩, List.mem_of_getElem? (i := 11) (by decide +kernel), List.mem_of_getElem? (i := 122) (by decide +kernel), List.mem_of_getElem? (i := 123) (by decide +kernel)⟩
theorem lw_p18 : lw_okq (⟨"ToneButterflies", "valueAt", "(II)I"⟩, 7) := ⟨⟨by decide +kernel, by decide +kernel⟩, List.mem_of_getElem? (i := 11) (by decide +kernel), List.mem_of_getElem? (i := 126) (by decide +kernel), List.mem_of_getElem? (i := 127) (by decide +kernel)⟩
theorem lw_p19 : lw_okq (⟨"ToneButterflies", "write", "(III)V"⟩, 7) := ⟨⟨by decide +kernel, by decide +kernel⟩, List.mem_of_getElem? (i := 11) (by decide +kernel), List.mem_of_getElem? (i := 130) (by decide +kernel), List.mem_of_getElem? (i := 131) (by decide +kernel)⟩
theorem lw_p20 : lw_okq (⟨"java/lang/Throwable", "fillInStackTrace", "(I)Ljava/lang/Throwable;"⟩, 6) := ⟨⟨by decide +kernel, by decide +kernel⟩, List.mem_of_getElem? (i := 188) (by decide +kernel), List.mem_of_getElem? (i := 186) (by decide +kernel), List.mem_of_getElem? (i := 187) (by decide +kernel)⟩
theorem lw_p21 : lw_okq (⟨"ToneButterflies", "requireInvertible", "(I)V"⟩, 7) := ⟨⟨by decide +kernel, by decide +kernel⟩, List.mem_of_getElem? (i := 11) (by decide +kernel), List.mem_of_getElem? (i := 225) (by decide +kernel), List.mem_of_getElem? (i := 226) (by decide +kernel)⟩
theorem lw_p22 : lw_okq (⟨"ToneButterflies", "requireRow", "(I)V"⟩, 7) := ⟨⟨by decide +kernel, by decide +kernel⟩, List.mem_of_getElem? (i := 11) (by decide +kernel), List.mem_of_getElem? (i := 253) (by decide +kernel), List.mem_of_getElem? (i := 254) (by decide +kernel)⟩
theorem lw_p23 : lw_okq (⟨"ToneButterflies", "requirePlace", "(I)V"⟩, 7) := ⟨⟨by decide +kernel, by decide +kernel⟩, List.mem_of_getElem? (i := 11) (by decide +kernel), List.mem_of_getElem? (i := 273) (by decide +kernel), List.mem_of_getElem? (i := 274) (by decide +kernel)⟩
theorem lw_p24 : lw_okq (⟨"ToneButterflies", "requireNumber", "(I)V"⟩, 7) := ⟨⟨by decide +kernel, by decide +kernel⟩, List.mem_of_getElem? (i := 11) (by decide +kernel), List.mem_of_getElem? (i := 278) (by decide +kernel), List.mem_of_getElem? (i := 279) (by decide +kernel)⟩
theorem lw_p25 : lw_okq (⟨"ToneButterflies", "copyRow", "(II)I"⟩, 7) := ⟨⟨by decide +kernel, by decide +kernel⟩, List.mem_of_getElem? (i := 11) (by decide +kernel), List.mem_of_getElem? (i := 290) (by decide +kernel), List.mem_of_getElem? (i := 291) (by decide +kernel)⟩
theorem lw_p26 : lw_okq (⟨"ToneButterflies", "scratchTurnedBack", "(I)V"⟩, 7) := ⟨⟨by decide +kernel, by decide +kernel⟩, List.mem_of_getElem? (i := 11) (by decide +kernel), List.mem_of_getElem? (i := 301) (by decide +kernel), List.mem_of_getElem? (i := 302) (by decide +kernel)⟩
theorem lw_p27 : lw_okq (⟨"ToneButterflies", "mirrored", "(I)I"⟩, 7) := ⟨⟨by decide +kernel, by decide +kernel⟩, List.mem_of_getElem? (i := 11) (by decide +kernel), List.mem_of_getElem? (i := 312) (by decide +kernel), List.mem_of_getElem? (i := 313) (by decide +kernel)⟩
theorem lw_p28 : lw_okq (⟨"ToneButterflies", "butterfly", "(IIII)V"⟩, 7) := ⟨⟨by decide +kernel, by decide +kernel⟩, List.mem_of_getElem? (i := 11) (by decide +kernel), List.mem_of_getElem? (i := 324) (by decide +kernel), List.mem_of_getElem? (i := 325) (by decide +kernel)⟩
theorem lw_p29 : lw_okq (⟨"ToneButterflies", "foldedAt", "(III)I"⟩, 7) := ⟨⟨by decide +kernel, by decide +kernel⟩, List.mem_of_getElem? (i := 11) (by decide +kernel), List.mem_of_getElem? (i := 335) (by decide +kernel), List.mem_of_getElem? (i := 336) (by decide +kernel)⟩
theorem lw_p30 : lw_okq (⟨"ToneButterflies", "joined", "(III)I"⟩, 7) := ⟨⟨by decide +kernel, by decide +kernel⟩, List.mem_of_getElem? (i := 11) (by decide +kernel), List.mem_of_getElem? (i := 347) (by decide +kernel), List.mem_of_getElem? (i := 348) (by decide +kernel)⟩
theorem lw_p31 : lw_okq (⟨"ToneButterflies", "soundWhenMoved", "(III)I"⟩, 7) := ⟨⟨by decide +kernel, by decide +kernel⟩, List.mem_of_getElem? (i := 11) (by decide +kernel), List.mem_of_getElem? (i := 417) (by decide +kernel), List.mem_of_getElem? (i := 418) (by decide +kernel)⟩
def lw_privs_2 : List (MethodName × Nat) := [(⟨"ToneButterflies", "scratchTones", "(I)V"⟩, 7), (⟨"ToneButterflies", "scratchValues", "(III)V"⟩, 7), (⟨"ToneButterflies", "valueAt", "(II)I"⟩, 7), (⟨"ToneButterflies", "write", "(III)V"⟩, 7), (⟨"java/lang/Throwable", "fillInStackTrace", "(I)Ljava/lang/Throwable;"⟩, 6), (⟨"ToneButterflies", "requireInvertible", "(I)V"⟩, 7), (⟨"ToneButterflies", "requireRow", "(I)V"⟩, 7), (⟨"ToneButterflies", "requirePlace", "(I)V"⟩, 7), (⟨"ToneButterflies", "requireNumber", "(I)V"⟩, 7), (⟨"ToneButterflies", "copyRow", "(II)I"⟩, 7), (⟨"ToneButterflies", "scratchTurnedBack", "(I)V"⟩, 7), (⟨"ToneButterflies", "mirrored", "(I)I"⟩, 7), (⟨"ToneButterflies", "butterfly", "(IIII)V"⟩, 7), (⟨"ToneButterflies", "foldedAt", "(III)I"⟩, 7), (⟨"ToneButterflies", "joined", "(III)I"⟩, 7), (⟨"ToneButterflies", "soundWhenMoved", "(III)I"⟩, 7)]
theorem lw_r2 : ∀ q ∈ lw_privs_2, lw_okq q := List.forall_mem_cons.mpr ⟨lw_p16, List.forall_mem_cons.mpr ⟨lw_p17, List.forall_mem_cons.mpr ⟨lw_p18, List.forall_mem_cons.mpr ⟨lw_p19, List.forall_mem_cons.mpr ⟨lw_p20, List.forall_mem_cons.mpr ⟨lw_p21, List.forall_mem_cons.mpr ⟨lw_p22, List.forall_mem_cons.mpr ⟨lw_p23, List.forall_mem_cons.mpr ⟨lw_p24, List.forall_mem_cons.mpr ⟨lw_p25, List.forall_mem_cons.mpr ⟨lw_p26, List.forall_mem_cons.mpr ⟨lw_p27, List.forall_mem_cons.mpr ⟨lw_p28, List.forall_mem_cons.mpr ⟨lw_p29, List.forall_mem_cons.mpr ⟨lw_p30, List.forall_mem_cons.mpr ⟨lw_p31, fun _ h => absurd h List.not_mem_nil⟩⟩⟩⟩⟩⟩⟩⟩⟩⟩⟩⟩⟩⟩⟩⟩
theorem lw_p32 : lw_okq (⟨"ToneButterfliesModel", "no", "(I)I"⟩, 7) := ⟨⟨by decide +kernel, by decide +kernel⟩, List.mem_of_getElem? (i := 435) (by decide +kernel), List.mem_of_getElem? (i := 477) (by decide +kernel), List.mem_of_getElem? (i := 478) (by decide +kernel)⟩
theorem lw_p33 : lw_okq (⟨"ToneButterfliesModel", "rootOf", "()I"⟩, 7) := ⟨⟨by decide +kernel, by decide +kernel⟩, List.mem_of_getElem? (i := 435) (by decide +kernel), List.mem_of_getElem? (i := 481) (by decide +kernel), List.mem_of_getElem? (i := 482) (by decide +kernel)⟩
theorem lw_p34 : lw_okq (⟨"ToneButterfliesModel", "orderOf", "(I)I"⟩, 7) := ⟨⟨by decide +kernel, by decide +kernel⟩, List.mem_of_getElem? (i := 435) (by decide +kernel), List.mem_of_getElem? (i := 485) (by decide +kernel), List.mem_of_getElem? (i := 486) (by decide +kernel)⟩
theorem lw_p35 : lw_okq (⟨"ToneButterfliesModel", "by", "(II)I"⟩, 7) := ⟨⟨by decide +kernel, by decide +kernel⟩, List.mem_of_getElem? (i := 435) (by decide +kernel), List.mem_of_getElem? (i := 489) (by decide +kernel), List.mem_of_getElem? (i := 490) (by decide +kernel)⟩
theorem lw_p36 : lw_okq (⟨"ToneButterfliesModel", "isUnit", "(I)Z"⟩, 7) := ⟨⟨by decide +kernel, by decide +kernel⟩, List.mem_of_getElem? (i := 435) (by decide +kernel), List.mem_of_getElem? (i := 497) (by decide +kernel), List.mem_of_getElem? (i := 498) (by decide +kernel)⟩
theorem lw_p37 : lw_okq (⟨"ToneButterfliesModel", "inverseOf", "(I)I"⟩, 7) := ⟨⟨by decide +kernel, by decide +kernel⟩, List.mem_of_getElem? (i := 435) (by decide +kernel), List.mem_of_getElem? (i := 505) (by decide +kernel), List.mem_of_getElem? (i := 506) (by decide +kernel)⟩
theorem lw_p38 : lw_okq (⟨"ToneButterfliesModel", "power", "(II)I"⟩, 7) := ⟨⟨by decide +kernel, by decide +kernel⟩, List.mem_of_getElem? (i := 435) (by decide +kernel), List.mem_of_getElem? (i := 513) (by decide +kernel), List.mem_of_getElem? (i := 514) (by decide +kernel)⟩
theorem lw_p39 : lw_okq (⟨"ToneButterfliesModel", "isPlace", "(I)Z"⟩, 7) := ⟨⟨by decide +kernel, by decide +kernel⟩, List.mem_of_getElem? (i := 435) (by decide +kernel), List.mem_of_getElem? (i := 524) (by decide +kernel), List.mem_of_getElem? (i := 525) (by decide +kernel)⟩
theorem lw_p40 : lw_okq (⟨"ToneButterfliesModel", "its", "(II)I"⟩, 7) := ⟨⟨by decide +kernel, by decide +kernel⟩, List.mem_of_getElem? (i := 435) (by decide +kernel), List.mem_of_getElem? (i := 528) (by decide +kernel), List.mem_of_getElem? (i := 529) (by decide +kernel)⟩
theorem lw_p41 : lw_okq (⟨"ToneButterfliesModel", "changes", "(I)I"⟩, 7) := ⟨⟨by decide +kernel, by decide +kernel⟩, List.mem_of_getElem? (i := 435) (by decide +kernel), List.mem_of_getElem? (i := 539) (by decide +kernel), List.mem_of_getElem? (i := 540) (by decide +kernel)⟩
theorem lw_p42 : lw_okq (⟨"ToneButterfliesModel", "lay", "(I)V"⟩, 7) := ⟨⟨by decide +kernel, by decide +kernel⟩, List.mem_of_getElem? (i := 435) (by decide +kernel), List.mem_of_getElem? (i := 543) (by decide +kernel), List.mem_of_getElem? (i := 544) (by decide +kernel)⟩
theorem lw_p43 : lw_okq (⟨"ToneButterfliesModel", "makeTones", "(III)V"⟩, 7) := ⟨⟨by decide +kernel, by decide +kernel⟩, List.mem_of_getElem? (i := 435) (by decide +kernel), List.mem_of_getElem? (i := 551) (by decide +kernel), List.mem_of_getElem? (i := 552) (by decide +kernel)⟩
theorem lw_p44 : lw_okq (⟨"ToneButterfliesModel", "pointOf", "(II)I"⟩, 7) := ⟨⟨by decide +kernel, by decide +kernel⟩, List.mem_of_getElem? (i := 435) (by decide +kernel), List.mem_of_getElem? (i := 555) (by decide +kernel), List.mem_of_getElem? (i := 556) (by decide +kernel)⟩
theorem lw_p45 : lw_okq (⟨"ToneButterfliesModel", "plus", "(II)I"⟩, 7) := ⟨⟨by decide +kernel, by decide +kernel⟩, List.mem_of_getElem? (i := 435) (by decide +kernel), List.mem_of_getElem? (i := 559) (by decide +kernel), List.mem_of_getElem? (i := 560) (by decide +kernel)⟩
theorem lw_p46 : lw_okq (⟨"ToneButterfliesModel", "mirrored", "(I)I"⟩, 7) := ⟨⟨by decide +kernel, by decide +kernel⟩, List.mem_of_getElem? (i := 435) (by decide +kernel), List.mem_of_getElem? (i := 567) (by decide +kernel), List.mem_of_getElem? (i := 568) (by decide +kernel)⟩
theorem lw_p47 : lw_okq (⟨"ToneButterfliesModel", "minus", "(II)I"⟩, 7) := ⟨⟨by decide +kernel, by decide +kernel⟩, List.mem_of_getElem? (i := 435) (by decide +kernel), List.mem_of_getElem? (i := 575) (by decide +kernel), List.mem_of_getElem? (i := 576) (by decide +kernel)⟩
def lw_privs_3 : List (MethodName × Nat) := [(⟨"ToneButterfliesModel", "no", "(I)I"⟩, 7), (⟨"ToneButterfliesModel", "rootOf", "()I"⟩, 7), (⟨"ToneButterfliesModel", "orderOf", "(I)I"⟩, 7), (⟨"ToneButterfliesModel", "by", "(II)I"⟩, 7), (⟨"ToneButterfliesModel", "isUnit", "(I)Z"⟩, 7), (⟨"ToneButterfliesModel", "inverseOf", "(I)I"⟩, 7), (⟨"ToneButterfliesModel", "power", "(II)I"⟩, 7), (⟨"ToneButterfliesModel", "isPlace", "(I)Z"⟩, 7), (⟨"ToneButterfliesModel", "its", "(II)I"⟩, 7), (⟨"ToneButterfliesModel", "changes", "(I)I"⟩, 7), (⟨"ToneButterfliesModel", "lay", "(I)V"⟩, 7), (⟨"ToneButterfliesModel", "makeTones", "(III)V"⟩, 7), (⟨"ToneButterfliesModel", "pointOf", "(II)I"⟩, 7), (⟨"ToneButterfliesModel", "plus", "(II)I"⟩, 7), (⟨"ToneButterfliesModel", "mirrored", "(I)I"⟩, 7), (⟨"ToneButterfliesModel", "minus", "(II)I"⟩, 7)]
theorem lw_r3 : ∀ q ∈ lw_privs_3, lw_okq q := List.forall_mem_cons.mpr ⟨lw_p32, List.forall_mem_cons.mpr ⟨lw_p33, List.forall_mem_cons.mpr ⟨lw_p34, List.forall_mem_cons.mpr ⟨lw_p35, List.forall_mem_cons.mpr ⟨lw_p36, List.forall_mem_cons.mpr ⟨lw_p37, List.forall_mem_cons.mpr ⟨lw_p38, List.forall_mem_cons.mpr ⟨lw_p39, List.forall_mem_cons.mpr ⟨lw_p40, List.forall_mem_cons.mpr ⟨lw_p41, List.forall_mem_cons.mpr ⟨lw_p42, List.forall_mem_cons.mpr ⟨lw_p43, List.forall_mem_cons.mpr ⟨lw_p44, List.forall_mem_cons.mpr ⟨lw_p45, List.forall_mem_cons.mpr ⟨lw_p46, List.forall_mem_cons.mpr ⟨lw_p47, fun _ h => absurd h List.not_mem_nil⟩⟩⟩⟩⟩⟩⟩⟩⟩⟩⟩⟩⟩⟩⟩⟩
theorem lw_p48 : lw_okq (⟨"ToneButterfliesModel", "folded", "(III)I"⟩, 7) := ⟨⟨by decide +kernel, by decide +kernel⟩, List.mem_of_getElem? (i := 435) (by decide +kernel), List.mem_of_getElem? (i := 583) (by decide +kernel), List.mem_of_getElem? (i := 584) (by decide +kernel)⟩
theorem lw_p49 : lw_okq (⟨"ToneButterfliesModel", "others", "(I)I"⟩, 7) := ⟨⟨by decide +kernel, by decide +kernel⟩, List.mem_of_getElem? (i := 435) (by decide +kernel), List.mem_of_getElem? (i := 591) (by decide +kernel), List.mem_of_getElem? (i := 592) (by decide +kernel)⟩
theorem lw_p50 : lw_okq (⟨"ToneButterfliesModel", "aboutTold", "(II)I"⟩, 7) := ⟨⟨by decide +kernel, by decide +kernel⟩, List.mem_of_getElem? (i := 435) (by decide +kernel), List.mem_of_getElem? (i := 615) (by decide +kernel), List.mem_of_getElem? (i := 616) (by decide +kernel)⟩
theorem lw_p51 : lw_okq (⟨"ToneButterfliesModel", "isMoved", "(III)Z"⟩, 7) := ⟨⟨by decide +kernel, by decide +kernel⟩, List.mem_of_getElem? (i := 435) (by decide +kernel), List.mem_of_getElem? (i := 619) (by decide +kernel), List.mem_of_getElem? (i := 620) (by decide +kernel)⟩
theorem lw_p52 : lw_okq (⟨"ToneButterfliesModel", "counted", "(I)I"⟩, 7) := ⟨⟨by decide +kernel, by decide +kernel⟩, List.mem_of_getElem? (i := 435) (by decide +kernel), List.mem_of_getElem? (i := 628) (by decide +kernel), List.mem_of_getElem? (i := 629) (by decide +kernel)⟩
theorem lw_p53 : lw_okq (⟨"ToneButterfliesModel", "comesBy", "(II)I"⟩, 7) := ⟨⟨by decide +kernel, by decide +kernel⟩, List.mem_of_getElem? (i := 435) (by decide +kernel), List.mem_of_getElem? (i := 640) (by decide +kernel), List.mem_of_getElem? (i := 641) (by decide +kernel)⟩
theorem lw_p54 : lw_okq (⟨"ToneButterfliesModel", "together", "(III)I"⟩, 7) := ⟨⟨by decide +kernel, by decide +kernel⟩, List.mem_of_getElem? (i := 435) (by decide +kernel), List.mem_of_getElem? (i := 648) (by decide +kernel), List.mem_of_getElem? (i := 649) (by decide +kernel)⟩
theorem lw_p55 : lw_okq (⟨"ToneButterfliesModel", "areTones", "(II)Z"⟩, 7) := ⟨⟨by decide +kernel, by decide +kernel⟩, List.mem_of_getElem? (i := 435) (by decide +kernel), List.mem_of_getElem? (i := 656) (by decide +kernel), List.mem_of_getElem? (i := 657) (by decide +kernel)⟩
def lw_privs_4 : List (MethodName × Nat) := [(⟨"ToneButterfliesModel", "folded", "(III)I"⟩, 7), (⟨"ToneButterfliesModel", "others", "(I)I"⟩, 7), (⟨"ToneButterfliesModel", "aboutTold", "(II)I"⟩, 7), (⟨"ToneButterfliesModel", "isMoved", "(III)Z"⟩, 7), (⟨"ToneButterfliesModel", "counted", "(I)I"⟩, 7), (⟨"ToneButterfliesModel", "comesBy", "(II)I"⟩, 7), (⟨"ToneButterfliesModel", "together", "(III)I"⟩, 7), (⟨"ToneButterfliesModel", "areTones", "(II)Z"⟩, 7)]
theorem lw_r4 : ∀ q ∈ lw_privs_4, lw_okq q := List.forall_mem_cons.mpr ⟨lw_p48, List.forall_mem_cons.mpr ⟨lw_p49, List.forall_mem_cons.mpr ⟨lw_p50, List.forall_mem_cons.mpr ⟨lw_p51, List.forall_mem_cons.mpr ⟨lw_p52, List.forall_mem_cons.mpr ⟨lw_p53, List.forall_mem_cons.mpr ⟨lw_p54, List.forall_mem_cons.mpr ⟨lw_p55, fun _ h => absurd h List.not_mem_nil⟩⟩⟩⟩⟩⟩⟩⟩
def lw_privs : List (MethodName × Nat) := lw_privs_1 ++ (lw_privs_2 ++ (lw_privs_3 ++ (lw_privs_4)))
def lw_tbl : List Cond := k2_sels lw_privs ++ tables_1
theorem lw_privs_ok : ∀ q ∈ lw_privs, lw_okq q := by
  show ∀ q ∈ lw_privs_1 ++ (lw_privs_2 ++ (lw_privs_3 ++ (lw_privs_4))), lw_okq q
  exact List.forall_mem_append.mpr ⟨lw_r1, List.forall_mem_append.mpr ⟨lw_r2, List.forall_mem_append.mpr ⟨lw_r3, lw_r4⟩⟩⟩
/-- the streams that the claim lets the run draw from -/
abbrev lw_cs : List Choice := [Jvm.Choice.named "NaN.bits"]
theorem lw_bits : nanBits ∈ lw_cs := by first | decide | exact List.mem_cons_self | simp [lw_cs, nanBits]
end
section
/-! ===== BEGIN words of one list among another's, by their places ===== -/
theorem goodIn_r {big : List Cond} (ws : List Cond) (ps : List Nat) (hp : ws = ps.filterMap (fun i => big[i]?)) (h : ws.all goodWord = true) : GoodIn big ws := by
  intro w hw
  have h1 := List.all_eq_true.mp h w hw
  rw [hp] at hw
  obtain ⟨i, -, hi⟩ := List.mem_filterMap.mp hw
  have hm : w ∈ big := by first | exact List.mem_of_getElem? hi | exact List.getElem?_mem hi
  exact ⟨hm, good_of_word h1⟩
theorem goodIn_app {big a b : List Cond} (ha : GoodIn big a) (hb : GoodIn big b) : GoodIn big (a ++ b) := fun w h => (List.mem_append.mp h).elim (ha w) (hb w)
theorem goodIn_ca {big a b : List Cond} {c : Cond} (ha : GoodIn big (c :: a)) (hb : GoodIn big b) : GoodIn big (c :: (a ++ b)) := fun w h => (List.mem_cons.mp h).elim (fun e => ha w (List.mem_cons.mpr (Or.inl e))) (fun h => (List.mem_append.mp h).elim (fun h => ha w (List.mem_cons.mpr (Or.inr h))) (hb w))
theorem goodIn_sub {big ws : List Cond} (hm : ∀ w ∈ ws, w ∈ big) (h : ws.all goodWord = true) : GoodIn big ws := fun w hw => ⟨hm w hw, good_of_word (List.all_eq_true.mp h w hw)⟩
/-! ===== END ===== -/

/-! ===== BEGIN exceptions that leave a method, and their catching by the caller (launches without stack traces) ===== -/
section VXA
/-! The laws vx_back, vx_callV, vx_callS, vx_callSW, vx_throw0, vx_throwS follow proofs of the library, with one case more: JvmDerived/Free/Laws.lean (Back.of_free), Shelf42/LK1.lean (callV, callS), Shelf/KitTraced.lean (throwNew0V, throwNewS). -/
/-- where a method has thrown q: the class by its name, the cell, what was written, the world -/
def vx_T (XC : String → State → State → Prop) (st : State) (q : Addr) (t : State) (mc ms : Nat) (free : Addr → Prop) : Prop :=
  ∃ (E : String) (ce : Cell) (L : List Loc), XC E st t ∧ t.heap[q]? = some ce ∧ ce.vm = .none ∧ st.vm.findClass E = some ce.cls ∧ st.WarmedH t.vm ∧ st.sameButNew ({ t with vm := st.vm } : State) L mc ms ∧ ∀ z ∈ L, free z.base
def vx_Q (Qc : Array Value → State → Outcome → State → Prop) (XC : String → State → State → Prop) (mc ms : Nat) (free : Addr → Prop) : Array Value → State → Outcome → State → Prop := fun a st o t =>
  (Qc a st o t ∧ ∃ L, FrameEnd st o t L mc ms ∧ ∀ q ∈ L, free q.base) ∨ ∃ q, o = .threw q ∧ vx_T XC st q t mc ms free
/-- a callee that returns or throws -/
def vx_Met (l : Launch) (y : MethodName) (ws : List Cond) (rm : Room) (Pc : Array Value → State → Prop) (Qc : Array Value → State → Outcome → State → Prop) (XC : String → State → State → Prop) (mc ms : Nat) (free : Addr → Prop) : Prop :=
  MetFree l y (headSpec ws rm) Pc (fun _ _ _ _ _ => True) (vx_Q Qc XC mc ms free)
def vx_Post (XC : String → State → State → Prop) (mc ms : Nat) (free : Addr → Prop) : Pt → Array Value → Addr → Pt → Prop := fun A a q B =>
  ∃ (g : JFrame) (mk : MethodId) (t : State) (L : List Loc) (E : String) (ce : Cell), B.U.heap = t.heap ∧ B.U.vm = t.vm ∧ XC E (A.U.calling g mk a) t ∧ t.heap[q]? = some ce ∧ ce.vm = .none ∧ A.U.vm.findClass E = some ce.cls ∧ B.locs = A.locs ++ L ∧ (∀ z ∈ L, free z.base) ∧ B.cells = A.cells + mc ∧ B.slots = A.slots + ms
def vx_Back (l : Launch) (R : Room) (p : Program) (e : Env) (below : List Frame) (s : State) (sargs : Array Value) (y : MethodName) (len W9 : Nat)
    (Pre : Pt → Array Value → Prop) (Post : Pt → Array Value → Option Value → Pt → Prop) (PostX : Pt → Array Value → Addr → Pt → Prop) : Prop :=
  ∀ (m : MethodId) (meth : Method) (c : Code) (A : Pt) (g : JFrame) (ig : Instr) (mk : MethodId) (a : Array Value),
    Stand p l e R s m sargs below meth c A.U A.locs A.cells A.slots → g.method = m → g.locals.size = c.maxLocals → decode c.code g.pc = .ok (ig, len) →
    2 * g.monitorRoom + (g.stack.map fun v => v.category).sum ≤ W9 → A.U.methodNamed? y = some mk → Pre A a →
    (∃ (v : Option Value) (B : Pt), Stand p l e R s m sargs below meth c B.U B.locs B.cells B.slots ∧ Post A a v B ∧
      Steps p.tables e below (doInvoke e (A.U.setTop g) [] mk a).1 (B.U.setTop { g with pc := g.pc + len, stack := v.toList ++ g.stack })) ∨
    (∃ (q : Addr) (B : Pt), Stand p l e R s m sargs below meth c B.U B.locs B.cells B.slots ∧ PostX A a q B ∧
      Steps p.tables e below (doInvoke e (A.U.setTop g) [] mk a).1 ((B.U.setTop g).pushFrame (.throwing q)))
section Payer
variable {l : Launch} {R : Room} {p : Program} {e : Env} {below : List Frame} {s : State} {sargs : Array Value} {y : MethodName} {len W9 : Nat}
theorem vx_back {ws : List Cond} {rm : Room} {Pc : Array Value → State → Prop} {Qc : Array Value → State → Outcome → State → Prop} {XC : String → State → State → Prop} {mc ms : Nat} {free : Addr → Prop} {bytes : ByteArray} {maxL : Nat} {ret : Option FieldType}
    (hM : vx_Met l y ws rm Pc Qc XC mc ms free) (hblind : FrameBlind Pc) (hrc : rm.cells = mc) (hrs : rm.slots = ms)
    (hframes : rm.frames + 1 ≤ R.frames) (hlocals : W9 + (maxL + 11) + rm.locals ≤ R.locals)
    (hws : ∀ w ∈ ws, ∀ a' U, s.WarmedH U.vm → w.before a' U = true) (hcode : Cond.code y bytes maxL ret ∈ ws) (hinit : ∀ a' U, s.WarmedH U.vm → (Cond.initialized y.cls).before a' U = true) :
    vx_Back l R p e below s sargs y len W9 (PreOf R mc ms Pc) (PostOf Qc mc ms free) (vx_Post XC mc ms free) := by
  intro m meth c A g ig mk a X hg hsize hdg hW hn hp
  have h1 : (headSpec ws rm).pre.before a A.U = true := atoms_intro fun w hw => hws w hw _ _ X.warmed
  have h2 : (Cond.code y bytes maxL ret).before a A.U = true := hws _ hcode _ _ X.warmed
  have h3 : (Cond.initialized y.cls).before a A.U = true := hinit _ _ X.warmed
  have h4 : A.cells + (headSpec ws rm).room.cells ≤ R.cells := by rw [show (headSpec ws rm).room.cells = mc from hrc]; exact hp.1
  have h5 : A.slots + (headSpec ws rm).room.slots ≤ R.slots := by rw [show (headSpec ws rm).room.slots = ms from hrs]; exact hp.2.1
  have hPc : Pc a (A.U.calling g mk a) := hblind _ _ _ _ hp.2.2
  obtain ⟨U, Ls, c0, s0⟩ := A
  dsimp only [Pt.U, Pt.locs, Pt.cells, Pt.slots] at h1 h2 h3 h4 h5 X hn hPc ⊢
  obtain ⟨methY, cY, hmY, hcY, -, hlY, -, -, -, -⟩ := Cond.code_spec hn h2
  obtain ⟨kY, hkY, -⟩ := className_of_methodNamed hn
  have hinitY : kY.init = .initialized := Cond.initialized_spec (findClass_of_methodNamed hn) hkY h3
  have h : At U g.method c below := by rw [hg]; exact X.here
  have hlocals9 : W9 + (maxL + 11) + (headSpec ws rm).room.locals ≤ R.locals := hlocals
  have happ : (headSpec ws rm).appliesLoose y e.platform (U.calling g mk a) = true :=
    Spec.appliesLoose_calling (g := g) h hdg hn hkY hinitY
      (X.room_calling (g := g) (R' := (headSpec ws rm).room) hsize hmY hcY hframes (by rw [hlY]; omega) h4 h5) h1
  obtain ⟨mid, hmid⟩ := h.above
  have hfr : (U.setTop g).frames = (.java g :: mid) ++ below := by rw [State.frames_setTop' g h.top, hmid]; rfl
  obtain ⟨o, s₂, hsteps, -, hend, hq⟩ := Steps.callFree hM p X.admits X.cas X.clock (acts := []) hfr happ hPc trivial
  have hq' : vx_Q Qc XC mc ms free a (U.calling g mk a) o s₂ := hq
  rw [State.frames_setTop' g h.top] at hend
  obtain ⟨g₀, hg0⟩ := Option.isSome_iff_exists.mp h.top
  obtain ⟨r, hr⟩ := State.topJava?_eq_some.mp hg0
  have hr' : (({ U with heap := s₂.heap, slotsUsed := s₂.slotsUsed } : State).setVm s₂.vm).frames = .java g₀ :: r := hr
  rcases hq' with ⟨hqc, L, hfe, hL⟩ | ⟨q, rfl, E, ce, L, hx, hce, hcv, hcl, hW₂, hsm, hL⟩
  · obtain ⟨⟨v, rfl⟩, hW₂, e2, q2, q3, q4, q5, q6⟩ := id hfe
    have e3 : s₂ = ({ (U.calling g mk a).setFrames s₂.frames with heap := s₂.heap, slotsUsed := s₂.slotsUsed } : State).setVm s₂.vm := by
      have : s₂ = ({ s₂ with vm := (U.calling g mk a).vm } : State).setVm s₂.vm := rfl
      rw [e2] at this
      exact this
    obtain ⟨c₂, i₂, len₂, hc₂, hd₂, hf₂⟩ := hend
    have hW' : U.WarmedH s₂.vm := hW₂
    have hcc : c₂ = c := by
      have h1 : s₂.code? g.method = U.code? g.method := by
        rw [State.code?_eq, State.code?_eq, hW'.alike.method?]
      exact Option.some.inj (hc₂.symm.trans (h1.trans h.code))
    subst hcc
    have hlen : len₂ = len := by rw [hdg] at hd₂; cases hd₂; rfl
    subst hlen
    have hs₂ : s₂ = (({ U with heap := s₂.heap, slotsUsed := s₂.slotsUsed } : State).setVm s₂.vm).setTop { g with pc := g.pc + len₂, stack := v.toList ++ g.stack } := by
      refine e3.trans ?_
      rw [hf₂, State.calling_eq h.top, State.setFrames_setFrames, State.setTop_of_frames _ hr', hr]
      rfl
    have hsame : U.sameButNew ({ U with heap := s₂.heap, slotsUsed := s₂.slotsUsed } : State) L mc ms := by
      refine ⟨?_, q2, q3, q4, q5, q6⟩
      obtain ⟨t, ht, -⟩ := State.frames_cons hr
      show ({ U with heap := s₂.heap, slotsUsed := s₂.slotsUsed } : State) = { U.setFrames U.frames with heap := s₂.heap, slotsUsed := s₂.slotsUsed }
      rw [State.setFrames_self ht]
    subst hg
    refine Or.inl ⟨v, ⟨(({ U with heap := s₂.heap, slotsUsed := s₂.slotsUsed } : State).setVm s₂.vm), Ls ++ L, c0 + mc, s0 + ms⟩,
      ⟨X.admits, X.cas, X.clock, X.frames, X.room, X.hears, X.method, X.code, (X.here.setHeapUsed s₂.heap s₂.slotsUsed).setVm hW'.alike, X.tail, State.WarmedH.trans X.warmed hW', X.limits, X.bytes, X.same.trans (hsame.setVm s.vm)⟩,
      ⟨g, mk, s₂, L, rfl, rfl, hqc, rfl, hL, rfl, rfl⟩, ?_⟩
    show Steps p.tables e below _ ((({ U with heap := s₂.heap, slotsUsed := s₂.slotsUsed } : State).setVm s₂.vm).setTop { g with pc := g.pc + len₂, stack := v.toList ++ g.stack })
    rw [← hs₂]
    exact hsteps
  · obtain ⟨e2, q2, q3, q4, q5, q6⟩ := id hsm
    have e3 : s₂ = ({ (U.calling g mk a).setFrames s₂.frames with heap := s₂.heap, slotsUsed := s₂.slotsUsed } : State).setVm s₂.vm := by
      have : s₂ = ({ s₂ with vm := (U.calling g mk a).vm } : State).setVm s₂.vm := rfl
      rw [e2] at this
      exact this
    have hf₂ : s₂.frames = .throwing q :: .java g :: U.frames.tail := hend
    have hW' : U.WarmedH s₂.vm := hW₂
    have hs₂ : s₂ = ((({ U with heap := s₂.heap, slotsUsed := s₂.slotsUsed } : State).setVm s₂.vm).setTop g).pushFrame (.throwing q) := by
      refine e3.trans ?_
      rw [hf₂, State.calling_eq h.top, State.setFrames_setFrames, State.pushFrame, State.frames_setTop _ hr', State.setTop_of_frames _ hr', State.setFrames_setFrames, hr]
      rfl
    have hsame : U.sameButNew ({ U with heap := s₂.heap, slotsUsed := s₂.slotsUsed } : State) L mc ms := by
      refine ⟨?_, q2, q3, q4, q5, q6⟩
      obtain ⟨t, ht, -⟩ := State.frames_cons hr
      show ({ U with heap := s₂.heap, slotsUsed := s₂.slotsUsed } : State) = { U.setFrames U.frames with heap := s₂.heap, slotsUsed := s₂.slotsUsed }
      rw [State.setFrames_self ht]
    subst hg
    refine Or.inr ⟨q, ⟨(({ U with heap := s₂.heap, slotsUsed := s₂.slotsUsed } : State).setVm s₂.vm), Ls ++ L, c0 + mc, s0 + ms⟩,
      ⟨X.admits, X.cas, X.clock, X.frames, X.room, X.hears, X.method, X.code, (X.here.setHeapUsed s₂.heap s₂.slotsUsed).setVm hW'.alike, X.tail, State.WarmedH.trans X.warmed hW', X.limits, X.bytes, X.same.trans (hsame.setVm s.vm)⟩,
      ⟨g, mk, s₂, L, E, ce, rfl, rfl, hx, hce, hcv, hcl, rfl, hL, rfl, rfl⟩, ?_⟩
    show Steps p.tables e below _ (((({ U with heap := s₂.heap, slotsUsed := s₂.slotsUsed } : State).setVm s₂.vm).setTop g).pushFrame (.throwing q))
    rw [← hs₂]
    exact hsteps
end Payer
section Calls
variable {p : Program} {l : Launch} {e : Env} {R : Room} {s : State} {m : MethodId} {args : Array Value} {below : List Frame} {meth : Method} {c : Code} {T : State} {locs : List Loc} {cells slots : Nat}
theorem vx_callV (X : Stand p l e R s m args below meth c T locs cells slots) (hexec : p.tables.exec = Jvm.exec) {own C : String} {index : Nat} {y : MethodName} {bytes : ByteArray} {maxL : Nat} {ret : Option FieldType}
    (hown : s.vm.findClass own = some m.cls) (hlink : (Cond.methodLink own index y).before args s = true) (hinst : (Cond.instanceMethod y).before args s = true) (hsel : (Cond.selects C y y).before args s = true)
    (hcode : (Cond.code y bytes maxL ret).before args s = true) (hy : y.cls ≠ "java/lang/invoke/MethodHandle" ∧ y.cls ≠ "java/lang/invoke/VarHandle")
    {W9 : Nat} {Pre : Pt → Array Value → Prop} {Post : Pt → Array Value → Option Value → Pt → Prop} {PostX : Pt → Array Value → Addr → Pt → Prop} (hK : vx_Back l R p e below s args y 3 W9 Pre Post PostX)
    {b : Addr} {cellB : Cell} (hcell : T.heap[b]? = some cellB) (hobj : cellB.vm.isStatics = false) (hcls : s.vm.findClass C = some cellB.cls)
    {g : JFrame} (hg : g.method = m) (hsize : g.locals.size = c.maxLocals) {argsL rest : List Value} (hlen : ∀ sig, parseMethodDescriptor y.desc = some sig → argsL.length = sig.parameters.length)
    (hstack : g.stack = argsL.reverse ++ .ref b :: rest) (hW : 2 * g.monitorRoom + (rest.map fun v => v.category).sum ≤ W9) (hdg : decode c.code g.pc = .ok (.invokevirtual index, 3))
    (hpre : ∀ vm₁, s.WarmedH vm₁ → Pre ⟨T.setVm vm₁, locs, cells, slots⟩ (Value.ref b :: argsL).toArray) :
    (∃ (v : Option Value) (vm₁ : Vm) (B : Pt), s.WarmedH vm₁ ∧ Stand p l e R s m args below meth c B.U B.locs B.cells B.slots ∧ Post ⟨T.setVm vm₁, locs, cells, slots⟩ (Value.ref b :: argsL).toArray v B ∧
      ∀ target, Steps p.tables e below (B.U.setTop { g with pc := g.pc + 3, stack := v.toList ++ rest }) target → Steps p.tables e below (T.setTop g) target) ∨
    (∃ (q : Addr) (vm₁ : Vm) (B : Pt), s.WarmedH vm₁ ∧ Stand p l e R s m args below meth c B.U B.locs B.cells B.slots ∧ PostX ⟨T.setVm vm₁, locs, cells, slots⟩ (Value.ref b :: argsL).toArray q B ∧
      Steps p.tables e below (T.setTop g) ((B.U.setTop { g with stack := rest }).pushFrame (.throwing q))) := by
  obtain ⟨mk, methM, hnamed, hmethM, hstM, habM⟩ := Cond.instanceMethod_spec hinst
  obtain ⟨methM', cM, hmethM', -, -, -, -, -, -, hsigM⟩ := Cond.code_spec hnamed hcode
  cases hmethM.symm.trans hmethM'
  obtain ⟨c2, r2, m2, q1, q2, q3, q4, kP, hkP, hkPi⟩ := Cond.selects_spec hsel
  cases hcls.symm.trans q1
  cases (State.methodFound?_of_named hnamed hy).symm.trans q2
  cases hnamed.symm.trans q3
  have hselP : selectMethod e.platform s.vm cellB.cls mk = .method mk := by rw [Launch.admits_selectMethod X.admits]; exact q4
  obtain ⟨vm₁, X₁, hstep₁⟩ := X.invokevirtual hexec hown hlink hnamed hmethM hstM hkP hkPi hy (a := b) (cell := cellB) hcell
    (fun z h => by rw [h] at hobj; cases hobj) hselP hmethM habM hkP hkPi (g := g) hg (argsL := argsL) (rest := rest) (hlen _ hsigM) hstack hdg
  rcases hK m meth c ⟨T.setVm vm₁, locs, cells, slots⟩ { g with stack := rest } (.invokevirtual index) mk (Value.ref b :: argsL).toArray X₁ hg hsize hdg hW (X₁.named hnamed) (hpre vm₁ X₁.warmed) with ⟨v, B, X', hpost, hsteps⟩ | ⟨q, B, X', hpost, hsteps⟩
  · exact Or.inl ⟨v, vm₁, B, X₁.warmed, X', hpost, fun target h => hstep₁ _ fun acts => by rw [doInvoke_state]; exact hsteps.trans h⟩
  · exact Or.inr ⟨q, vm₁, B, X₁.warmed, X', hpost, hstep₁ _ fun acts => by rw [doInvoke_state]; exact hsteps⟩
theorem vx_callS (X : Stand p l e R s m args below meth c T locs cells slots) (hexec : p.tables.exec = Jvm.exec) {own : String} {index : Nat} {y : MethodName} {bytes : ByteArray} {maxL : Nat} {ret : Option FieldType}
    (hown : s.vm.findClass own = some m.cls) (hlink : (Cond.methodLink own index y).before args s = true) (hstat : (Cond.static y).before args s = true) (hinit : (Cond.initialized y.cls).before args s = true)
    (hcode : (Cond.code y bytes maxL ret).before args s = true) (hy : y.cls ≠ "java/lang/invoke/MethodHandle" ∧ y.cls ≠ "java/lang/invoke/VarHandle")
    {W9 : Nat} {Pre : Pt → Array Value → Prop} {Post : Pt → Array Value → Option Value → Pt → Prop} {PostX : Pt → Array Value → Addr → Pt → Prop} (hK : vx_Back l R p e below s args y 3 W9 Pre Post PostX)
    {g : JFrame} (hg : g.method = m) (hsize : g.locals.size = c.maxLocals) {argsL rest : List Value} (hlen : ∀ sig, parseMethodDescriptor y.desc = some sig → argsL.length = sig.parameters.length)
    (hstack : g.stack = argsL.reverse ++ rest) (hW : 2 * g.monitorRoom + (rest.map fun v => v.category).sum ≤ W9) (hdg : decode c.code g.pc = .ok (.invokestatic index, 3))
    (hpre : ∀ vm₁, s.WarmedH vm₁ → Pre ⟨T.setVm vm₁, locs, cells, slots⟩ argsL.toArray) :
    (∃ (v : Option Value) (vm₁ : Vm) (B : Pt), s.WarmedH vm₁ ∧ Stand p l e R s m args below meth c B.U B.locs B.cells B.slots ∧ Post ⟨T.setVm vm₁, locs, cells, slots⟩ argsL.toArray v B ∧
      ∀ target, Steps p.tables e below (B.U.setTop { g with pc := g.pc + 3, stack := v.toList ++ rest }) target → Steps p.tables e below (T.setTop g) target) ∨
    (∃ (q : Addr) (vm₁ : Vm) (B : Pt), s.WarmedH vm₁ ∧ Stand p l e R s m args below meth c B.U B.locs B.cells B.slots ∧ PostX ⟨T.setVm vm₁, locs, cells, slots⟩ argsL.toArray q B ∧
      Steps p.tables e below (T.setTop g) ((B.U.setTop { g with stack := rest }).pushFrame (.throwing q))) := by
  obtain ⟨mk, hnamed⟩ := Cond.code_named hcode
  obtain ⟨methM, cM, hmethM, -, -, -, -, -, -, hsigM⟩ := Cond.code_spec hnamed hcode
  have hstatic : methM.isStatic = true := Cond.static_spec hnamed hmethM hstat
  obtain ⟨kP, hkP, -⟩ := className_of_methodNamed hnamed
  have hinitP : kP.init = .initialized := Cond.initialized_spec (findClass_of_methodNamed hnamed) hkP hinit
  obtain ⟨vm₁, X₁, hstep₁⟩ := X.invokestatic hexec hown hlink hnamed hmethM hstatic hkP hinitP hy (g := g) hg (argsL := argsL) (rest := rest) (hlen _ hsigM) hstack hdg
  rcases hK m meth c ⟨T.setVm vm₁, locs, cells, slots⟩ { g with stack := rest } (.invokestatic index) mk argsL.toArray X₁ hg hsize hdg hW (X₁.named hnamed) (hpre vm₁ X₁.warmed) with ⟨v, B, X', hpost, hsteps⟩ | ⟨q, B, X', hpost, hsteps⟩
  · exact Or.inl ⟨v, vm₁, B, X₁.warmed, X', hpost, fun target h => hstep₁ _ fun acts => by rw [doInvoke_state]; exact hsteps.trans h⟩
  · exact Or.inr ⟨q, vm₁, B, X₁.warmed, X', hpost, hstep₁ _ fun acts => by rw [doInvoke_state]; exact hsteps⟩
end Calls
theorem vx_cls {s : State} {T : State} {vm₁ : Vm} {E : String} {k : ClassId} (hW : s.WarmedH vm₁) (h : (T.setVm vm₁).vm.findClass E = some k) : s.vm.findClass E = some k := by
  have h1 : vm₁.findClass E = some k := h
  rw [hW.alike.findClass] at h1
  exact h1
/-- the method's frame g, with q thrown over it -/
def vx_W (p : Program) (l : Launch) (e : Env) (R : Room) (s : State) (m : MethodId) (args : Array Value) (below : List Frame) (meth : Method) (c : Code) (H : Heap) (locs : List Loc) (cells slots : Nat) (Q : State → Prop) (g : JFrame) (q : Addr) : Prop :=
  ∀ T : State, T.heap = H → Stand p l e R s m args below meth c T locs cells slots → ∃ t, Steps p.tables e below ((T.setTop g).pushFrame (.throwing q)) t ∧ Q t
def vx_Run (p : Program) (l : Launch) (e : Env) (R : Room) (s : State) (m : MethodId) (args : Array Value) (below : List Frame) (meth : Method) (c : Code) (H : Heap) (locs : List Loc) (cells slots mc ms : Nat) (g : JFrame) (rest : List Value) (Qa : State → Outcome → State → Prop) (XC : String → State → State → Prop) (free : Addr → Prop) : Prop :=
  ∀ T : State, T.heap = H → Stand p l e R s m args below meth c T locs cells slots →
    (∃ (v : Option Value) (st₀ t T' : State) (L : List Loc), st₀.heap = H ∧ Stand p l e R s m args below meth c T' (locs ++ L) (cells + mc) (slots + ms) ∧ (∀ q ∈ L, free q.base) ∧ T'.heap = t.heap ∧ T'.vm = t.vm ∧ Qa st₀ (.returned v) t ∧
      Goes p e below T g T' { g with pc := g.pc + 3, stack := v.toList ++ rest }) ∨
    (∃ (q : Addr) (st₀ t T' : State) (L : List Loc) (E : String) (ce : Cell), st₀.heap = H ∧ Stand p l e R s m args below meth c T' (locs ++ L) (cells + mc) (slots + ms) ∧ (∀ z ∈ L, free z.base) ∧ T'.heap = t.heap ∧ T'.vm = t.vm ∧ XC E st₀ t ∧ t.heap[q]? = some ce ∧ ce.vm = .none ∧ s.vm.findClass E = some ce.cls ∧
      Steps p.tables e below (T.setTop g) ((T'.setTop { g with stack := rest }).pushFrame (.throwing q)))
def vx_X {S : Type} (px : S → Prop) (B : String → S → State → Prop) (A : Nat → Prop) : String → State → State → Prop := fun E st t => ∃ u : S, px u ∧ B E u t ∧ va_F A st t
section Runs
variable {p : Program} {l : Launch} {e : Env} {R : Room} {s : State} {m : MethodId} {args : Array Value} {below : List Frame} {meth : Method} {c : Code} {H : Heap} {locs : List Loc} {cells slots : Nat}
variable {y : MethodName} {bytes cc : ByteArray} {maxL nL mc ms n index : Nat} {ret : Option FieldType} {ws : List Cond} {rm : Room} {Pc : Array Value → State → Prop} {Qc : Array Value → State → Outcome → State → Prop} {XC : String → State → State → Prop} {free : Addr → Prop} {Ts : List Cond} {own C : String} {b : Addr} {As rest : List Value} {g : JFrame}
theorem vx_callBack (cb : CallB R s args own index y bytes maxL ret ws rm mc ms n) (hM : vx_Met l y ws rm Pc Qc XC mc ms free) (hbl : FrameBlind Pc) : vx_Back l R p e below s args y 3 8 (PreOf R mc ms Pc) (PostOf Qc mc ms free) (vx_Post XC mc ms free) := by
  obtain ⟨hrc, hrs, hfr, hlo, hws, hcw, -, hini, -⟩ := cb
  exact vx_back (bytes := bytes) (maxL := maxL) (ret := ret) hM hbl hrc hrs hfr hlo hws hcw (fun a' U hW => word_at hW (Or.inl (by first | rfl | simp [Cond.onTables, Cond.keeps, Cond.steady])) hini)
theorem vx_runV (S : CallFix p m c cc nL s args Ts own) (hM : vx_Met l y ws rm Pc Qc XC mc ms free) (cw : CallW R s args own C index y bytes maxL ret ws rm mc ms n) (hp : PreV s H C b Pc As)
    (hg : g.method = m) (hn : As.length = n) (hsize : g.locals.size = nL) (hstack : g.stack = As.reverse ++ .ref b :: rest) (hW : 2 * g.monitorRoom + (rest.map fun v => v.category).sum ≤ 8) (hdg : decode cc g.pc = .ok (.invokevirtual index, 3)) (hf : cells + mc ≤ R.cells ∧ slots + ms ≤ R.slots) :
    vx_Run p l e R s m args below meth c H locs cells slots mc ms g rest (Qc (Value.ref b :: As).toArray) XC free := by
  have hK : vx_Back l R p e below s args y 3 8 (PreOf R mc ms Pc) (PostOf Qc mc ms free) (vx_Post XC mc ms free) := vx_callBack cw.1 hM hp.1
  obtain ⟨⟨-, -, -, -, -, -, hcode, -, hy, hlen, hl⟩, hin, hse⟩ := cw
  obtain ⟨hx, hb, hml, ho, -⟩ := S
  obtain ⟨-, ⟨cellB, hcB, hoB, hclB⟩, hPc⟩ := hp
  intro T hT X
  rcases vx_callV X hx (C := C) (bytes := bytes) (maxL := maxL) (ret := ret) ho hl hin hse hcode hy hK (by rw [hT]; exact hcB) hoB hclB hg (hsize.trans hml.symm) (argsL := As) (rest := rest) (fun sig h => hn.trans (hlen sig h)) hstack hW (by rw [hb]; exact hdg)
    (fun vm₁ hW₁ => ⟨hf.1, hf.2, hPc (T.setVm vm₁) hT hW₁⟩) with ⟨v, vm₁, ⟨U', l2, c2, s2⟩, hW₁, X', ⟨g', mk, t, L, e1, e2, hq, h1, hL, h2, h3⟩, st⟩ | ⟨q, vm₁, ⟨U', l2, c2, s2⟩, hW₁, X', ⟨g', mk, t, L, E, ce, e1, e2, hq, hce, hcv, hcl, h1, hL, h2, h3⟩, st⟩
  · dsimp only [Pt.U, Pt.locs, Pt.cells, Pt.slots] at X' e1 e2 h1 h2 h3 st
    subst h1; subst h2; subst h3
    exact Or.inl ⟨v, (T.setVm vm₁).calling g' mk (Value.ref b :: As).toArray, t, U', L, hT, X', hL, e1, e2, hq, st⟩
  · dsimp only [Pt.U, Pt.locs, Pt.cells, Pt.slots] at X' e1 e2 h1 h2 h3 st hcl
    subst h1; subst h2; subst h3
    exact Or.inr ⟨q, (T.setVm vm₁).calling g' mk (Value.ref b :: As).toArray, t, U', L, E, ce, hT, X', hL, e1, e2, hq, hce, hcv, vx_cls hW₁ hcl, st⟩
theorem vx_runS (S : CallFix p m c cc nL s args Ts own) (hM : vx_Met l y ws rm Pc Qc XC mc ms free) (cw : CallB R s args own index y bytes maxL ret ws rm mc ms n ∧ (Cond.static y).before args s = true) (hp : PreS s H Pc As)
    (hg : g.method = m) (hn : As.length = n) (hsize : g.locals.size = nL) (hstack : g.stack = As.reverse ++ rest) (hW : 2 * g.monitorRoom + (rest.map fun v => v.category).sum ≤ 8) (hdg : decode cc g.pc = .ok (.invokestatic index, 3)) (hf : cells + mc ≤ R.cells ∧ slots + ms ≤ R.slots) :
    vx_Run p l e R s m args below meth c H locs cells slots mc ms g rest (Qc As.toArray) XC free := by
  have hK : vx_Back l R p e below s args y 3 8 (PreOf R mc ms Pc) (PostOf Qc mc ms free) (vx_Post XC mc ms free) := vx_callBack cw.1 hM hp.1
  obtain ⟨⟨-, -, -, -, -, -, hcode, hini, hy, hlen, hl⟩, hstt⟩ := cw
  obtain ⟨hx, hb, hml, ho, -⟩ := S
  intro T hT X
  rcases vx_callS X hx (bytes := bytes) (maxL := maxL) (ret := ret) ho hl hstt hini hcode hy hK hg (hsize.trans hml.symm) (argsL := As) (rest := rest) (fun sig h => hn.trans (hlen sig h)) hstack hW (by rw [hb]; exact hdg)
    (fun vm₁ hW₁ => ⟨hf.1, hf.2, hp.2 (T.setVm vm₁) hT hW₁⟩) with ⟨v, vm₁, ⟨U', l2, c2, s2⟩, hW₁, X', ⟨g', mk, t, L, e1, e2, hq, h1, hL, h2, h3⟩, st⟩ | ⟨q, vm₁, ⟨U', l2, c2, s2⟩, hW₁, X', ⟨g', mk, t, L, E, ce, e1, e2, hq, hce, hcv, hcl, h1, hL, h2, h3⟩, st⟩
  · dsimp only [Pt.U, Pt.locs, Pt.cells, Pt.slots] at X' e1 e2 h1 h2 h3 st
    subst h1; subst h2; subst h3
    exact Or.inl ⟨v, (T.setVm vm₁).calling g' mk As.toArray, t, U', L, hT, X', hL, e1, e2, hq, st⟩
  · dsimp only [Pt.U, Pt.locs, Pt.cells, Pt.slots] at X' e1 e2 h1 h2 h3 st hcl
    subst h1; subst h2; subst h3
    exact Or.inr ⟨q, (T.setVm vm₁).calling g' mk As.toArray, t, U', L, E, ce, hT, X', hL, e1, e2, hq, hce, hcv, vx_cls hW₁ hcl, st⟩
end Runs
section Rows
variable {p : Program} {l : Launch} {e : Env} {R : Room} {s : State} {m : MethodId} {args : Array Value} {below : List Frame} {meth : Method} {c : Code} {H : Heap} {locs : List Loc} {cells slots : Nat} {Q : State → Prop}
variable {mc ms : Nat} {free : Addr → Prop} {A0 A1 : Nat → Prop} {H0 : Heap} {a : Array Value} {pc : Nat} {ls : Array Slot} {st0 rest : List Value}
theorem vx_keep {st₀ t T' : State} {L : List Loc} (h0 : st₀.heap = H) (e1 : T'.heap = t.heap) (hS : va_S A0 H0 H locs) (hA : ∀ q, q < H.size → A1 q → A0 q) (hf : ∀ q, free q → A0 q) (hL : ∀ q ∈ L, free q.base) (hF : va_F A1 st₀ t) :
    H.size ≤ T'.heap.size ∧ (∀ q : Nat, q < H.size → ¬ A1 q → T'.heap[q]? = H[q]?) ∧ va_S A0 H0 T'.heap (locs ++ L) := by
  obtain ⟨hz, hk⟩ := hF
  rw [h0] at hz hk
  exact ⟨by rw [e1]; exact hz, fun q h1 h2 => by rw [e1]; exact hk q h1 h2,
    ⟨Nat.le_trans hS.1 (by rw [e1]; exact hz), fun q h1 h2 => by rw [e1, hk q (Nat.lt_of_lt_of_le h1 hS.1) (fun z => h2 (hA q (Nat.lt_of_lt_of_le h1 hS.1) z))]; exact hS.2.1 q h1 h2, fun q hq => by
      rcases List.mem_append.mp hq with h | h
      · exact hS.2.2 q h
      · exact hf _ (hL q h)⟩⟩
theorem vx_calli {S SX : Type} {post : Int32 → S → Prop} {px : SX → Prop} {B : S → State → Prop} {BX : String → SX → State → Prop} {AX : Nat → Prop} (hr : vx_Run p l e R s m args below meth c H locs cells slots mc ms (F0 m pc ls st0) rest (va_Qi post B A1 a) (vx_X px BX AX) free) (hS : va_S A0 H0 H locs) (hA : ∀ q, q < H.size → A1 q → A0 q) (hf : ∀ q, free q → A0 q) (hAX : ∀ q, q < H.size → AX q → A0 q)
    (kx : ∀ (E : String) (ce : Cell) (q9 : Addr) (u : SX) (t : State) (H1 : Heap) (locs1 : List Loc), t.heap = H1 → s.vm.Alike t.vm → px u → BX E u t → H.size ≤ H1.size → (∀ q : Nat, q < H.size → ¬ AX q → H1[q]? = H[q]?) → va_S A0 H0 H1 locs1 → H1[q9]? = some ce → ce.vm = .none → s.vm.findClass E = some ce.cls → vx_W p l e R s m args below meth c H1 locs1 (cells + mc) (slots + ms) Q (F0 m pc ls rest) q9)
    (kk : ∀ (r : Int32) (u : S) (t : State) (H1 : Heap) (locs1 : List Loc), t.heap = H1 → s.vm.Alike t.vm → post r u → B u t → H.size ≤ H1.size → (∀ q : Nat, q < H.size → ¬ A1 q → H1[q]? = H[q]?) → va_S A0 H0 H1 locs1 → W p l e R s m args below meth c H1 locs1 (cells + mc) (slots + ms) Q (F0 m (pc + 3) ls (.int r :: rest))) : W p l e R s m args below meth c H locs cells slots Q (F0 m pc ls st0) := by
  intro T hT X
  rcases hr T hT X with ⟨v, st₀, t, T', L, h0, X', hL, e1, e2, ⟨⟨r, u, hv, hp, hb⟩, hF⟩, st⟩ | ⟨q, st₀, t, T', L, E, ce, h0, X', hL, e1, e2, ⟨u, hp, hb, hF⟩, hce, hcv, hcl, st⟩
  · cases hv
    obtain ⟨k1, k2, k3⟩ := vx_keep h0 e1 hS hA hf hL hF
    obtain ⟨t2, a1, b1⟩ := kk r u t T'.heap (locs ++ L) e1.symm (by rw [← e2]; exact X'.warmed.alike) hp hb k1 k2 k3 T' rfl X'
    exact ⟨t2, st t2 a1, b1⟩
  · obtain ⟨k1, k2, k3⟩ := vx_keep h0 e1 hS hAX hf hL hF
    obtain ⟨t2, a1, b1⟩ := kx E ce q u t T'.heap (locs ++ L) e1.symm (by rw [← e2]; exact X'.warmed.alike) hp hb k1 k2 k3 (by rw [e1]; exact hce) hcv hcl T' rfl X'
    exact ⟨t2, st.trans a1, b1⟩
theorem vx_calll {S SX : Type} {post : Int64 → S → Prop} {px : SX → Prop} {B : S → State → Prop} {BX : String → SX → State → Prop} {AX : Nat → Prop} (hr : vx_Run p l e R s m args below meth c H locs cells slots mc ms (F0 m pc ls st0) rest (va_Ql post B A1 a) (vx_X px BX AX) free) (hS : va_S A0 H0 H locs) (hA : ∀ q, q < H.size → A1 q → A0 q) (hf : ∀ q, free q → A0 q) (hAX : ∀ q, q < H.size → AX q → A0 q)
    (kx : ∀ (E : String) (ce : Cell) (q9 : Addr) (u : SX) (t : State) (H1 : Heap) (locs1 : List Loc), t.heap = H1 → s.vm.Alike t.vm → px u → BX E u t → H.size ≤ H1.size → (∀ q : Nat, q < H.size → ¬ AX q → H1[q]? = H[q]?) → va_S A0 H0 H1 locs1 → H1[q9]? = some ce → ce.vm = .none → s.vm.findClass E = some ce.cls → vx_W p l e R s m args below meth c H1 locs1 (cells + mc) (slots + ms) Q (F0 m pc ls rest) q9)
    (kk : ∀ (r : Int64) (u : S) (t : State) (H1 : Heap) (locs1 : List Loc), t.heap = H1 → s.vm.Alike t.vm → post r u → B u t → H.size ≤ H1.size → (∀ q : Nat, q < H.size → ¬ A1 q → H1[q]? = H[q]?) → va_S A0 H0 H1 locs1 → W p l e R s m args below meth c H1 locs1 (cells + mc) (slots + ms) Q (F0 m (pc + 3) ls (.long r :: rest))) : W p l e R s m args below meth c H locs cells slots Q (F0 m pc ls st0) := by
  intro T hT X
  rcases hr T hT X with ⟨v, st₀, t, T', L, h0, X', hL, e1, e2, ⟨⟨r, u, hv, hp, hb⟩, hF⟩, st⟩ | ⟨q, st₀, t, T', L, E, ce, h0, X', hL, e1, e2, ⟨u, hp, hb, hF⟩, hce, hcv, hcl, st⟩
  · cases hv
    obtain ⟨k1, k2, k3⟩ := vx_keep h0 e1 hS hA hf hL hF
    obtain ⟨t2, a1, b1⟩ := kk r u t T'.heap (locs ++ L) e1.symm (by rw [← e2]; exact X'.warmed.alike) hp hb k1 k2 k3 T' rfl X'
    exact ⟨t2, st t2 a1, b1⟩
  · obtain ⟨k1, k2, k3⟩ := vx_keep h0 e1 hS hAX hf hL hF
    obtain ⟨t2, a1, b1⟩ := kx E ce q u t T'.heap (locs ++ L) e1.symm (by rw [← e2]; exact X'.warmed.alike) hp hb k1 k2 k3 (by rw [e1]; exact hce) hcv hcl T' rfl X'
    exact ⟨t2, st.trans a1, b1⟩
theorem vx_callf {S SX : Type} {post : UInt32 → S → Prop} {px : SX → Prop} {B : S → State → Prop} {BX : String → SX → State → Prop} {AX : Nat → Prop} (hr : vx_Run p l e R s m args below meth c H locs cells slots mc ms (F0 m pc ls st0) rest (va_Qf post B A1 a) (vx_X px BX AX) free) (hS : va_S A0 H0 H locs) (hA : ∀ q, q < H.size → A1 q → A0 q) (hf : ∀ q, free q → A0 q) (hAX : ∀ q, q < H.size → AX q → A0 q)
    (kx : ∀ (E : String) (ce : Cell) (q9 : Addr) (u : SX) (t : State) (H1 : Heap) (locs1 : List Loc), t.heap = H1 → s.vm.Alike t.vm → px u → BX E u t → H.size ≤ H1.size → (∀ q : Nat, q < H.size → ¬ AX q → H1[q]? = H[q]?) → va_S A0 H0 H1 locs1 → H1[q9]? = some ce → ce.vm = .none → s.vm.findClass E = some ce.cls → vx_W p l e R s m args below meth c H1 locs1 (cells + mc) (slots + ms) Q (F0 m pc ls rest) q9)
    (kk : ∀ (r : UInt32) (u : S) (t : State) (H1 : Heap) (locs1 : List Loc), t.heap = H1 → s.vm.Alike t.vm → post r u → B u t → H.size ≤ H1.size → (∀ q : Nat, q < H.size → ¬ A1 q → H1[q]? = H[q]?) → va_S A0 H0 H1 locs1 → W p l e R s m args below meth c H1 locs1 (cells + mc) (slots + ms) Q (F0 m (pc + 3) ls (.float r :: rest))) : W p l e R s m args below meth c H locs cells slots Q (F0 m pc ls st0) := by
  intro T hT X
  rcases hr T hT X with ⟨v, st₀, t, T', L, h0, X', hL, e1, e2, ⟨⟨r, u, hv, hp, hb⟩, hF⟩, st⟩ | ⟨q, st₀, t, T', L, E, ce, h0, X', hL, e1, e2, ⟨u, hp, hb, hF⟩, hce, hcv, hcl, st⟩
  · cases hv
    obtain ⟨k1, k2, k3⟩ := vx_keep h0 e1 hS hA hf hL hF
    obtain ⟨t2, a1, b1⟩ := kk r u t T'.heap (locs ++ L) e1.symm (by rw [← e2]; exact X'.warmed.alike) hp hb k1 k2 k3 T' rfl X'
    exact ⟨t2, st t2 a1, b1⟩
  · obtain ⟨k1, k2, k3⟩ := vx_keep h0 e1 hS hAX hf hL hF
    obtain ⟨t2, a1, b1⟩ := kx E ce q u t T'.heap (locs ++ L) e1.symm (by rw [← e2]; exact X'.warmed.alike) hp hb k1 k2 k3 (by rw [e1]; exact hce) hcv hcl T' rfl X'
    exact ⟨t2, st.trans a1, b1⟩
theorem vx_calld {S SX : Type} {post : UInt64 → S → Prop} {px : SX → Prop} {B : S → State → Prop} {BX : String → SX → State → Prop} {AX : Nat → Prop} (hr : vx_Run p l e R s m args below meth c H locs cells slots mc ms (F0 m pc ls st0) rest (va_Qd post B A1 a) (vx_X px BX AX) free) (hS : va_S A0 H0 H locs) (hA : ∀ q, q < H.size → A1 q → A0 q) (hf : ∀ q, free q → A0 q) (hAX : ∀ q, q < H.size → AX q → A0 q)
    (kx : ∀ (E : String) (ce : Cell) (q9 : Addr) (u : SX) (t : State) (H1 : Heap) (locs1 : List Loc), t.heap = H1 → s.vm.Alike t.vm → px u → BX E u t → H.size ≤ H1.size → (∀ q : Nat, q < H.size → ¬ AX q → H1[q]? = H[q]?) → va_S A0 H0 H1 locs1 → H1[q9]? = some ce → ce.vm = .none → s.vm.findClass E = some ce.cls → vx_W p l e R s m args below meth c H1 locs1 (cells + mc) (slots + ms) Q (F0 m pc ls rest) q9)
    (kk : ∀ (r : UInt64) (u : S) (t : State) (H1 : Heap) (locs1 : List Loc), t.heap = H1 → s.vm.Alike t.vm → post r u → B u t → H.size ≤ H1.size → (∀ q : Nat, q < H.size → ¬ A1 q → H1[q]? = H[q]?) → va_S A0 H0 H1 locs1 → W p l e R s m args below meth c H1 locs1 (cells + mc) (slots + ms) Q (F0 m (pc + 3) ls (.double r :: rest))) : W p l e R s m args below meth c H locs cells slots Q (F0 m pc ls st0) := by
  intro T hT X
  rcases hr T hT X with ⟨v, st₀, t, T', L, h0, X', hL, e1, e2, ⟨⟨r, u, hv, hp, hb⟩, hF⟩, st⟩ | ⟨q, st₀, t, T', L, E, ce, h0, X', hL, e1, e2, ⟨u, hp, hb, hF⟩, hce, hcv, hcl, st⟩
  · cases hv
    obtain ⟨k1, k2, k3⟩ := vx_keep h0 e1 hS hA hf hL hF
    obtain ⟨t2, a1, b1⟩ := kk r u t T'.heap (locs ++ L) e1.symm (by rw [← e2]; exact X'.warmed.alike) hp hb k1 k2 k3 T' rfl X'
    exact ⟨t2, st t2 a1, b1⟩
  · obtain ⟨k1, k2, k3⟩ := vx_keep h0 e1 hS hAX hf hL hF
    obtain ⟨t2, a1, b1⟩ := kx E ce q u t T'.heap (locs ++ L) e1.symm (by rw [← e2]; exact X'.warmed.alike) hp hb k1 k2 k3 (by rw [e1]; exact hce) hcv hcl T' rfl X'
    exact ⟨t2, st.trans a1, b1⟩
theorem vx_callv {S SX : Type} {post : S → Prop} {px : SX → Prop} {B : S → State → Prop} {BX : String → SX → State → Prop} {AX : Nat → Prop} (hr : vx_Run p l e R s m args below meth c H locs cells slots mc ms (F0 m pc ls st0) rest (va_Qv post B A1 a) (vx_X px BX AX) free) (hS : va_S A0 H0 H locs) (hA : ∀ q, q < H.size → A1 q → A0 q) (hf : ∀ q, free q → A0 q) (hAX : ∀ q, q < H.size → AX q → A0 q)
    (kx : ∀ (E : String) (ce : Cell) (q9 : Addr) (u : SX) (t : State) (H1 : Heap) (locs1 : List Loc), t.heap = H1 → s.vm.Alike t.vm → px u → BX E u t → H.size ≤ H1.size → (∀ q : Nat, q < H.size → ¬ AX q → H1[q]? = H[q]?) → va_S A0 H0 H1 locs1 → H1[q9]? = some ce → ce.vm = .none → s.vm.findClass E = some ce.cls → vx_W p l e R s m args below meth c H1 locs1 (cells + mc) (slots + ms) Q (F0 m pc ls rest) q9)
    (kk : ∀ (u : S) (t : State) (H1 : Heap) (locs1 : List Loc), t.heap = H1 → s.vm.Alike t.vm → post u → B u t → H.size ≤ H1.size → (∀ q : Nat, q < H.size → ¬ A1 q → H1[q]? = H[q]?) → va_S A0 H0 H1 locs1 → W p l e R s m args below meth c H1 locs1 (cells + mc) (slots + ms) Q (F0 m (pc + 3) ls (rest))) : W p l e R s m args below meth c H locs cells slots Q (F0 m pc ls st0) := by
  intro T hT X
  rcases hr T hT X with ⟨v, st₀, t, T', L, h0, X', hL, e1, e2, ⟨⟨u, hv, hp, hb⟩, hF⟩, st⟩ | ⟨q, st₀, t, T', L, E, ce, h0, X', hL, e1, e2, ⟨u, hp, hb, hF⟩, hce, hcv, hcl, st⟩
  · cases hv
    obtain ⟨k1, k2, k3⟩ := vx_keep h0 e1 hS hA hf hL hF
    obtain ⟨t2, a1, b1⟩ := kk u t T'.heap (locs ++ L) e1.symm (by rw [← e2]; exact X'.warmed.alike) hp hb k1 k2 k3 T' rfl X'
    exact ⟨t2, st t2 a1, b1⟩
  · obtain ⟨k1, k2, k3⟩ := vx_keep h0 e1 hS hAX hf hL hF
    obtain ⟨t2, a1, b1⟩ := kx E ce q u t T'.heap (locs ++ L) e1.symm (by rw [← e2]; exact X'.warmed.alike) hp hb k1 k2 k3 (by rw [e1]; exact hce) hcv hcl T' rfl X'
    exact ⟨t2, st.trans a1, b1⟩
/-- caught by the row x of this method's table; the rows ahead don't take it -/
theorem vx_catch {own name : String} {E : String} {ce : Cell} {q : Addr} (hown : s.vm.findClass own = some m.cls) (pre : List ExceptionTableEntry) (x : ExceptionTableEntry) (suf : List ExceptionTableEntry) (hsplit : c.exceptionTable.toList = pre ++ x :: suf)
    (hpass : ∀ z ∈ pre, covers z pc = false ∨ (z.catchType ≠ 0 ∧ ∃ nm : String, (Cond.classLink own z.catchType nm).before args s = true ∧ va_Nc E nm s)) (hx : covers x pc = true) (h0 : x.catchType ≠ 0)
    (hlink : (Cond.classLink own x.catchType name).before args s = true) (hcast : (Cond.castable E name).before args s = true) (hcell : H[q]? = some ce) (hv : ce.vm = .none) (hcl : s.vm.findClass E = some ce.cls)
    (kk : W p l e R s m args below meth c H locs cells slots Q (F0 m x.handlerPc ls [.ref q])) : vx_W p l e R s m args below meth c H locs cells slots Q (F0 m pc ls rest) q := by
  intro T hT X
  have hpl : e.platform.magicAccessors = ({} : Platform).magicAccessors := by rw [X.admits.platform]
  obtain ⟨c3, c4, hc3, hc4, hasg⟩ := Cond.castable_spec hcast
  cases Option.some.inj (hc3.symm.trans hcl)
  obtain ⟨c5, hc5, hcl5⟩ := Cond.classLink_spec hown hlink e.platform hpl
  cases Option.some.inj (hc4.symm.trans hc5)
  obtain ⟨vm', X', st⟩ := X.thenCaughtThrough q (g := F0 m pc ls rest) rfl (Steps.refl _) (by rw [hT]; exact hcell) (by rw [hv]; rfl) (by obtain ⟨k9, h9, -⟩ := Vm.findClass_spec hcl; exact ⟨k9, h9⟩) pre x suf hsplit
    (fun z hz => by
      rcases hpass z hz with h | ⟨hz0, nm, hl1, hn1⟩
      · exact Or.inl h
      · obtain ⟨c6, hc6, hcl6⟩ := Cond.classLink_spec hown hl1 e.platform hpl
        obtain ⟨a8, b8, h1, h2, h3⟩ := hn1
        cases Option.some.inj (h1.symm.trans hcl)
        cases Option.some.inj (h2.symm.trans hc6)
        exact Or.inr ⟨hz0, _, hcl6, h3⟩) hx (Or.inr ⟨h0, c4, hcl5, hasg⟩)
  obtain ⟨t, a1, b1⟩ := kk (T.setVm vm') hT X'
  exact ⟨t, st.trans a1, b1⟩
end Rows
section Ends
variable {p : Program} {l : Launch} {e : Env} {R : Room} {s : State} {m : MethodId} {args : Array Value} {below : List Frame} {meth : Method} {c : Code} {H : Heap} {locs : List Loc} {cells slots : Nat} {Q : State → Prop}
variable {mc ms : Nat} {free : Addr → Prop} {A0 A1 : Nat → Prop} {H0 : Heap} {a : Array Value} {ls : Array Slot} {st0 rest : List Value}
variable {Qc : Array Value → State → Outcome → State → Prop} {XC : String → State → State → Prop}
/-- what a body that may throw owes at its end -/
def vx_MQ (below : List Frame) (Qc : Array Value → State → Outcome → State → Prop) (XC : String → State → State → Prop) (a : Array Value) (s : State) (mc ms : Nat) (free : Addr → Prop) : State → Prop := fun t =>
  ∃ o, t.status = .running ∧ Ended t below o ∧ vx_Q Qc XC mc ms free a s o t
theorem vx_ret {g : JFrame} {mc ms : Nat} (k : W p l e R s m args below meth c H locs cells slots (MQ below Qc args s mc ms free) g) : W p l e R s m args below meth c H locs cells slots (vx_MQ below Qc XC args s mc ms free) g := by
  intro T hT X
  obtain ⟨t, a1, o, b1, b2, b3, b4⟩ := k T hT X
  exact ⟨t, a1, o, b1, b2, Or.inl ⟨b3, b4⟩⟩
/-- not caught here: it goes on to the caller -/
theorem vx_widen {g : JFrame} {q : Addr} {k n : Nat} (h1 : cells ≤ k) (h2 : slots ≤ n) (kk : vx_W p l e R s m args below meth c H locs k n Q g q) : vx_W p l e R s m args below meth c H locs cells slots Q g q := fun T hT X => kk T hT (stand_widen X h1 h2)
theorem vx_out {pc : Nat} {E : String} {ce : Cell} {q : Addr} {mc ms : Nat} (hout : ∀ x ∈ c.exceptionTable.toList, covers x pc = false) (hlocks : meth.locks = false) (hcell : H[q]? = some ce) (hv : ce.vm = .none) (hcl : s.vm.findClass E = some ce.cls)
    (hx : ∀ t : State, t.heap = H → s.vm.Alike t.vm → XC E s t) (hf : ∀ z ∈ locs, free z.base) (hc : cells ≤ mc) (hs : slots ≤ ms) :
    vx_W p l e R s m args below meth c H locs cells slots (vx_MQ below Qc XC args s mc ms free) (F0 m pc ls rest) q := by
  intro T hT X
  obtain ⟨st1, hrun, hend, hW, hsm⟩ := X.leaveThrown q (g := F0 m pc ls rest) rfl rfl rfl hout hlocks
  have hcell9 : (T.setFrames (.throwing q :: below)).heap[q]? = some ce := by
    show T.heap[q]? = some ce
    rw [hT]; exact hcell
  exact ⟨_, st1, .threw q, hrun, hend, Or.inr ⟨q, rfl, E, ce, locs, hx _ hT hW.alike, hcell9, hv, hcl, hW, hsm.mono hc hs, hf⟩⟩
theorem vx_frame {U : State} {k n : Nat} (h : s.sameButNew ({ U with vm := s.vm } : State) locs k n) : s.heap.size ≤ U.heap.size ∧ ∀ q : Nat, q < s.heap.size → (∀ z ∈ locs, z.base ≠ q) → U.heap[q]? = s.heap[q]? := by
  obtain ⟨-, h2, -, -, -, h6⟩ := h
  refine ⟨h2, fun q hq hz => ?_⟩
  obtain ⟨c9, e1, e2, e3, e4⟩ := h6 q _ (Array.getElem?_eq_getElem hq)
  have hs : c9.slots = (s.heap[q]).slots := Array.ext_getElem? fun i => e4 i fun hm => hz _ hm rfl
  have h9 : c9 = s.heap[q] := by
    rw [hs] at e2
    exact e2
  have e5 : U.heap[q]? = some c9 := e1
  rw [e5, h9, Array.getElem?_eq_getElem hq]
/-- the words of a throw but the four that speak of the heap -/
def vx_no (w : Cond) : Bool := decide (w ≠ .isRef (.static Bundle.tN "UNASSIGNED_STACK" Bundle.steD)) && decide (w ≠ .isRef (.static Bundle.tN "SUPPRESSED_SENTINEL" Bundle.listD)) && decide (w ≠ .laysStatic Bundle.tN "UNASSIGNED_STACK" Bundle.steD) && decide (w ≠ .laysStatic Bundle.tN "SUPPRESSED_SENTINEL" Bundle.listD)
def vx_at0 (own : String) (ic : Nat) (X : String) (names : List String) : List Cond := (Bundle.ownAtoms0 own ic X names).filter vx_no
def vx_atS (own : String) (ic : Nat) (X : String) (names : List String) : List Cond := (Bundle.ownAtoms own ic X names).filter vx_no
/-- a word that the tables alone decide, or a good one -/
def vx_ot (w : Cond) : Bool := w.onTables || goodWord w
theorem vx_ot_at {args a' : Array Value} {s U : State} {w : Cond} (hW : s.WarmedH U.vm) (hvm : s.vm = U.vm) (hg : vx_ot w = true) (h : w.before args s = true) : w.before a' U = true := by
  simp only [vx_ot, Bool.or_eq_true] at hg
  rcases hg with hg | hg
  · exact va_tabs hg hvm h
  · exact word_at hW (good_of_word hg) h
/-- a list's words: the good ones out of the method's own list, the others by premises of their own -/
theorem vx_hat {args : Array Value} {s : State} {L B : List Cond} (h1 : ∀ w ∈ L.filter goodWord, w.before args s = true) (h2 : ∀ w ∈ L.filter (fun w => !goodWord w), w ∈ B) (h3 : ∀ w ∈ B, w.before args s = true) : ∀ w ∈ L, w.before args s = true := by
  intro w hw
  by_cases g : goodWord w = true
  · exact h1 w (List.mem_filter.mpr ⟨hw, g⟩)
  · refine h3 w (h2 w (List.mem_filter.mpr ⟨hw, ?_⟩))
    show (!goodWord w) = true
    cases hgw : goodWord w
    · rfl
    · exact absurd hgw g
theorem vx_c {args : Array Value} {s : State} {w : Cond} {B : List Cond} (h : w.before args s = true) (t : ∀ w ∈ B, w.before args s = true) : ∀ w' ∈ w :: B, w'.before args s = true := fun w' h' => (List.mem_cons.mp h').elim (fun e => by rw [e]; exact h) (t w')
theorem vx_n {args : Array Value} {s : State} : ∀ w ∈ ([] : List Cond), w.before args s = true := fun _ h => nomatch h
theorem vx_own {args : Array Value} {s : State} {L : List Cond} (h1 : ∀ w ∈ L.filter vx_no, w.before args s = true)
    (hU : (Cond.isRef (.static Bundle.tN "UNASSIGNED_STACK" Bundle.steD)).before args s = true) (hN : (Cond.isRef (.static Bundle.tN "SUPPRESSED_SENTINEL" Bundle.listD)).before args s = true)
    (lU : (Cond.laysStatic Bundle.tN "UNASSIGNED_STACK" Bundle.steD).before args s = true) (lN : (Cond.laysStatic Bundle.tN "SUPPRESSED_SENTINEL" Bundle.listD).before args s = true) : ∀ w ∈ L, w.before args s = true := by
  intro w hw
  by_cases e1 : w = .isRef (.static Bundle.tN "UNASSIGNED_STACK" Bundle.steD)
  · rw [e1]; exact hU
  · by_cases e2 : w = .isRef (.static Bundle.tN "SUPPRESSED_SENTINEL" Bundle.listD)
    · rw [e2]; exact hN
    · by_cases e3 : w = .laysStatic Bundle.tN "UNASSIGNED_STACK" Bundle.steD
      · rw [e3]; exact lU
      · by_cases e4 : w = .laysStatic Bundle.tN "SUPPRESSED_SENTINEL" Bundle.listD
        · rw [e4]; exact lN
        · exact h1 w (List.mem_filter.mpr ⟨hw, by unfold vx_no; rw [decide_eq_true e1, decide_eq_true e2, decide_eq_true e3, decide_eq_true e4]; rfl⟩)
/-- where a static field lies, its class's statics cell in H -/
def vx_L (C n d : String) (A : Nat → Prop) (U : State) (H : Heap) : Prop := ∃ (c : ClassId) (k : Class) (i : Nat) (f : Field) (a : Nat) (cell : Cell), U.vm.findClass C = some c ∧ U.fieldFound? C n d = some (c, k, i, f) ∧ f.isStatic = true ∧ k.statics = some a ∧ H[a]? = some cell ∧ cell.vm.isStatics = true ∧ cell.cls = c ∧ f.slot < cell.slots.size ∧ k.staticTypes[f.slot]? = some f.type ∧ ¬ A a
theorem vx_L.moved {C n d : String} {A : Nat → Prop} {u U : State} {H : Heap} (hvm : u.vm.Alike U.vm) (h : vx_L C n d A u H) : vx_L C n d A U H := by
  obtain ⟨c, k, i, f, a, cell, h1, h2, h3, h4, h5, h6, h7, h8, h9, h10⟩ := h
  obtain ⟨k', hi', he⟩ := State.fieldFound?_setVm hvm h2
  exact ⟨c, k', i, f, a, cell, by rw [hvm.findClass]; exact h1, hi', h3, by rw [he]; exact h4, h5, h6, h7, h8, by rw [he]; exact h9, h10⟩
theorem vx_L.kept {C n d : String} {A : Nat → Prop} {U : State} {H H1 : Heap} (h : vx_L C n d A U H) (hq : ∀ a : Nat, a < H.size → ¬ A a → H1[a]? = H[a]?) : vx_L C n d A U H1 := by
  obtain ⟨c, k, i, f, a, cell, h1, h2, h3, h4, h5, h6, h7, h8, h9, h10⟩ := h
  exact ⟨c, k, i, f, a, cell, h1, h2, h3, h4, by rw [hq a (Array.getElem?_eq_some_iff.mp h5).1 h10]; exact h5, h6, h7, h8, h9, h10⟩
theorem vx_L.narrow {C n d : String} {A B : Nat → Prop} {U : State} {H : Heap} (h : vx_L C n d A U H) (hAB : ∀ q, B q → A q) : vx_L C n d B U H := by
  obtain ⟨c, k, i, f, a, cell, h1, h2, h3, h4, h5, h6, h7, h8, h9, h10⟩ := h
  exact ⟨c, k, i, f, a, cell, h1, h2, h3, h4, h5, h6, h7, h8, h9, fun z => h10 (hAB _ z)⟩
theorem vx_L.word {C n d : String} {A : Nat → Prop} {s : State} {args : Array Value} (h : vx_L C n d A s s.heap) : (Cond.laysStatic C n d).before args s = true := by
  obtain ⟨c, k, i, f, a, cell, h1, h2, h3, h4, h5, h6, h7, h8, h9, -⟩ := h
  show (Cond.laysStatic C n d).holds args s none s [] = true
  exact Cond.laysStatic_of h1 h2 h3 h4 h5 h6 h7 h8 h9
/-- .. and what it holds: null or some reference -/
def vx_Zq (C n d : String) (A : Nat → Prop) (U : State) (H : Heap) : Prop := va_Zq C n d A U H ∧ vx_L C n d A U H
theorem vx_Zq.moved {C n d : String} {A : Nat → Prop} {u U : State} {H : Heap} (hvm : u.vm.Alike U.vm) (h : vx_Zq C n d A u H) : vx_Zq C n d A U H := ⟨va_Zq.moved hvm h.1, vx_L.moved hvm h.2⟩
theorem vx_Zq.kept {C n d : String} {A : Nat → Prop} {U : State} {H H1 : Heap} (h : vx_Zq C n d A U H) (hq : ∀ a : Nat, a < H.size → ¬ A a → H1[a]? = H[a]?) : vx_Zq C n d A U H1 := ⟨va_Zq.kept h.1 hq, vx_L.kept h.2 hq⟩
theorem vx_Zq.narrow {C n d : String} {A B : Nat → Prop} {U : State} {H : Heap} (h : vx_Zq C n d A U H) (hAB : ∀ q, B q → A q) : vx_Zq C n d B U H := ⟨va_Zq.narrow h.1 hAB, vx_L.narrow h.2 hAB⟩
theorem vx_Zqof {args : Array Value} {s : State} {C n d : String} {A : Nat → Prop} (hl : (Cond.laysStatic C n d).before args s = true) (hini : (Cond.initialized C).before args s = true) (h : (Cond.isRef (.static C n d)).before args s = true) (hA : ∀ a : Nat, a < s.heap.size → ¬ A a) : vx_Zq C n d A s s.heap := by
  refine ⟨va_Zqof hl hini h hA, ?_⟩
  obtain ⟨c, k, i, f, a, cell, h1, h2, h3, h4, h5, h6, h7, h8, h9⟩ := Cond.laysStatic_spec hl
  exact ⟨c, k, i, f, a, cell, h1, h2, h3, h4, h5, h6, h7, h8, h9, hA a (Array.getElem?_eq_some_iff.mp h5).1⟩
theorem vx_isRef {C n d : String} {v : Value} {A : Nat → Prop} {s : State} {args : Array Value} (h : va_Z C n d v A s s.heap) (hv : v.isRef = true) : (Cond.isRef (.static C n d)).before args s = true := by
  obtain ⟨cf, kf, fi, f, a, cell, h1, h2, h3, h4, h5, h6, h7, -⟩ := h
  have he : (Term.static C n d).eval args s none [] s = some v := by
    simp [Term.eval, State.fieldNamed?, h1, h2, h4, h5, h6, h7]
  simp only [Cond.before, Cond.holds, Cond.value, he]
  cases v <;> simp_all [Value.isRef]
theorem vx_isRefq {C n d : String} {A : Nat → Prop} {s : State} {args : Array Value} (h : va_Zq C n d A s s.heap) : (Cond.isRef (.static C n d)).before args s = true := by
  rcases h with h | ⟨t, h⟩
  · exact vx_isRef h rfl
  · exact vx_isRef h rfl
/-- the same frame, seen from here: as if the method were called anew in this heap -/
theorem vx_rebase {T : State} (X : Stand p l e R s m args below meth c T locs cells slots) {R' : Room} (hf : R'.frames ≤ R.frames) (hl : R'.locals ≤ R.locals) (hc : cells + R'.cells ≤ R.cells) (hs : slots + R'.slots ≤ R.slots) :
    Stand p l e R' ((T.setVm s.vm).setFrames (.invoking m args :: below)) m args below meth c T [] 0 0 := by
  have htop : (T.setVm s.vm).topJava?.isSome := X.here.top
  have hF : ((T.setVm s.vm).setFrames (.invoking m args :: below)).frames = .invoking m args :: below := State.frames_setFrames _ (State.cur_lt_of_top htop)
  obtain ⟨g₀, hg0⟩ := Option.isSome_iff_exists.mp htop
  obtain ⟨r, hr⟩ := State.topJava?_eq_some.mp hg0
  have hl9 : e.platform.stackLimits (T.setVm s.vm).me = e.platform.stackLimits s.me := X.limits
  have hb9 : (T.setVm s.vm).me.stackBytes = s.me.stackBytes := X.bytes
  refine ⟨X.admits, X.cas, X.clock, hF, ?_, X.hears, X.method, X.code, X.here, X.tail, X.warmed, ?_, ?_, ?_⟩
  · have h := X.room
    have hU : ((T.setVm s.vm).setFrames (.invoking m args :: below)).localsInUse = s.localsInUse := by
      rw [State.localsInUse_invoking hF (meth := meth) (c := c) X.method X.code, State.localsInUse_invoking X.frames X.method X.code]
    simp only [State.hasRoom, Bool.and_eq_true, decide_eq_true_eq] at h ⊢
    obtain ⟨⟨⟨⟨h1, h2, h3, h4, h5, h6⟩, h7⟩, h8⟩, h9⟩ := h
    rw [X.frames, List.length_cons] at h2 h3
    have q1 := X.heapSize
    have q2 := X.used
    simp only [hF, hU, List.length_cons, State.stackLimits_setFrames, State.stackBytes_setFrames, hl9, hb9]
    refine ⟨⟨⟨⟨by omega, by omega, by omega, by omega, by omega, h6⟩, ?_⟩, ?_⟩, X.book⟩
    · show T.heap.size + R'.cells ≤ e.platform.maxCells
      omega
    · show T.slotsUsed + R'.slots ≤ e.platform.maxSlots
      omega
  · rw [State.stackLimits_setFrames]; rfl
  · rw [State.stackBytes_setFrames]; rfl
  · refine ⟨?_, Nat.le_refl _, Nat.le_refl _, ?_, ?_, fun a c9 h9 => ⟨c9, h9, rfl, rfl, fun _ _ => rfl⟩⟩
    · obtain ⟨t, ht, -⟩ := State.frames_cons hr
      show T.setVm s.vm = { ((T.setVm s.vm).setFrames (.invoking m args :: below)).setFrames (T.setVm s.vm).frames with heap := T.heap, slotsUsed := T.slotsUsed }
      rw [State.setFrames_setFrames, State.setFrames_self ht]
      rfl
    · show T.slotsUsed = T.slotsUsed + ((T.heap.toList.drop T.heap.size).map (·.slots.size)).sum
      rw [List.drop_eq_nil_of_le (Nat.le_of_eq Array.length_toList)]
      rfl
    · show ((T.heap.toList.drop T.heap.size).map (·.slots.size)).sum ≤ 0
      rw [List.drop_eq_nil_of_le (Nat.le_of_eq Array.length_toList)]
      exact Nat.le_refl _
/-- 'throw new E()': new; dup; invokespecial; athrow -/
theorem vx_throw0 {cc : ByteArray} {pc : Nat} (hexec : p.tables.exec = Jvm.exec) (hb : c.code = cc) (hl : l.stackTraces = false) {own cls : String} {names : List String} {ik ic mc ms : Nat} {A : Nat → Prop}
    (hown : s.vm.findClass own = some m.cls) (hcls : Bundle.fit cls = true) (hnames : ∀ n ∈ names, Bundle.fit n = true)
    (hk : (Cond.classLink own ik cls).before args s = true) (hini : (Cond.initialized cls).before args s = true) (hat : ∀ w ∈ vx_at0 own ic cls names, w.before args s = true)
    (hgood : ∀ w ∈ Cond.classLink own ik cls :: Cond.initialized cls :: vx_at0 own ic cls names, vx_ot w = true)
    (hU : vx_Zq Bundle.tN "UNASSIGNED_STACK" Bundle.steD A s s.heap) (hN : vx_Zq Bundle.tN "SUPPRESSED_SENTINEL" Bundle.listD A s s.heap) (hS : va_S A s.heap H locs) (hsize : ls.size = c.maxLocals)
    (d0 : decode cc pc = .ok (.new ik, 3)) (d3 : decode cc (pc + 3) = .ok (.dup, 1)) (d4 : decode cc (pc + 4) = .ok (.invokespecial ic, 3)) (d7 : decode cc (pc + 7) = .ok (.athrow, 1))
    (hout : ∀ x ∈ c.exceptionTable.toList, covers x (pc + 7) = false)
    (hRframes : names.length + 3 < R.frames) (hRlocals : (rest.map fun v => v.category).sum + (13 * (names.length + 1) + 42) ≤ R.locals) (hRcells : cells + 1 ≤ R.cells) (hRslots : slots + 6 ≤ R.slots) (hlocks : meth.locks = false)
    (hx : ∀ t : State, s.vm.Alike t.vm → H.size ≤ t.heap.size → (∀ q : Nat, q < H.size → t.heap[q]? = H[q]?) → XC cls s t)
    (hf : ∀ z ∈ locs, free z.base) (hc : cells + 1 ≤ mc) (hs : slots + 6 ≤ ms) :
    W p l e R s m args below meth c H locs cells slots (vx_MQ below Qc XC args s mc ms free) (F0 m pc ls rest) := by
  intro T hT X
  have htr : e.platform.stackTraces = false := (show e.platform.stackTraces = l.stackTraces by rw [X.admits.platform]).trans hl
  have Y := vx_rebase X (R' := { frames := R.frames, locals := R.locals, cells := 1, slots := 6 }) (Nat.le_refl _) (Nat.le_refl _) hRcells hRslots
  obtain ⟨s', hA⟩ : ∃ z, z = (T.setVm s.vm).setFrames (.invoking m args :: below) := ⟨_, rfl⟩
  rw [← hA] at Y
  have hvm : s'.vm = s.vm := by rw [hA]; rfl
  have hhp : s'.heap = H := by rw [hA]; exact hT
  have hW0 : s.WarmedH s'.vm := by rw [hvm]; exact State.WarmedH.refl s
  have hat' : ∀ w ∈ vx_at0 own ic cls names, w.before args s' = true := fun w hw => vx_ot_at hW0 hvm.symm (hgood w (List.mem_cons_of_mem _ (List.mem_cons_of_mem _ hw))) (hat w hw)
  have hk' : (Cond.classLink own ik cls).before args s' = true := vx_ot_at hW0 hvm.symm (hgood _ List.mem_cons_self) hk
  have hini' : (Cond.initialized cls).before args s' = true := vx_ot_at hW0 hvm.symm (hgood _ (List.mem_cons_of_mem _ List.mem_cons_self)) hini
  have hU' : vx_Zq Bundle.tN "UNASSIGNED_STACK" Bundle.steD A s' s'.heap := by rw [hhp]; exact vx_Zq.moved hW0.alike (hU.kept hS.2.1)
  have hN' : vx_Zq Bundle.tN "SUPPRESSED_SENTINEL" Bundle.listD A s' s'.heap := by rw [hhp]; exact vx_Zq.moved hW0.alike (hN.kept hS.2.1)
  have h : ∀ w ∈ Bundle.ownAtoms0 own ic cls names, w.before args s' = true := vx_own hat' (vx_isRefq hU'.1) (vx_isRefq hN'.1) hU'.2.word hN'.2.word
  have hown' : s'.vm.findClass own = some m.cls := by rw [hvm]; exact hown
  have hins : (Cond.instantiable cls 6).before args s' = true := h _ (by simp [Bundle.ownAtoms0])
  obtain ⟨vm₁, cX, kX, hfX, hkX, -, -, X₁, st1⟩ := Y.newCold hexec (own := own) (C := cls) (index := ik) (n := 6) hown' hk' hins hini'
    (g := F0 m pc ls rest) rfl (by rw [hb]; exact d0) (Nat.le_refl _) (Nat.le_refl _)
  generalize hT1 : (T.setVm vm₁).pushCell { cls := cX, slots := kX.instanceTypes.map defaultValue, vm := .none } = T1 at X₁ st1
  have hcat : (Value.ref T.heap.size).category = 1 := rfl
  have hcellA : T1.heap[T.heap.size]? = some (freshCell cX kX) := by rw [← hT1]; exact State.heap_pushCell_size _ _
  have d3' : decode c.code (pc + 3) = .ok (.dup, 1) := by rw [hb]; exact d3
  obtain ⟨U, hsteps, hrun, hend, hW, hsame, ce, hce, hO⟩ := X₁.ctorThrow0 hexec htr (own := own) (cls := cls) (names := names) (ic := ic) hown' hcls hnames h (fun x hx => nomatch hx) hfX hkX hcellA (by rw [hhp, hT]; exact Nat.le_refl _)
    (g := { method := m, pc := pc + 4, locals := ls, stack := .ref T.heap.size :: .ref T.heap.size :: rest, locked := none }) rfl hsize rfl rfl (rest := rest) rfl
    (by rw [hb]; exact d4) (by rw [hb]; exact d7) hout hRframes (by simp only [List.map_cons, List.sum_cons, hcat]; omega) hlocks
  obtain ⟨f1, f2⟩ := vx_frame hsame
  rw [hhp] at f1 f2
  have hWs : s.WarmedH U.vm := State.WarmedH.trans hW0 hW
  have hcl : s.vm.findClass cls = some ce.cls := by
    have h9 := hO.cls
    rw [hvm] at h9
    exact h9
  have hall : s.sameButNew ({ U with vm := s.vm } : State) locs mc ms := by
    subst hA
    obtain ⟨e1, e2⟩ := hsame
    rw [State.setFrames_setFrames] at e1
    have h2 : (T.setVm s.vm).sameButNew ({ U with vm := s.vm } : State) [] (0 + 1) (0 + 6) := ⟨e1, e2⟩
    have h3 := X.same.trans h2
    rw [List.append_nil] at h3
    exact h3.mono hc hs
  refine ⟨U, ?_, .threw T.heap.size, hrun, hend, Or.inr ⟨T.heap.size, rfl, cls, ce, locs, hx U hWs.alike f1 (fun q hq => f2 q hq (fun z hz => nomatch hz)), hce, hO.vm, hcl, hWs, hall, hf⟩⟩
  refine st1 _ ?_
  show Steps p.tables e below (T1.setTop { method := m, pc := pc + 3, locals := ls, stack := .ref T.heap.size :: rest, locked := none }) _
  jvm_step X₁.here [X₁.here.top, hexec, d3', Value.category]
  exact hsteps
/-- 'throw new E("text")': new; dup; ldc; invokespecial; athrow -/
theorem vx_throwS {cc : ByteArray} {pc : Nat} (hexec : p.tables.exec = Jvm.exec) (hb : c.code = cc) (hl : l.stackTraces = false) {own cls text : String} {names : List String} {ik is ic mc ms sa : Nat} {A : Nat → Prop}
    (hown : s.vm.findClass own = some m.cls) (hcls : Bundle.fit cls = true) (hnames : ∀ n ∈ names, Bundle.fit n = true)
    (hk : (Cond.classLink own ik cls).before args s = true) (hini : (Cond.initialized cls).before args s = true) (hstr : vk_R own is text sa s) (hat : ∀ w ∈ vx_atS own ic cls names, w.before args s = true)
    (hgood : ∀ w ∈ Cond.classLink own ik cls :: Cond.initialized cls :: vx_atS own ic cls names, vx_ot w = true)
    (hU : vx_Zq Bundle.tN "UNASSIGNED_STACK" Bundle.steD A s s.heap) (hN : vx_Zq Bundle.tN "SUPPRESSED_SENTINEL" Bundle.listD A s s.heap) (hS : va_S A s.heap H locs) (hsize : ls.size = c.maxLocals)
    (d0 : decode cc pc = .ok (.new ik, 3)) (d3 : decode cc (pc + 3) = .ok (.dup, 1)) (d4 : decode cc (pc + 4) = .ok (.ldc is, 2)) (d6 : decode cc (pc + 6) = .ok (.invokespecial ic, 3)) (d9 : decode cc (pc + 9) = .ok (.athrow, 1))
    (hout : ∀ x ∈ c.exceptionTable.toList, covers x (pc + 9) = false)
    (hRframes : names.length + 3 < R.frames) (hRlocals : (rest.map fun v => v.category).sum + (13 * (names.length + 1) + 43) ≤ R.locals) (hRcells : cells + 1 ≤ R.cells) (hRslots : slots + 6 ≤ R.slots) (hlocks : meth.locks = false)
    (hx : ∀ t : State, s.vm.Alike t.vm → H.size ≤ t.heap.size → (∀ q : Nat, q < H.size → t.heap[q]? = H[q]?) → XC cls s t)
    (hf : ∀ z ∈ locs, free z.base) (hc : cells + 1 ≤ mc) (hs : slots + 6 ≤ ms) :
    W p l e R s m args below meth c H locs cells slots (vx_MQ below Qc XC args s mc ms free) (F0 m pc ls rest) := by
  intro T hT X
  have htr : e.platform.stackTraces = false := (show e.platform.stackTraces = l.stackTraces by rw [X.admits.platform]).trans hl
  have Y := vx_rebase X (R' := { frames := R.frames, locals := R.locals, cells := 1, slots := 6 }) (Nat.le_refl _) (Nat.le_refl _) hRcells hRslots
  obtain ⟨s', hA⟩ : ∃ z, z = (T.setVm s.vm).setFrames (.invoking m args :: below) := ⟨_, rfl⟩
  rw [← hA] at Y
  have hvm : s'.vm = s.vm := by rw [hA]; rfl
  have hhp : s'.heap = H := by rw [hA]; exact hT
  have hW0 : s.WarmedH s'.vm := by rw [hvm]; exact State.WarmedH.refl s
  have hat' : ∀ w ∈ vx_atS own ic cls names, w.before args s' = true := fun w hw => vx_ot_at hW0 hvm.symm (hgood w (List.mem_cons_of_mem _ (List.mem_cons_of_mem _ hw))) (hat w hw)
  have hk' : (Cond.classLink own ik cls).before args s' = true := vx_ot_at hW0 hvm.symm (hgood _ List.mem_cons_self) hk
  have hini' : (Cond.initialized cls).before args s' = true := vx_ot_at hW0 hvm.symm (hgood _ (List.mem_cons_of_mem _ List.mem_cons_self)) hini
  have hU' : vx_Zq Bundle.tN "UNASSIGNED_STACK" Bundle.steD A s' s'.heap := by rw [hhp]; exact vx_Zq.moved hW0.alike (hU.kept hS.2.1)
  have hN' : vx_Zq Bundle.tN "SUPPRESSED_SENTINEL" Bundle.listD A s' s'.heap := by rw [hhp]; exact vx_Zq.moved hW0.alike (hN.kept hS.2.1)
  have h : ∀ w ∈ Bundle.ownAtoms own ic cls names, w.before args s' = true := vx_own hat' (vx_isRefq hU'.1) (vx_isRefq hN'.1) hU'.2.word hN'.2.word
  have hown' : s'.vm.findClass own = some m.cls := by rw [hvm]; exact hown
  have hins : (Cond.instantiable cls 6).before args s' = true := h _ (by simp [Bundle.ownAtoms])
  obtain ⟨vm₁, cX, kX, hfX, hkX, -, -, X₁, st1⟩ := Y.newCold hexec (own := own) (C := cls) (index := ik) (n := 6) hown' hk' hins hini'
    (g := F0 m pc ls rest) rfl (by rw [hb]; exact d0) (Nat.le_refl _) (Nat.le_refl _)
  generalize hT1 : (T.setVm vm₁).pushCell { cls := cX, slots := kX.instanceTypes.map defaultValue, vm := .none } = T1 at X₁ st1
  have hcat : (Value.ref T.heap.size).category = 1 := rfl
  have hcellA : T1.heap[T.heap.size]? = some (freshCell cX kX) := by rw [← hT1]; exact State.heap_pushCell_size _ _
  have d3' : decode c.code (pc + 3) = .ok (.dup, 1) := by rw [hb]; exact d3
  have d4' : decode c.code (pc + 4) = .ok (.ldc is, 2) := by rw [hb]; exact d4
  have hstr' : vk_R own is text sa s' := vk_R.warm hW0 hstr
  obtain ⟨U, hsteps, hrun, hend, hW, hsame, ce, hce, hO⟩ := X₁.ctorThrowS hexec htr (own := own) (cls := cls) (names := names) (ic := ic) hown' hcls hnames h (fun x hx => nomatch hx) hfX hkX hcellA (by rw [hhp, hT]; exact Nat.le_refl _) (msg := .ref sa) rfl
    (g := { method := m, pc := pc + 6, locals := ls, stack := .ref sa :: .ref T.heap.size :: .ref T.heap.size :: rest, locked := none }) rfl hsize rfl rfl (rest := rest) rfl
    (by rw [hb]; exact d6) (by rw [hb]; exact d9) hout hRframes (by simp only [List.map_cons, List.sum_cons, hcat]; omega) hlocks
  obtain ⟨f1, f2⟩ := vx_frame hsame
  rw [hhp] at f1 f2
  have hWs : s.WarmedH U.vm := State.WarmedH.trans hW0 hW
  have hcl : s.vm.findClass cls = some ce.cls := by
    have h9 := hO.cls
    rw [hvm] at h9
    exact h9
  have hall : s.sameButNew ({ U with vm := s.vm } : State) locs mc ms := by
    subst hA
    obtain ⟨e1, e2⟩ := hsame
    rw [State.setFrames_setFrames] at e1
    have h2 : (T.setVm s.vm).sameButNew ({ U with vm := s.vm } : State) [] (0 + 1) (0 + 6) := ⟨e1, e2⟩
    have h3 := X.same.trans h2
    rw [List.append_nil] at h3
    exact h3.mono hc hs
  refine ⟨U, ?_, .threw T.heap.size, hrun, hend, Or.inr ⟨T.heap.size, rfl, cls, ce, locs, hx U hWs.alike f1 (fun q hq => f2 q hq (fun z hz => nomatch hz)), hce, hO.vm, hcl, hWs, hall, hf⟩⟩
  refine st1 _ ?_
  show Steps p.tables e below (T1.setTop { method := m, pc := pc + 3, locals := ls, stack := .ref T.heap.size :: rest, locked := none }) _
  jvm_step X₁.here [X₁.here.top, hexec, d3', Value.category]
  exact X₁.ldcString hexec (own := own) (text := text) (index := is) (a := sa) hown' hstr'.1 hstr'.2
    (g := { method := m, pc := pc + 4, locals := ls, stack := .ref T.heap.size :: .ref T.heap.size :: rest, locked := none }) rfl d4' _ hsteps
/-- 'throw new E("text")', the text by a wide index -/
theorem vx_throwSW {cc : ByteArray} {pc : Nat} (hexec : p.tables.exec = Jvm.exec) (hb : c.code = cc) (hl : l.stackTraces = false) {own cls text : String} {names : List String} {ik is ic mc ms sa : Nat} {A : Nat → Prop}
    (hown : s.vm.findClass own = some m.cls) (hcls : Bundle.fit cls = true) (hnames : ∀ n ∈ names, Bundle.fit n = true)
    (hk : (Cond.classLink own ik cls).before args s = true) (hini : (Cond.initialized cls).before args s = true) (hstr : vk_R own is text sa s) (hat : ∀ w ∈ vx_atS own ic cls names, w.before args s = true)
    (hgood : ∀ w ∈ Cond.classLink own ik cls :: Cond.initialized cls :: vx_atS own ic cls names, vx_ot w = true)
    (hU : vx_Zq Bundle.tN "UNASSIGNED_STACK" Bundle.steD A s s.heap) (hN : vx_Zq Bundle.tN "SUPPRESSED_SENTINEL" Bundle.listD A s s.heap) (hS : va_S A s.heap H locs) (hsize : ls.size = c.maxLocals)
    (d0 : decode cc pc = .ok (.new ik, 3)) (d3 : decode cc (pc + 3) = .ok (.dup, 1)) (d4 : decode cc (pc + 4) = .ok (.ldc_w is, 3)) (d7 : decode cc (pc + 7) = .ok (.invokespecial ic, 3)) (d10 : decode cc (pc + 10) = .ok (.athrow, 1))
    (hout : ∀ x ∈ c.exceptionTable.toList, covers x (pc + 10) = false)
    (hRframes : names.length + 3 < R.frames) (hRlocals : (rest.map fun v => v.category).sum + (13 * (names.length + 1) + 43) ≤ R.locals) (hRcells : cells + 1 ≤ R.cells) (hRslots : slots + 6 ≤ R.slots) (hlocks : meth.locks = false)
    (hx : ∀ t : State, s.vm.Alike t.vm → H.size ≤ t.heap.size → (∀ q : Nat, q < H.size → t.heap[q]? = H[q]?) → XC cls s t)
    (hf : ∀ z ∈ locs, free z.base) (hc : cells + 1 ≤ mc) (hs : slots + 6 ≤ ms) :
    W p l e R s m args below meth c H locs cells slots (vx_MQ below Qc XC args s mc ms free) (F0 m pc ls rest) := by
  intro T hT X
  have htr : e.platform.stackTraces = false := (show e.platform.stackTraces = l.stackTraces by rw [X.admits.platform]).trans hl
  have Y := vx_rebase X (R' := { frames := R.frames, locals := R.locals, cells := 1, slots := 6 }) (Nat.le_refl _) (Nat.le_refl _) hRcells hRslots
  obtain ⟨s', hA⟩ : ∃ z, z = (T.setVm s.vm).setFrames (.invoking m args :: below) := ⟨_, rfl⟩
  rw [← hA] at Y
  have hvm : s'.vm = s.vm := by rw [hA]; rfl
  have hhp : s'.heap = H := by rw [hA]; exact hT
  have hW0 : s.WarmedH s'.vm := by rw [hvm]; exact State.WarmedH.refl s
  have hat' : ∀ w ∈ vx_atS own ic cls names, w.before args s' = true := fun w hw => vx_ot_at hW0 hvm.symm (hgood w (List.mem_cons_of_mem _ (List.mem_cons_of_mem _ hw))) (hat w hw)
  have hk' : (Cond.classLink own ik cls).before args s' = true := vx_ot_at hW0 hvm.symm (hgood _ List.mem_cons_self) hk
  have hini' : (Cond.initialized cls).before args s' = true := vx_ot_at hW0 hvm.symm (hgood _ (List.mem_cons_of_mem _ List.mem_cons_self)) hini
  have hU' : vx_Zq Bundle.tN "UNASSIGNED_STACK" Bundle.steD A s' s'.heap := by rw [hhp]; exact vx_Zq.moved hW0.alike (hU.kept hS.2.1)
  have hN' : vx_Zq Bundle.tN "SUPPRESSED_SENTINEL" Bundle.listD A s' s'.heap := by rw [hhp]; exact vx_Zq.moved hW0.alike (hN.kept hS.2.1)
  have h : ∀ w ∈ Bundle.ownAtoms own ic cls names, w.before args s' = true := vx_own hat' (vx_isRefq hU'.1) (vx_isRefq hN'.1) hU'.2.word hN'.2.word
  have hown' : s'.vm.findClass own = some m.cls := by rw [hvm]; exact hown
  have hins : (Cond.instantiable cls 6).before args s' = true := h _ (by simp [Bundle.ownAtoms])
  obtain ⟨vm₁, cX, kX, hfX, hkX, -, -, X₁, st1⟩ := Y.newCold hexec (own := own) (C := cls) (index := ik) (n := 6) hown' hk' hins hini'
    (g := F0 m pc ls rest) rfl (by rw [hb]; exact d0) (Nat.le_refl _) (Nat.le_refl _)
  generalize hT1 : (T.setVm vm₁).pushCell { cls := cX, slots := kX.instanceTypes.map defaultValue, vm := .none } = T1 at X₁ st1
  have hcat : (Value.ref T.heap.size).category = 1 := rfl
  have hcellA : T1.heap[T.heap.size]? = some (freshCell cX kX) := by rw [← hT1]; exact State.heap_pushCell_size _ _
  have d3' : decode c.code (pc + 3) = .ok (.dup, 1) := by rw [hb]; exact d3
  have d4' : decode c.code (pc + 4) = .ok (.ldc_w is, 3) := by rw [hb]; exact d4
  have hstr' : vk_R own is text sa s' := vk_R.warm hW0 hstr
  obtain ⟨U, hsteps, hrun, hend, hW, hsame, ce, hce, hO⟩ := X₁.ctorThrowS hexec htr (own := own) (cls := cls) (names := names) (ic := ic) hown' hcls hnames h (fun x hx => nomatch hx) hfX hkX hcellA (by rw [hhp, hT]; exact Nat.le_refl _) (msg := .ref sa) rfl
    (g := { method := m, pc := pc + 7, locals := ls, stack := .ref sa :: .ref T.heap.size :: .ref T.heap.size :: rest, locked := none }) rfl hsize rfl rfl (rest := rest) rfl
    (by rw [hb]; exact d7) (by rw [hb]; exact d10) hout hRframes (by simp only [List.map_cons, List.sum_cons, hcat]; omega) hlocks
  obtain ⟨f1, f2⟩ := vx_frame hsame
  rw [hhp] at f1 f2
  have hWs : s.WarmedH U.vm := State.WarmedH.trans hW0 hW
  have hcl : s.vm.findClass cls = some ce.cls := by
    have h9 := hO.cls
    rw [hvm] at h9
    exact h9
  have hall : s.sameButNew ({ U with vm := s.vm } : State) locs mc ms := by
    subst hA
    obtain ⟨e1, e2⟩ := hsame
    rw [State.setFrames_setFrames] at e1
    have h2 : (T.setVm s.vm).sameButNew ({ U with vm := s.vm } : State) [] (0 + 1) (0 + 6) := ⟨e1, e2⟩
    have h3 := X.same.trans h2
    rw [List.append_nil] at h3
    exact h3.mono hc hs
  refine ⟨U, ?_, .threw T.heap.size, hrun, hend, Or.inr ⟨T.heap.size, rfl, cls, ce, locs, hx U hWs.alike f1 (fun q hq => f2 q hq (fun z hz => nomatch hz)), hce, hO.vm, hcl, hWs, hall, hf⟩⟩
  refine st1 _ ?_
  show Steps p.tables e below (T1.setTop { method := m, pc := pc + 3, locals := ls, stack := .ref T.heap.size :: rest, locked := none }) _
  jvm_step X₁.here [X₁.here.top, hexec, d3', Value.category]
  exact X₁.ldcStringW hexec (own := own) (text := text) (index := is) (a := sa) hown' hstr'.1 hstr'.2
    (g := { method := m, pc := pc + 4, locals := ls, stack := .ref T.heap.size :: .ref T.heap.size :: rest, locked := none }) rfl d4' _ hsteps
end Ends
section Bodies
variable {l : Launch}
theorem vx_ofW {y : MethodName} {ws ws' : List Cond} {rm : Room} {Pc : Array Value → State → Prop} {Qc : Array Value → State → Outcome → State → Prop} {XC : String → State → State → Prop} {mc ms : Nat} {free : Addr → Prop} {cc : ByteArray} {maxL : Nat} {ret : Option FieldType}
    (hy : plainName y.cls = true) (hw : ws = Cond.code y cc maxL ret :: ws')
    (body : ∀ p e s m args below meth c s₁, BodyLoose p l y (headSpec ws rm) cc maxL ret e s m args below meth c s₁ → c.maxLocals = maxL → (∀ x ∈ c.exceptionTable.toList, False) → Pc args s →
      W p l e (headSpec ws rm).room s m args below meth c s.heap [] 0 0 (vx_MQ below Qc XC args s mc ms free) (entryFrame m args maxL)) : vx_Met l y ws rm Pc Qc XC mc ms free := by
  refine MetFree.of_bodyS (code := cc) (maxLocals := maxL) (ret := ret) hy ?_ ?_
  · intro args s m h hn
    obtain ⟨meth, c, h1, h2, h3, h4, h5, h6, -, -⟩ := Cond.code_spec hn (atoms_spec (ws := ws) h _ (by rw [hw]; exact List.mem_cons_self))
    exact ⟨meth, c, h1, h2, h3, h4, h5, h6⟩
  · intro p e s m args below meth c s₁ B hml hP _
    have hh0 : s₁.heap = s.heap := by rw [B.state]; rfl
    have ht : ∀ x ∈ c.exceptionTable.toList, False := by
      obtain ⟨meth9, c9, h1, h2, -, -, -, -, h7, -⟩ := Cond.code_spec B.named (atoms_spec (ws := ws) B.pre _ (by rw [hw]; exact List.mem_cons_self))
      cases Option.some.inj (h1.symm.trans B.method)
      cases Option.some.inj (h2.symm.trans (Stand.of_body B).code)
      intro x hx
      rw [Array.isEmpty_iff.mp h7] at hx
      cases hx
    obtain ⟨t, a1, o, b1, b2, b3⟩ := body p e s m args below meth c s₁ B hml ht hP s₁ hh0 (Stand.of_body B)
    exact ⟨t, o, a1, b1, b2, b3⟩
/-- the table of a body with handlers -/
theorem vx_table {p : Program} {x y : MethodName} {S : Spec} {cc bytes : ByteArray} {maxL maxL' : Nat} {ret ret' : Option FieldType} {e : Env} {s s₁ : State} {m : MethodId} {args : Array Value} {below : List Frame} {meth : Method} {c : Code} {hh : List (Nat × Nat × Nat × Nat)}
    (B : BodyLoose p l y S cc maxL ret e s m args below meth c s₁) (h : (Cond.codeWith y bytes maxL' ret' hh).before args s = true) : c.exceptionTable.toList = tableOf hh := by
  obtain ⟨m9, meth9, c9, hn9, h1, h2, -, -, h6, -⟩ := Cond.codeWith_spec h
  cases Option.some.inj (hn9.symm.trans B.named)
  cases Option.some.inj (h1.symm.trans B.method)
  cases Option.some.inj (h2.symm.trans (Stand.of_body B).code)
  rw [← h6, table_eq]
end Bodies
end VXA
/-! ===== END ===== -/
/-! ===== BEGIN a static call of a method with an exception table ===== -/
section VXS
variable {p : Program} {l : Launch} {e : Env} {R : Room} {s : State} {m : MethodId} {args : Array Value} {below : List Frame} {meth : Method} {c : Code} {T : State} {H : Heap} {locs : List Loc} {cells slots : Nat}
abbrev vx_CSW (R : Room) (s : State) (args : Array Value) (own : String) (index : Nat) (y : MethodName) (bytes : ByteArray) (maxL : Nat) (ret : Option FieldType) (hh : List (Nat × Nat × Nat × Nat)) (ws : List Cond) (rm : Room) (mc ms n : Nat) : Prop :=
  (rm.cells = mc ∧ rm.slots = ms ∧ rm.frames + 1 ≤ R.frames ∧ 8 + (maxL + 11) + rm.locals ≤ R.locals ∧ (∀ w ∈ ws, ∀ (a' : Array Value) (U : State), s.WarmedH U.vm → w.before a' U = true) ∧ Cond.codeWith y bytes maxL ret hh ∈ ws) ∧
  (Cond.codeWith y bytes maxL ret hh).before args s = true ∧ (Cond.initialized y.cls).before args s = true ∧ (y.cls ≠ "java/lang/invoke/MethodHandle" ∧ y.cls ≠ "java/lang/invoke/VarHandle") ∧
  (∀ sig, parseMethodDescriptor y.desc = some sig → n = sig.parameters.length) ∧ (Cond.methodLink own index y).before args s = true ∧ (Cond.static y).before args s = true
theorem vx_cwSW {own : String} {index maxL mc ms : Nat} {y : MethodName} {bytes : ByteArray} {ret : Option FieldType} {hh : List (Nat × Nat × Nat × Nat)} {Ts ws ws' : List Cond} {rm : Room} (n : Nat) (ht : ∀ w ∈ Ts, w.before args s = true) (hT : GoodIn Ts (va_wsS own index y ws)) (hw : ws = Cond.codeWith y bytes maxL ret hh :: ws') (hrc : rm.cells = mc) (hrs : rm.slots = ms)
    (hd : y.cls ≠ "java/lang/invoke/MethodHandle" ∧ y.cls ≠ "java/lang/invoke/VarHandle" ∧ (parseMethodDescriptor y.desc).map (fun d => d.parameters.length) = some n) (hR : rm.frames + 1 ≤ R.frames ∧ 8 + (maxL + 11) + rm.locals ≤ R.locals) :
    vx_CSW R s args own index y bytes maxL ret hh ws rm mc ms n := by
  have ok : ∀ w ∈ va_wsS own index y ws, w.before args s = true := fun w h => ht w (hT w h).1
  have hG : GoodIn Ts ws := fun w h => hT w (by unfold va_wsS; exact List.mem_append_right _ h)
  have hc : Cond.codeWith y bytes maxL ret hh ∈ ws := by rw [hw]; exact List.mem_cons_self
  refine ⟨⟨hrc, hrs, hR.1, hR.2, pay_in ht hG, hc⟩, ht _ (hG _ hc).1, ok _ (by simp [va_wsS]), ⟨hd.1, hd.2.1⟩, fun sig h => ?_, ok _ (by simp [va_wsS]), ok _ (by simp [va_wsS])⟩
  have h2 := hd.2.2
  rw [h] at h2
  exact (Option.some.inj h2).symm
theorem vx_callSW (X : Stand p l e R s m args below meth c T locs cells slots) (hexec : p.tables.exec = Jvm.exec) {own : String} {index : Nat} {y : MethodName} {bytes : ByteArray} {maxL : Nat} {ret : Option FieldType} {hh : List (Nat × Nat × Nat × Nat)}
    (hown : s.vm.findClass own = some m.cls) (hlink : (Cond.methodLink own index y).before args s = true) (hstat : (Cond.static y).before args s = true) (hinit : (Cond.initialized y.cls).before args s = true)
    (hcode : (Cond.codeWith y bytes maxL ret hh).before args s = true) (hy : y.cls ≠ "java/lang/invoke/MethodHandle" ∧ y.cls ≠ "java/lang/invoke/VarHandle")
    {W9 : Nat} {Pre : Pt → Array Value → Prop} {Post : Pt → Array Value → Option Value → Pt → Prop} (hK : Back l R p e below s args y 3 W9 Pre Post)
    {g : JFrame} (hg : g.method = m) (hsize : g.locals.size = c.maxLocals) {argsL rest : List Value} (hlen : ∀ sig, parseMethodDescriptor y.desc = some sig → argsL.length = sig.parameters.length)
    (hstack : g.stack = argsL.reverse ++ rest) (hW : 2 * g.monitorRoom + (rest.map fun v => v.category).sum ≤ W9) (hdg : decode c.code g.pc = .ok (.invokestatic index, 3))
    (hpre : ∀ vm₁, s.WarmedH vm₁ → Pre ⟨T.setVm vm₁, locs, cells, slots⟩ argsL.toArray) :
    ∃ (v : Option Value) (vm₁ : Vm) (B : Pt), s.WarmedH vm₁ ∧ Stand p l e R s m args below meth c B.U B.locs B.cells B.slots ∧ Post ⟨T.setVm vm₁, locs, cells, slots⟩ argsL.toArray v B ∧
      ∀ target, Steps p.tables e below (B.U.setTop { g with pc := g.pc + 3, stack := v.toList ++ rest }) target → Steps p.tables e below (T.setTop g) target := by
  obtain ⟨mk, methM, cM, hnamed, hmethM, -, -, -, -, -, -, hsigM⟩ := Cond.codeWith_spec hcode
  have hstatic : methM.isStatic = true := Cond.static_spec hnamed hmethM hstat
  obtain ⟨kP, hkP, -⟩ := className_of_methodNamed hnamed
  have hinitP : kP.init = .initialized := Cond.initialized_spec (findClass_of_methodNamed hnamed) hkP hinit
  obtain ⟨vm₁, X₁, hstep₁⟩ := X.invokestatic hexec hown hlink hnamed hmethM hstatic hkP hinitP hy (g := g) hg (argsL := argsL) (rest := rest) (hlen _ hsigM) hstack hdg
  obtain ⟨v, B, X', hpost, hsteps⟩ := hK m meth c ⟨T.setVm vm₁, locs, cells, slots⟩ { g with stack := rest } (.invokestatic index) mk argsL.toArray X₁ hg hsize hdg hW (X₁.named hnamed) (hpre vm₁ X₁.warmed)
  exact ⟨v, vm₁, B, X₁.warmed, X', hpost, fun target h => hstep₁ _ fun acts => by rw [doInvoke_state]; exact hsteps.trans h⟩
theorem vx_runSW {y : MethodName} {bytes cc : ByteArray} {maxL nL mc ms n index : Nat} {ret : Option FieldType} {hh : List (Nat × Nat × Nat × Nat)} {ws : List Cond} {rm : Room} {Pc : Array Value → State → Prop} {Qc : Array Value → State → Outcome → State → Prop} {free : Addr → Prop} {Ts : List Cond} {own : String} {As rest : List Value} {g : JFrame}
    (S : CallFix p m c cc nL s args Ts own) (hM : Met l y ws rm Pc Qc mc ms free) (cw : vx_CSW R s args own index y bytes maxL ret hh ws rm mc ms n) (hp : PreS s H Pc As)
    (hg : g.method = m) (hn : As.length = n) (hsize : g.locals.size = nL) (hstack : g.stack = As.reverse ++ rest) (hW : 2 * g.monitorRoom + (rest.map fun v => v.category).sum ≤ 8) (hdg : decode cc g.pc = .ok (.invokestatic index, 3)) (hf : cells + mc ≤ R.cells ∧ slots + ms ≤ R.slots) :
    va_Run p l e R s m args below meth c H locs cells slots mc ms g rest (Qc As.toArray) (free) := by
  obtain ⟨⟨hrc, hrs, hfr, hlo, hws, hcw⟩, hcode, hini, hy, hlen, hl, hstt⟩ := cw
  have hK : Back l R p e below s args y 3 8 (PreOf R mc ms Pc) (PostOf Qc mc ms free) := va_backW (hh := hh) (bytes := bytes) (maxL := maxL) (ret := ret) hM hp.1 hrc hrs hfr hlo hws hcw (fun a' U hW => word_at hW (Or.inl (by first | rfl | simp [Cond.onTables, Cond.keeps, Cond.steady])) hini)
  obtain ⟨hx, hb, hml, ho, -⟩ := S
  intro T hT X
  obtain ⟨v, vm₁, ⟨U', l2, c2, s2⟩, hW₁, X', ⟨g', mk, t, L, e1, e2, hq, h1, hL, h2, h3⟩, st⟩ := vx_callSW X hx (hh := hh) (bytes := bytes) (maxL := maxL) (ret := ret) ho hl hstt hini hcode hy hK hg (hsize.trans hml.symm) (argsL := As) (rest := rest) (fun sig h => hn.trans (hlen sig h)) hstack hW (by rw [hb]; exact hdg)
    (fun vm₁ hW₁ => ⟨hf.1, hf.2, hp.2 (T.setVm vm₁) hT hW₁⟩)
  dsimp only [Pt.U, Pt.locs, Pt.cells, Pt.slots] at X' e1 e2 h1 h2 h3 st
  subst h1; subst h2; subst h3
  exact ⟨v, (T.setVm vm₁).calling g' mk As.toArray, t, U', L, hT, X', hL, e1, e2, hq, st⟩
/-- not caught here, past rows that name other classes: it goes on to the caller -/
theorem vx_outP {p : Program} {l : Launch} {e : Env} {R : Room} {s : State} {m : MethodId} {args : Array Value} {below : List Frame} {meth : Method} {c : Code} {H : Heap} {locs : List Loc} {cells slots : Nat} {free : Addr → Prop} {ls : Array Slot} {rest : List Value} {Qc : Array Value → State → Outcome → State → Prop} {XC : String → State → State → Prop}
    {pc : Nat} {own E : String} {ce : Cell} {q : Addr} {mc ms : Nat} (hown : s.vm.findClass own = some m.cls) (hlocks : meth.locks = false)
    (hpass : ∀ z ∈ c.exceptionTable.toList, covers z pc = false ∨ (z.catchType ≠ 0 ∧ ∃ nm : String, (Cond.classLink own z.catchType nm).before args s = true ∧ va_Nc E nm s)) (hcell : H[q]? = some ce) (hv : ce.vm = .none) (hcl : s.vm.findClass E = some ce.cls)
    (hx : ∀ t : State, t.heap = H → s.vm.Alike t.vm → XC E s t) (hf : ∀ z ∈ locs, free z.base) (hc : cells ≤ mc) (hs : slots ≤ ms) :
    vx_W p l e R s m args below meth c H locs cells slots (vx_MQ below Qc XC args s mc ms free) (F0 m pc ls rest) q := by
  intro T hT X
  have hpl : e.platform.magicAccessors = ({} : Platform).magicAccessors := by rw [X.admits.platform]
  obtain ⟨vm', hW', X', st⟩ := X.outThrough hlocks q (g := F0 m pc ls rest) rfl rfl rfl (cell := ce) (by rw [hT]; exact hcell) (by rw [hv]; rfl)
    (by obtain ⟨k9, h9, -⟩ := Vm.findClass_spec hcl; exact ⟨k9, h9⟩) (fun z hz => by
      rcases hpass z hz with h | ⟨hz0, nm, hl1, hn1⟩
      · exact Or.inl h
      · obtain ⟨c6, hc6, hcl6⟩ := Cond.classLink_spec hown hl1 e.platform hpl
        obtain ⟨a8, b8, h1, h2, h3⟩ := hn1
        cases Option.some.inj (h1.symm.trans hcl)
        cases Option.some.inj (h2.symm.trans hc6)
        exact Or.inr ⟨hz0, _, hcl6, h3⟩)
  obtain ⟨g₀, hfr⟩ := X'.frames_eq
  have hcell9 : ((T.setVm vm').setFrames (.throwing q :: below)).heap[q]? = some ce := by
    show T.heap[q]? = some ce
    rw [hT]; exact hcell
  have hend : Ended ((T.setVm vm').setFrames (.throwing q :: below)) below (.threw q) := State.frames_setFrames _ (State.cur_lt_of_frames hfr)
  refine ⟨(T.setVm vm').setFrames (.throwing q :: below), ?_, .threw q, X'.here.running, hend, Or.inr ⟨q, rfl, E, ce, locs, hx _ hT (X'.ends _).1.alike, hcell9, hv, hcl, (X'.ends _).1, (X'.ends _).2.mono hc hs, hf⟩⟩
  rw [X.pushThrowing_eq]
  exact st
/-- a thing of a world lies in the heap -/
theorem vx_lt {D : va_G} {cl : List vw_C} {ws : va_W} {H1 : Heap} (h : va_P D cl ws H1) {k : Nat} {q : Nat × va_E} (hk : ws[k]? = some q) : q.1 < H1.size := (h k q hk).lt
end VXS
/-! ===== END ===== -/
/-! ===== BEGIN methods with a table of their own: called by a name, returning or throwing ===== -/
section VXH
/-! vx_backW, vx_callVX, vx_callSX, vx_callVW, vx_runVW, vx_runVX, vx_runSX, vx_ofWH follow the same proofs as their sisters above (Free/Laws.lean, Shelf42/LK1.lean); vx_outP calls Shelf42/NT130.lean (outThrough). -/
section
variable {l : Launch} {R : Room} {p : Program} {e : Env} {below : List Frame} {s : State} {sargs : Array Value} {y : MethodName} {len W9 : Nat}
theorem vx_backW {ws : List Cond} {rm : Room} {Pc : Array Value → State → Prop} {Qc : Array Value → State → Outcome → State → Prop} {XC : String → State → State → Prop} {mc ms : Nat} {free : Addr → Prop} {bytes : ByteArray} {maxL : Nat} {ret : Option FieldType} {hh : List (Nat × Nat × Nat × Nat)}
    (hM : vx_Met l y ws rm Pc Qc XC mc ms free) (hblind : FrameBlind Pc) (hrc : rm.cells = mc) (hrs : rm.slots = ms)
    (hframes : rm.frames + 1 ≤ R.frames) (hlocals : W9 + (maxL + 11) + rm.locals ≤ R.locals)
    (hws : ∀ w ∈ ws, ∀ a' U, s.WarmedH U.vm → w.before a' U = true) (hcode : Cond.codeWith y bytes maxL ret hh ∈ ws) (hinit : ∀ a' U, s.WarmedH U.vm → (Cond.initialized y.cls).before a' U = true) :
    vx_Back l R p e below s sargs y len W9 (PreOf R mc ms Pc) (PostOf Qc mc ms free) (vx_Post XC mc ms free) := by
  intro m meth c A g ig mk a X hg hsize hdg hW hn hp
  have h1 : (headSpec ws rm).pre.before a A.U = true := atoms_intro fun w hw => hws w hw _ _ X.warmed
  have h2 : (Cond.codeWith y bytes maxL ret hh).before a A.U = true := hws _ hcode _ _ X.warmed
  have h3 : (Cond.initialized y.cls).before a A.U = true := hinit _ _ X.warmed
  have h4 : A.cells + (headSpec ws rm).room.cells ≤ R.cells := by rw [show (headSpec ws rm).room.cells = mc from hrc]; exact hp.1
  have h5 : A.slots + (headSpec ws rm).room.slots ≤ R.slots := by rw [show (headSpec ws rm).room.slots = ms from hrs]; exact hp.2.1
  have hPc : Pc a (A.U.calling g mk a) := hblind _ _ _ _ hp.2.2
  obtain ⟨U, Ls, c0, s0⟩ := A
  dsimp only [Pt.U, Pt.locs, Pt.cells, Pt.slots] at h1 h2 h3 h4 h5 X hn hPc ⊢
  obtain ⟨m9, methY, cY, hn9, hmY, hcY, -, hlY, -⟩ := Cond.codeWith_spec h2
  cases Option.some.inj (hn9.symm.trans hn)
  obtain ⟨kY, hkY, -⟩ := className_of_methodNamed hn
  have hinitY : kY.init = .initialized := Cond.initialized_spec (findClass_of_methodNamed hn) hkY h3
  have h : At U g.method c below := by rw [hg]; exact X.here
  have hlocals9 : W9 + (maxL + 11) + (headSpec ws rm).room.locals ≤ R.locals := hlocals
  have happ : (headSpec ws rm).appliesLoose y e.platform (U.calling g mk a) = true :=
    Spec.appliesLoose_calling (g := g) h hdg hn hkY hinitY
      (X.room_calling (g := g) (R' := (headSpec ws rm).room) hsize hmY hcY hframes (by rw [hlY]; omega) h4 h5) h1
  obtain ⟨mid, hmid⟩ := h.above
  have hfr : (U.setTop g).frames = (.java g :: mid) ++ below := by rw [State.frames_setTop' g h.top, hmid]; rfl
  obtain ⟨o, s₂, hsteps, -, hend, hq⟩ := Steps.callFree hM p X.admits X.cas X.clock (acts := []) hfr happ hPc trivial
  have hq' : vx_Q Qc XC mc ms free a (U.calling g mk a) o s₂ := hq
  rw [State.frames_setTop' g h.top] at hend
  obtain ⟨g₀, hg0⟩ := Option.isSome_iff_exists.mp h.top
  obtain ⟨r, hr⟩ := State.topJava?_eq_some.mp hg0
  have hr' : (({ U with heap := s₂.heap, slotsUsed := s₂.slotsUsed } : State).setVm s₂.vm).frames = .java g₀ :: r := hr
  rcases hq' with ⟨hqc, L, hfe, hL⟩ | ⟨q, rfl, E, ce, L, hx, hce, hcv, hcl, hW₂, hsm, hL⟩
  · obtain ⟨⟨v, rfl⟩, hW₂, e2, q2, q3, q4, q5, q6⟩ := id hfe
    have e3 : s₂ = ({ (U.calling g mk a).setFrames s₂.frames with heap := s₂.heap, slotsUsed := s₂.slotsUsed } : State).setVm s₂.vm := by
      have : s₂ = ({ s₂ with vm := (U.calling g mk a).vm } : State).setVm s₂.vm := rfl
      rw [e2] at this
      exact this
    obtain ⟨c₂, i₂, len₂, hc₂, hd₂, hf₂⟩ := hend
    have hW' : U.WarmedH s₂.vm := hW₂
    have hcc : c₂ = c := by
      have h1 : s₂.code? g.method = U.code? g.method := by
        rw [State.code?_eq, State.code?_eq, hW'.alike.method?]
      exact Option.some.inj (hc₂.symm.trans (h1.trans h.code))
    subst hcc
    have hlen : len₂ = len := by rw [hdg] at hd₂; cases hd₂; rfl
    subst hlen
    have hs₂ : s₂ = (({ U with heap := s₂.heap, slotsUsed := s₂.slotsUsed } : State).setVm s₂.vm).setTop { g with pc := g.pc + len₂, stack := v.toList ++ g.stack } := by
      refine e3.trans ?_
      rw [hf₂, State.calling_eq h.top, State.setFrames_setFrames, State.setTop_of_frames _ hr', hr]
      rfl
    have hsame : U.sameButNew ({ U with heap := s₂.heap, slotsUsed := s₂.slotsUsed } : State) L mc ms := by
      refine ⟨?_, q2, q3, q4, q5, q6⟩
      obtain ⟨t, ht, -⟩ := State.frames_cons hr
      show ({ U with heap := s₂.heap, slotsUsed := s₂.slotsUsed } : State) = { U.setFrames U.frames with heap := s₂.heap, slotsUsed := s₂.slotsUsed }
      rw [State.setFrames_self ht]
    subst hg
    refine Or.inl ⟨v, ⟨(({ U with heap := s₂.heap, slotsUsed := s₂.slotsUsed } : State).setVm s₂.vm), Ls ++ L, c0 + mc, s0 + ms⟩,
      ⟨X.admits, X.cas, X.clock, X.frames, X.room, X.hears, X.method, X.code, (X.here.setHeapUsed s₂.heap s₂.slotsUsed).setVm hW'.alike, X.tail, State.WarmedH.trans X.warmed hW', X.limits, X.bytes, X.same.trans (hsame.setVm s.vm)⟩,
      ⟨g, mk, s₂, L, rfl, rfl, hqc, rfl, hL, rfl, rfl⟩, ?_⟩
    show Steps p.tables e below _ ((({ U with heap := s₂.heap, slotsUsed := s₂.slotsUsed } : State).setVm s₂.vm).setTop { g with pc := g.pc + len₂, stack := v.toList ++ g.stack })
    rw [← hs₂]
    exact hsteps
  · obtain ⟨e2, q2, q3, q4, q5, q6⟩ := id hsm
    have e3 : s₂ = ({ (U.calling g mk a).setFrames s₂.frames with heap := s₂.heap, slotsUsed := s₂.slotsUsed } : State).setVm s₂.vm := by
      have : s₂ = ({ s₂ with vm := (U.calling g mk a).vm } : State).setVm s₂.vm := rfl
      rw [e2] at this
      exact this
    have hf₂ : s₂.frames = .throwing q :: .java g :: U.frames.tail := hend
    have hW' : U.WarmedH s₂.vm := hW₂
    have hs₂ : s₂ = ((({ U with heap := s₂.heap, slotsUsed := s₂.slotsUsed } : State).setVm s₂.vm).setTop g).pushFrame (.throwing q) := by
      refine e3.trans ?_
      rw [hf₂, State.calling_eq h.top, State.setFrames_setFrames, State.pushFrame, State.frames_setTop _ hr', State.setTop_of_frames _ hr', State.setFrames_setFrames, hr]
      rfl
    have hsame : U.sameButNew ({ U with heap := s₂.heap, slotsUsed := s₂.slotsUsed } : State) L mc ms := by
      refine ⟨?_, q2, q3, q4, q5, q6⟩
      obtain ⟨t, ht, -⟩ := State.frames_cons hr
      show ({ U with heap := s₂.heap, slotsUsed := s₂.slotsUsed } : State) = { U.setFrames U.frames with heap := s₂.heap, slotsUsed := s₂.slotsUsed }
      rw [State.setFrames_self ht]
    subst hg
    refine Or.inr ⟨q, ⟨(({ U with heap := s₂.heap, slotsUsed := s₂.slotsUsed } : State).setVm s₂.vm), Ls ++ L, c0 + mc, s0 + ms⟩,
      ⟨X.admits, X.cas, X.clock, X.frames, X.room, X.hears, X.method, X.code, (X.here.setHeapUsed s₂.heap s₂.slotsUsed).setVm hW'.alike, X.tail, State.WarmedH.trans X.warmed hW', X.limits, X.bytes, X.same.trans (hsame.setVm s.vm)⟩,
      ⟨g, mk, s₂, L, E, ce, rfl, rfl, hx, hce, hcv, hcl, rfl, hL, rfl, rfl⟩, ?_⟩
    show Steps p.tables e below _ (((({ U with heap := s₂.heap, slotsUsed := s₂.slotsUsed } : State).setVm s₂.vm).setTop g).pushFrame (.throwing q))
    rw [← hs₂]
    exact hsteps
end
variable {p : Program} {l : Launch} {e : Env} {R : Room} {s : State} {m : MethodId} {args : Array Value} {below : List Frame} {meth : Method} {c : Code} {T : State} {H : Heap} {locs : List Loc} {cells slots : Nat}
theorem vx_callVX (X : Stand p l e R s m args below meth c T locs cells slots) (hexec : p.tables.exec = Jvm.exec) {own C : String} {index : Nat} {y : MethodName} {bytes : ByteArray} {maxL : Nat} {ret : Option FieldType} {hh : List (Nat × Nat × Nat × Nat)}
    (hown : s.vm.findClass own = some m.cls) (hlink : (Cond.methodLink own index y).before args s = true) (hinst : (Cond.instanceMethod y).before args s = true) (hsel : (Cond.selects C y y).before args s = true)
    (hcode : (Cond.codeWith y bytes maxL ret hh).before args s = true) (hy : y.cls ≠ "java/lang/invoke/MethodHandle" ∧ y.cls ≠ "java/lang/invoke/VarHandle")
    {W9 : Nat} {Pre : Pt → Array Value → Prop} {Post : Pt → Array Value → Option Value → Pt → Prop} {PostX : Pt → Array Value → Addr → Pt → Prop} (hK : vx_Back l R p e below s args y 3 W9 Pre Post PostX)
    {b : Addr} {cellB : Cell} (hcell : T.heap[b]? = some cellB) (hobj : cellB.vm.isStatics = false) (hcls : s.vm.findClass C = some cellB.cls)
    {g : JFrame} (hg : g.method = m) (hsize : g.locals.size = c.maxLocals) {argsL rest : List Value} (hlen : ∀ sig, parseMethodDescriptor y.desc = some sig → argsL.length = sig.parameters.length)
    (hstack : g.stack = argsL.reverse ++ .ref b :: rest) (hW : 2 * g.monitorRoom + (rest.map fun v => v.category).sum ≤ W9) (hdg : decode c.code g.pc = .ok (.invokevirtual index, 3))
    (hpre : ∀ vm₁, s.WarmedH vm₁ → Pre ⟨T.setVm vm₁, locs, cells, slots⟩ (Value.ref b :: argsL).toArray) :
    (∃ (v : Option Value) (vm₁ : Vm) (B : Pt), s.WarmedH vm₁ ∧ Stand p l e R s m args below meth c B.U B.locs B.cells B.slots ∧ Post ⟨T.setVm vm₁, locs, cells, slots⟩ (Value.ref b :: argsL).toArray v B ∧
      ∀ target, Steps p.tables e below (B.U.setTop { g with pc := g.pc + 3, stack := v.toList ++ rest }) target → Steps p.tables e below (T.setTop g) target) ∨
    (∃ (q : Addr) (vm₁ : Vm) (B : Pt), s.WarmedH vm₁ ∧ Stand p l e R s m args below meth c B.U B.locs B.cells B.slots ∧ PostX ⟨T.setVm vm₁, locs, cells, slots⟩ (Value.ref b :: argsL).toArray q B ∧
      Steps p.tables e below (T.setTop g) ((B.U.setTop { g with stack := rest }).pushFrame (.throwing q))) := by
  obtain ⟨mk, methM, hnamed, hmethM, hstM, habM⟩ := Cond.instanceMethod_spec hinst
  obtain ⟨m8, methM', cM, hn8, hmethM', -, -, -, -, -, -, hsigM⟩ := Cond.codeWith_spec hcode
  cases Option.some.inj (hn8.symm.trans hnamed)
  cases hmethM.symm.trans hmethM'
  obtain ⟨c2, r2, m2, q1, q2, q3, q4, kP, hkP, hkPi⟩ := Cond.selects_spec hsel
  cases hcls.symm.trans q1
  cases (State.methodFound?_of_named hnamed hy).symm.trans q2
  cases hnamed.symm.trans q3
  have hselP : selectMethod e.platform s.vm cellB.cls mk = .method mk := by rw [Launch.admits_selectMethod X.admits]; exact q4
  obtain ⟨vm₁, X₁, hstep₁⟩ := X.invokevirtual hexec hown hlink hnamed hmethM hstM hkP hkPi hy (a := b) (cell := cellB) hcell
    (fun z h => by rw [h] at hobj; cases hobj) hselP hmethM habM hkP hkPi (g := g) hg (argsL := argsL) (rest := rest) (hlen _ hsigM) hstack hdg
  rcases hK m meth c ⟨T.setVm vm₁, locs, cells, slots⟩ { g with stack := rest } (.invokevirtual index) mk (Value.ref b :: argsL).toArray X₁ hg hsize hdg hW (X₁.named hnamed) (hpre vm₁ X₁.warmed) with ⟨v, B, X', hpost, hsteps⟩ | ⟨q, B, X', hpost, hsteps⟩
  · exact Or.inl ⟨v, vm₁, B, X₁.warmed, X', hpost, fun target h => hstep₁ _ fun acts => by rw [doInvoke_state]; exact hsteps.trans h⟩
  · exact Or.inr ⟨q, vm₁, B, X₁.warmed, X', hpost, hstep₁ _ fun acts => by rw [doInvoke_state]; exact hsteps⟩
theorem vx_callSX (X : Stand p l e R s m args below meth c T locs cells slots) (hexec : p.tables.exec = Jvm.exec) {own : String} {index : Nat} {y : MethodName} {bytes : ByteArray} {maxL : Nat} {ret : Option FieldType} {hh : List (Nat × Nat × Nat × Nat)}
    (hown : s.vm.findClass own = some m.cls) (hlink : (Cond.methodLink own index y).before args s = true) (hstat : (Cond.static y).before args s = true) (hinit : (Cond.initialized y.cls).before args s = true)
    (hcode : (Cond.codeWith y bytes maxL ret hh).before args s = true) (hy : y.cls ≠ "java/lang/invoke/MethodHandle" ∧ y.cls ≠ "java/lang/invoke/VarHandle")
    {W9 : Nat} {Pre : Pt → Array Value → Prop} {Post : Pt → Array Value → Option Value → Pt → Prop} {PostX : Pt → Array Value → Addr → Pt → Prop} (hK : vx_Back l R p e below s args y 3 W9 Pre Post PostX)
    {g : JFrame} (hg : g.method = m) (hsize : g.locals.size = c.maxLocals) {argsL rest : List Value} (hlen : ∀ sig, parseMethodDescriptor y.desc = some sig → argsL.length = sig.parameters.length)
    (hstack : g.stack = argsL.reverse ++ rest) (hW : 2 * g.monitorRoom + (rest.map fun v => v.category).sum ≤ W9) (hdg : decode c.code g.pc = .ok (.invokestatic index, 3))
    (hpre : ∀ vm₁, s.WarmedH vm₁ → Pre ⟨T.setVm vm₁, locs, cells, slots⟩ argsL.toArray) :
    (∃ (v : Option Value) (vm₁ : Vm) (B : Pt), s.WarmedH vm₁ ∧ Stand p l e R s m args below meth c B.U B.locs B.cells B.slots ∧ Post ⟨T.setVm vm₁, locs, cells, slots⟩ argsL.toArray v B ∧
      ∀ target, Steps p.tables e below (B.U.setTop { g with pc := g.pc + 3, stack := v.toList ++ rest }) target → Steps p.tables e below (T.setTop g) target) ∨
    (∃ (q : Addr) (vm₁ : Vm) (B : Pt), s.WarmedH vm₁ ∧ Stand p l e R s m args below meth c B.U B.locs B.cells B.slots ∧ PostX ⟨T.setVm vm₁, locs, cells, slots⟩ argsL.toArray q B ∧
      Steps p.tables e below (T.setTop g) ((B.U.setTop { g with stack := rest }).pushFrame (.throwing q))) := by
  obtain ⟨mk, methM, cM, hnamed, hmethM, -, -, -, -, -, -, hsigM⟩ := Cond.codeWith_spec hcode
  have hstatic : methM.isStatic = true := Cond.static_spec hnamed hmethM hstat
  obtain ⟨kP, hkP, -⟩ := className_of_methodNamed hnamed
  have hinitP : kP.init = .initialized := Cond.initialized_spec (findClass_of_methodNamed hnamed) hkP hinit
  obtain ⟨vm₁, X₁, hstep₁⟩ := X.invokestatic hexec hown hlink hnamed hmethM hstatic hkP hinitP hy (g := g) hg (argsL := argsL) (rest := rest) (hlen _ hsigM) hstack hdg
  rcases hK m meth c ⟨T.setVm vm₁, locs, cells, slots⟩ { g with stack := rest } (.invokestatic index) mk argsL.toArray X₁ hg hsize hdg hW (X₁.named hnamed) (hpre vm₁ X₁.warmed) with ⟨v, B, X', hpost, hsteps⟩ | ⟨q, B, X', hpost, hsteps⟩
  · exact Or.inl ⟨v, vm₁, B, X₁.warmed, X', hpost, fun target h => hstep₁ _ fun acts => by rw [doInvoke_state]; exact hsteps.trans h⟩
  · exact Or.inr ⟨q, vm₁, B, X₁.warmed, X', hpost, hstep₁ _ fun acts => by rw [doInvoke_state]; exact hsteps⟩
theorem vx_callVW (X : Stand p l e R s m args below meth c T locs cells slots) (hexec : p.tables.exec = Jvm.exec) {own C : String} {index : Nat} {y : MethodName} {bytes : ByteArray} {maxL : Nat} {ret : Option FieldType} {hh : List (Nat × Nat × Nat × Nat)}
    (hown : s.vm.findClass own = some m.cls) (hlink : (Cond.methodLink own index y).before args s = true) (hinst : (Cond.instanceMethod y).before args s = true) (hsel : (Cond.selects C y y).before args s = true)
    (hcode : (Cond.codeWith y bytes maxL ret hh).before args s = true) (hy : y.cls ≠ "java/lang/invoke/MethodHandle" ∧ y.cls ≠ "java/lang/invoke/VarHandle")
    {W9 : Nat} {Pre : Pt → Array Value → Prop} {Post : Pt → Array Value → Option Value → Pt → Prop} (hK : Back l R p e below s args y 3 W9 Pre Post)
    {b : Addr} {cellB : Cell} (hcell : T.heap[b]? = some cellB) (hobj : cellB.vm.isStatics = false) (hcls : s.vm.findClass C = some cellB.cls)
    {g : JFrame} (hg : g.method = m) (hsize : g.locals.size = c.maxLocals) {argsL rest : List Value} (hlen : ∀ sig, parseMethodDescriptor y.desc = some sig → argsL.length = sig.parameters.length)
    (hstack : g.stack = argsL.reverse ++ .ref b :: rest) (hW : 2 * g.monitorRoom + (rest.map fun v => v.category).sum ≤ W9) (hdg : decode c.code g.pc = .ok (.invokevirtual index, 3))
    (hpre : ∀ vm₁, s.WarmedH vm₁ → Pre ⟨T.setVm vm₁, locs, cells, slots⟩ (Value.ref b :: argsL).toArray) :
    ∃ (v : Option Value) (vm₁ : Vm) (B : Pt), s.WarmedH vm₁ ∧ Stand p l e R s m args below meth c B.U B.locs B.cells B.slots ∧ Post ⟨T.setVm vm₁, locs, cells, slots⟩ (Value.ref b :: argsL).toArray v B ∧
      ∀ target, Steps p.tables e below (B.U.setTop { g with pc := g.pc + 3, stack := v.toList ++ rest }) target → Steps p.tables e below (T.setTop g) target := by
  obtain ⟨mk, methM, hnamed, hmethM, hstM, habM⟩ := Cond.instanceMethod_spec hinst
  obtain ⟨m8, methM', cM, hn8, hmethM', -, -, -, -, -, -, hsigM⟩ := Cond.codeWith_spec hcode
  cases Option.some.inj (hn8.symm.trans hnamed)
  cases hmethM.symm.trans hmethM'
  obtain ⟨c2, r2, m2, q1, q2, q3, q4, kP, hkP, hkPi⟩ := Cond.selects_spec hsel
  cases hcls.symm.trans q1
  cases (State.methodFound?_of_named hnamed hy).symm.trans q2
  cases hnamed.symm.trans q3
  have hselP : selectMethod e.platform s.vm cellB.cls mk = .method mk := by rw [Launch.admits_selectMethod X.admits]; exact q4
  obtain ⟨vm₁, X₁, hstep₁⟩ := X.invokevirtual hexec hown hlink hnamed hmethM hstM hkP hkPi hy (a := b) (cell := cellB) hcell
    (fun z h => by rw [h] at hobj; cases hobj) hselP hmethM habM hkP hkPi (g := g) hg (argsL := argsL) (rest := rest) (hlen _ hsigM) hstack hdg
  obtain ⟨v, B, X', hpost, hsteps⟩ := hK m meth c ⟨T.setVm vm₁, locs, cells, slots⟩ { g with stack := rest } (.invokevirtual index) mk (Value.ref b :: argsL).toArray X₁ hg hsize hdg hW (X₁.named hnamed) (hpre vm₁ X₁.warmed)
  exact ⟨v, vm₁, B, X₁.warmed, X', hpost, fun target h => hstep₁ _ fun acts => by rw [doInvoke_state]; exact hsteps.trans h⟩
abbrev vx_CVW (R : Room) (s : State) (args : Array Value) (own C : String) (index : Nat) (y : MethodName) (bytes : ByteArray) (maxL : Nat) (ret : Option FieldType) (hh : List (Nat × Nat × Nat × Nat)) (ws : List Cond) (rm : Room) (mc ms n : Nat) : Prop :=
  (rm.cells = mc ∧ rm.slots = ms ∧ rm.frames + 1 ≤ R.frames ∧ 8 + (maxL + 11) + rm.locals ≤ R.locals ∧ (∀ w ∈ ws, ∀ (a' : Array Value) (U : State), s.WarmedH U.vm → w.before a' U = true) ∧ Cond.codeWith y bytes maxL ret hh ∈ ws) ∧
  (Cond.codeWith y bytes maxL ret hh).before args s = true ∧ (Cond.initialized y.cls).before args s = true ∧ (y.cls ≠ "java/lang/invoke/MethodHandle" ∧ y.cls ≠ "java/lang/invoke/VarHandle") ∧
  (∀ sig, parseMethodDescriptor y.desc = some sig → n = sig.parameters.length) ∧ (Cond.methodLink own index y).before args s = true ∧ (Cond.instanceMethod y).before args s = true ∧ (Cond.selects C y y).before args s = true
theorem vx_cwVW {own C : String} {index maxL mc ms : Nat} {y : MethodName} {bytes : ByteArray} {ret : Option FieldType} {hh : List (Nat × Nat × Nat × Nat)} {Ts ws ws' : List Cond} {rm : Room} (n : Nat) (ht : ∀ w ∈ Ts, w.before args s = true) (hT : GoodIn Ts (wsV own index C y ws)) (hw : ws = Cond.codeWith y bytes maxL ret hh :: ws') (hrc : rm.cells = mc) (hrs : rm.slots = ms)
    (hd : y.cls = C ∧ y.cls ≠ "java/lang/invoke/MethodHandle" ∧ y.cls ≠ "java/lang/invoke/VarHandle" ∧ (parseMethodDescriptor y.desc).map (fun d => d.parameters.length) = some n) (hR : rm.frames + 1 ≤ R.frames ∧ 8 + (maxL + 11) + rm.locals ≤ R.locals) :
    vx_CVW R s args own C index y bytes maxL ret hh ws rm mc ms n := by
  obtain ⟨hC, hd⟩ := hd
  subst hC
  have ok : ∀ w ∈ wsV own index y.cls y ws, w.before args s = true := fun w h => ht w (hT w h).1
  have hG : GoodIn Ts ws := fun w h => hT w (by unfold wsV; exact List.mem_append_right _ h)
  have hc : Cond.codeWith y bytes maxL ret hh ∈ ws := by rw [hw]; exact List.mem_cons_self
  refine ⟨⟨hrc, hrs, hR.1, hR.2, pay_in ht hG, hc⟩, ht _ (hG _ hc).1, ok _ (by simp [wsV]), ⟨hd.1, hd.2.1⟩, fun sig h => ?_, ok _ (by simp [wsV]), ok _ (by simp [wsV]), ok _ (by simp [wsV])⟩
  have h2 := hd.2.2
  rw [h] at h2
  exact (Option.some.inj h2).symm
theorem vx_runVW {y : MethodName} {bytes cc : ByteArray} {maxL nL mc ms n index : Nat} {ret : Option FieldType} {hh : List (Nat × Nat × Nat × Nat)} {ws : List Cond} {rm : Room} {Pc : Array Value → State → Prop} {Qc : Array Value → State → Outcome → State → Prop} {free : Addr → Prop} {Ts : List Cond} {own C : String} {b : Addr} {As rest : List Value} {g : JFrame}
    (S : CallFix p m c cc nL s args Ts own) (hM : Met l y ws rm Pc Qc mc ms free) (cw : vx_CVW R s args own C index y bytes maxL ret hh ws rm mc ms n) (hp : PreV s H C b Pc As)
    (hg : g.method = m) (hn : As.length = n) (hsize : g.locals.size = nL) (hstack : g.stack = As.reverse ++ .ref b :: rest) (hW : 2 * g.monitorRoom + (rest.map fun v => v.category).sum ≤ 8) (hdg : decode cc g.pc = .ok (.invokevirtual index, 3)) (hf : cells + mc ≤ R.cells ∧ slots + ms ≤ R.slots) :
    va_Run p l e R s m args below meth c H locs cells slots mc ms g rest (Qc (Value.ref b :: As).toArray) free := by
  obtain ⟨⟨hrc, hrs, hfr, hlo, hws, hcw⟩, hcode, hini, hy, hlen, hl, hin, hse⟩ := cw
  have hK : Back l R p e below s args y 3 8 (PreOf R mc ms Pc) (PostOf Qc mc ms free) := va_backW (hh := hh) (bytes := bytes) (maxL := maxL) (ret := ret) hM hp.1 hrc hrs hfr hlo hws hcw (fun a' U hW => word_at hW (Or.inl (by first | rfl | simp [Cond.onTables, Cond.keeps, Cond.steady])) hini)
  obtain ⟨hx, hb, hml, ho, -⟩ := S
  obtain ⟨-, ⟨cellB, hcB, hoB, hclB⟩, hPc⟩ := hp
  intro T hT X
  obtain ⟨v, vm₁, ⟨U', l2, c2, s2⟩, hW₁, X', ⟨g', mk, t, L, e1, e2, hq, h1, hL, h2, h3⟩, st⟩ := vx_callVW X hx (C := C) (hh := hh) (bytes := bytes) (maxL := maxL) (ret := ret) ho hl hin hse hcode hy hK (by rw [hT]; exact hcB) hoB hclB hg (hsize.trans hml.symm) (argsL := As) (rest := rest) (fun sig h => hn.trans (hlen sig h)) hstack hW (by rw [hb]; exact hdg)
    (fun vm₁ hW₁ => ⟨hf.1, hf.2, hPc (T.setVm vm₁) hT hW₁⟩)
  dsimp only [Pt.U, Pt.locs, Pt.cells, Pt.slots] at X' e1 e2 h1 h2 h3 st
  subst h1; subst h2; subst h3
  exact ⟨v, (T.setVm vm₁).calling g' mk (Value.ref b :: As).toArray, t, U', L, hT, X', hL, e1, e2, hq, st⟩
section
variable {y : MethodName} {bytes cc : ByteArray} {maxL nL mc ms n index : Nat} {ret : Option FieldType} {ws : List Cond} {rm : Room} {Pc : Array Value → State → Prop} {Qc : Array Value → State → Outcome → State → Prop} {XC : String → State → State → Prop} {free : Addr → Prop} {Ts : List Cond} {own C : String} {b : Addr} {As rest : List Value} {g : JFrame}
theorem vx_runVX {hh : List (Nat × Nat × Nat × Nat)} (S : CallFix p m c cc nL s args Ts own) (hM : vx_Met l y ws rm Pc Qc XC mc ms free) (cw : vx_CVW R s args own C index y bytes maxL ret hh ws rm mc ms n) (hp : PreV s H C b Pc As)
    (hg : g.method = m) (hn : As.length = n) (hsize : g.locals.size = nL) (hstack : g.stack = As.reverse ++ .ref b :: rest) (hW : 2 * g.monitorRoom + (rest.map fun v => v.category).sum ≤ 8) (hdg : decode cc g.pc = .ok (.invokevirtual index, 3)) (hf : cells + mc ≤ R.cells ∧ slots + ms ≤ R.slots) :
    vx_Run p l e R s m args below meth c H locs cells slots mc ms g rest (Qc (Value.ref b :: As).toArray) XC free := by
  obtain ⟨⟨hrc, hrs, hfr, hlo, hws, hcw⟩, hcode, hini, hy, hlen, hl, hin, hse⟩ := cw
  have hK : vx_Back l R p e below s args y 3 8 (PreOf R mc ms Pc) (PostOf Qc mc ms free) (vx_Post XC mc ms free) := vx_backW (hh := hh) (bytes := bytes) (maxL := maxL) (ret := ret) hM hp.1 hrc hrs hfr hlo hws hcw (fun a' U hW => word_at hW (Or.inl (by first | rfl | simp [Cond.onTables, Cond.keeps, Cond.steady])) hini)
  obtain ⟨hx, hb, hml, ho, -⟩ := S
  obtain ⟨-, ⟨cellB, hcB, hoB, hclB⟩, hPc⟩ := hp
  intro T hT X
  rcases vx_callVX X hx (C := C) (hh := hh) (bytes := bytes) (maxL := maxL) (ret := ret) ho hl hin hse hcode hy hK (by rw [hT]; exact hcB) hoB hclB hg (hsize.trans hml.symm) (argsL := As) (rest := rest) (fun sig h => hn.trans (hlen sig h)) hstack hW (by rw [hb]; exact hdg)
    (fun vm₁ hW₁ => ⟨hf.1, hf.2, hPc (T.setVm vm₁) hT hW₁⟩) with ⟨v, vm₁, ⟨U', l2, c2, s2⟩, hW₁, X', ⟨g', mk, t, L, e1, e2, hq, h1, hL, h2, h3⟩, st⟩ | ⟨q, vm₁, ⟨U', l2, c2, s2⟩, hW₁, X', ⟨g', mk, t, L, E, ce, e1, e2, hq, hce, hcv, hcl, h1, hL, h2, h3⟩, st⟩
  · dsimp only [Pt.U, Pt.locs, Pt.cells, Pt.slots] at X' e1 e2 h1 h2 h3 st
    subst h1; subst h2; subst h3
    exact Or.inl ⟨v, (T.setVm vm₁).calling g' mk (Value.ref b :: As).toArray, t, U', L, hT, X', hL, e1, e2, hq, st⟩
  · dsimp only [Pt.U, Pt.locs, Pt.cells, Pt.slots] at X' e1 e2 h1 h2 h3 st hcl
    subst h1; subst h2; subst h3
    exact Or.inr ⟨q, (T.setVm vm₁).calling g' mk (Value.ref b :: As).toArray, t, U', L, E, ce, hT, X', hL, e1, e2, hq, hce, hcv, vx_cls hW₁ hcl, st⟩
theorem vx_runSX {hh : List (Nat × Nat × Nat × Nat)} (S : CallFix p m c cc nL s args Ts own) (hM : vx_Met l y ws rm Pc Qc XC mc ms free) (cw : vx_CSW R s args own index y bytes maxL ret hh ws rm mc ms n) (hp : PreS s H Pc As)
    (hg : g.method = m) (hn : As.length = n) (hsize : g.locals.size = nL) (hstack : g.stack = As.reverse ++ rest) (hW : 2 * g.monitorRoom + (rest.map fun v => v.category).sum ≤ 8) (hdg : decode cc g.pc = .ok (.invokestatic index, 3)) (hf : cells + mc ≤ R.cells ∧ slots + ms ≤ R.slots) :
    vx_Run p l e R s m args below meth c H locs cells slots mc ms g rest (Qc As.toArray) XC free := by
  obtain ⟨⟨hrc, hrs, hfr, hlo, hws, hcw⟩, hcode, hini, hy, hlen, hl, hstt⟩ := cw
  have hK : vx_Back l R p e below s args y 3 8 (PreOf R mc ms Pc) (PostOf Qc mc ms free) (vx_Post XC mc ms free) := vx_backW (hh := hh) (bytes := bytes) (maxL := maxL) (ret := ret) hM hp.1 hrc hrs hfr hlo hws hcw (fun a' U hW => word_at hW (Or.inl (by first | rfl | simp [Cond.onTables, Cond.keeps, Cond.steady])) hini)
  obtain ⟨hx, hb, hml, ho, -⟩ := S
  intro T hT X
  rcases vx_callSX X hx (hh := hh) (bytes := bytes) (maxL := maxL) (ret := ret) ho hl hstt hini hcode hy hK hg (hsize.trans hml.symm) (argsL := As) (rest := rest) (fun sig h => hn.trans (hlen sig h)) hstack hW (by rw [hb]; exact hdg)
    (fun vm₁ hW₁ => ⟨hf.1, hf.2, hp.2 (T.setVm vm₁) hT hW₁⟩) with ⟨v, vm₁, ⟨U', l2, c2, s2⟩, hW₁, X', ⟨g', mk, t, L, e1, e2, hq, h1, hL, h2, h3⟩, st⟩ | ⟨q, vm₁, ⟨U', l2, c2, s2⟩, hW₁, X', ⟨g', mk, t, L, E, ce, e1, e2, hq, hce, hcv, hcl, h1, hL, h2, h3⟩, st⟩
  · dsimp only [Pt.U, Pt.locs, Pt.cells, Pt.slots] at X' e1 e2 h1 h2 h3 st
    subst h1; subst h2; subst h3
    exact Or.inl ⟨v, (T.setVm vm₁).calling g' mk As.toArray, t, U', L, hT, X', hL, e1, e2, hq, st⟩
  · dsimp only [Pt.U, Pt.locs, Pt.cells, Pt.slots] at X' e1 e2 h1 h2 h3 st hcl
    subst h1; subst h2; subst h3
    exact Or.inr ⟨q, (T.setVm vm₁).calling g' mk As.toArray, t, U', L, E, ce, hT, X', hL, e1, e2, hq, hce, hcv, vx_cls hW₁ hcl, st⟩
end
end VXH
theorem vx_ofWH {l : Launch} {y : MethodName} {ws ws' : List Cond} {rm : Room} {Pc : Array Value → State → Prop} {Qc : Array Value → State → Outcome → State → Prop} {XC : String → State → State → Prop} {mc ms : Nat} {free : Addr → Prop} {cc : ByteArray} {maxL : Nat} {ret : Option FieldType} {hh : List (Nat × Nat × Nat × Nat)}
    (hy : plainName y.cls = true) (hw : ws = Cond.codeWith y cc maxL ret hh :: ws')
    (body : ∀ p e s m args below meth c s₁, BodyLoose p l y (headSpec ws rm) cc maxL ret e s m args below meth c s₁ → c.maxLocals = maxL → Pc args s →
      W p l e (headSpec ws rm).room s m args below meth c s.heap [] 0 0 (vx_MQ below Qc XC args s mc ms free) (entryFrame m args maxL)) : vx_Met l y ws rm Pc Qc XC mc ms free := by
  refine MetFree.of_bodyS (code := cc) (maxLocals := maxL) (ret := ret) hy ?_ ?_
  · intro args s m h hn
    obtain ⟨m9, meth, c, hn9, h1, h2, h3, h4, -, h5, h6, -⟩ := Cond.codeWith_spec (atoms_spec (ws := ws) h _ (by rw [hw]; exact List.mem_cons_self))
    cases hn.symm.trans hn9
    exact ⟨meth, c, h1, h2, h3, h4, h5, h6⟩
  · intro p e s m args below meth c s₁ B hml hP _
    have hh0 : s₁.heap = s.heap := by rw [B.state]; rfl
    obtain ⟨t, a1, o, b1, b2, b3⟩ := body p e s m args below meth c s₁ B hml hP s₁ hh0 (Stand.of_body B)
    exact ⟨t, o, a1, b1, b2, b3⟩
/-! ===== END ===== -/
end
section
/-! ===== a layer over the kit: a walk that hides the heap, the written places and the locals' array; numbers as Int ===== -/
def iI (z : Int) : Int32 := Int32.ofInt z
abbrev iV (z : Int) : Value := .int (iI z)
abbrev nV (n : Nat) : Value := .int (iI (n : Int))
def bI (b : Bool) : Int := if b then 1 else 0
abbrev bV (b : Bool) : Value := .int (iI (bI b))
def fN (A : Nat → Nat) : Nat → Int32 := fun j => iI (A j : Int)
theorem iI_add (a b : Int) : iI a + iI b = iI (a + b) := (Int32.ofInt_add a b).symm
theorem iI_sub (a b : Int) : iI a - iI b = iI (a - b) := (Int32.ofInt_sub a b).symm
theorem iI_mul (a b : Int) : iI a * iI b = iI (a * b) := (Int32.ofInt_mul a b).symm
theorem iI_ti {z : Int} (h : -2147483648 ≤ z ∧ z < 2147483648) : (iI z).toInt = z := Int32.toInt_ofInt_of_le (by omega) (by omega)
theorem iI_lt {a b : Int} (ha : -2147483648 ≤ a ∧ a < 2147483648) (hb : -2147483648 ≤ b ∧ b < 2147483648) : iI a < iI b ↔ a < b := by
  rw [Int32.lt_iff_toInt_lt, iI_ti ha, iI_ti hb]
theorem iI_le {a b : Int} (ha : -2147483648 ≤ a ∧ a < 2147483648) (hb : -2147483648 ≤ b ∧ b < 2147483648) : iI a ≤ iI b ↔ a ≤ b := by
  rw [Int32.le_iff_toInt_le, iI_ti ha, iI_ti hb]
theorem iI_eq {a b : Int} (ha : -2147483648 ≤ a ∧ a < 2147483648) (hb : -2147483648 ≤ b ∧ b < 2147483648) : iI a = iI b ↔ a = b := by
  rw [← Int32.toInt_inj, iI_ti ha, iI_ti hb]
theorem iI_of (x : Int32) : x = iI x.toInt := (Int32.ofInt_toInt x).symm
theorem iI_nI (n : Nat) : iI (n : Int) = nI n := Int32.ofInt_eq_ofNat
theorem iI_rg (x : Int32) : -2147483648 ≤ x.toInt ∧ x.toInt < 2147483648 := by
  have h1 := Int32.minValue_le_toInt x
  have h2 := Int32.toInt_lt x
  have e : Int32.minValue.toInt = -2147483648 := by decide
  omega
theorem iI_0 : (0 : Int32) = iI 0 := rfl
theorem iI_in {j N : Nat} (h : j < N) (hN : N < 2147483648) : vp_in (iI (j : Int)) N := by rw [iI_nI]; exact vp_in_nI h hN
theorem iI_cl {j : Nat} (h : j < 2147483648) : (iI (j : Int)).toNatClampNeg = j := by rw [iI_nI]; exact nI_clamp h
theorem fN_upd (A : Nat → Nat) (j v : Nat) : upd (fN A) j (iI (v : Int)) = fN (va_up A j v) := by
  funext i
  unfold upd fN va_up
  by_cases h : i = j
  · simp [h]
  · simp [h]
theorem iI_tdiv {a b : Int} (ha : -2147483648 ≤ a ∧ a < 2147483648) (hb : 0 < b ∧ b < 2147483648) : iI a / iI b = iI (a.tdiv b) := by
  refine (iI_of _).trans (congrArg iI ?_)
  rw [Int32.toInt_div_of_ne_right _ _ (by rw [Ne, ← Int32.toInt_inj, iI_ti (by omega)]; have : (-1 : Int32).toInt = -1 := by decide
                                          omega), iI_ti ha, iI_ti (by omega)]
theorem iI_tmod {a b : Int} (ha : -2147483648 ≤ a ∧ a < 2147483648) (hb : 0 < b ∧ b < 2147483648) : iI a - iI a / iI b * iI b = iI (a.tmod b) := by
  rw [iI_tdiv ha hb, iI_mul, iI_sub]
  congr 1
  rw [Int.tmod_def, Int.mul_comm]
theorem iI_n0 {b : Int} (hb : 0 < b ∧ b < 2147483648) : ¬ iI b = 0 := by
  rw [iI_0, iI_eq (by omega) (by omega)]; omega

abbrev Fx : Type := Program × Launch × Env × Room × State × MethodId × Array Value × List Frame × Method × Code × (State → Prop) × va_G × List vw_C × List (ClassId × FieldType) × (Nat → Prop) × Nat
def xw : Fx → Nat → Nat → va_W → Nat → List (Nat × Value) → List Value → Prop
  | (p, l, e, R, s, m, args, below, meth, c, Q, D, cl, _, A, nL), k, n, w, pc, lv, st => ∀ (H : Heap) (locs : List Loc) (ls : Array Slot), va_P D cl w H → va_D A w → va_S A s.heap H locs → lv_has ls nL lv → W p l e R s m args below meth c H locs k n Q (F0 m pc ls st)
def xc : Fx → Launch → Room → va_G → List vw_C → List (ClassId × FieldType) → Nat → ByteArray → String → List Cond → Prop
  | (p, l, _, R, s, m, args, _, _, c, _, D, cl, tys, A, nL), l', R', D', cl', tys', nL', cc, own, Ts => l = l' ∧ R = R' ∧ D = D' ∧ cl = cl' ∧ tys = tys' ∧ nL = nL' ∧ p.tables.exec = Jvm.exec ∧ c.code = cc ∧ c.maxLocals = nL ∧ s.vm.findClass own = some m.cls ∧ (∀ w ∈ Ts, w.before args s = true) ∧ va_K D cl tys s ∧ (∀ q : Nat, s.heap.size ≤ q → A q)
/-- the class and the frame of a contract: what a call finds, what it leaves -/
def ctP (D : va_G) (cl : List vw_C) (tys : List (ClassId × FieldType)) (av : List Value) (w0 : va_W) (sz : Nat) : Array Value → State → Prop := va_Pc av (fun U => U.heap.size = sz ∧ va_P D cl w0 U.heap ∧ va_K D cl tys U ∧ va_D (fun _ => True) w0)
def ctQ (D : va_G) (cl : List vw_C) (w0 : va_W) (sz : Nat) (Post : Option Value → va_W → Prop) : Array Value → State → Outcome → State → Prop := fun _ st oc t => (∃ (v : Option Value) (w1 : va_W), oc = .returned v ∧ Post v w1 ∧ va_P D cl w1 t.heap ∧ va_D (va_A w0 sz) w1) ∧ va_F (va_A w0 sz) st t
/-- a CONTRACT: called with the values av over the world w0, y returns v and leaves w1 with Post v w1; nothing else of the heap is changed -/
def CT (l : Launch) (y : MethodName) (ws : List Cond) (rm : Room) (D : va_G) (cl : List vw_C) (tys : List (ClassId × FieldType)) (av : List Value) (w0 : va_W) (Post : Option Value → va_W → Prop) (mc ms : Nat) : Prop :=
  ∀ sz : Nat, Met l y ws rm (ctP D cl tys av w0 sz) (ctQ D cl w0 sz Post) mc ms (va_A w0 sz)
theorem CT.mono {l : Launch} {y : MethodName} {ws : List Cond} {rm : Room} {D : va_G} {cl : List vw_C} {tys : List (ClassId × FieldType)} {av av' : List Value} {w0 : va_W} {Post : Option Value → va_W → Prop} {mc ms : Nat} (h : CT l y ws rm D cl tys av w0 Post mc ms) (e : av = av') : CT l y ws rm D cl tys av' w0 Post mc ms := e ▸ h
/-- what a frame owes at its end -/
def xr : Fx → va_W → (Option Value → va_W → Prop) → Option FieldType → Nat → Nat → Prop
  | (_, _, _, _, s, _, args, below, meth, _, Q, D, cl, _, A, _), w0, Post, ret, mc, ms => meth.sig.returnType = ret ∧ meth.locks = false ∧ A = va_A w0 s.heap.size ∧ Q = MQ below (ctQ D cl w0 s.heap.size Post) args s mc ms (va_A w0 s.heap.size)
def xi : Fx → Prop
  | (_, _, _, _, _, _, _, _, meth, _, _, _, _, _, _, _) => meth.name = "<init>"
set_option maxHeartbeats 4000000 in
theorem ct_blind {D : va_G} {cl : List vw_C} {tys : List (ClassId × FieldType)} {av : List Value} {w0 : va_W} {sz : Nat} : FrameBlind (ctP D cl tys av w0 sz) := fun a U g mk q => by
  obtain ⟨q0, q1, qP, qK, qD⟩ := q
  exact ⟨q0, q1, qP, va_K.moved (u := U) (U := U.calling g mk a) (Vm.Alike.refl U.vm) qK, qD⟩
set_option maxHeartbeats 4000000 in
theorem ct_ofI {l : Launch} {y : MethodName} {ws ws' : List Cond} {rm : Room} {D : va_G} {cl : List vw_C} {tys : List (ClassId × FieldType)} {av : List Value} {w0 : va_W} {Post : Option Value → va_W → Prop} {mc ms : Nat} {cc : ByteArray} {maxL : Nat} {ret : Option FieldType}
    (hy : plainName y.cls = true) (hw : ws = Cond.code y cc maxL ret :: ws') (hlen : (lg_sl av).length ≤ maxL)
    (body : ∀ φ : Fx, xc φ l rm D cl tys maxL cc y.cls ws → xr φ w0 Post ret mc ms → (y.name = "<init>" → xi φ) → xw φ 0 0 w0 0 (lv_args 0 av) []) : CT l y ws rm D cl tys av w0 Post mc ms := by
  intro sz
  refine Met.ofW (cc := cc) (maxL := maxL) (ret := ret) hy hw ?_
  intro p e s m args below meth c s₁ B hml hv
  obtain ⟨rfl, hsz, hP, hK, hD0⟩ := hv
  have hx := B.exec
  have hb := B.bytes
  have hr := B.returns
  have hts := atoms_spec (ws := ws) B.pre
  have hown : s.vm.findClass y.cls = some m.cls := findClass_of_methodNamed B.named
  have hlocks := B.notSynchronized
  subst hsz
  rw [lg_entry_eq]
  have hin : y.name = "<init>" → meth.name = "<init>" := fun h => (name_of_methodNamed B.named B.method).1.trans h
  exact body (p, l, e, rm, s, m, av.toArray, below, meth, c, MQ below (ctQ D cl w0 s.heap.size Post) av.toArray s mc ms (va_A w0 s.heap.size), D, cl, tys, va_A w0 s.heap.size, maxL)
    ⟨rfl, rfl, rfl, rfl, rfl, rfl, hx, hb, hml, hown, hts, hK, fun q h => Or.inr h⟩ ⟨hr, hlocks, rfl, rfl⟩ hin s.heap [] _ hP hD0.self va_S.rf (lv_entry av hlen)
theorem ct_of {l : Launch} {y : MethodName} {ws ws' : List Cond} {rm : Room} {D : va_G} {cl : List vw_C} {tys : List (ClassId × FieldType)} {av : List Value} {w0 : va_W} {Post : Option Value → va_W → Prop} {mc ms : Nat} {cc : ByteArray} {maxL : Nat} {ret : Option FieldType}
    (hy : plainName y.cls = true) (hw : ws = Cond.code y cc maxL ret :: ws') (hlen : (lg_sl av).length ≤ maxL)
    (body : ∀ φ : Fx, xc φ l rm D cl tys maxL cc y.cls ws → xr φ w0 Post ret mc ms → xw φ 0 0 w0 0 (lv_args 0 av) []) : CT l y ws rm D cl tys av w0 Post mc ms :=
  ct_ofI hy hw hlen (fun φ C r _ => body φ C r)
section XW
variable {φ : Fx} {l : Launch} {D : va_G} {cl : List vw_C} {tys : List (ClassId × FieldType)} {R : Room} {cc : ByteArray} {own : String} {Ts : List Cond} {nL k n : Nat} {w : va_W} {pc : Nat} {lv : List (Nat × Value)} {st rest : List Value}
theorem xw_lv {lv' : List (Nat × Value)} (ks : List Nat) (hl : lv_pick lv ks = lv') (kk : xw φ k n w pc lv' st) : xw φ k n w pc lv st := by
  obtain ⟨p, l, e, R, s, m, args, below, meth, c, Q, D, cl, tys, A, nL⟩ := φ
  exact fun H locs ls hP hD hS h => kk H locs ls hP hD hS (lv_sub h ks hl)
theorem xw_wd {k' n' : Nat} (h1 : k ≤ k') (h2 : n ≤ n') (kk : xw φ k' n' w pc lv st) : xw φ k n w pc lv st := by
  obtain ⟨p, l, e, R, s, m, args, below, meth, c, Q, D, cl, tys, A, nL⟩ := φ
  exact fun H locs ls hP hD hS h => W.widen h1 h2 (kk H locs ls hP hD hS h)

theorem xw_iload (C : xc φ l R D cl tys nL cc own Ts) {i : Nat} {x : Int32} (q : Nat) (d : decode cc pc = .ok (.iload i, 2)) (hl : lv[q]? = some (i, .int x)) (kk : xw φ k n w (pc + 2) lv (.int x :: st)) : xw φ k n w pc lv (st) := by
  obtain ⟨p, l, e, R, s, m, args, below, meth, c, Q, D, cl, tys, A, nL⟩ := φ
  obtain ⟨rfl, rfl, rfl, rfl, rfl, rfl, hx, hb, hml, hown, hts, hK, hA⟩ := C
  intro H locs ls hP hD hS h
  exact lv_iload hx hb d (lv_at h q hl) (kk H locs ls hP hD hS h)
theorem xw_iload_n (C : xc φ l R D cl tys nL cc own Ts) {i : Fin 4} {x : Int32} (q : Nat) (d : decode cc pc = .ok (.iload_n i, 1)) (hl : lv[q]? = some ((i : Nat), .int x)) (kk : xw φ k n w (pc + 1) lv (.int x :: st)) : xw φ k n w pc lv (st) := by
  obtain ⟨p, l, e, R, s, m, args, below, meth, c, Q, D, cl, tys, A, nL⟩ := φ
  obtain ⟨rfl, rfl, rfl, rfl, rfl, rfl, hx, hb, hml, hown, hts, hK, hA⟩ := C
  intro H locs ls hP hD hS h
  exact lv_iload_n hx hb d rfl (lv_at h q hl) (kk H locs ls hP hD hS h)
theorem xw_istore (C : xc φ l R D cl tys nL cc own Ts) {i : Nat} {x : Int32} {lv' : List (Nat × Value)} (ks : List Nat) (d : decode cc pc = .ok (.istore i, 2)) (hn : i < nL) (hl : lv_pick ((i, Value.int x) :: lv.filter (fun q => !(q.1 == i) && !(q.1 + 1 == i && q.2.category == 2))) ks = lv') (kk : xw φ k n w (pc + 2) lv' st) : xw φ k n w pc lv (.int x :: st) := by
  obtain ⟨p, l, e, R, s, m, args, below, meth, c, Q, D, cl, tys, A, nL⟩ := φ
  obtain ⟨rfl, rfl, rfl, rfl, rfl, rfl, hx, hb, hml, hown, hts, hK, hA⟩ := C
  intro H locs ls hP hD hS h
  exact lv_istore hx hb d h hn rfl (fun ls2 h2 => kk H locs ls2 hP hD hS (lv_sub h2 ks hl))
theorem xw_istore_n (C : xc φ l R D cl tys nL cc own Ts) {j : Fin 4} {i : Nat} {x : Int32} {lv' : List (Nat × Value)} (ks : List Nat) (d : decode cc pc = .ok (.istore_n j, 1)) (hi : (j : Nat) = i) (hn : i < nL) (hl : lv_pick ((i, Value.int x) :: lv.filter (fun q => !(q.1 == i) && !(q.1 + 1 == i && q.2.category == 2))) ks = lv') (kk : xw φ k n w (pc + 1) lv' st) : xw φ k n w pc lv (.int x :: st) := by
  obtain ⟨p, l, e, R, s, m, args, below, meth, c, Q, D, cl, tys, A, nL⟩ := φ
  obtain ⟨rfl, rfl, rfl, rfl, rfl, rfl, hx, hb, hml, hown, hts, hK, hA⟩ := C
  intro H locs ls hP hD hS h
  exact lv_istore_n hx hb d hi h hn rfl (fun ls2 h2 => kk H locs ls2 hP hD hS (lv_sub h2 ks hl))
theorem xw_lload (C : xc φ l R D cl tys nL cc own Ts) {i : Nat} {x : Int64} (q : Nat) (d : decode cc pc = .ok (.lload i, 2)) (hl : lv[q]? = some (i, .long x)) (kk : xw φ k n w (pc + 2) lv (.long x :: st)) : xw φ k n w pc lv (st) := by
  obtain ⟨p, l, e, R, s, m, args, below, meth, c, Q, D, cl, tys, A, nL⟩ := φ
  obtain ⟨rfl, rfl, rfl, rfl, rfl, rfl, hx, hb, hml, hown, hts, hK, hA⟩ := C
  intro H locs ls hP hD hS h
  exact lv_lload hx hb d (lv_at h q hl) (kk H locs ls hP hD hS h)
theorem xw_lload_n (C : xc φ l R D cl tys nL cc own Ts) {i : Fin 4} {x : Int64} (q : Nat) (d : decode cc pc = .ok (.lload_n i, 1)) (hl : lv[q]? = some ((i : Nat), .long x)) (kk : xw φ k n w (pc + 1) lv (.long x :: st)) : xw φ k n w pc lv (st) := by
  obtain ⟨p, l, e, R, s, m, args, below, meth, c, Q, D, cl, tys, A, nL⟩ := φ
  obtain ⟨rfl, rfl, rfl, rfl, rfl, rfl, hx, hb, hml, hown, hts, hK, hA⟩ := C
  intro H locs ls hP hD hS h
  exact lv_lload_n hx hb d rfl (lv_at h q hl) (kk H locs ls hP hD hS h)
theorem xw_lstore (C : xc φ l R D cl tys nL cc own Ts) {i : Nat} {x : Int64} {lv' : List (Nat × Value)} (ks : List Nat) (d : decode cc pc = .ok (.lstore i, 2)) (hn : i + 1 < nL) (hl : lv_pick ((i, Value.long x) :: lv.filter (fun q => !(q.1 == i) && (!(q.1 == i + 1) && !(q.1 + 1 == i && q.2.category == 2)))) ks = lv') (kk : xw φ k n w (pc + 2) lv' st) : xw φ k n w pc lv (.long x :: st) := by
  obtain ⟨p, l, e, R, s, m, args, below, meth, c, Q, D, cl, tys, A, nL⟩ := φ
  obtain ⟨rfl, rfl, rfl, rfl, rfl, rfl, hx, hb, hml, hown, hts, hK, hA⟩ := C
  intro H locs ls hP hD hS h
  exact lv_lstore hx hb d h hn rfl (fun ls2 h2 => kk H locs ls2 hP hD hS (lv_sub h2 ks hl))
theorem xw_lstore_n (C : xc φ l R D cl tys nL cc own Ts) {j : Fin 4} {i : Nat} {x : Int64} {lv' : List (Nat × Value)} (ks : List Nat) (d : decode cc pc = .ok (.lstore_n j, 1)) (hi : (j : Nat) = i) (hn : i + 1 < nL) (hl : lv_pick ((i, Value.long x) :: lv.filter (fun q => !(q.1 == i) && (!(q.1 == i + 1) && !(q.1 + 1 == i && q.2.category == 2)))) ks = lv') (kk : xw φ k n w (pc + 1) lv' st) : xw φ k n w pc lv (.long x :: st) := by
  obtain ⟨p, l, e, R, s, m, args, below, meth, c, Q, D, cl, tys, A, nL⟩ := φ
  obtain ⟨rfl, rfl, rfl, rfl, rfl, rfl, hx, hb, hml, hown, hts, hK, hA⟩ := C
  intro H locs ls hP hD hS h
  exact lv_lstore_n hx hb d hi h hn rfl (fun ls2 h2 => kk H locs ls2 hP hD hS (lv_sub h2 ks hl))
theorem xw_dload (C : xc φ l R D cl tys nL cc own Ts) {i : Nat} {x : UInt64} (q : Nat) (d : decode cc pc = .ok (.dload i, 2)) (hl : lv[q]? = some (i, .double x)) (kk : xw φ k n w (pc + 2) lv (.double x :: st)) : xw φ k n w pc lv (st) := by
  obtain ⟨p, l, e, R, s, m, args, below, meth, c, Q, D, cl, tys, A, nL⟩ := φ
  obtain ⟨rfl, rfl, rfl, rfl, rfl, rfl, hx, hb, hml, hown, hts, hK, hA⟩ := C
  intro H locs ls hP hD hS h
  exact lv_dload hx hb d (lv_at h q hl) (kk H locs ls hP hD hS h)
theorem xw_dload_n (C : xc φ l R D cl tys nL cc own Ts) {i : Fin 4} {x : UInt64} (q : Nat) (d : decode cc pc = .ok (.dload_n i, 1)) (hl : lv[q]? = some ((i : Nat), .double x)) (kk : xw φ k n w (pc + 1) lv (.double x :: st)) : xw φ k n w pc lv (st) := by
  obtain ⟨p, l, e, R, s, m, args, below, meth, c, Q, D, cl, tys, A, nL⟩ := φ
  obtain ⟨rfl, rfl, rfl, rfl, rfl, rfl, hx, hb, hml, hown, hts, hK, hA⟩ := C
  intro H locs ls hP hD hS h
  exact lv_dload_n hx hb d rfl (lv_at h q hl) (kk H locs ls hP hD hS h)
theorem xw_dstore (C : xc φ l R D cl tys nL cc own Ts) {i : Nat} {x : UInt64} {lv' : List (Nat × Value)} (ks : List Nat) (d : decode cc pc = .ok (.dstore i, 2)) (hn : i + 1 < nL) (hl : lv_pick ((i, Value.double x) :: lv.filter (fun q => !(q.1 == i) && (!(q.1 == i + 1) && !(q.1 + 1 == i && q.2.category == 2)))) ks = lv') (kk : xw φ k n w (pc + 2) lv' st) : xw φ k n w pc lv (.double x :: st) := by
  obtain ⟨p, l, e, R, s, m, args, below, meth, c, Q, D, cl, tys, A, nL⟩ := φ
  obtain ⟨rfl, rfl, rfl, rfl, rfl, rfl, hx, hb, hml, hown, hts, hK, hA⟩ := C
  intro H locs ls hP hD hS h
  exact lv_dstore hx hb d h hn rfl (fun ls2 h2 => kk H locs ls2 hP hD hS (lv_sub h2 ks hl))
theorem xw_dstore_n (C : xc φ l R D cl tys nL cc own Ts) {j : Fin 4} {i : Nat} {x : UInt64} {lv' : List (Nat × Value)} (ks : List Nat) (d : decode cc pc = .ok (.dstore_n j, 1)) (hi : (j : Nat) = i) (hn : i + 1 < nL) (hl : lv_pick ((i, Value.double x) :: lv.filter (fun q => !(q.1 == i) && (!(q.1 == i + 1) && !(q.1 + 1 == i && q.2.category == 2)))) ks = lv') (kk : xw φ k n w (pc + 1) lv' st) : xw φ k n w pc lv (.double x :: st) := by
  obtain ⟨p, l, e, R, s, m, args, below, meth, c, Q, D, cl, tys, A, nL⟩ := φ
  obtain ⟨rfl, rfl, rfl, rfl, rfl, rfl, hx, hb, hml, hown, hts, hK, hA⟩ := C
  intro H locs ls hP hD hS h
  exact lv_dstore_n hx hb d hi h hn rfl (fun ls2 h2 => kk H locs ls2 hP hD hS (lv_sub h2 ks hl))
theorem xw_aload (C : xc φ l R D cl tys nL cc own Ts) {i : Nat} {x : Nat} (q : Nat) (d : decode cc pc = .ok (.aload i, 2)) (hl : lv[q]? = some (i, .ref x)) (kk : xw φ k n w (pc + 2) lv (.ref x :: st)) : xw φ k n w pc lv (st) := by
  obtain ⟨p, l, e, R, s, m, args, below, meth, c, Q, D, cl, tys, A, nL⟩ := φ
  obtain ⟨rfl, rfl, rfl, rfl, rfl, rfl, hx, hb, hml, hown, hts, hK, hA⟩ := C
  intro H locs ls hP hD hS h
  exact lv_aload hx hb d (lv_at h q hl) (kk H locs ls hP hD hS h)
theorem xw_aload_n (C : xc φ l R D cl tys nL cc own Ts) {i : Fin 4} {x : Nat} (q : Nat) (d : decode cc pc = .ok (.aload_n i, 1)) (hl : lv[q]? = some ((i : Nat), .ref x)) (kk : xw φ k n w (pc + 1) lv (.ref x :: st)) : xw φ k n w pc lv (st) := by
  obtain ⟨p, l, e, R, s, m, args, below, meth, c, Q, D, cl, tys, A, nL⟩ := φ
  obtain ⟨rfl, rfl, rfl, rfl, rfl, rfl, hx, hb, hml, hown, hts, hK, hA⟩ := C
  intro H locs ls hP hD hS h
  exact lv_aload_n hx hb d rfl (lv_at h q hl) (kk H locs ls hP hD hS h)
theorem xw_astore (C : xc φ l R D cl tys nL cc own Ts) {i : Nat} {x : Nat} {lv' : List (Nat × Value)} (ks : List Nat) (d : decode cc pc = .ok (.astore i, 2)) (hn : i < nL) (hl : lv_pick ((i, Value.ref x) :: lv.filter (fun q => !(q.1 == i) && !(q.1 + 1 == i && q.2.category == 2))) ks = lv') (kk : xw φ k n w (pc + 2) lv' st) : xw φ k n w pc lv (.ref x :: st) := by
  obtain ⟨p, l, e, R, s, m, args, below, meth, c, Q, D, cl, tys, A, nL⟩ := φ
  obtain ⟨rfl, rfl, rfl, rfl, rfl, rfl, hx, hb, hml, hown, hts, hK, hA⟩ := C
  intro H locs ls hP hD hS h
  exact lv_astore hx hb d h hn rfl (fun ls2 h2 => kk H locs ls2 hP hD hS (lv_sub h2 ks hl))
theorem xw_astore_n (C : xc φ l R D cl tys nL cc own Ts) {j : Fin 4} {i : Nat} {x : Nat} {lv' : List (Nat × Value)} (ks : List Nat) (d : decode cc pc = .ok (.astore_n j, 1)) (hi : (j : Nat) = i) (hn : i < nL) (hl : lv_pick ((i, Value.ref x) :: lv.filter (fun q => !(q.1 == i) && !(q.1 + 1 == i && q.2.category == 2))) ks = lv') (kk : xw φ k n w (pc + 1) lv' st) : xw φ k n w pc lv (.ref x :: st) := by
  obtain ⟨p, l, e, R, s, m, args, below, meth, c, Q, D, cl, tys, A, nL⟩ := φ
  obtain ⟨rfl, rfl, rfl, rfl, rfl, rfl, hx, hb, hml, hown, hts, hK, hA⟩ := C
  intro H locs ls hP hD hS h
  exact lv_astore_n hx hb d hi h hn rfl (fun ls2 h2 => kk H locs ls2 hP hD hS (lv_sub h2 ks hl))
theorem xw_iconst (C : xc φ l R D cl tys nL cc own Ts) {z : Int} (d : decode cc pc = .ok (.iconst z, 1)) (kk : xw φ k n w (pc + 1) lv (iV z :: st)) : xw φ k n w pc lv (st) := by
  obtain ⟨p, l, e, R, s, m, args, below, meth, c, Q, D, cl, tys, A, nL⟩ := φ
  obtain ⟨rfl, rfl, rfl, rfl, rfl, rfl, hx, hb, hml, hown, hts, hK, hA⟩ := C
  intro H locs ls hP hD hS h
  exact lv_iconst hx hb d rfl (kk H locs ls hP hD hS h)
theorem xw_bipush (C : xc φ l R D cl tys nL cc own Ts) {z : Int} (d : decode cc pc = .ok (.bipush z, 2)) (hv : (Int8.ofInt z).toInt32 = iI z) (kk : xw φ k n w (pc + 2) lv (iV z :: st)) : xw φ k n w pc lv (st) := by
  obtain ⟨p, l, e, R, s, m, args, below, meth, c, Q, D, cl, tys, A, nL⟩ := φ
  obtain ⟨rfl, rfl, rfl, rfl, rfl, rfl, hx, hb, hml, hown, hts, hK, hA⟩ := C
  intro H locs ls hP hD hS h
  exact lv_bipush hx hb d hv (kk H locs ls hP hD hS h)
theorem xw_sipush (C : xc φ l R D cl tys nL cc own Ts) {z : Int} (d : decode cc pc = .ok (.sipush z, 3)) (hv : (Int16.ofInt z).toInt32 = iI z) (kk : xw φ k n w (pc + 3) lv (iV z :: st)) : xw φ k n w pc lv (st) := by
  obtain ⟨p, l, e, R, s, m, args, below, meth, c, Q, D, cl, tys, A, nL⟩ := φ
  obtain ⟨rfl, rfl, rfl, rfl, rfl, rfl, hx, hb, hml, hown, hts, hK, hA⟩ := C
  intro H locs ls hP hD hS h
  exact lv_sipush hx hb d hv (kk H locs ls hP hD hS h)
theorem xw_pop (C : xc φ l R D cl tys nL cc own Ts) {v : Value} (d : decode cc pc = .ok (.pop, 1)) (hv : v.category = 1) (kk : xw φ k n w (pc + 1) lv (st)) : xw φ k n w pc lv (v :: st) := by
  obtain ⟨p, l, e, R, s, m, args, below, meth, c, Q, D, cl, tys, A, nL⟩ := φ
  obtain ⟨rfl, rfl, rfl, rfl, rfl, rfl, hx, hb, hml, hown, hts, hK, hA⟩ := C
  intro H locs ls hP hD hS h
  exact lv_pop hx hb d hv (kk H locs ls hP hD hS h)
theorem xw_dup (C : xc φ l R D cl tys nL cc own Ts) {v : Value} (d : decode cc pc = .ok (.dup, 1)) (hv : v.category = 1) (kk : xw φ k n w (pc + 1) lv (v :: v :: st)) : xw φ k n w pc lv (v :: st) := by
  obtain ⟨p, l, e, R, s, m, args, below, meth, c, Q, D, cl, tys, A, nL⟩ := φ
  obtain ⟨rfl, rfl, rfl, rfl, rfl, rfl, hx, hb, hml, hown, hts, hK, hA⟩ := C
  intro H locs ls hP hD hS h
  exact lv_dup hx hb d hv (kk H locs ls hP hD hS h)
theorem xw_iadd (C : xc φ l R D cl tys nL cc own Ts) {a b : Int} (d : decode cc pc = .ok (.iadd, 1)) (kk : xw φ k n w (pc + 1) lv (iV (a + b) :: st)) : xw φ k n w pc lv (iV b :: iV a :: st) := by
  obtain ⟨p, l, e, R, s, m, args, below, meth, c, Q, D, cl, tys, A, nL⟩ := φ
  obtain ⟨rfl, rfl, rfl, rfl, rfl, rfl, hx, hb, hml, hown, hts, hK, hA⟩ := C
  intro H locs ls hP hD hS h
  refine lv_iadd hx hb d ?_
  rw [iI_add]
  exact kk H locs ls hP hD hS h
theorem xw_isub (C : xc φ l R D cl tys nL cc own Ts) {a b : Int} (d : decode cc pc = .ok (.isub, 1)) (kk : xw φ k n w (pc + 1) lv (iV (a - b) :: st)) : xw φ k n w pc lv (iV b :: iV a :: st) := by
  obtain ⟨p, l, e, R, s, m, args, below, meth, c, Q, D, cl, tys, A, nL⟩ := φ
  obtain ⟨rfl, rfl, rfl, rfl, rfl, rfl, hx, hb, hml, hown, hts, hK, hA⟩ := C
  intro H locs ls hP hD hS h
  refine lv_isub hx hb d ?_
  rw [iI_sub]
  exact kk H locs ls hP hD hS h
theorem xw_imul (C : xc φ l R D cl tys nL cc own Ts) {a b : Int} (d : decode cc pc = .ok (.imul, 1)) (kk : xw φ k n w (pc + 1) lv (iV (a * b) :: st)) : xw φ k n w pc lv (iV b :: iV a :: st) := by
  obtain ⟨p, l, e, R, s, m, args, below, meth, c, Q, D, cl, tys, A, nL⟩ := φ
  obtain ⟨rfl, rfl, rfl, rfl, rfl, rfl, hx, hb, hml, hown, hts, hK, hA⟩ := C
  intro H locs ls hP hD hS h
  refine lv_imul hx hb d ?_
  rw [iI_mul]
  exact kk H locs ls hP hD hS h
theorem xw_iadd_N (C : xc φ l R D cl tys nL cc own Ts) {a b : Nat} (d : decode cc pc = .ok (.iadd, 1)) (kk : xw φ k n w (pc + 1) lv (nV (a + b) :: st)) : xw φ k n w pc lv (nV b :: nV a :: st) := by
  obtain ⟨p, l, e, R, s, m, args, below, meth, c, Q, D, cl, tys, A, nL⟩ := φ
  obtain ⟨rfl, rfl, rfl, rfl, rfl, rfl, hx, hb, hml, hown, hts, hK, hA⟩ := C
  intro H locs ls hP hD hS h
  refine lv_iadd hx hb d ?_
  rw [iI_add, ← Int.natCast_add]
  exact kk H locs ls hP hD hS h
theorem xw_imul_N (C : xc φ l R D cl tys nL cc own Ts) {a b : Nat} (d : decode cc pc = .ok (.imul, 1)) (kk : xw φ k n w (pc + 1) lv (nV (a * b) :: st)) : xw φ k n w pc lv (nV b :: nV a :: st) := by
  obtain ⟨p, l, e, R, s, m, args, below, meth, c, Q, D, cl, tys, A, nL⟩ := φ
  obtain ⟨rfl, rfl, rfl, rfl, rfl, rfl, hx, hb, hml, hown, hts, hK, hA⟩ := C
  intro H locs ls hP hD hS h
  refine lv_imul hx hb d ?_
  rw [iI_mul, ← Int.natCast_mul]
  exact kk H locs ls hP hD hS h
theorem xw_isub_N (C : xc φ l R D cl tys nL cc own Ts) {a b : Nat} (d : decode cc pc = .ok (.isub, 1)) (hba : b ≤ a) (kk : xw φ k n w (pc + 1) lv (nV (a - b) :: st)) : xw φ k n w pc lv (nV b :: nV a :: st) := by
  obtain ⟨p, l, e, R, s, m, args, below, meth, c, Q, D, cl, tys, A, nL⟩ := φ
  obtain ⟨rfl, rfl, rfl, rfl, rfl, rfl, hx, hb, hml, hown, hts, hK, hA⟩ := C
  intro H locs ls hP hD hS h
  refine lv_isub hx hb d ?_
  rw [iI_sub, ← Int.ofNat_sub hba]
  exact kk H locs ls hP hD hS h
theorem xw_idiv (C : xc φ l R D cl tys nL cc own Ts) {a b : Int} (d : decode cc pc = .ok (.idiv, 1)) (ha : -2147483648 ≤ a ∧ a < 2147483648) (hbb : 0 < b ∧ b < 2147483648) (kk : xw φ k n w (pc + 1) lv (iV (a.tdiv b) :: st)) : xw φ k n w pc lv (iV b :: iV a :: st) := by
  obtain ⟨p, l, e, R, s, m, args, below, meth, c, Q, D, cl, tys, A, nL⟩ := φ
  obtain ⟨rfl, rfl, rfl, rfl, rfl, rfl, hx, hb, hml, hown, hts, hK, hA⟩ := C
  intro H locs ls hP hD hS h
  refine lv_idiv hx hb d (iI_n0 hbb) ?_
  rw [iI_tdiv ha hbb]
  exact kk H locs ls hP hD hS h
theorem xw_irem (C : xc φ l R D cl tys nL cc own Ts) {a b : Int} (d : decode cc pc = .ok (.irem, 1)) (ha : -2147483648 ≤ a ∧ a < 2147483648) (hbb : 0 < b ∧ b < 2147483648) (kk : xw φ k n w (pc + 1) lv (iV (a.tmod b) :: st)) : xw φ k n w pc lv (iV b :: iV a :: st) := by
  obtain ⟨p, l, e, R, s, m, args, below, meth, c, Q, D, cl, tys, A, nL⟩ := φ
  obtain ⟨rfl, rfl, rfl, rfl, rfl, rfl, hx, hb, hml, hown, hts, hK, hA⟩ := C
  intro H locs ls hP hD hS h
  refine lv_irem hx hb d (iI_n0 hbb) ?_
  rw [iI_tmod ha hbb]
  exact kk H locs ls hP hD hS h
theorem xw_idiv_N (C : xc φ l R D cl tys nL cc own Ts) {a b : Nat} (d : decode cc pc = .ok (.idiv, 1)) (ha : a < 2147483648) (hbb : 0 < b ∧ b < 2147483648) (kk : xw φ k n w (pc + 1) lv (nV (a / b) :: st)) : xw φ k n w pc lv (nV b :: nV a :: st) := by
  obtain ⟨p, l, e, R, s, m, args, below, meth, c, Q, D, cl, tys, A, nL⟩ := φ
  obtain ⟨rfl, rfl, rfl, rfl, rfl, rfl, hx, hb, hml, hown, hts, hK, hA⟩ := C
  intro H locs ls hP hD hS h
  refine lv_idiv hx hb d (iI_n0 (by omega)) ?_
  rw [iI_tdiv (by omega) (by omega), ← Int.ofNat_tdiv]
  exact kk H locs ls hP hD hS h
theorem xw_irem_N (C : xc φ l R D cl tys nL cc own Ts) {a b : Nat} (d : decode cc pc = .ok (.irem, 1)) (ha : a < 2147483648) (hbb : 0 < b ∧ b < 2147483648) (kk : xw φ k n w (pc + 1) lv (nV (a % b) :: st)) : xw φ k n w pc lv (nV b :: nV a :: st) := by
  obtain ⟨p, l, e, R, s, m, args, below, meth, c, Q, D, cl, tys, A, nL⟩ := φ
  obtain ⟨rfl, rfl, rfl, rfl, rfl, rfl, hx, hb, hml, hown, hts, hK, hA⟩ := C
  intro H locs ls hP hD hS h
  refine lv_irem hx hb d (iI_n0 (by omega)) ?_
  rw [iI_tmod (by omega) (by omega), ← Int.ofNat_tmod]
  exact kk H locs ls hP hD hS h
theorem xw_ixor (C : xc φ l R D cl tys nL cc own Ts) {x y r : Int32} (d : decode cc pc = .ok (.ixor, 1)) (hr : x ^^^ y = r) (kk : xw φ k n w (pc + 1) lv (.int r :: st)) : xw φ k n w pc lv (.int y :: .int x :: st) := by
  obtain ⟨p, l, e, R, s, m, args, below, meth, c, Q, D, cl, tys, A, nL⟩ := φ
  obtain ⟨rfl, rfl, rfl, rfl, rfl, rfl, hx, hb, hml, hown, hts, hK, hA⟩ := C
  intro H locs ls hP hD hS h
  refine lv_ixor hx hb d ?_
  rw [hr]
  exact kk H locs ls hP hD hS h
theorem xw_iand (C : xc φ l R D cl tys nL cc own Ts) {x y r : Int32} (d : decode cc pc = .ok (.iand, 1)) (hr : x &&& y = r) (kk : xw φ k n w (pc + 1) lv (.int r :: st)) : xw φ k n w pc lv (.int y :: .int x :: st) := by
  obtain ⟨p, l, e, R, s, m, args, below, meth, c, Q, D, cl, tys, A, nL⟩ := φ
  obtain ⟨rfl, rfl, rfl, rfl, rfl, rfl, hx, hb, hml, hown, hts, hK, hA⟩ := C
  intro H locs ls hP hD hS h
  refine lv_iand hx hb d ?_
  rw [hr]
  exact kk H locs ls hP hD hS h
theorem xw_ior (C : xc φ l R D cl tys nL cc own Ts) {x y r : Int32} (d : decode cc pc = .ok (.ior, 1)) (hr : x ||| y = r) (kk : xw φ k n w (pc + 1) lv (.int r :: st)) : xw φ k n w pc lv (.int y :: .int x :: st) := by
  obtain ⟨p, l, e, R, s, m, args, below, meth, c, Q, D, cl, tys, A, nL⟩ := φ
  obtain ⟨rfl, rfl, rfl, rfl, rfl, rfl, hx, hb, hml, hown, hts, hK, hA⟩ := C
  intro H locs ls hP hD hS h
  refine lv_ior hx hb d ?_
  rw [hr]
  exact kk H locs ls hP hD hS h
theorem xw_ishl (C : xc φ l R D cl tys nL cc own Ts) {x y r : Int32} (d : decode cc pc = .ok (.ishl, 1)) (hr : x <<< (y &&& 31) = r) (kk : xw φ k n w (pc + 1) lv (.int r :: st)) : xw φ k n w pc lv (.int y :: .int x :: st) := by
  obtain ⟨p, l, e, R, s, m, args, below, meth, c, Q, D, cl, tys, A, nL⟩ := φ
  obtain ⟨rfl, rfl, rfl, rfl, rfl, rfl, hx, hb, hml, hown, hts, hK, hA⟩ := C
  intro H locs ls hP hD hS h
  refine lv_ishl hx hb d ?_
  rw [hr]
  exact kk H locs ls hP hD hS h
theorem xw_ishr (C : xc φ l R D cl tys nL cc own Ts) {x y r : Int32} (d : decode cc pc = .ok (.ishr, 1)) (hr : x >>> (y &&& 31) = r) (kk : xw φ k n w (pc + 1) lv (.int r :: st)) : xw φ k n w pc lv (.int y :: .int x :: st) := by
  obtain ⟨p, l, e, R, s, m, args, below, meth, c, Q, D, cl, tys, A, nL⟩ := φ
  obtain ⟨rfl, rfl, rfl, rfl, rfl, rfl, hx, hb, hml, hown, hts, hK, hA⟩ := C
  intro H locs ls hP hD hS h
  refine lv_ishr hx hb d ?_
  rw [hr]
  exact kk H locs ls hP hD hS h
theorem xw_iinc (C : xc φ l R D cl tys nL cc own Ts) {i : Nat} {z : Int} {a : Int} {lv' : List (Nat × Value)} (q : Nat) (ks : List Nat) (d : decode cc pc = .ok (.iinc i z, 3)) (hq : lv[q]? = some (i, iV a)) (hn : i < nL) (hl : lv_pick ((i, iV (a + z)) :: lv.filter (fun q => !(q.1 == i) && !(q.1 + 1 == i && q.2.category == 2))) ks = lv') (kk : xw φ k n w (pc + 3) lv' st) : xw φ k n w pc lv st := by
  obtain ⟨p, l, e, R, s, m, args, below, meth, c, Q, D, cl, tys, A, nL⟩ := φ
  obtain ⟨rfl, rfl, rfl, rfl, rfl, rfl, hx, hb, hml, hown, hts, hK, hA⟩ := C
  intro H locs ls hP hD hS h
  refine lv_iinc hx hb d h hq ?_ hn rfl (fun ls2 h2 => kk H locs ls2 hP hD hS (lv_sub h2 ks hl))
  exact iI_add a z
theorem xw_iinc_N (C : xc φ l R D cl tys nL cc own Ts) {i : Nat} {z : Int} {a b : Nat} {lv' : List (Nat × Value)} (q : Nat) (ks : List Nat) (d : decode cc pc = .ok (.iinc i z, 3)) (hq : lv[q]? = some (i, nV a)) (hn : i < nL) (hz : (a : Int) + z = (b : Int)) (hl : lv_pick ((i, nV b) :: lv.filter (fun q => !(q.1 == i) && !(q.1 + 1 == i && q.2.category == 2))) ks = lv') (kk : xw φ k n w (pc + 3) lv' st) : xw φ k n w pc lv st := by
  obtain ⟨p, l, e, R, s, m, args, below, meth, c, Q, D, cl, tys, A, nL⟩ := φ
  obtain ⟨rfl, rfl, rfl, rfl, rfl, rfl, hx, hb, hml, hown, hts, hK, hA⟩ := C
  intro H locs ls hP hD hS h
  exact lv_iinc hx hb d h hq ((iI_add _ _).trans (congrArg iI hz)) hn rfl (fun ls2 h2 => kk H locs ls2 hP hD hS (lv_sub h2 ks hl))
theorem xw_goto (C : xc φ l R D cl tys nL cc own Ts) {off : Int} {tgt : Nat} (d : decode cc pc = .ok (.goto off, 3)) (ht : (pc : Int) + off = (tgt : Int)) (kk : xw φ k n w tgt lv (st)) : xw φ k n w pc lv (st) := by
  obtain ⟨p, l, e, R, s, m, args, below, meth, c, Q, D, cl, tys, A, nL⟩ := φ
  obtain ⟨rfl, rfl, rfl, rfl, rfl, rfl, hx, hb, hml, hown, hts, hK, hA⟩ := C
  intro H locs ls hP hD hS h
  exact lv_goto hx hb d ht (kk H locs ls hP hD hS h)
theorem xw_icmp_eq (C : xc φ l R D cl tys nL cc own Ts) {a b : Int} {off : Int} {tgt : Nat} (d : decode cc pc = .ok (.if_icmp .eq off, 3)) (ht : (pc : Int) + off = (tgt : Int)) (ha : -2147483648 ≤ a ∧ a < 2147483648) (hb2 : -2147483648 ≤ b ∧ b < 2147483648) (kt : a = b → xw φ k n w tgt lv st) (kf : ¬ a = b → xw φ k n w (pc + 3) lv st) : xw φ k n w pc lv (iV b :: iV a :: st) := by
  obtain ⟨p, l, e, R, s, m, args, below, meth, c, Q, D, cl, tys, A, nL⟩ := φ
  obtain ⟨rfl, rfl, rfl, rfl, rfl, rfl, hx, hb, hml, hown, hts, hK, hA⟩ := C
  intro H locs ls hP hD hS h
  exact lv_icmp_eq hx hb d ht (fun z1 => kt ((iI_eq ha hb2).mp z1) H locs ls hP hD hS h) (fun z1 => kf (fun z => z1 ((iI_eq ha hb2).mpr z)) H locs ls hP hD hS h)
theorem xw_if_eq (C : xc φ l R D cl tys nL cc own Ts) {a : Int} {off : Int} {tgt : Nat} (d : decode cc pc = .ok (.ifCond .eq off, 3)) (ht : (pc : Int) + off = (tgt : Int)) (ha : -2147483648 ≤ a ∧ a < 2147483648) (kt : a = 0 → xw φ k n w tgt lv st) (kf : ¬ a = 0 → xw φ k n w (pc + 3) lv st) : xw φ k n w pc lv (iV a :: st) := by
  obtain ⟨p, l, e, R, s, m, args, below, meth, c, Q, D, cl, tys, A, nL⟩ := φ
  obtain ⟨rfl, rfl, rfl, rfl, rfl, rfl, hx, hb, hml, hown, hts, hK, hA⟩ := C
  intro H locs ls hP hD hS h
  exact lv_if_eq hx hb d ht (fun z1 => kt ((iI_eq (b := 0) ha (by omega)).mp z1) H locs ls hP hD hS h) (fun z1 => kf (fun z => z1 ((iI_eq (b := 0) ha (by omega)).mpr z)) H locs ls hP hD hS h)
theorem xw_icmp_eq_N (C : xc φ l R D cl tys nL cc own Ts) {a b : Nat} {off : Int} {tgt : Nat} (d : decode cc pc = .ok (.if_icmp .eq off, 3)) (ht : (pc : Int) + off = (tgt : Int)) (ha : a < 2147483648) (hb2 : b < 2147483648) (kt : a = b → xw φ k n w tgt lv st) (kf : ¬ a = b → xw φ k n w (pc + 3) lv st) : xw φ k n w pc lv (nV b :: nV a :: st) := by
  obtain ⟨p, l, e, R, s, m, args, below, meth, c, Q, D, cl, tys, A, nL⟩ := φ
  obtain ⟨rfl, rfl, rfl, rfl, rfl, rfl, hx, hb, hml, hown, hts, hK, hA⟩ := C
  intro H locs ls hP hD hS h
  exact lv_icmp_eq hx hb d ht (fun z1 => kt (by have z := (iI_eq (by omega) (by omega)).mp z1; omega) H locs ls hP hD hS h) (fun z1 => kf (fun z => z1 ((iI_eq (by omega) (by omega)).mpr (by omega))) H locs ls hP hD hS h)
theorem xw_if_eq_N (C : xc φ l R D cl tys nL cc own Ts) {a : Nat} {off : Int} {tgt : Nat} (d : decode cc pc = .ok (.ifCond .eq off, 3)) (ht : (pc : Int) + off = (tgt : Int)) (ha : a < 2147483648) (kt : a = 0 → xw φ k n w tgt lv st) (kf : ¬ a = 0 → xw φ k n w (pc + 3) lv st) : xw φ k n w pc lv (nV a :: st) := by
  obtain ⟨p, l, e, R, s, m, args, below, meth, c, Q, D, cl, tys, A, nL⟩ := φ
  obtain ⟨rfl, rfl, rfl, rfl, rfl, rfl, hx, hb, hml, hown, hts, hK, hA⟩ := C
  intro H locs ls hP hD hS h
  exact lv_if_eq hx hb d ht (fun z1 => kt (by have z := (iI_eq (b := 0) (by omega) (by omega)).mp z1; omega) H locs ls hP hD hS h) (fun z1 => kf (fun z => z1 ((iI_eq (b := 0) (by omega) (by omega)).mpr (by omega))) H locs ls hP hD hS h)
theorem xw_icmp_ne (C : xc φ l R D cl tys nL cc own Ts) {a b : Int} {off : Int} {tgt : Nat} (d : decode cc pc = .ok (.if_icmp .ne off, 3)) (ht : (pc : Int) + off = (tgt : Int)) (ha : -2147483648 ≤ a ∧ a < 2147483648) (hb2 : -2147483648 ≤ b ∧ b < 2147483648) (kt : ¬ a = b → xw φ k n w tgt lv st) (kf : a = b → xw φ k n w (pc + 3) lv st) : xw φ k n w pc lv (iV b :: iV a :: st) := by
  obtain ⟨p, l, e, R, s, m, args, below, meth, c, Q, D, cl, tys, A, nL⟩ := φ
  obtain ⟨rfl, rfl, rfl, rfl, rfl, rfl, hx, hb, hml, hown, hts, hK, hA⟩ := C
  intro H locs ls hP hD hS h
  exact lv_icmp_ne hx hb d ht (fun z1 => kt (fun z => z1 ((iI_eq ha hb2).mpr z)) H locs ls hP hD hS h) (fun z1 => kf ((iI_eq ha hb2).mp z1) H locs ls hP hD hS h)
theorem xw_if_ne (C : xc φ l R D cl tys nL cc own Ts) {a : Int} {off : Int} {tgt : Nat} (d : decode cc pc = .ok (.ifCond .ne off, 3)) (ht : (pc : Int) + off = (tgt : Int)) (ha : -2147483648 ≤ a ∧ a < 2147483648) (kt : ¬ a = 0 → xw φ k n w tgt lv st) (kf : a = 0 → xw φ k n w (pc + 3) lv st) : xw φ k n w pc lv (iV a :: st) := by
  obtain ⟨p, l, e, R, s, m, args, below, meth, c, Q, D, cl, tys, A, nL⟩ := φ
  obtain ⟨rfl, rfl, rfl, rfl, rfl, rfl, hx, hb, hml, hown, hts, hK, hA⟩ := C
  intro H locs ls hP hD hS h
  exact lv_if_ne hx hb d ht (fun z1 => kt (fun z => z1 ((iI_eq (b := 0) ha (by omega)).mpr z)) H locs ls hP hD hS h) (fun z1 => kf ((iI_eq (b := 0) ha (by omega)).mp z1) H locs ls hP hD hS h)
theorem xw_icmp_ne_N (C : xc φ l R D cl tys nL cc own Ts) {a b : Nat} {off : Int} {tgt : Nat} (d : decode cc pc = .ok (.if_icmp .ne off, 3)) (ht : (pc : Int) + off = (tgt : Int)) (ha : a < 2147483648) (hb2 : b < 2147483648) (kt : ¬ a = b → xw φ k n w tgt lv st) (kf : a = b → xw φ k n w (pc + 3) lv st) : xw φ k n w pc lv (nV b :: nV a :: st) := by
  obtain ⟨p, l, e, R, s, m, args, below, meth, c, Q, D, cl, tys, A, nL⟩ := φ
  obtain ⟨rfl, rfl, rfl, rfl, rfl, rfl, hx, hb, hml, hown, hts, hK, hA⟩ := C
  intro H locs ls hP hD hS h
  exact lv_icmp_ne hx hb d ht (fun z1 => kt (fun z => z1 ((iI_eq (by omega) (by omega)).mpr (by omega))) H locs ls hP hD hS h) (fun z1 => kf (by have z := (iI_eq (by omega) (by omega)).mp z1; omega) H locs ls hP hD hS h)
theorem xw_if_ne_N (C : xc φ l R D cl tys nL cc own Ts) {a : Nat} {off : Int} {tgt : Nat} (d : decode cc pc = .ok (.ifCond .ne off, 3)) (ht : (pc : Int) + off = (tgt : Int)) (ha : a < 2147483648) (kt : ¬ a = 0 → xw φ k n w tgt lv st) (kf : a = 0 → xw φ k n w (pc + 3) lv st) : xw φ k n w pc lv (nV a :: st) := by
  obtain ⟨p, l, e, R, s, m, args, below, meth, c, Q, D, cl, tys, A, nL⟩ := φ
  obtain ⟨rfl, rfl, rfl, rfl, rfl, rfl, hx, hb, hml, hown, hts, hK, hA⟩ := C
  intro H locs ls hP hD hS h
  exact lv_if_ne hx hb d ht (fun z1 => kt (fun z => z1 ((iI_eq (b := 0) (by omega) (by omega)).mpr (by omega))) H locs ls hP hD hS h) (fun z1 => kf (by have z := (iI_eq (b := 0) (by omega) (by omega)).mp z1; omega) H locs ls hP hD hS h)
theorem xw_icmp_lt (C : xc φ l R D cl tys nL cc own Ts) {a b : Int} {off : Int} {tgt : Nat} (d : decode cc pc = .ok (.if_icmp .lt off, 3)) (ht : (pc : Int) + off = (tgt : Int)) (ha : -2147483648 ≤ a ∧ a < 2147483648) (hb2 : -2147483648 ≤ b ∧ b < 2147483648) (kt : a < b → xw φ k n w tgt lv st) (kf : ¬ a < b → xw φ k n w (pc + 3) lv st) : xw φ k n w pc lv (iV b :: iV a :: st) := by
  obtain ⟨p, l, e, R, s, m, args, below, meth, c, Q, D, cl, tys, A, nL⟩ := φ
  obtain ⟨rfl, rfl, rfl, rfl, rfl, rfl, hx, hb, hml, hown, hts, hK, hA⟩ := C
  intro H locs ls hP hD hS h
  exact lv_icmp_lt hx hb d ht (fun z1 => kt ((iI_lt ha hb2).mp z1) H locs ls hP hD hS h) (fun z1 => kf (fun z => z1 ((iI_lt ha hb2).mpr z)) H locs ls hP hD hS h)
theorem xw_if_lt (C : xc φ l R D cl tys nL cc own Ts) {a : Int} {off : Int} {tgt : Nat} (d : decode cc pc = .ok (.ifCond .lt off, 3)) (ht : (pc : Int) + off = (tgt : Int)) (ha : -2147483648 ≤ a ∧ a < 2147483648) (kt : a < 0 → xw φ k n w tgt lv st) (kf : ¬ a < 0 → xw φ k n w (pc + 3) lv st) : xw φ k n w pc lv (iV a :: st) := by
  obtain ⟨p, l, e, R, s, m, args, below, meth, c, Q, D, cl, tys, A, nL⟩ := φ
  obtain ⟨rfl, rfl, rfl, rfl, rfl, rfl, hx, hb, hml, hown, hts, hK, hA⟩ := C
  intro H locs ls hP hD hS h
  exact lv_if_lt hx hb d ht (fun z1 => kt ((iI_lt (b := 0) ha (by omega)).mp z1) H locs ls hP hD hS h) (fun z1 => kf (fun z => z1 ((iI_lt (b := 0) ha (by omega)).mpr z)) H locs ls hP hD hS h)
theorem xw_icmp_lt_N (C : xc φ l R D cl tys nL cc own Ts) {a b : Nat} {off : Int} {tgt : Nat} (d : decode cc pc = .ok (.if_icmp .lt off, 3)) (ht : (pc : Int) + off = (tgt : Int)) (ha : a < 2147483648) (hb2 : b < 2147483648) (kt : a < b → xw φ k n w tgt lv st) (kf : ¬ a < b → xw φ k n w (pc + 3) lv st) : xw φ k n w pc lv (nV b :: nV a :: st) := by
  obtain ⟨p, l, e, R, s, m, args, below, meth, c, Q, D, cl, tys, A, nL⟩ := φ
  obtain ⟨rfl, rfl, rfl, rfl, rfl, rfl, hx, hb, hml, hown, hts, hK, hA⟩ := C
  intro H locs ls hP hD hS h
  exact lv_icmp_lt hx hb d ht (fun z1 => kt (by have z := (iI_lt (by omega) (by omega)).mp z1; omega) H locs ls hP hD hS h) (fun z1 => kf (fun z => z1 ((iI_lt (by omega) (by omega)).mpr (by omega))) H locs ls hP hD hS h)
theorem xw_if_lt_N (C : xc φ l R D cl tys nL cc own Ts) {a : Nat} {off : Int} {tgt : Nat} (d : decode cc pc = .ok (.ifCond .lt off, 3)) (ht : (pc : Int) + off = (tgt : Int)) (ha : a < 2147483648) (kt : a < 0 → xw φ k n w tgt lv st) (kf : ¬ a < 0 → xw φ k n w (pc + 3) lv st) : xw φ k n w pc lv (nV a :: st) := by
  obtain ⟨p, l, e, R, s, m, args, below, meth, c, Q, D, cl, tys, A, nL⟩ := φ
  obtain ⟨rfl, rfl, rfl, rfl, rfl, rfl, hx, hb, hml, hown, hts, hK, hA⟩ := C
  intro H locs ls hP hD hS h
  exact lv_if_lt hx hb d ht (fun z1 => kt (by have z := (iI_lt (b := 0) (by omega) (by omega)).mp z1; omega) H locs ls hP hD hS h) (fun z1 => kf (fun z => z1 ((iI_lt (b := 0) (by omega) (by omega)).mpr (by omega))) H locs ls hP hD hS h)
theorem xw_icmp_ge (C : xc φ l R D cl tys nL cc own Ts) {a b : Int} {off : Int} {tgt : Nat} (d : decode cc pc = .ok (.if_icmp .ge off, 3)) (ht : (pc : Int) + off = (tgt : Int)) (ha : -2147483648 ≤ a ∧ a < 2147483648) (hb2 : -2147483648 ≤ b ∧ b < 2147483648) (kt : b ≤ a → xw φ k n w tgt lv st) (kf : ¬ b ≤ a → xw φ k n w (pc + 3) lv st) : xw φ k n w pc lv (iV b :: iV a :: st) := by
  obtain ⟨p, l, e, R, s, m, args, below, meth, c, Q, D, cl, tys, A, nL⟩ := φ
  obtain ⟨rfl, rfl, rfl, rfl, rfl, rfl, hx, hb, hml, hown, hts, hK, hA⟩ := C
  intro H locs ls hP hD hS h
  exact lv_icmp_ge hx hb d ht (fun z1 => kt ((iI_le hb2 ha).mp z1) H locs ls hP hD hS h) (fun z1 => kf (fun z => z1 ((iI_le hb2 ha).mpr z)) H locs ls hP hD hS h)
theorem xw_if_ge (C : xc φ l R D cl tys nL cc own Ts) {a : Int} {off : Int} {tgt : Nat} (d : decode cc pc = .ok (.ifCond .ge off, 3)) (ht : (pc : Int) + off = (tgt : Int)) (ha : -2147483648 ≤ a ∧ a < 2147483648) (kt : 0 ≤ a → xw φ k n w tgt lv st) (kf : ¬ 0 ≤ a → xw φ k n w (pc + 3) lv st) : xw φ k n w pc lv (iV a :: st) := by
  obtain ⟨p, l, e, R, s, m, args, below, meth, c, Q, D, cl, tys, A, nL⟩ := φ
  obtain ⟨rfl, rfl, rfl, rfl, rfl, rfl, hx, hb, hml, hown, hts, hK, hA⟩ := C
  intro H locs ls hP hD hS h
  exact lv_if_ge hx hb d ht (fun z1 => kt ((iI_le (a := 0) (by omega) ha).mp z1) H locs ls hP hD hS h) (fun z1 => kf (fun z => z1 ((iI_le (a := 0) (by omega) ha).mpr z)) H locs ls hP hD hS h)
theorem xw_icmp_ge_N (C : xc φ l R D cl tys nL cc own Ts) {a b : Nat} {off : Int} {tgt : Nat} (d : decode cc pc = .ok (.if_icmp .ge off, 3)) (ht : (pc : Int) + off = (tgt : Int)) (ha : a < 2147483648) (hb2 : b < 2147483648) (kt : b ≤ a → xw φ k n w tgt lv st) (kf : ¬ b ≤ a → xw φ k n w (pc + 3) lv st) : xw φ k n w pc lv (nV b :: nV a :: st) := by
  obtain ⟨p, l, e, R, s, m, args, below, meth, c, Q, D, cl, tys, A, nL⟩ := φ
  obtain ⟨rfl, rfl, rfl, rfl, rfl, rfl, hx, hb, hml, hown, hts, hK, hA⟩ := C
  intro H locs ls hP hD hS h
  exact lv_icmp_ge hx hb d ht (fun z1 => kt (by have z := (iI_le (by omega) (by omega)).mp z1; omega) H locs ls hP hD hS h) (fun z1 => kf (fun z => z1 ((iI_le (by omega) (by omega)).mpr (by omega))) H locs ls hP hD hS h)
theorem xw_if_ge_N (C : xc φ l R D cl tys nL cc own Ts) {a : Nat} {off : Int} {tgt : Nat} (d : decode cc pc = .ok (.ifCond .ge off, 3)) (ht : (pc : Int) + off = (tgt : Int)) (ha : a < 2147483648) (kt : 0 ≤ a → xw φ k n w tgt lv st) (kf : ¬ 0 ≤ a → xw φ k n w (pc + 3) lv st) : xw φ k n w pc lv (nV a :: st) := by
  obtain ⟨p, l, e, R, s, m, args, below, meth, c, Q, D, cl, tys, A, nL⟩ := φ
  obtain ⟨rfl, rfl, rfl, rfl, rfl, rfl, hx, hb, hml, hown, hts, hK, hA⟩ := C
  intro H locs ls hP hD hS h
  exact lv_if_ge hx hb d ht (fun z1 => kt (by have z := (iI_le (a := 0) (by omega) (by omega)).mp z1; omega) H locs ls hP hD hS h) (fun z1 => kf (fun z => z1 ((iI_le (a := 0) (by omega) (by omega)).mpr (by omega))) H locs ls hP hD hS h)
theorem xw_icmp_gt (C : xc φ l R D cl tys nL cc own Ts) {a b : Int} {off : Int} {tgt : Nat} (d : decode cc pc = .ok (.if_icmp .gt off, 3)) (ht : (pc : Int) + off = (tgt : Int)) (ha : -2147483648 ≤ a ∧ a < 2147483648) (hb2 : -2147483648 ≤ b ∧ b < 2147483648) (kt : b < a → xw φ k n w tgt lv st) (kf : ¬ b < a → xw φ k n w (pc + 3) lv st) : xw φ k n w pc lv (iV b :: iV a :: st) := by
  obtain ⟨p, l, e, R, s, m, args, below, meth, c, Q, D, cl, tys, A, nL⟩ := φ
  obtain ⟨rfl, rfl, rfl, rfl, rfl, rfl, hx, hb, hml, hown, hts, hK, hA⟩ := C
  intro H locs ls hP hD hS h
  exact lv_icmp_gt hx hb d ht (fun z1 => kt ((iI_lt hb2 ha).mp z1) H locs ls hP hD hS h) (fun z1 => kf (fun z => z1 ((iI_lt hb2 ha).mpr z)) H locs ls hP hD hS h)
theorem xw_if_gt (C : xc φ l R D cl tys nL cc own Ts) {a : Int} {off : Int} {tgt : Nat} (d : decode cc pc = .ok (.ifCond .gt off, 3)) (ht : (pc : Int) + off = (tgt : Int)) (ha : -2147483648 ≤ a ∧ a < 2147483648) (kt : 0 < a → xw φ k n w tgt lv st) (kf : ¬ 0 < a → xw φ k n w (pc + 3) lv st) : xw φ k n w pc lv (iV a :: st) := by
  obtain ⟨p, l, e, R, s, m, args, below, meth, c, Q, D, cl, tys, A, nL⟩ := φ
  obtain ⟨rfl, rfl, rfl, rfl, rfl, rfl, hx, hb, hml, hown, hts, hK, hA⟩ := C
  intro H locs ls hP hD hS h
  exact lv_if_gt hx hb d ht (fun z1 => kt ((iI_lt (a := 0) (by omega) ha).mp z1) H locs ls hP hD hS h) (fun z1 => kf (fun z => z1 ((iI_lt (a := 0) (by omega) ha).mpr z)) H locs ls hP hD hS h)
theorem xw_icmp_gt_N (C : xc φ l R D cl tys nL cc own Ts) {a b : Nat} {off : Int} {tgt : Nat} (d : decode cc pc = .ok (.if_icmp .gt off, 3)) (ht : (pc : Int) + off = (tgt : Int)) (ha : a < 2147483648) (hb2 : b < 2147483648) (kt : b < a → xw φ k n w tgt lv st) (kf : ¬ b < a → xw φ k n w (pc + 3) lv st) : xw φ k n w pc lv (nV b :: nV a :: st) := by
  obtain ⟨p, l, e, R, s, m, args, below, meth, c, Q, D, cl, tys, A, nL⟩ := φ
  obtain ⟨rfl, rfl, rfl, rfl, rfl, rfl, hx, hb, hml, hown, hts, hK, hA⟩ := C
  intro H locs ls hP hD hS h
  exact lv_icmp_gt hx hb d ht (fun z1 => kt (by have z := (iI_lt (by omega) (by omega)).mp z1; omega) H locs ls hP hD hS h) (fun z1 => kf (fun z => z1 ((iI_lt (by omega) (by omega)).mpr (by omega))) H locs ls hP hD hS h)
theorem xw_if_gt_N (C : xc φ l R D cl tys nL cc own Ts) {a : Nat} {off : Int} {tgt : Nat} (d : decode cc pc = .ok (.ifCond .gt off, 3)) (ht : (pc : Int) + off = (tgt : Int)) (ha : a < 2147483648) (kt : 0 < a → xw φ k n w tgt lv st) (kf : ¬ 0 < a → xw φ k n w (pc + 3) lv st) : xw φ k n w pc lv (nV a :: st) := by
  obtain ⟨p, l, e, R, s, m, args, below, meth, c, Q, D, cl, tys, A, nL⟩ := φ
  obtain ⟨rfl, rfl, rfl, rfl, rfl, rfl, hx, hb, hml, hown, hts, hK, hA⟩ := C
  intro H locs ls hP hD hS h
  exact lv_if_gt hx hb d ht (fun z1 => kt (by have z := (iI_lt (a := 0) (by omega) (by omega)).mp z1; omega) H locs ls hP hD hS h) (fun z1 => kf (fun z => z1 ((iI_lt (a := 0) (by omega) (by omega)).mpr (by omega))) H locs ls hP hD hS h)
theorem xw_icmp_le (C : xc φ l R D cl tys nL cc own Ts) {a b : Int} {off : Int} {tgt : Nat} (d : decode cc pc = .ok (.if_icmp .le off, 3)) (ht : (pc : Int) + off = (tgt : Int)) (ha : -2147483648 ≤ a ∧ a < 2147483648) (hb2 : -2147483648 ≤ b ∧ b < 2147483648) (kt : a ≤ b → xw φ k n w tgt lv st) (kf : ¬ a ≤ b → xw φ k n w (pc + 3) lv st) : xw φ k n w pc lv (iV b :: iV a :: st) := by
  obtain ⟨p, l, e, R, s, m, args, below, meth, c, Q, D, cl, tys, A, nL⟩ := φ
  obtain ⟨rfl, rfl, rfl, rfl, rfl, rfl, hx, hb, hml, hown, hts, hK, hA⟩ := C
  intro H locs ls hP hD hS h
  exact lv_icmp_le hx hb d ht (fun z1 => kt ((iI_le ha hb2).mp z1) H locs ls hP hD hS h) (fun z1 => kf (fun z => z1 ((iI_le ha hb2).mpr z)) H locs ls hP hD hS h)
theorem xw_if_le (C : xc φ l R D cl tys nL cc own Ts) {a : Int} {off : Int} {tgt : Nat} (d : decode cc pc = .ok (.ifCond .le off, 3)) (ht : (pc : Int) + off = (tgt : Int)) (ha : -2147483648 ≤ a ∧ a < 2147483648) (kt : a ≤ 0 → xw φ k n w tgt lv st) (kf : ¬ a ≤ 0 → xw φ k n w (pc + 3) lv st) : xw φ k n w pc lv (iV a :: st) := by
  obtain ⟨p, l, e, R, s, m, args, below, meth, c, Q, D, cl, tys, A, nL⟩ := φ
  obtain ⟨rfl, rfl, rfl, rfl, rfl, rfl, hx, hb, hml, hown, hts, hK, hA⟩ := C
  intro H locs ls hP hD hS h
  exact lv_if_le hx hb d ht (fun z1 => kt ((iI_le (b := 0) ha (by omega)).mp z1) H locs ls hP hD hS h) (fun z1 => kf (fun z => z1 ((iI_le (b := 0) ha (by omega)).mpr z)) H locs ls hP hD hS h)
theorem xw_icmp_le_N (C : xc φ l R D cl tys nL cc own Ts) {a b : Nat} {off : Int} {tgt : Nat} (d : decode cc pc = .ok (.if_icmp .le off, 3)) (ht : (pc : Int) + off = (tgt : Int)) (ha : a < 2147483648) (hb2 : b < 2147483648) (kt : a ≤ b → xw φ k n w tgt lv st) (kf : ¬ a ≤ b → xw φ k n w (pc + 3) lv st) : xw φ k n w pc lv (nV b :: nV a :: st) := by
  obtain ⟨p, l, e, R, s, m, args, below, meth, c, Q, D, cl, tys, A, nL⟩ := φ
  obtain ⟨rfl, rfl, rfl, rfl, rfl, rfl, hx, hb, hml, hown, hts, hK, hA⟩ := C
  intro H locs ls hP hD hS h
  exact lv_icmp_le hx hb d ht (fun z1 => kt (by have z := (iI_le (by omega) (by omega)).mp z1; omega) H locs ls hP hD hS h) (fun z1 => kf (fun z => z1 ((iI_le (by omega) (by omega)).mpr (by omega))) H locs ls hP hD hS h)
theorem xw_if_le_N (C : xc φ l R D cl tys nL cc own Ts) {a : Nat} {off : Int} {tgt : Nat} (d : decode cc pc = .ok (.ifCond .le off, 3)) (ht : (pc : Int) + off = (tgt : Int)) (ha : a < 2147483648) (kt : a ≤ 0 → xw φ k n w tgt lv st) (kf : ¬ a ≤ 0 → xw φ k n w (pc + 3) lv st) : xw φ k n w pc lv (nV a :: st) := by
  obtain ⟨p, l, e, R, s, m, args, below, meth, c, Q, D, cl, tys, A, nL⟩ := φ
  obtain ⟨rfl, rfl, rfl, rfl, rfl, rfl, hx, hb, hml, hown, hts, hK, hA⟩ := C
  intro H locs ls hP hD hS h
  exact lv_if_le hx hb d ht (fun z1 => kt (by have z := (iI_le (b := 0) (by omega) (by omega)).mp z1; omega) H locs ls hP hD hS h) (fun z1 => kf (fun z => z1 ((iI_le (b := 0) (by omega) (by omega)).mpr (by omega))) H locs ls hP hD hS h)
theorem xw_if_eq_B (C : xc φ l R D cl tys nL cc own Ts) {b : Bool} {off : Int} {tgt : Nat} (d : decode cc pc = .ok (.ifCond .eq off, 3)) (ht : (pc : Int) + off = (tgt : Int))  (kt : b = false → xw φ k n w tgt lv st) (kf : b = true → xw φ k n w (pc + 3) lv st) : xw φ k n w pc lv (bV b :: st) := by
  obtain ⟨p, l, e, R, s, m, args, below, meth, c, Q, D, cl, tys, A, nL⟩ := φ
  obtain ⟨rfl, rfl, rfl, rfl, rfl, rfl, hx, hb, hml, hown, hts, hK, hA⟩ := C
  intro H locs ls hP hD hS h
  cases b
  · exact lv_if_eq hx hb d ht (fun _ => kt rfl H locs ls hP hD hS h) (fun z1 => absurd rfl z1)
  · exact lv_if_eq hx hb d ht (fun z1 => absurd z1 (by decide)) (fun _ => kf rfl H locs ls hP hD hS h)
theorem xw_if_ne_B (C : xc φ l R D cl tys nL cc own Ts) {b : Bool} {off : Int} {tgt : Nat} (d : decode cc pc = .ok (.ifCond .ne off, 3)) (ht : (pc : Int) + off = (tgt : Int))  (kt : b = true → xw φ k n w tgt lv st) (kf : b = false → xw φ k n w (pc + 3) lv st) : xw φ k n w pc lv (bV b :: st) := by
  obtain ⟨p, l, e, R, s, m, args, below, meth, c, Q, D, cl, tys, A, nL⟩ := φ
  obtain ⟨rfl, rfl, rfl, rfl, rfl, rfl, hx, hb, hml, hown, hts, hK, hA⟩ := C
  intro H locs ls hP hD hS h
  cases b
  · exact lv_if_ne hx hb d ht (fun z1 => absurd rfl z1) (fun _ => kf rfl H locs ls hP hD hS h)
  · exact lv_if_ne hx hb d ht (fun _ => kt rfl H locs ls hP hD hS h) (fun z1 => absurd z1 (by decide))
/-- another writing of the stack, of the world, of the locals -/
theorem xw_st {st' : List Value} (e : st = st') (kk : xw φ k n w pc lv st') : xw φ k n w pc lv st := e ▸ kk
theorem xw_wo {w' : va_W} (e : w = w') (kk : xw φ k n w' pc lv st) : xw φ k n w pc lv st := e ▸ kk
theorem xw_le {lv' : List (Nat × Value)} (e : lv = lv') (kk : xw φ k n w pc lv' st) : xw φ k n w pc lv st := e ▸ kk
theorem xw_get (C : xc φ l R D cl tys nL cc own Ts) {ref Cn : String} {T : u_T} {N ci index a : Nat} {fs : List Value} {v : Value} (hin : ∀ w ∈ u_ws Cn T N, w ∈ Ts) (q0 f : Nat) (he : w[q0]? = some (a, .inr (ci, fs))) (hc : cl[ci]? = some (Cn, T, N)) (hf : f < N) (hlink : Cond.fieldLink own index ref (T f).2.1 (T f).2.2.1 ∈ Ts) (href : (T f).1 = ref) (hv : fs[f]? = some v) (d : decode cc pc = .ok (.getfield index, 3)) (kk : xw φ k n w (pc + 3) lv (v :: st)) : xw φ k n w pc lv (.ref a :: st) := by
  obtain ⟨p, l, e, R, s, m, args, below, meth, c, Q, D, cl, tys, A, nL⟩ := φ
  obtain ⟨rfl, rfl, rfl, rfl, rfl, rfl, hx, hb, hml, hown, hts, hK, hA⟩ := C
  intro H locs ls hP hD hS h
  exact va_get hx hb hts hin hown hK hP q0 he hc f hf (hts _ hlink) (fun x h9 => href ▸ h9) hv d (kk H locs ls hP hD hS h)
theorem xw_put (C : xc φ l R D cl tys nL cc own Ts) {ref Cn : String} {T : u_T} {N ci index a : Nat} {fs : List Value} {v : Value} {w' : va_W} (hin : ∀ w ∈ u_ws Cn T N, w ∈ Ts) (ty0 : Nat → FieldType) (hty : ∀ k, k < N → parseFieldDescriptor (T k).2.2.1 = some (ty0 k)) (hnm : ∀ a, a < N → ∀ b, b < N → a ≠ b → (T a).2.1 ≠ (T b).2.1) (q0 f : Nat) (he : w[q0]? = some (a, .inr (ci, fs))) (hc : cl[ci]? = some (Cn, T, N)) (hf : f < N) (hlink : Cond.fieldLink own index ref (T f).2.1 (T f).2.2.1 ∈ Ts) (href : (T f).1 = ref) (hfin : (T f).2.2.2 = false) (hn : narrow (ty0 f) v = v) (hfit : fits (ty0 f) v = true) (hl : f < fs.length) (hw : w.set q0 (a, .inr (ci, fs.set f v)) = w') (d : decode cc pc = .ok (.putfield index, 3)) (kk : xw φ k n w' (pc + 3) lv st) : xw φ k n w pc lv (v :: .ref a :: st) := by
  obtain ⟨p, l, e, R, s, m, args, below, meth, c, Q, D, cl, tys, A, nL⟩ := φ
  obtain ⟨rfl, rfl, rfl, rfl, rfl, rfl, hx, hb, hml, hown, hts, hK, hA⟩ := C
  intro H locs ls hP hD hS h
  exact va_put hx hb hts hin ty0 hty hnm hown hK hP hD hS q0 he hc f hf (hts _ hlink) (fun x h9 => href ▸ h9) hfin (hty f hf) hn hfit hl d (fun H1 locs1 hP hD hS => kk H1 locs1 ls (hw ▸ hP) (hw ▸ hD) hS h)
theorem xw_putF (C : xc φ l R D cl tys nL cc own Ts) (I : xi φ) {Cn : String} {T : u_T} {N ci index a : Nat} {fs : List Value} {v : Value} {w' : va_W} (hin : ∀ w ∈ u_ws Cn T N, w ∈ Ts) (ty0 : Nat → FieldType) (hty : ∀ k, k < N → parseFieldDescriptor (T k).2.2.1 = some (ty0 k)) (hnm : ∀ a, a < N → ∀ b, b < N → a ≠ b → (T a).2.1 ≠ (T b).2.1) (q0 f : Nat) (he : w[q0]? = some (a, .inr (ci, fs))) (hc : cl[ci]? = some (Cn, T, N)) (hf : f < N) (hlink : Cond.fieldLink own index (T f).1 (T f).2.1 (T f).2.2.1 ∈ Ts) (hfin : (T f).2.2.2 = true) (hdecl : (T f).1 = own) (hn : narrow (ty0 f) v = v) (hfit : fits (ty0 f) v = true) (hl : f < fs.length) (hw : w.set q0 (a, .inr (ci, fs.set f v)) = w') (d : decode cc pc = .ok (.putfield index, 3)) (kk : xw φ k n w' (pc + 3) lv st) : xw φ k n w pc lv (v :: .ref a :: st) := by
  obtain ⟨p, l, e, R, s, m, args, below, meth, c, Q, D, cl, tys, A, nL⟩ := φ
  obtain ⟨rfl, rfl, rfl, rfl, rfl, rfl, hx, hb, hml, hown, hts, hK, hA⟩ := C
  intro H locs ls hP hD hS h
  exact va_putF hx hb hts hin ty0 hty hnm hown hK hP hD hS q0 he hc f hf (hts _ hlink) (fun x h9 => h9) hfin I hdecl (hty f hf) hn hfit hl d (fun H1 locs1 hP hD hS => kk H1 locs1 ls (hw ▸ hP) (hw ▸ hD) hS h)
theorem xw_iald (C : xc φ l R D cl tys nL cc own Ts) {a N : Nat} {cA : ClassId} {B : Nat → Nat} {i : Int} (q0 t0 j : Nat) (ha : w[q0]? = some (a, .inl (cA, N, .inl (fN B)))) (ht : tys[t0]? = some (cA, .int)) (hi : i = (j : Int)) (hj : j < N) (hN : N < 2147483648) (d : decode cc pc = .ok (.iaload, 1)) (kk : xw φ k n w (pc + 1) lv (nV (B j) :: st)) : xw φ k n w pc lv (iV i :: .ref a :: st) := by
  obtain ⟨p, l, e, R, s, m, args, below, meth, c, Q, D, cl, tys, A, nL⟩ := φ
  obtain ⟨rfl, rfl, rfl, rfl, rfl, rfl, hx, hb, hml, hown, hts, hK, hA⟩ := C
  intro H locs ls hP hD hS h
  subst hi
  refine va_iald hx hb hK hP q0 t0 ha ht (iI_in hj hN) d ?_
  rw [iI_cl (by omega)]
  exact kk H locs ls hP hD hS h
theorem xw_iast (C : xc φ l R D cl tys nL cc own Ts) {a N : Nat} {cA : ClassId} {B : Nat → Nat} {i x : Int} {w' : va_W} (q0 t0 j v : Nat) (ha : w[q0]? = some (a, .inl (cA, N, .inl (fN B)))) (ht : tys[t0]? = some (cA, .int)) (hi : i = (j : Int)) (hv : x = (v : Int)) (hj : j < N) (hN : N < 2147483648) (hw : w.set q0 (a, .inl (cA, N, .inl (fN (va_up B j v)))) = w') (d : decode cc pc = .ok (.iastore, 1)) (kk : xw φ k n w' (pc + 1) lv st) : xw φ k n w pc lv (iV x :: iV i :: .ref a :: st) := by
  obtain ⟨p, l, e, R, s, m, args, below, meth, c, Q, D, cl, tys, A, nL⟩ := φ
  obtain ⟨rfl, rfl, rfl, rfl, rfl, rfl, hx, hb, hml, hown, hts, hK, hA⟩ := C
  intro H locs ls hP hD hS h
  subst hi; subst hv
  refine va_iast hx hb hK hP hD hS q0 t0 ha ht (iI_in hj hN) d (fun H1 locs1 hP hD hS => ?_)
  rw [iI_cl (by omega), fN_upd, hw] at hP hD
  exact kk H1 locs1 ls hP hD hS h
theorem xw_alen (C : xc φ l R D cl tys nL cc own Ts) {a : Nat} {cA : ClassId} {x : vp_A} {ty : FieldType} (q0 t0 : Nat) (ha : w[q0]? = some (a, .inl (cA, x))) (ht : tys[t0]? = some (cA, ty)) (d : decode cc pc = .ok (.arraylength, 1)) (kk : xw φ k n w (pc + 1) lv (nV x.1 :: st)) : xw φ k n w pc lv (.ref a :: st) := by
  obtain ⟨p, l, e, R, s, m, args, below, meth, c, Q, D, cl, tys, A, nL⟩ := φ
  obtain ⟨rfl, rfl, rfl, rfl, rfl, rfl, hx, hb, hml, hown, hts, hK, hA⟩ := C
  intro H locs ls hP hD hS h
  exact va_alen hx hb hK hP q0 t0 ha ht (iI_nI x.1).symm d (kk H locs ls hP hD hS h)
theorem xw_iret (C : xc φ l R D cl tys nL cc own Ts) {w0 : va_W} {Post : Option Value → va_W → Prop} {mc ms : Nat} {x : Int32} (r : xr φ w0 Post (some .int) mc ms) (hk : k ≤ mc) (hn : n ≤ ms) (d : decode cc pc = .ok (.ireturn, 1)) (hp : Post (some (.int x)) w) : xw φ k n w pc lv [.int x] := by
  obtain ⟨p, l, e, R, s, m, args, below, meth, c, Q, D, cl, tys, A, nL⟩ := φ
  obtain ⟨rfl, rfl, rfl, rfl, rfl, rfl, hx, hb, hml, hown, hts, hK, hA⟩ := C
  intro H locs ls hP hD hS h
  obtain ⟨hr, hlocks, rfl, rfl⟩ := r
  exact W.widen hk hn (W.iret hx hb hr (fun t ht hW => ⟨⟨_, _, rfl, hp, by rw [ht]; exact hP, hD⟩, hS.F ht⟩) hS.2.2 d hlocks)
theorem xw_bret (C : xc φ l R D cl tys nL cc own Ts) {w0 : va_W} {Post : Option Value → va_W → Prop} {mc ms : Nat} {b : Bool} (r : xr φ w0 Post (some .boolean) mc ms) (hk : k ≤ mc) (hn : n ≤ ms) (d : decode cc pc = .ok (.ireturn, 1)) (hp : Post (some (bV b)) w) : xw φ k n w pc lv [bV b] := by
  obtain ⟨p, l, e, R, s, m, args, below, meth, c, Q, D, cl, tys, A, nL⟩ := φ
  obtain ⟨rfl, rfl, rfl, rfl, rfl, rfl, hx, hb, hml, hown, hts, hK, hA⟩ := C
  intro H locs ls hP hD hS h
  obtain ⟨hr, hlocks, rfl, rfl⟩ := r
  exact W.widen hk hn (W.zret hx hb hr (by cases b <;> rfl) (fun t ht hW => ⟨⟨_, _, rfl, hp, by rw [ht]; exact hP, hD⟩, hS.F ht⟩) hS.2.2 d hlocks)
theorem xw_vret (C : xc φ l R D cl tys nL cc own Ts) {w0 : va_W} {Post : Option Value → va_W → Prop} {mc ms : Nat} (r : xr φ w0 Post none mc ms) (hk : k ≤ mc) (hn : n ≤ ms) (d : decode cc pc = .ok (.return_, 1)) (hp : Post none w) : xw φ k n w pc lv [] := by
  obtain ⟨p, l, e, R, s, m, args, below, meth, c, Q, D, cl, tys, A, nL⟩ := φ
  obtain ⟨rfl, rfl, rfl, rfl, rfl, rfl, hx, hb, hml, hown, hts, hK, hA⟩ := C
  intro H locs ls hP hD hS h
  obtain ⟨hr, hlocks, rfl, rfl⟩ := r
  exact W.widen hk hn (W.vret hx hb hr (fun t ht hW => ⟨⟨_, _, rfl, hp, by rw [ht]; exact hP, hD⟩, hS.F ht⟩) hS.2.2 d hlocks)
theorem xw_lret (C : xc φ l R D cl tys nL cc own Ts) {w0 : va_W} {Post : Option Value → va_W → Prop} {mc ms : Nat} {x : Int64} (r : xr φ w0 Post (some .long) mc ms) (hk : k ≤ mc) (hn : n ≤ ms) (d : decode cc pc = .ok (.lreturn, 1)) (hp : Post (some (.long x)) w) : xw φ k n w pc lv [.long x] := by
  obtain ⟨p, l, e, R, s, m, args, below, meth, c, Q, D, cl, tys, A, nL⟩ := φ
  obtain ⟨rfl, rfl, rfl, rfl, rfl, rfl, hx, hb, hml, hown, hts, hK, hA⟩ := C
  intro H locs ls hP hD hS h
  obtain ⟨hr, hlocks, rfl, rfl⟩ := r
  exact W.widen hk hn (W.lret hx hb hr (fun t ht hW => ⟨⟨_, _, rfl, hp, by rw [ht]; exact hP, hD⟩, hS.F ht⟩) hS.2.2 d hlocks)
theorem xw_dret (C : xc φ l R D cl tys nL cc own Ts) {w0 : va_W} {Post : Option Value → va_W → Prop} {mc ms : Nat} {x : UInt64} (r : xr φ w0 Post (some .double) mc ms) (hk : k ≤ mc) (hn : n ≤ ms) (d : decode cc pc = .ok (.dreturn, 1)) (hp : Post (some (.double x)) w) : xw φ k n w pc lv [.double x] := by
  obtain ⟨p, l, e, R, s, m, args, below, meth, c, Q, D, cl, tys, A, nL⟩ := φ
  obtain ⟨rfl, rfl, rfl, rfl, rfl, rfl, hx, hb, hml, hown, hts, hK, hA⟩ := C
  intro H locs ls hP hD hS h
  obtain ⟨hr, hlocks, rfl, rfl⟩ := r
  exact W.widen hk hn (W.dret hx hb hr (fun t ht hW => ⟨⟨_, _, rfl, hp, by rw [ht]; exact hP, hD⟩, hS.F ht⟩) hS.2.2 d hlocks)
/-- behind a call that has run -/
theorem xw_run {p : Program} {l : Launch} {e : Env} {R : Room} {s : State} {m : MethodId} {args a : Array Value} {below : List Frame} {meth : Method} {c : Code} {H : Heap} {locs : List Loc} {Q : State → Prop} {mc ms : Nat} {ls : Array Slot} {wc : va_W} {A : Nat → Prop} {Post : Option Value → va_W → Prop}
    (hr : va_Run p l e R s m args below meth c H locs k n mc ms (F0 m pc ls st) rest (ctQ D cl wc H.size Post a) (va_A wc H.size)) (hS : va_S A s.heap H locs) (hF : ∀ q, va_A wc H.size q → A q)
    (kk : ∀ (v : Option Value) (w1 : va_W) (H1 : Heap) (locs1 : List Loc), Post v w1 → va_P D cl w1 H1 → va_D (va_A wc H.size) w1 → (∀ q : Nat, q < H.size → ¬ va_A wc H.size q → H1[q]? = H[q]?) → va_S A s.heap H1 locs1 → W p l e R s m args below meth c H1 locs1 (k + mc) (n + ms) Q (F0 m (pc + 3) ls (v.toList ++ rest))) : W p l e R s m args below meth c H locs k n Q (F0 m pc ls st) := by
  intro T hT X
  obtain ⟨v, st₀, t, T', L, h0, X', hL, e1, e2, ⟨⟨v', w1, hv, hp, hP1, hD1⟩, hz, hk⟩, stp⟩ := hr T hT X
  cases hv
  rw [h0] at hz hk
  obtain ⟨t2, a1, b1⟩ := kk v w1 T'.heap (locs ++ L) hp (by rw [e1]; exact hP1) hD1 (fun q h1 h2 => by rw [e1]; exact hk q h1 h2)
    ⟨Nat.le_trans hS.1 (by rw [e1]; exact hz), fun q h1 h2 => by rw [e1, hk q (Nat.lt_of_lt_of_le h1 hS.1) (fun z => h2 (hF q z))]; exact hS.2.1 q h1 h2, fun q hq => by
      rcases List.mem_append.mp hq with h | h
      · exact hS.2.2 q h
      · exact hF _ (hL q h)⟩ T' rfl X'
  exact ⟨t2, stp t2 a1, b1⟩
theorem va_selfree {A0 : Nat → Prop} {ws : va_W} {H0 H : Heap} {locs : List Loc} (hD : va_D A0 ws) (hS : va_S A0 H0 H locs) (hA : ∀ q, H0.size ≤ q → A0 q) : ∀ q, va_A ws H.size q → A0 q := by
  intro q h
  rcases h with ⟨k, e, h⟩ | h
  · exact hD.2 k (q, e) h
  · exact hA q (Nat.le_trans hS.1 h)
set_option maxHeartbeats 4000000 in
/-- a virtual call over the whole world -/
theorem xw_V (C : xc φ l R D cl tys nL cc own Ts) {Cn : String} {T : u_T} {N : Nat} {index b ci q0 maxL mc ms : Nat} {y : MethodName} {ws ws' : List Cond} {bytes : ByteArray} {ret : Option FieldType} {rm : Room} {As fs : List Value} {Post : Option Value → va_W → Prop}
    (hM : CT l y ws rm D cl tys (.ref b :: As) w Post mc ms) (hg : GoodIn Ts (wsV own index Cn y ws)) (hw : ws = .code y bytes maxL ret :: ws') (hrc : rm.cells = mc) (hrs : rm.slots = ms)
    (hy : y.cls = Cn ∧ y.cls ≠ "java/lang/invoke/MethodHandle" ∧ y.cls ≠ "java/lang/invoke/VarHandle" ∧ (parseMethodDescriptor y.desc).map (fun d => d.parameters.length) = some As.length) (hR : rm.frames + 1 ≤ R.frames ∧ 8 + (maxL + 11) + rm.locals ≤ R.locals)
    (hrecv : w[q0]? = some (b, .inr (ci, fs))) (hci : cl[ci]? = some (Cn, T, N)) (hst : st = As.reverse ++ .ref b :: rest) (hcat : (rest.map fun v => v.category).sum ≤ 8) (d : decode cc pc = .ok (.invokevirtual index, 3)) (hf : k + mc ≤ R.cells ∧ n + ms ≤ R.slots)
    (kk : ∀ (v : Option Value) (w1 : va_W), Post v w1 → xw φ (k + mc) (n + ms) w1 (pc + 3) lv (v.toList ++ rest)) : xw φ k n w pc lv st := by
  obtain ⟨p, l, e, R, s, m, args, below, meth, c, Q, D, cl, tys, A, nL⟩ := φ
  obtain ⟨rfl, rfl, rfl, rfl, rfl, rfl, hx, hb, hml, hown, hts, hK, hA⟩ := C
  intro H locs ls hP hD hS h
  have hF := va_selfree hD hS hA
  refine xw_run (va_runV (As := As) (rest := rest) (b := b) (C := Cn) ⟨hx, hb, hml, hown, hts⟩ (hM H.size) (cwV As.length hts hg hw hrc hrs hy hR) ⟨ct_blind, va_recv hK hP hci hrecv, fun U hU hW => ⟨rfl, by rw [hU], by rw [hU]; exact hP, va_K.moved hW.alike hK, hD.weaken (fun _ _ _ _ => trivial)⟩⟩ rfl rfl h.1 hst (lv_room hcat) d hf) hS hF ?_
  exact fun v w1 H1 locs1 hp hP1 hD1 hk1 hS1 => kk v w1 hp H1 locs1 ls hP1 (hD1.weaken (fun k q _ h => hF q.1 h)) hS1 h
set_option maxHeartbeats 4000000 in
/-- a static call over the whole world -/
theorem xw_S (C : xc φ l R D cl tys nL cc own Ts) {index maxL mc ms : Nat} {y : MethodName} {ws ws' : List Cond} {bytes : ByteArray} {ret : Option FieldType} {rm : Room} {As : List Value} {Post : Option Value → va_W → Prop}
    (hM : CT l y ws rm D cl tys As w Post mc ms) (hg : GoodIn Ts (va_wsS own index y ws)) (hw : ws = .code y bytes maxL ret :: ws') (hrc : rm.cells = mc) (hrs : rm.slots = ms)
    (hy : y.cls ≠ "java/lang/invoke/MethodHandle" ∧ y.cls ≠ "java/lang/invoke/VarHandle" ∧ (parseMethodDescriptor y.desc).map (fun d => d.parameters.length) = some As.length) (hR : rm.frames + 1 ≤ R.frames ∧ 8 + (maxL + 11) + rm.locals ≤ R.locals)
    (hst : st = As.reverse ++ rest) (hcat : (rest.map fun v => v.category).sum ≤ 8) (d : decode cc pc = .ok (.invokestatic index, 3)) (hf : k + mc ≤ R.cells ∧ n + ms ≤ R.slots)
    (kk : ∀ (v : Option Value) (w1 : va_W), Post v w1 → xw φ (k + mc) (n + ms) w1 (pc + 3) lv (v.toList ++ rest)) : xw φ k n w pc lv st := by
  obtain ⟨p, l, e, R, s, m, args, below, meth, c, Q, D, cl, tys, A, nL⟩ := φ
  obtain ⟨rfl, rfl, rfl, rfl, rfl, rfl, hx, hb, hml, hown, hts, hK, hA⟩ := C
  intro H locs ls hP hD hS h
  have hF := va_selfree hD hS hA
  refine xw_run (va_runS (As := As) (rest := rest) ⟨hx, hb, hml, hown, hts⟩ (hM H.size) (va_cwS As.length hts hg hw hrc hrs hy hR) ⟨ct_blind, fun U hU hW => ⟨rfl, by rw [hU], by rw [hU]; exact hP, va_K.moved hW.alike hK, hD.weaken (fun _ _ _ _ => trivial)⟩⟩ rfl rfl h.1 hst (lv_room hcat) d hf) hS hF ?_
  exact fun v w1 H1 locs1 hp hP1 hD1 hk1 hS1 => kk v w1 hp H1 locs1 ls hP1 (hD1.weaken (fun k q _ h => hF q.1 h)) hS1 h

theorem xw_iconst_N (C : xc φ l R D cl tys nL cc own Ts) {z : Int} (v : Nat) (d : decode cc pc = .ok (.iconst z, 1)) (hz : z = (v : Int)) (kk : xw φ k n w (pc + 1) lv (nV v :: st)) : xw φ k n w pc lv (st) := by
  obtain ⟨p, l, e, R, s, m, args, below, meth, c, Q, D, cl, tys, A, nL⟩ := φ
  obtain ⟨rfl, rfl, rfl, rfl, rfl, rfl, hx, hb, hml, hown, hts, hK, hA⟩ := C
  intro H locs ls hP hD hS h
  exact lv_iconst hx hb d (congrArg iI hz) (kk H locs ls hP hD hS h)
theorem xw_bipush_N (C : xc φ l R D cl tys nL cc own Ts) {z : Int} (v : Nat) (d : decode cc pc = .ok (.bipush z, 2)) (hv : (Int8.ofInt z).toInt32 = iI (v : Int)) (kk : xw φ k n w (pc + 2) lv (nV v :: st)) : xw φ k n w pc lv (st) := by
  obtain ⟨p, l, e, R, s, m, args, below, meth, c, Q, D, cl, tys, A, nL⟩ := φ
  obtain ⟨rfl, rfl, rfl, rfl, rfl, rfl, hx, hb, hml, hown, hts, hK, hA⟩ := C
  intro H locs ls hP hD hS h
  exact lv_bipush hx hb d hv (kk H locs ls hP hD hS h)
theorem xw_sipush_N (C : xc φ l R D cl tys nL cc own Ts) {z : Int} (v : Nat) (d : decode cc pc = .ok (.sipush z, 3)) (hv : (Int16.ofInt z).toInt32 = iI (v : Int)) (kk : xw φ k n w (pc + 3) lv (nV v :: st)) : xw φ k n w pc lv (st) := by
  obtain ⟨p, l, e, R, s, m, args, below, meth, c, Q, D, cl, tys, A, nL⟩ := φ
  obtain ⟨rfl, rfl, rfl, rfl, rfl, rfl, hx, hb, hml, hown, hts, hK, hA⟩ := C
  intro H locs ls hP hD hS h
  exact lv_sipush hx hb d hv (kk H locs ls hP hD hS h)
/-- a contract's end told outright: the answer x, the world w' -/
def PD (x : Option Value) (w' : va_W) : Option Value → va_W → Prop := fun v w1 => v = x ∧ w1 = w'
theorem PD.i {x : Option Value} {w' : va_W} : PD x w' x w' := ⟨rfl, rfl⟩
theorem PD.e {x y : Option Value} {w1 w' : va_W} (h : y = x) (h2 : w1 = w') : PD x w' y w1 := ⟨h, h2⟩
theorem xw_Vd (C : xc φ l R D cl tys nL cc own Ts) {Cn : String} {T : u_T} {N : Nat} {index b ci q0 maxL : Nat} {y : MethodName} {ws ws' : List Cond} {bytes : ByteArray} {ret : Option FieldType} {rm : Room} {As fs : List Value} {x : Option Value} {w1 : va_W}
    (hM : CT l y ws rm D cl tys (.ref b :: As) w (PD x w1) 0 0) (hg : GoodIn Ts (wsV own index Cn y ws)) (hw : ws = .code y bytes maxL ret :: ws') (hrc : rm.cells = 0) (hrs : rm.slots = 0)
    (hy : y.cls = Cn ∧ y.cls ≠ "java/lang/invoke/MethodHandle" ∧ y.cls ≠ "java/lang/invoke/VarHandle" ∧ (parseMethodDescriptor y.desc).map (fun d => d.parameters.length) = some As.length) (hR : rm.frames + 1 ≤ R.frames ∧ 8 + (maxL + 11) + rm.locals ≤ R.locals)
    (hrecv : w[q0]? = some (b, .inr (ci, fs))) (hci : cl[ci]? = some (Cn, T, N)) (hst : st = As.reverse ++ .ref b :: rest) (hcat : (rest.map fun v => v.category).sum ≤ 8) (d : decode cc pc = .ok (.invokevirtual index, 3)) (hf : k ≤ R.cells ∧ n ≤ R.slots)
    {st' : List Value} (e : x.toList ++ rest = st') (kk : xw φ k n w1 (pc + 3) lv st') : xw φ k n w pc lv st :=
  xw_V C hM hg hw hrc hrs hy hR hrecv hci hst hcat d hf (fun v w2 hp => by obtain ⟨rfl, rfl⟩ := hp; rw [e]; exact kk)
theorem xw_Sd (C : xc φ l R D cl tys nL cc own Ts) {index maxL : Nat} {y : MethodName} {ws ws' : List Cond} {bytes : ByteArray} {ret : Option FieldType} {rm : Room} {As : List Value} {x : Option Value} {w1 : va_W}
    (hM : CT l y ws rm D cl tys As w (PD x w1) 0 0) (hg : GoodIn Ts (va_wsS own index y ws)) (hw : ws = .code y bytes maxL ret :: ws') (hrc : rm.cells = 0) (hrs : rm.slots = 0)
    (hy : y.cls ≠ "java/lang/invoke/MethodHandle" ∧ y.cls ≠ "java/lang/invoke/VarHandle" ∧ (parseMethodDescriptor y.desc).map (fun d => d.parameters.length) = some As.length) (hR : rm.frames + 1 ≤ R.frames ∧ 8 + (maxL + 11) + rm.locals ≤ R.locals)
    (hst : st = As.reverse ++ rest) (hcat : (rest.map fun v => v.category).sum ≤ 8) (d : decode cc pc = .ok (.invokestatic index, 3)) (hf : k ≤ R.cells ∧ n ≤ R.slots)
    {st' : List Value} (e : x.toList ++ rest = st') (kk : xw φ k n w1 (pc + 3) lv st') : xw φ k n w pc lv st :=
  xw_S C hM hg hw hrc hrs hy hR hst hcat d hf (fun v w2 hp => by obtain ⟨rfl, rfl⟩ := hp; rw [e]; exact kk)
end XW
abbrev rmN (f lo : Nat) : Room := { frames := f, cells := 0, slots := 0, locals := lo }
def wX (cI : ClassId) (h a n p b w wi ni : Nat) (A : Nat → Nat) : va_W := [(h, .inr (0, [.ref a, nV n, nV p, nV b, nV w, nV wi, nV ni])), (a, .inl (cI, 80, .inl (fN A)))]
def wM (cI : ClassId) (h r d th n p w b : Nat) (B M : Nat → Nat) : va_W := [(h, .inr (1, [nV th, nV n, nV p, nV w, nV b, .ref r, .ref d])), (r, .inl (cI, 64, .inl (fN B))), (d, .inl (cI, 16, .inl (fN M)))]
end
section
/-! ===== BEGIN printed: names, fields, word lists, decode rows ===== -/
def RX0 : String := "ToneButterflies"
def TX0 : u_T := fun k => match k with
  | 0 => ("ToneButterflies", "numbers", "[I", true)
  | 1 => ("ToneButterflies", "length", "I", false)
  | 2 => ("ToneButterflies", "prime", "I", false)
  | 3 => ("ToneButterflies", "bits", "I", false)
  | 4 => ("ToneButterflies", "unityRoot", "I", false)
  | 5 => ("ToneButterflies", "unityRootInverse", "I", false)
  | _ => ("ToneButterflies", "lengthInverse", "I", false)
def tyX0 : Nat → FieldType := fun k => match k with
  | 0 => .array .int
  | 1 => .int
  | 2 => .int
  | 3 => .int
  | 4 => .int
  | 5 => .int
  | _ => .int
abbrev wsX00 : List Cond := u_ws RX0 TX0 7
theorem nmX0 : ∀ a, a < 7 → ∀ b, b < 7 → a ≠ b → (TX0 a).2.1 ≠ (TX0 b).2.1 := by decide +kernel
theorem tyX0_ok : ∀ k, k < 7 → parseFieldDescriptor (TX0 k).2.2.1 = some (tyX0 k) := by decide +kernel
abbrev cX0_init : ByteArray := prog_1_method_1_code
def yX0_init : MethodName := ⟨RX0, "<init>", "()V"⟩
abbrev cX0_ring : ByteArray := prog_1_method_2_code
def yX0_ring : MethodName := ⟨RX0, "ring", "(II)I"⟩
abbrev cX0_order : ByteArray := prog_1_method_3_code
def yX0_order : MethodName := ⟨RX0, "order", "(I)I"⟩
abbrev cX0_inverse : ByteArray := prog_1_method_4_code
def yX0_inverse : MethodName := ⟨RX0, "inverse", "(I)I"⟩
abbrev cX0_root : ByteArray := prog_1_method_5_code
def yX0_root : MethodName := ⟨RX0, "root", "(I)I"⟩
abbrev cX0_set : ByteArray := prog_1_method_6_code
def yX0_set : MethodName := ⟨RX0, "set", "(III)I"⟩
abbrev cX0_copy : ByteArray := prog_1_method_7_code
def yX0_copy : MethodName := ⟨RX0, "copy", "(II)I"⟩
abbrev cX0_turn : ByteArray := prog_1_method_8_code
def yX0_turn : MethodName := ⟨RX0, "turn", "(IZ)I"⟩
abbrev cX0_mirror : ByteArray := prog_1_method_9_code
def yX0_mirror : MethodName := ⟨RX0, "mirror", "(I)I"⟩
abbrev cX0_stage : ByteArray := prog_1_method_10_code
def yX0_stage : MethodName := ⟨RX0, "stage", "(II)I"⟩
abbrev cX0_fold : ByteArray := prog_1_method_11_code
def yX0_fold : MethodName := ⟨RX0, "fold", "(II)I"⟩
abbrev cX0_join : ByteArray := prog_1_method_12_code
def yX0_join : MethodName := ⟨RX0, "join", "(III)I"⟩
abbrev cX0_move : ByteArray := prog_1_method_13_code
def yX0_move : MethodName := ⟨RX0, "move", "(II)I"⟩
abbrev cX0_times : ByteArray := prog_1_method_14_code
def yX0_times : MethodName := ⟨RX0, "times", "(II)I"⟩
abbrev cX0_at : ByteArray := prog_1_method_15_code
def yX0_at : MethodName := ⟨RX0, "at", "(II)I"⟩
abbrev cX0_point : ByteArray := prog_1_method_16_code
def yX0_point : MethodName := ⟨RX0, "point", "(II)I"⟩
abbrev cX0_about : ByteArray := prog_1_method_17_code
def yX0_about : MethodName := ⟨RX0, "about", "(II)I"⟩
abbrev cX0_count : ByteArray := prog_1_method_18_code
def yX0_count : MethodName := ⟨RX0, "count", "(I)I"⟩
abbrev cX0_would : ByteArray := prog_1_method_19_code
def yX0_would : MethodName := ⟨RX0, "would", "(III)I"⟩
abbrev cX0_comes : ByteArray := prog_1_method_20_code
def yX0_comes : MethodName := ⟨RX0, "comes", "(II)I"⟩
abbrev cX0_advise : ByteArray := prog_1_method_21_code
def yX0_advise : MethodName := ⟨RX0, "advise", "(II)I"⟩
abbrev cX0_tones : ByteArray := prog_1_method_22_code
def yX0_tones : MethodName := ⟨RX0, "tones", "(II)Z"⟩
abbrev cX0_mean : ByteArray := prog_1_method_23_code
def yX0_mean : MethodName := ⟨RX0, "mean", "(I)D"⟩
abbrev cX0_digest : ByteArray := prog_1_method_24_code
def yX0_digest : MethodName := ⟨RX0, "digest", "()J"⟩
abbrev cX0_requireRow : ByteArray := prog_1_method_25_code
def yX0_requireRow : MethodName := ⟨RX0, "requireRow", "(I)V"⟩
abbrev cX0_requirePlace : ByteArray := prog_1_method_26_code
def yX0_requirePlace : MethodName := ⟨RX0, "requirePlace", "(I)V"⟩
abbrev cX0_requireNumber : ByteArray := prog_1_method_27_code
def yX0_requireNumber : MethodName := ⟨RX0, "requireNumber", "(I)V"⟩
abbrev cX0_requireInvertible : ByteArray := prog_1_method_28_code
def yX0_requireInvertible : MethodName := ⟨RX0, "requireInvertible", "(I)V"⟩
abbrev cX0_isLength : ByteArray := prog_1_method_29_code
def yX0_isLength : MethodName := ⟨RX0, "isLength", "(I)Z"⟩
abbrev cX0_isPrimeOfRing : ByteArray := prog_1_method_30_code
def yX0_isPrimeOfRing : MethodName := ⟨RX0, "isPrimeOfRing", "(I)Z"⟩
abbrev cX0_divides : ByteArray := prog_1_method_31_code
def yX0_divides : MethodName := ⟨RX0, "divides", "(II)Z"⟩
abbrev cX0_takeRing : ByteArray := prog_1_method_32_code
def yX0_takeRing : MethodName := ⟨RX0, "takeRing", "(II)V"⟩
abbrev cX0_smallestRoot : ByteArray := prog_1_method_33_code
def yX0_smallestRoot : MethodName := ⟨RX0, "smallestRoot", "()I"⟩
abbrev cX0_reduced : ByteArray := prog_1_method_34_code
def yX0_reduced : MethodName := ⟨RX0, "reduced", "(I)I"⟩
abbrev cX0_powerOf : ByteArray := prog_1_method_35_code
def yX0_powerOf : MethodName := ⟨RX0, "powerOf", "(II)I"⟩
abbrev cX0_inverseOf : ByteArray := prog_1_method_36_code
def yX0_inverseOf : MethodName := ⟨RX0, "inverseOf", "(I)I"⟩
abbrev cX0_joined : ByteArray := prog_1_method_37_code
def yX0_joined : MethodName := ⟨RX0, "joined", "(III)I"⟩
abbrev cX0_wrapped : ByteArray := prog_1_method_38_code
def yX0_wrapped : MethodName := ⟨RX0, "wrapped", "(I)I"⟩
abbrev cX0_mirrored : ByteArray := prog_1_method_39_code
def yX0_mirrored : MethodName := ⟨RX0, "mirrored", "(I)I"⟩
abbrev cX0_read : ByteArray := prog_1_method_40_code
def yX0_read : MethodName := ⟨RX0, "read", "(II)I"⟩
abbrev cX0_write : ByteArray := prog_1_method_41_code
def yX0_write : MethodName := ⟨RX0, "write", "(III)V"⟩
abbrev cX0_copyRow : ByteArray := prog_1_method_42_code
def yX0_copyRow : MethodName := ⟨RX0, "copyRow", "(II)I"⟩
abbrev cX0_butterfly : ByteArray := prog_1_method_43_code
def yX0_butterfly : MethodName := ⟨RX0, "butterfly", "(IIII)V"⟩
abbrev cX0_valueAt : ByteArray := prog_1_method_44_code
def yX0_valueAt : MethodName := ⟨RX0, "valueAt", "(II)I"⟩
abbrev cX0_scratchTones : ByteArray := prog_1_method_45_code
def yX0_scratchTones : MethodName := ⟨RX0, "scratchTones", "(I)V"⟩
abbrev cX0_scratchTurnedBack : ByteArray := prog_1_method_46_code
def yX0_scratchTurnedBack : MethodName := ⟨RX0, "scratchTurnedBack", "(I)V"⟩
abbrev cX0_scratchValues : ByteArray := prog_1_method_47_code
def yX0_scratchValues : MethodName := ⟨RX0, "scratchValues", "(III)V"⟩
abbrev cX0_foldedAt : ByteArray := prog_1_method_48_code
def yX0_foldedAt : MethodName := ⟨RX0, "foldedAt", "(III)I"⟩
abbrev cX0_isWhenMoved : ByteArray := prog_1_method_49_code
def yX0_isWhenMoved : MethodName := ⟨RX0, "isWhenMoved", "(III)Z"⟩
abbrev cX0_soundWhenMoved : ByteArray := prog_1_method_50_code
def yX0_soundWhenMoved : MethodName := ⟨RX0, "soundWhenMoved", "(III)I"⟩
abbrev cX0_counted : ByteArray := prog_1_method_51_code
def yX0_counted : MethodName := ⟨RX0, "counted", "(I)I"⟩
abbrev cX0_told : ByteArray := prog_1_method_52_code
def yX0_told : MethodName := ⟨RX0, "told", "(II)I"⟩
abbrev cX0_plainSum : ByteArray := prog_1_method_53_code
def yX0_plainSum : MethodName := ⟨RX0, "plainSum", "(I)I"⟩
abbrev cX0_nonZeros : ByteArray := prog_1_method_54_code
def yX0_nonZeros : MethodName := ⟨RX0, "nonZeros", "(I)I"⟩
abbrev cX0_lastNonZero : ByteArray := prog_1_method_55_code
def yX0_lastNonZero : MethodName := ⟨RX0, "lastNonZero", "(I)I"⟩
abbrev cX0_period : ByteArray := prog_1_method_56_code
def yX0_period : MethodName := ⟨RX0, "period", "(I)I"⟩
abbrev cX0_greatestNumber : ByteArray := prog_1_method_57_code
def yX0_greatestNumber : MethodName := ⟨RX0, "greatestNumber", "(I)I"⟩
abbrev cX0_digestRow : ByteArray := prog_1_method_58_code
def yX0_digestRow : MethodName := ⟨RX0, "digestRow", "(JI)J"⟩
def RX1 : String := "ToneButterfliesModel"
def TX1 : u_T := fun k => match k with
  | 0 => ("ToneButterfliesModel", "thrown", "I", false)
  | 1 => ("ToneButterfliesModel", "n", "I", false)
  | 2 => ("ToneButterfliesModel", "p", "I", false)
  | 3 => ("ToneButterfliesModel", "w", "I", false)
  | 4 => ("ToneButterfliesModel", "bits", "I", false)
  | 5 => ("ToneButterfliesModel", "rows", "[I", true)
  | _ => ("ToneButterfliesModel", "made", "[I", true)
def tyX1 : Nat → FieldType := fun k => match k with
  | 0 => .int
  | 1 => .int
  | 2 => .int
  | 3 => .int
  | 4 => .int
  | 5 => .array .int
  | _ => .array .int
abbrev wsX10 : List Cond := u_ws RX1 TX1 7
theorem nmX1 : ∀ a, a < 7 → ∀ b, b < 7 → a ≠ b → (TX1 a).2.1 ≠ (TX1 b).2.1 := by decide +kernel
theorem tyX1_ok : ∀ k, k < 7 → parseFieldDescriptor (TX1 k).2.2.1 = some (tyX1 k) := by decide +kernel
abbrev cX1_init : ByteArray := prog_3_method_1_code
def yX1_init : MethodName := ⟨RX1, "<init>", "()V"⟩
abbrev cX1_thrown : ByteArray := prog_3_method_2_code
def yX1_thrown : MethodName := ⟨RX1, "thrown", "()I"⟩
abbrev cX1_no : ByteArray := prog_3_method_3_code
def yX1_no : MethodName := ⟨RX1, "no", "(I)I"⟩
abbrev cX1_isIn : ByteArray := prog_3_method_4_code
def yX1_isIn : MethodName := ⟨RX1, "isIn", "(III)Z"⟩
abbrev cX1_isRow : ByteArray := prog_3_method_5_code
def yX1_isRow : MethodName := ⟨RX1, "isRow", "(I)Z"⟩
abbrev cX1_isPlace : ByteArray := prog_3_method_6_code
def yX1_isPlace : MethodName := ⟨RX1, "isPlace", "(I)Z"⟩
abbrev cX1_its : ByteArray := prog_3_method_7_code
def yX1_its : MethodName := ⟨RX1, "its", "(II)I"⟩
abbrev cX1_plus : ByteArray := prog_3_method_8_code
def yX1_plus : MethodName := ⟨RX1, "plus", "(II)I"⟩
abbrev cX1_minus : ByteArray := prog_3_method_9_code
def yX1_minus : MethodName := ⟨RX1, "minus", "(II)I"⟩
abbrev cX1_by : ByteArray := prog_3_method_10_code
def yX1_by : MethodName := ⟨RX1, "by", "(II)I"⟩
abbrev cX1_power : ByteArray := prog_3_method_11_code
def yX1_power : MethodName := ⟨RX1, "power", "(II)I"⟩
abbrev cX1_inverseOf : ByteArray := prog_3_method_12_code
def yX1_inverseOf : MethodName := ⟨RX1, "inverseOf", "(I)I"⟩
abbrev cX1_orderOf : ByteArray := prog_3_method_13_code
def yX1_orderOf : MethodName := ⟨RX1, "orderOf", "(I)I"⟩
abbrev cX1_isPrime : ByteArray := prog_3_method_14_code
def yX1_isPrime : MethodName := ⟨RX1, "isPrime", "(I)Z"⟩
abbrev cX1_rootOf : ByteArray := prog_3_method_15_code
def yX1_rootOf : MethodName := ⟨RX1, "rootOf", "()I"⟩
abbrev cX1_ring : ByteArray := prog_3_method_16_code
def yX1_ring : MethodName := ⟨RX1, "ring", "(II)I"⟩
abbrev cX1_isUnit : ByteArray := prog_3_method_17_code
def yX1_isUnit : MethodName := ⟨RX1, "isUnit", "(I)Z"⟩
abbrev cX1_order : ByteArray := prog_3_method_18_code
def yX1_order : MethodName := ⟨RX1, "order", "(I)I"⟩
abbrev cX1_inverse : ByteArray := prog_3_method_19_code
def yX1_inverse : MethodName := ⟨RX1, "inverse", "(I)I"⟩
abbrev cX1_root : ByteArray := prog_3_method_20_code
def yX1_root : MethodName := ⟨RX1, "root", "(I)I"⟩
abbrev cX1_lay : ByteArray := prog_3_method_21_code
def yX1_lay : MethodName := ⟨RX1, "lay", "(I)V"⟩
abbrev cX1_changes : ByteArray := prog_3_method_22_code
def yX1_changes : MethodName := ⟨RX1, "changes", "(I)I"⟩
abbrev cX1_others : ByteArray := prog_3_method_23_code
def yX1_others : MethodName := ⟨RX1, "others", "(I)I"⟩
abbrev cX1_pointOf : ByteArray := prog_3_method_24_code
def yX1_pointOf : MethodName := ⟨RX1, "pointOf", "(II)I"⟩
abbrev cX1_makeTones : ByteArray := prog_3_method_25_code
def yX1_makeTones : MethodName := ⟨RX1, "makeTones", "(III)V"⟩
abbrev cX1_folded : ByteArray := prog_3_method_26_code
def yX1_folded : MethodName := ⟨RX1, "folded", "(III)I"⟩
abbrev cX1_mirrored : ByteArray := prog_3_method_27_code
def yX1_mirrored : MethodName := ⟨RX1, "mirrored", "(I)I"⟩
abbrev cX1_set : ByteArray := prog_3_method_28_code
def yX1_set : MethodName := ⟨RX1, "set", "(III)I"⟩
abbrev cX1_copy : ByteArray := prog_3_method_29_code
def yX1_copy : MethodName := ⟨RX1, "copy", "(II)I"⟩
abbrev cX1_turn : ByteArray := prog_3_method_30_code
def yX1_turn : MethodName := ⟨RX1, "turn", "(IZ)I"⟩
abbrev cX1_mirror : ByteArray := prog_3_method_31_code
def yX1_mirror : MethodName := ⟨RX1, "mirror", "(I)I"⟩
abbrev cX1_stage : ByteArray := prog_3_method_32_code
def yX1_stage : MethodName := ⟨RX1, "stage", "(II)I"⟩
abbrev cX1_fold : ByteArray := prog_3_method_33_code
def yX1_fold : MethodName := ⟨RX1, "fold", "(II)I"⟩
abbrev cX1_join : ByteArray := prog_3_method_34_code
def yX1_join : MethodName := ⟨RX1, "join", "(III)I"⟩
abbrev cX1_move : ByteArray := prog_3_method_35_code
def yX1_move : MethodName := ⟨RX1, "move", "(II)I"⟩
abbrev cX1_times : ByteArray := prog_3_method_36_code
def yX1_times : MethodName := ⟨RX1, "times", "(II)I"⟩
abbrev cX1_at : ByteArray := prog_3_method_37_code
def yX1_at : MethodName := ⟨RX1, "at", "(II)I"⟩
abbrev cX1_point : ByteArray := prog_3_method_38_code
def yX1_point : MethodName := ⟨RX1, "point", "(II)I"⟩
abbrev cX1_isMoved : ByteArray := prog_3_method_39_code
def yX1_isMoved : MethodName := ⟨RX1, "isMoved", "(III)Z"⟩
abbrev cX1_aboutTold : ByteArray := prog_3_method_40_code
def yX1_aboutTold : MethodName := ⟨RX1, "aboutTold", "(II)I"⟩
abbrev cX1_about : ByteArray := prog_3_method_41_code
def yX1_about : MethodName := ⟨RX1, "about", "(II)I"⟩
abbrev cX1_counted : ByteArray := prog_3_method_42_code
def yX1_counted : MethodName := ⟨RX1, "counted", "(I)I"⟩
abbrev cX1_count : ByteArray := prog_3_method_43_code
def yX1_count : MethodName := ⟨RX1, "count", "(I)I"⟩
abbrev cX1_would : ByteArray := prog_3_method_44_code
def yX1_would : MethodName := ⟨RX1, "would", "(III)I"⟩
abbrev cX1_comesBy : ByteArray := prog_3_method_45_code
def yX1_comesBy : MethodName := ⟨RX1, "comesBy", "(II)I"⟩
abbrev cX1_comes : ByteArray := prog_3_method_46_code
def yX1_comes : MethodName := ⟨RX1, "comes", "(II)I"⟩
abbrev cX1_together : ByteArray := prog_3_method_47_code
def yX1_together : MethodName := ⟨RX1, "together", "(III)I"⟩
abbrev cX1_advise : ByteArray := prog_3_method_48_code
def yX1_advise : MethodName := ⟨RX1, "advise", "(II)I"⟩
abbrev cX1_areTones : ByteArray := prog_3_method_49_code
def yX1_areTones : MethodName := ⟨RX1, "areTones", "(II)Z"⟩
abbrev cX1_tones : ByteArray := prog_3_method_50_code
def yX1_tones : MethodName := ⟨RX1, "tones", "(II)Z"⟩
abbrev cX1_mean : ByteArray := prog_3_method_51_code
def yX1_mean : MethodName := ⟨RX1, "mean", "(I)D"⟩
abbrev cX1_digest : ByteArray := prog_3_method_52_code
def yX1_digest : MethodName := ⟨RX1, "digest", "()J"⟩
def RJ9 : String := "java/lang/Math"
def TJ9 : u_T := fun k => match k with
  | _ => ("", "", "", false)
def tyJ9 : Nat → FieldType := fun k => match k with
  | _ => .int
abbrev wsJ90 : List Cond := u_ws RJ9 TJ9 0
theorem nmJ9 : ∀ a, a < 0 → ∀ b, b < 0 → a ≠ b → (TJ9 a).2.1 ≠ (TJ9 b).2.1 := by decide +kernel
theorem tyJ9_ok : ∀ k, k < 0 → parseFieldDescriptor (TJ9 k).2.2.1 = some (tyJ9 k) := by decide +kernel
abbrev cJ9_floorMod_7cf53 : ByteArray := prog_7_method_50_code
def yJ9_floorMod_7cf53 : MethodName := ⟨RJ9, "floorMod", "(II)I"⟩
abbrev cJ9_max_7cf53 : ByteArray := prog_7_method_65_code
def yJ9_max_7cf53 : MethodName := ⟨RJ9, "max", "(II)I"⟩
def RJ0 : String := "java/lang/String"
def TJ0 : u_T := fun k => match k with
  | _ => ("", "", "", false)
def tyJ0 : Nat → FieldType := fun k => match k with
  | _ => .int
abbrev wsJ00 : List Cond := u_ws RJ0 TJ0 0
theorem nmJ0 : ∀ a, a < 0 → ∀ b, b < 0 → a ≠ b → (TJ0 a).2.1 ≠ (TJ0 b).2.1 := by decide +kernel
theorem tyJ0_ok : ∀ k, k < 0 → parseFieldDescriptor (TJ0 k).2.2.1 = some (tyJ0 k) := by decide +kernel
def RJ10 : String := "java/lang/System"
def TJ10 : u_T := fun k => match k with
  | _ => ("", "", "", false)
def tyJ10 : Nat → FieldType := fun k => match k with
  | _ => .int
abbrev wsJ100 : List Cond := u_ws RJ10 TJ10 0
theorem nmJ10 : ∀ a, a < 0 → ∀ b, b < 0 → a ≠ b → (TJ10 a).2.1 ≠ (TJ10 b).2.1 := by decide +kernel
theorem tyJ10_ok : ∀ k, k < 0 → parseFieldDescriptor (TJ10 k).2.2.1 = some (tyJ10 k) := by decide +kernel
def RL : String := "ToneButterfliesLaw"
abbrev cL_ring : ByteArray := method_3_code
def yL_ring : MethodName := ⟨RL, "ring", "(LToneButterflies;II[J)I"⟩
abbrev cL_order : ByteArray := method_4_code
def yL_order : MethodName := ⟨RL, "order", "(LToneButterflies;I[J)I"⟩
abbrev cL_inverse : ByteArray := method_5_code
def yL_inverse : MethodName := ⟨RL, "inverse", "(LToneButterflies;I[J)I"⟩
abbrev cL_root : ByteArray := method_6_code
def yL_root : MethodName := ⟨RL, "root", "(LToneButterflies;I[J)I"⟩
abbrev cL_set : ByteArray := method_7_code
def yL_set : MethodName := ⟨RL, "set", "(LToneButterflies;III[J)I"⟩
abbrev cL_copy : ByteArray := method_8_code
def yL_copy : MethodName := ⟨RL, "copy", "(LToneButterflies;II[J)I"⟩
abbrev cL_turn : ByteArray := method_9_code
def yL_turn : MethodName := ⟨RL, "turn", "(LToneButterflies;IZ[J)I"⟩
abbrev cL_mirror : ByteArray := method_10_code
def yL_mirror : MethodName := ⟨RL, "mirror", "(LToneButterflies;I[J)I"⟩
abbrev cL_stage : ByteArray := method_11_code
def yL_stage : MethodName := ⟨RL, "stage", "(LToneButterflies;II[J)I"⟩
abbrev cL_fold : ByteArray := method_12_code
def yL_fold : MethodName := ⟨RL, "fold", "(LToneButterflies;II[J)I"⟩
abbrev cL_join : ByteArray := method_13_code
def yL_join : MethodName := ⟨RL, "join", "(LToneButterflies;III[J)I"⟩
abbrev cL_move : ByteArray := method_14_code
def yL_move : MethodName := ⟨RL, "move", "(LToneButterflies;II[J)I"⟩
abbrev cL_times : ByteArray := method_15_code
def yL_times : MethodName := ⟨RL, "times", "(LToneButterflies;II[J)I"⟩
abbrev cL_at : ByteArray := method_16_code
def yL_at : MethodName := ⟨RL, "at", "(LToneButterflies;II[J)I"⟩
abbrev cL_point : ByteArray := method_17_code
def yL_point : MethodName := ⟨RL, "point", "(LToneButterflies;II[J)I"⟩
abbrev cL_about : ByteArray := method_18_code
def yL_about : MethodName := ⟨RL, "about", "(LToneButterflies;II[J)I"⟩
abbrev cL_count : ByteArray := method_19_code
def yL_count : MethodName := ⟨RL, "count", "(LToneButterflies;I[J)I"⟩
abbrev cL_would : ByteArray := method_20_code
def yL_would : MethodName := ⟨RL, "would", "(LToneButterflies;III[J)I"⟩
abbrev cL_comes : ByteArray := method_21_code
def yL_comes : MethodName := ⟨RL, "comes", "(LToneButterflies;II[J)I"⟩
abbrev cL_advise : ByteArray := method_22_code
def yL_advise : MethodName := ⟨RL, "advise", "(LToneButterflies;II[J)I"⟩
abbrev cL_tones : ByteArray := method_23_code
def yL_tones : MethodName := ⟨RL, "tones", "(LToneButterflies;II[J)I"⟩
abbrev cL_mean : ByteArray := method_24_code
def yL_mean : MethodName := ⟨RL, "mean", "(LToneButterflies;I[D)I"⟩
abbrev cL_law : ByteArray := code
def yL_law : MethodName := ⟨RL, "law", "([I)Z"⟩
def wsJ9_floorMod_7cf53 : List Cond := .code yJ9_floorMod_7cf53 cJ9_floorMod_7cf53 3 (some .int) :: ([])
def wsX0_reduced : List Cond := .code yX0_reduced cX0_reduced 2 (some .int) :: ([.fieldLink RX0 43 "ToneButterflies" "prime" "I", .methodLink RX0 168 yJ9_floorMod_7cf53, .static yJ9_floorMod_7cf53, .initialized RJ9, .code yJ9_floorMod_7cf53 cJ9_floorMod_7cf53 3 (some .int)] ++ wsX00)
def wsX0_powerOf : List Cond := .code yX0_powerOf cX0_powerOf 6 (some .int) :: ([.methodLink RX0 46 yX0_reduced, .instanceMethod yX0_reduced, .selects RX0 yX0_reduced yX0_reduced, .initialized RX0, .code yX0_reduced cX0_reduced 2 (some .int), .fieldLink RX0 43 "ToneButterflies" "prime" "I", .methodLink RX0 168 yJ9_floorMod_7cf53, .static yJ9_floorMod_7cf53, .initialized RJ9, .code yJ9_floorMod_7cf53 cJ9_floorMod_7cf53 3 (some .int)] ++ wsX00)
def wsX0_smallestRoot : List Cond := .code yX0_smallestRoot cX0_smallestRoot 2 (some .int) :: ([.fieldLink RX0 43 "ToneButterflies" "prime" "I", .fieldLink RX0 84 "ToneButterflies" "length" "I", .methodLink RX0 55 yX0_powerOf, .instanceMethod yX0_powerOf, .selects RX0 yX0_powerOf yX0_powerOf, .initialized RX0, .code yX0_powerOf cX0_powerOf 6 (some .int), .methodLink RX0 46 yX0_reduced, .instanceMethod yX0_reduced, .selects RX0 yX0_reduced yX0_reduced, .code yX0_reduced cX0_reduced 2 (some .int), .methodLink RX0 168 yJ9_floorMod_7cf53, .static yJ9_floorMod_7cf53, .initialized RJ9, .code yJ9_floorMod_7cf53 cJ9_floorMod_7cf53 3 (some .int)] ++ wsX00)
def wsX0_inverseOf : List Cond := .code yX0_inverseOf cX0_inverseOf 2 (some .int) :: ([.fieldLink RX0 43 "ToneButterflies" "prime" "I", .methodLink RX0 55 yX0_powerOf, .instanceMethod yX0_powerOf, .selects RX0 yX0_powerOf yX0_powerOf, .initialized RX0, .code yX0_powerOf cX0_powerOf 6 (some .int), .methodLink RX0 46 yX0_reduced, .instanceMethod yX0_reduced, .selects RX0 yX0_reduced yX0_reduced, .code yX0_reduced cX0_reduced 2 (some .int), .methodLink RX0 168 yJ9_floorMod_7cf53, .static yJ9_floorMod_7cf53, .initialized RJ9, .code yJ9_floorMod_7cf53 cJ9_floorMod_7cf53 3 (some .int)] ++ wsX00)
def wsX0_takeRing_r1 : List Cond := [Cond.fieldLink RX0 84 "ToneButterflies" "length" "I", Cond.fieldLink RX0 43 "ToneButterflies" "prime" "I", Cond.fieldLink RX0 90 "ToneButterflies" "bits" "I", Cond.fieldLink RX0 35 "ToneButterflies" "unityRoot" "I", Cond.fieldLink RX0 162 "ToneButterflies" "unityRootInverse" "I", Cond.fieldLink RX0 165 "ToneButterflies" "lengthInverse" "I", Cond.fieldLink RX0 9 "ToneButterflies" "numbers" "[I", Cond.methodLink RX0 158 yX0_smallestRoot, Cond.instanceMethod yX0_smallestRoot, Cond.selects RX0 yX0_smallestRoot yX0_smallestRoot, Cond.initialized RX0, Cond.code yX0_smallestRoot cX0_smallestRoot 2 (some .int), Cond.methodLink RX0 55 yX0_powerOf, Cond.instanceMethod yX0_powerOf, Cond.selects RX0 yX0_powerOf yX0_powerOf, Cond.code yX0_powerOf cX0_powerOf 6 (some .int), Cond.methodLink RX0 46 yX0_reduced, Cond.instanceMethod yX0_reduced, Cond.selects RX0 yX0_reduced yX0_reduced, Cond.code yX0_reduced cX0_reduced 2 (some .int), Cond.methodLink RX0 168 yJ9_floorMod_7cf53, Cond.static yJ9_floorMod_7cf53, Cond.initialized RJ9, Cond.code yJ9_floorMod_7cf53 cJ9_floorMod_7cf53 3 (some .int)]
def wsX0_takeRing_r2 : List Cond := [Cond.methodLink RX0 50 yX0_inverseOf, Cond.instanceMethod yX0_inverseOf, Cond.selects RX0 yX0_inverseOf yX0_inverseOf, Cond.code yX0_inverseOf cX0_inverseOf 2 (some .int)]
def wsX0_takeRing : List Cond := .code yX0_takeRing cX0_takeRing 4 none :: ((wsX0_takeRing_r1 ++ wsX0_takeRing_r2) ++ wsX00)
def wsX0_init_r1 : List Cond := [Cond.methodLink RX0 3 objectInit, Cond.instanceMethod objectInit, Cond.code objectInit ⟨#[0xb1]⟩ 1 none, Cond.arrayClass .int, Cond.fieldLink RX0 9 "ToneButterflies" "numbers" "[I", Cond.methodLink RX0 13 yX0_takeRing, Cond.instanceMethod yX0_takeRing, Cond.selects RX0 yX0_takeRing yX0_takeRing, Cond.initialized RX0, Cond.code yX0_takeRing cX0_takeRing 4 none, Cond.fieldLink RX0 84 "ToneButterflies" "length" "I", Cond.fieldLink RX0 43 "ToneButterflies" "prime" "I", Cond.fieldLink RX0 90 "ToneButterflies" "bits" "I", Cond.fieldLink RX0 35 "ToneButterflies" "unityRoot" "I", Cond.fieldLink RX0 162 "ToneButterflies" "unityRootInverse" "I", Cond.fieldLink RX0 165 "ToneButterflies" "lengthInverse" "I", Cond.methodLink RX0 158 yX0_smallestRoot, Cond.instanceMethod yX0_smallestRoot, Cond.selects RX0 yX0_smallestRoot yX0_smallestRoot, Cond.code yX0_smallestRoot cX0_smallestRoot 2 (some .int), Cond.methodLink RX0 55 yX0_powerOf, Cond.instanceMethod yX0_powerOf, Cond.selects RX0 yX0_powerOf yX0_powerOf, Cond.code yX0_powerOf cX0_powerOf 6 (some .int)]
def wsX0_init_r2 : List Cond := [Cond.methodLink RX0 46 yX0_reduced, Cond.instanceMethod yX0_reduced, Cond.selects RX0 yX0_reduced yX0_reduced, Cond.code yX0_reduced cX0_reduced 2 (some .int), Cond.methodLink RX0 168 yJ9_floorMod_7cf53, Cond.static yJ9_floorMod_7cf53, Cond.initialized RJ9, Cond.code yJ9_floorMod_7cf53 cJ9_floorMod_7cf53 3 (some .int), Cond.methodLink RX0 50 yX0_inverseOf, Cond.instanceMethod yX0_inverseOf, Cond.selects RX0 yX0_inverseOf yX0_inverseOf, Cond.code yX0_inverseOf cX0_inverseOf 2 (some .int)]
def wsX0_init : List Cond := .code yX0_init cX0_init 1 none :: ((wsX0_init_r1 ++ wsX0_init_r2) ++ wsX00)
def wsX0_isLength : List Cond := .code yX0_isLength cX0_isLength 1 (some .boolean) :: ([])
def wsX0_divides : List Cond := .code yX0_divides cX0_divides 2 (some .boolean) :: ([])
def wsX0_isPrimeOfRing : List Cond := .code yX0_isPrimeOfRing cX0_isPrimeOfRing 2 (some .boolean) :: ([.methodLink RX0 24 yX0_divides, .static yX0_divides, .initialized RX0, .code yX0_divides cX0_divides 2 (some .boolean)])
def wsX0_ring_r1 : List Cond := [Cond.classLink RX0 28 "java/lang/IllegalArgumentException", Cond.initialized "java/lang/IllegalArgumentException", Cond.fieldLink RX0 35 "ToneButterflies" "unityRoot" "I", Cond.methodLink RX0 17 yX0_isLength, Cond.static yX0_isLength, Cond.initialized RX0, Cond.code yX0_isLength cX0_isLength 1 (some .boolean), Cond.methodLink RX0 21 yX0_isPrimeOfRing, Cond.static yX0_isPrimeOfRing, Cond.code yX0_isPrimeOfRing cX0_isPrimeOfRing 2 (some .boolean), Cond.methodLink RX0 24 yX0_divides, Cond.static yX0_divides, Cond.code yX0_divides cX0_divides 2 (some .boolean), Cond.methodLink RX0 13 yX0_takeRing, Cond.instanceMethod yX0_takeRing, Cond.selects RX0 yX0_takeRing yX0_takeRing, Cond.code yX0_takeRing cX0_takeRing 4 none, Cond.fieldLink RX0 84 "ToneButterflies" "length" "I", Cond.fieldLink RX0 43 "ToneButterflies" "prime" "I", Cond.fieldLink RX0 90 "ToneButterflies" "bits" "I", Cond.fieldLink RX0 162 "ToneButterflies" "unityRootInverse" "I", Cond.fieldLink RX0 165 "ToneButterflies" "lengthInverse" "I", Cond.fieldLink RX0 9 "ToneButterflies" "numbers" "[I", Cond.methodLink RX0 158 yX0_smallestRoot]
def wsX0_ring_r2 : List Cond := [Cond.instanceMethod yX0_smallestRoot, Cond.selects RX0 yX0_smallestRoot yX0_smallestRoot, Cond.code yX0_smallestRoot cX0_smallestRoot 2 (some .int), Cond.methodLink RX0 55 yX0_powerOf, Cond.instanceMethod yX0_powerOf, Cond.selects RX0 yX0_powerOf yX0_powerOf, Cond.code yX0_powerOf cX0_powerOf 6 (some .int), Cond.methodLink RX0 46 yX0_reduced, Cond.instanceMethod yX0_reduced, Cond.selects RX0 yX0_reduced yX0_reduced, Cond.code yX0_reduced cX0_reduced 2 (some .int), Cond.methodLink RX0 168 yJ9_floorMod_7cf53, Cond.static yJ9_floorMod_7cf53, Cond.initialized RJ9, Cond.code yJ9_floorMod_7cf53 cJ9_floorMod_7cf53 3 (some .int), Cond.methodLink RX0 50 yX0_inverseOf, Cond.instanceMethod yX0_inverseOf, Cond.selects RX0 yX0_inverseOf yX0_inverseOf, Cond.code yX0_inverseOf cX0_inverseOf 2 (some .int)]
def wsX0_ring : List Cond := .code yX0_ring cX0_ring 3 (some .int) :: ((wsX0_ring_r1 ++ wsX0_ring_r2) ++ wsX00 ++ (vx_atS RX0 32 "java/lang/IllegalArgumentException" ["java/lang/RuntimeException", "java/lang/Exception"]).filter goodWord)
def wsX0_requireInvertible : List Cond := .code yX0_requireInvertible cX0_requireInvertible 2 none :: ([.classLink RX0 28 "java/lang/IllegalArgumentException", .initialized "java/lang/IllegalArgumentException", .fieldLink RX0 43 "ToneButterflies" "prime" "I"] ++ wsX00 ++ (vx_atS RX0 32 "java/lang/IllegalArgumentException" ["java/lang/RuntimeException", "java/lang/Exception"]).filter goodWord)
def wsX0_order : List Cond := .code yX0_order cX0_order 4 (some .int) :: ([.fieldLink RX0 43 "ToneButterflies" "prime" "I", .methodLink RX0 39 yX0_requireInvertible, .instanceMethod yX0_requireInvertible, .selects RX0 yX0_requireInvertible yX0_requireInvertible, .initialized RX0, .code yX0_requireInvertible cX0_requireInvertible 2 none, .classLink RX0 28 "java/lang/IllegalArgumentException", .initialized "java/lang/IllegalArgumentException", .methodLink RX0 46 yX0_reduced, .instanceMethod yX0_reduced, .selects RX0 yX0_reduced yX0_reduced, .code yX0_reduced cX0_reduced 2 (some .int), .methodLink RX0 168 yJ9_floorMod_7cf53, .static yJ9_floorMod_7cf53, .initialized RJ9, .code yJ9_floorMod_7cf53 cJ9_floorMod_7cf53 3 (some .int)] ++ wsX00 ++ (vx_atS RX0 32 "java/lang/IllegalArgumentException" ["java/lang/RuntimeException", "java/lang/Exception"]).filter goodWord)
def wsX0_inverse : List Cond := .code yX0_inverse cX0_inverse 2 (some .int) :: ([.methodLink RX0 39 yX0_requireInvertible, .instanceMethod yX0_requireInvertible, .selects RX0 yX0_requireInvertible yX0_requireInvertible, .initialized RX0, .code yX0_requireInvertible cX0_requireInvertible 2 none, .classLink RX0 28 "java/lang/IllegalArgumentException", .initialized "java/lang/IllegalArgumentException", .fieldLink RX0 43 "ToneButterflies" "prime" "I", .methodLink RX0 50 yX0_inverseOf, .instanceMethod yX0_inverseOf, .selects RX0 yX0_inverseOf yX0_inverseOf, .code yX0_inverseOf cX0_inverseOf 2 (some .int), .methodLink RX0 55 yX0_powerOf, .instanceMethod yX0_powerOf, .selects RX0 yX0_powerOf yX0_powerOf, .code yX0_powerOf cX0_powerOf 6 (some .int), .methodLink RX0 46 yX0_reduced, .instanceMethod yX0_reduced, .selects RX0 yX0_reduced yX0_reduced, .code yX0_reduced cX0_reduced 2 (some .int), .methodLink RX0 168 yJ9_floorMod_7cf53, .static yJ9_floorMod_7cf53, .initialized RJ9, .code yJ9_floorMod_7cf53 cJ9_floorMod_7cf53 3 (some .int)] ++ wsX00 ++ (vx_atS RX0 32 "java/lang/IllegalArgumentException" ["java/lang/RuntimeException", "java/lang/Exception"]).filter goodWord)
def wsX0_root : List Cond := .code yX0_root cX0_root 2 (some .int) :: ([.classLink RX0 28 "java/lang/IllegalArgumentException", .initialized "java/lang/IllegalArgumentException", .fieldLink RX0 35 "ToneButterflies" "unityRoot" "I", .methodLink RX0 55 yX0_powerOf, .instanceMethod yX0_powerOf, .selects RX0 yX0_powerOf yX0_powerOf, .initialized RX0, .code yX0_powerOf cX0_powerOf 6 (some .int), .methodLink RX0 46 yX0_reduced, .instanceMethod yX0_reduced, .selects RX0 yX0_reduced yX0_reduced, .code yX0_reduced cX0_reduced 2 (some .int), .fieldLink RX0 43 "ToneButterflies" "prime" "I", .methodLink RX0 168 yJ9_floorMod_7cf53, .static yJ9_floorMod_7cf53, .initialized RJ9, .code yJ9_floorMod_7cf53 cJ9_floorMod_7cf53 3 (some .int)] ++ wsX00 ++ (vx_atS RX0 32 "java/lang/IllegalArgumentException" ["java/lang/RuntimeException", "java/lang/Exception"]).filter goodWord)
def wsX0_requireRow : List Cond := .code yX0_requireRow cX0_requireRow 2 none :: ([.classLink RX0 93 "java/lang/IndexOutOfBoundsException", .initialized "java/lang/IndexOutOfBoundsException"] ++ (vx_atS RX0 97 "java/lang/IndexOutOfBoundsException" ["java/lang/RuntimeException", "java/lang/Exception"]).filter goodWord)
def wsX0_requirePlace : List Cond := .code yX0_requirePlace cX0_requirePlace 2 none :: ([.classLink RX0 93 "java/lang/IndexOutOfBoundsException", .initialized "java/lang/IndexOutOfBoundsException", .fieldLink RX0 84 "ToneButterflies" "length" "I"] ++ wsX00 ++ (vx_atS RX0 97 "java/lang/IndexOutOfBoundsException" ["java/lang/RuntimeException", "java/lang/Exception"]).filter goodWord)
def wsX0_requireNumber : List Cond := .code yX0_requireNumber cX0_requireNumber 2 none :: ([.classLink RX0 28 "java/lang/IllegalArgumentException", .initialized "java/lang/IllegalArgumentException", .fieldLink RX0 43 "ToneButterflies" "prime" "I"] ++ wsX00 ++ (vx_atS RX0 32 "java/lang/IllegalArgumentException" ["java/lang/RuntimeException", "java/lang/Exception"]).filter goodWord)
def wsX0_read : List Cond := .code yX0_read cX0_read 4 (some .int) :: ([.fieldLink RX0 9 "ToneButterflies" "numbers" "[I"] ++ wsX00)
def wsX0_write : List Cond := .code yX0_write cX0_write 5 none :: ([.fieldLink RX0 9 "ToneButterflies" "numbers" "[I"] ++ wsX00)
def wsX0_set_r1 : List Cond := [Cond.methodLink RX0 59 yX0_requireRow, Cond.instanceMethod yX0_requireRow, Cond.selects RX0 yX0_requireRow yX0_requireRow, Cond.initialized RX0, Cond.code yX0_requireRow cX0_requireRow 2 none, Cond.classLink RX0 93 "java/lang/IndexOutOfBoundsException", Cond.initialized "java/lang/IndexOutOfBoundsException", Cond.methodLink RX0 62 yX0_requirePlace, Cond.instanceMethod yX0_requirePlace, Cond.selects RX0 yX0_requirePlace yX0_requirePlace, Cond.code yX0_requirePlace cX0_requirePlace 2 none, Cond.fieldLink RX0 84 "ToneButterflies" "length" "I", Cond.methodLink RX0 65 yX0_requireNumber, Cond.instanceMethod yX0_requireNumber, Cond.selects RX0 yX0_requireNumber yX0_requireNumber, Cond.code yX0_requireNumber cX0_requireNumber 2 none, Cond.classLink RX0 28 "java/lang/IllegalArgumentException", Cond.initialized "java/lang/IllegalArgumentException", Cond.fieldLink RX0 43 "ToneButterflies" "prime" "I", Cond.methodLink RX0 68 yX0_read, Cond.instanceMethod yX0_read, Cond.selects RX0 yX0_read yX0_read, Cond.code yX0_read cX0_read 4 (some .int), Cond.fieldLink RX0 9 "ToneButterflies" "numbers" "[I"]
def wsX0_set_r2 : List Cond := [Cond.methodLink RX0 71 yX0_write, Cond.instanceMethod yX0_write, Cond.selects RX0 yX0_write yX0_write, Cond.code yX0_write cX0_write 5 none]
def wsX0_set : List Cond := .code yX0_set cX0_set 5 (some .int) :: ((wsX0_set_r1 ++ wsX0_set_r2) ++ wsX00 ++ (vx_atS RX0 97 "java/lang/IndexOutOfBoundsException" ["java/lang/RuntimeException", "java/lang/Exception"]).filter goodWord ++ (vx_atS RX0 32 "java/lang/IllegalArgumentException" ["java/lang/RuntimeException", "java/lang/Exception"]).filter goodWord)
def wsX0_copyRow : List Cond := .code yX0_copyRow cX0_copyRow 6 (some .int) :: ([.fieldLink RX0 84 "ToneButterflies" "length" "I", .methodLink RX0 68 yX0_read, .instanceMethod yX0_read, .selects RX0 yX0_read yX0_read, .initialized RX0, .code yX0_read cX0_read 4 (some .int), .fieldLink RX0 9 "ToneButterflies" "numbers" "[I", .methodLink RX0 71 yX0_write, .instanceMethod yX0_write, .selects RX0 yX0_write yX0_write, .code yX0_write cX0_write 5 none] ++ wsX00)
def wsX0_copy : List Cond := .code yX0_copy cX0_copy 3 (some .int) :: ([.methodLink RX0 59 yX0_requireRow, .instanceMethod yX0_requireRow, .selects RX0 yX0_requireRow yX0_requireRow, .initialized RX0, .code yX0_requireRow cX0_requireRow 2 none, .classLink RX0 93 "java/lang/IndexOutOfBoundsException", .initialized "java/lang/IndexOutOfBoundsException", .methodLink RX0 75 yX0_copyRow, .instanceMethod yX0_copyRow, .selects RX0 yX0_copyRow yX0_copyRow, .code yX0_copyRow cX0_copyRow 6 (some .int), .fieldLink RX0 84 "ToneButterflies" "length" "I", .methodLink RX0 68 yX0_read, .instanceMethod yX0_read, .selects RX0 yX0_read yX0_read, .code yX0_read cX0_read 4 (some .int), .fieldLink RX0 9 "ToneButterflies" "numbers" "[I", .methodLink RX0 71 yX0_write, .instanceMethod yX0_write, .selects RX0 yX0_write yX0_write, .code yX0_write cX0_write 5 none] ++ wsX00 ++ (vx_atS RX0 97 "java/lang/IndexOutOfBoundsException" ["java/lang/RuntimeException", "java/lang/Exception"]).filter goodWord)
def wsX0_valueAt : List Cond := .code yX0_valueAt cX0_valueAt 5 (some .int) :: ([.fieldLink RX0 84 "ToneButterflies" "length" "I", .methodLink RX0 68 yX0_read, .instanceMethod yX0_read, .selects RX0 yX0_read yX0_read, .initialized RX0, .code yX0_read cX0_read 4 (some .int), .fieldLink RX0 9 "ToneButterflies" "numbers" "[I", .methodLink RX0 46 yX0_reduced, .instanceMethod yX0_reduced, .selects RX0 yX0_reduced yX0_reduced, .code yX0_reduced cX0_reduced 2 (some .int), .fieldLink RX0 43 "ToneButterflies" "prime" "I", .methodLink RX0 168 yJ9_floorMod_7cf53, .static yJ9_floorMod_7cf53, .initialized RJ9, .code yJ9_floorMod_7cf53 cJ9_floorMod_7cf53 3 (some .int)] ++ wsX00)
def wsX0_scratchValues : List Cond := .code yX0_scratchValues cX0_scratchValues 6 none :: ([.fieldLink RX0 84 "ToneButterflies" "length" "I", .methodLink RX0 119 yX0_valueAt, .instanceMethod yX0_valueAt, .selects RX0 yX0_valueAt yX0_valueAt, .initialized RX0, .code yX0_valueAt cX0_valueAt 5 (some .int), .methodLink RX0 68 yX0_read, .instanceMethod yX0_read, .selects RX0 yX0_read yX0_read, .code yX0_read cX0_read 4 (some .int), .fieldLink RX0 9 "ToneButterflies" "numbers" "[I", .methodLink RX0 46 yX0_reduced, .instanceMethod yX0_reduced, .selects RX0 yX0_reduced yX0_reduced, .code yX0_reduced cX0_reduced 2 (some .int), .fieldLink RX0 43 "ToneButterflies" "prime" "I", .methodLink RX0 168 yJ9_floorMod_7cf53, .static yJ9_floorMod_7cf53, .initialized RJ9, .code yJ9_floorMod_7cf53 cJ9_floorMod_7cf53 3 (some .int), .methodLink RX0 71 yX0_write, .instanceMethod yX0_write, .selects RX0 yX0_write yX0_write, .code yX0_write cX0_write 5 none] ++ wsX00)
def wsX0_scratchTurnedBack_r1 : List Cond := [Cond.fieldLink RX0 162 "ToneButterflies" "unityRootInverse" "I", Cond.fieldLink RX0 165 "ToneButterflies" "lengthInverse" "I", Cond.methodLink RX0 173 yX0_scratchValues, Cond.instanceMethod yX0_scratchValues, Cond.selects RX0 yX0_scratchValues yX0_scratchValues, Cond.initialized RX0, Cond.code yX0_scratchValues cX0_scratchValues 6 none, Cond.fieldLink RX0 84 "ToneButterflies" "length" "I", Cond.methodLink RX0 119 yX0_valueAt, Cond.instanceMethod yX0_valueAt, Cond.selects RX0 yX0_valueAt yX0_valueAt, Cond.code yX0_valueAt cX0_valueAt 5 (some .int), Cond.methodLink RX0 68 yX0_read, Cond.instanceMethod yX0_read, Cond.selects RX0 yX0_read yX0_read, Cond.code yX0_read cX0_read 4 (some .int), Cond.fieldLink RX0 9 "ToneButterflies" "numbers" "[I", Cond.methodLink RX0 46 yX0_reduced, Cond.instanceMethod yX0_reduced, Cond.selects RX0 yX0_reduced yX0_reduced, Cond.code yX0_reduced cX0_reduced 2 (some .int), Cond.fieldLink RX0 43 "ToneButterflies" "prime" "I", Cond.methodLink RX0 168 yJ9_floorMod_7cf53, Cond.static yJ9_floorMod_7cf53]
def wsX0_scratchTurnedBack_r2 : List Cond := [Cond.initialized RJ9, Cond.code yJ9_floorMod_7cf53 cJ9_floorMod_7cf53 3 (some .int), Cond.methodLink RX0 71 yX0_write, Cond.instanceMethod yX0_write, Cond.selects RX0 yX0_write yX0_write, Cond.code yX0_write cX0_write 5 none]
def wsX0_scratchTurnedBack : List Cond := .code yX0_scratchTurnedBack cX0_scratchTurnedBack 2 none :: ((wsX0_scratchTurnedBack_r1 ++ wsX0_scratchTurnedBack_r2) ++ wsX00)
def wsX0_scratchTones_r1 : List Cond := [Cond.fieldLink RX0 35 "ToneButterflies" "unityRoot" "I", Cond.methodLink RX0 173 yX0_scratchValues, Cond.instanceMethod yX0_scratchValues, Cond.selects RX0 yX0_scratchValues yX0_scratchValues, Cond.initialized RX0, Cond.code yX0_scratchValues cX0_scratchValues 6 none, Cond.fieldLink RX0 84 "ToneButterflies" "length" "I", Cond.methodLink RX0 119 yX0_valueAt, Cond.instanceMethod yX0_valueAt, Cond.selects RX0 yX0_valueAt yX0_valueAt, Cond.code yX0_valueAt cX0_valueAt 5 (some .int), Cond.methodLink RX0 68 yX0_read, Cond.instanceMethod yX0_read, Cond.selects RX0 yX0_read yX0_read, Cond.code yX0_read cX0_read 4 (some .int), Cond.fieldLink RX0 9 "ToneButterflies" "numbers" "[I", Cond.methodLink RX0 46 yX0_reduced, Cond.instanceMethod yX0_reduced, Cond.selects RX0 yX0_reduced yX0_reduced, Cond.code yX0_reduced cX0_reduced 2 (some .int), Cond.fieldLink RX0 43 "ToneButterflies" "prime" "I", Cond.methodLink RX0 168 yJ9_floorMod_7cf53, Cond.static yJ9_floorMod_7cf53, Cond.initialized RJ9]
def wsX0_scratchTones_r2 : List Cond := [Cond.code yJ9_floorMod_7cf53 cJ9_floorMod_7cf53 3 (some .int), Cond.methodLink RX0 71 yX0_write, Cond.instanceMethod yX0_write, Cond.selects RX0 yX0_write yX0_write, Cond.code yX0_write cX0_write 5 none]
def wsX0_scratchTones : List Cond := .code yX0_scratchTones cX0_scratchTones 2 none :: ((wsX0_scratchTones_r1 ++ wsX0_scratchTones_r2) ++ wsX00)
def wsX0_turn_r1 : List Cond := [Cond.methodLink RX0 59 yX0_requireRow, Cond.instanceMethod yX0_requireRow, Cond.selects RX0 yX0_requireRow yX0_requireRow, Cond.initialized RX0, Cond.code yX0_requireRow cX0_requireRow 2 none, Cond.classLink RX0 93 "java/lang/IndexOutOfBoundsException", Cond.initialized "java/lang/IndexOutOfBoundsException", Cond.methodLink RX0 78 yX0_scratchTurnedBack, Cond.instanceMethod yX0_scratchTurnedBack, Cond.selects RX0 yX0_scratchTurnedBack yX0_scratchTurnedBack, Cond.code yX0_scratchTurnedBack cX0_scratchTurnedBack 2 none, Cond.fieldLink RX0 162 "ToneButterflies" "unityRootInverse" "I", Cond.fieldLink RX0 165 "ToneButterflies" "lengthInverse" "I", Cond.methodLink RX0 173 yX0_scratchValues, Cond.instanceMethod yX0_scratchValues, Cond.selects RX0 yX0_scratchValues yX0_scratchValues, Cond.code yX0_scratchValues cX0_scratchValues 6 none, Cond.fieldLink RX0 84 "ToneButterflies" "length" "I", Cond.methodLink RX0 119 yX0_valueAt, Cond.instanceMethod yX0_valueAt, Cond.selects RX0 yX0_valueAt yX0_valueAt, Cond.code yX0_valueAt cX0_valueAt 5 (some .int), Cond.methodLink RX0 68 yX0_read, Cond.instanceMethod yX0_read]
def wsX0_turn_r2 : List Cond := [Cond.selects RX0 yX0_read yX0_read, Cond.code yX0_read cX0_read 4 (some .int), Cond.fieldLink RX0 9 "ToneButterflies" "numbers" "[I", Cond.methodLink RX0 46 yX0_reduced, Cond.instanceMethod yX0_reduced, Cond.selects RX0 yX0_reduced yX0_reduced, Cond.code yX0_reduced cX0_reduced 2 (some .int), Cond.fieldLink RX0 43 "ToneButterflies" "prime" "I", Cond.methodLink RX0 168 yJ9_floorMod_7cf53, Cond.static yJ9_floorMod_7cf53, Cond.initialized RJ9, Cond.code yJ9_floorMod_7cf53 cJ9_floorMod_7cf53 3 (some .int), Cond.methodLink RX0 71 yX0_write, Cond.instanceMethod yX0_write, Cond.selects RX0 yX0_write yX0_write, Cond.code yX0_write cX0_write 5 none, Cond.methodLink RX0 81 yX0_scratchTones, Cond.instanceMethod yX0_scratchTones, Cond.selects RX0 yX0_scratchTones yX0_scratchTones, Cond.code yX0_scratchTones cX0_scratchTones 2 none, Cond.fieldLink RX0 35 "ToneButterflies" "unityRoot" "I", Cond.methodLink RX0 75 yX0_copyRow, Cond.instanceMethod yX0_copyRow, Cond.selects RX0 yX0_copyRow yX0_copyRow]
def wsX0_turn_r3 : List Cond := [Cond.code yX0_copyRow cX0_copyRow 6 (some .int)]
def wsX0_turn : List Cond := .code yX0_turn cX0_turn 3 (some .int) :: ((wsX0_turn_r1 ++ (wsX0_turn_r2 ++ wsX0_turn_r3)) ++ wsX00 ++ (vx_atS RX0 97 "java/lang/IndexOutOfBoundsException" ["java/lang/RuntimeException", "java/lang/Exception"]).filter goodWord)
def wsX0_mirrored : List Cond := .code yX0_mirrored cX0_mirrored 4 (some .int) :: ([.fieldLink RX0 90 "ToneButterflies" "bits" "I"] ++ wsX00)
def wsX0_mirror_r1 : List Cond := [Cond.fieldLink RX0 84 "ToneButterflies" "length" "I", Cond.methodLink RX0 59 yX0_requireRow, Cond.instanceMethod yX0_requireRow, Cond.selects RX0 yX0_requireRow yX0_requireRow, Cond.initialized RX0, Cond.code yX0_requireRow cX0_requireRow 2 none, Cond.classLink RX0 93 "java/lang/IndexOutOfBoundsException", Cond.initialized "java/lang/IndexOutOfBoundsException", Cond.methodLink RX0 87 yX0_mirrored, Cond.instanceMethod yX0_mirrored, Cond.selects RX0 yX0_mirrored yX0_mirrored, Cond.code yX0_mirrored cX0_mirrored 4 (some .int), Cond.fieldLink RX0 90 "ToneButterflies" "bits" "I", Cond.methodLink RX0 68 yX0_read, Cond.instanceMethod yX0_read, Cond.selects RX0 yX0_read yX0_read, Cond.code yX0_read cX0_read 4 (some .int), Cond.fieldLink RX0 9 "ToneButterflies" "numbers" "[I", Cond.methodLink RX0 71 yX0_write, Cond.instanceMethod yX0_write, Cond.selects RX0 yX0_write yX0_write, Cond.code yX0_write cX0_write 5 none, Cond.methodLink RX0 75 yX0_copyRow, Cond.instanceMethod yX0_copyRow]
def wsX0_mirror_r2 : List Cond := [Cond.selects RX0 yX0_copyRow yX0_copyRow, Cond.code yX0_copyRow cX0_copyRow 6 (some .int)]
def wsX0_mirror : List Cond := .code yX0_mirror cX0_mirror 3 (some .int) :: ((wsX0_mirror_r1 ++ wsX0_mirror_r2) ++ wsX00 ++ (vx_atS RX0 97 "java/lang/IndexOutOfBoundsException" ["java/lang/RuntimeException", "java/lang/Exception"]).filter goodWord)
def wsX0_butterfly : List Cond := .code yX0_butterfly cX0_butterfly 7 none :: ([.methodLink RX0 68 yX0_read, .instanceMethod yX0_read, .selects RX0 yX0_read yX0_read, .initialized RX0, .code yX0_read cX0_read 4 (some .int), .fieldLink RX0 9 "ToneButterflies" "numbers" "[I", .methodLink RX0 46 yX0_reduced, .instanceMethod yX0_reduced, .selects RX0 yX0_reduced yX0_reduced, .code yX0_reduced cX0_reduced 2 (some .int), .fieldLink RX0 43 "ToneButterflies" "prime" "I", .methodLink RX0 168 yJ9_floorMod_7cf53, .static yJ9_floorMod_7cf53, .initialized RJ9, .code yJ9_floorMod_7cf53 cJ9_floorMod_7cf53 3 (some .int), .methodLink RX0 71 yX0_write, .instanceMethod yX0_write, .selects RX0 yX0_write yX0_write, .code yX0_write cX0_write 5 none] ++ wsX00)
def wsX0_stage_r1 : List Cond := [Cond.classLink RX0 93 "java/lang/IndexOutOfBoundsException", Cond.initialized "java/lang/IndexOutOfBoundsException", Cond.fieldLink RX0 90 "ToneButterflies" "bits" "I", Cond.fieldLink RX0 84 "ToneButterflies" "length" "I", Cond.fieldLink RX0 35 "ToneButterflies" "unityRoot" "I", Cond.methodLink RX0 59 yX0_requireRow, Cond.instanceMethod yX0_requireRow, Cond.selects RX0 yX0_requireRow yX0_requireRow, Cond.initialized RX0, Cond.code yX0_requireRow cX0_requireRow 2 none, Cond.methodLink RX0 55 yX0_powerOf, Cond.instanceMethod yX0_powerOf, Cond.selects RX0 yX0_powerOf yX0_powerOf, Cond.code yX0_powerOf cX0_powerOf 6 (some .int), Cond.methodLink RX0 46 yX0_reduced, Cond.instanceMethod yX0_reduced, Cond.selects RX0 yX0_reduced yX0_reduced, Cond.code yX0_reduced cX0_reduced 2 (some .int), Cond.fieldLink RX0 43 "ToneButterflies" "prime" "I", Cond.methodLink RX0 168 yJ9_floorMod_7cf53, Cond.static yJ9_floorMod_7cf53, Cond.initialized RJ9, Cond.code yJ9_floorMod_7cf53 cJ9_floorMod_7cf53 3 (some .int), Cond.methodLink RX0 98 yX0_butterfly]
def wsX0_stage_r2 : List Cond := [Cond.instanceMethod yX0_butterfly, Cond.selects RX0 yX0_butterfly yX0_butterfly, Cond.code yX0_butterfly cX0_butterfly 7 none, Cond.methodLink RX0 68 yX0_read, Cond.instanceMethod yX0_read, Cond.selects RX0 yX0_read yX0_read, Cond.code yX0_read cX0_read 4 (some .int), Cond.fieldLink RX0 9 "ToneButterflies" "numbers" "[I", Cond.methodLink RX0 71 yX0_write, Cond.instanceMethod yX0_write, Cond.selects RX0 yX0_write yX0_write, Cond.code yX0_write cX0_write 5 none]
def wsX0_stage : List Cond := .code yX0_stage cX0_stage 7 (some .int) :: ((wsX0_stage_r1 ++ wsX0_stage_r2) ++ wsX00 ++ (vx_atS RX0 97 "java/lang/IndexOutOfBoundsException" ["java/lang/RuntimeException", "java/lang/Exception"]).filter goodWord)
def wsX0_wrapped : List Cond := .code yX0_wrapped cX0_wrapped 2 (some .int) :: ([.fieldLink RX0 84 "ToneButterflies" "length" "I"] ++ wsX00)
def wsX0_foldedAt : List Cond := .code yX0_foldedAt cX0_foldedAt 6 (some .int) :: ([.fieldLink RX0 84 "ToneButterflies" "length" "I", .methodLink RX0 68 yX0_read, .instanceMethod yX0_read, .selects RX0 yX0_read yX0_read, .initialized RX0, .code yX0_read cX0_read 4 (some .int), .fieldLink RX0 9 "ToneButterflies" "numbers" "[I", .methodLink RX0 116 yX0_wrapped, .instanceMethod yX0_wrapped, .selects RX0 yX0_wrapped yX0_wrapped, .code yX0_wrapped cX0_wrapped 2 (some .int), .methodLink RX0 46 yX0_reduced, .instanceMethod yX0_reduced, .selects RX0 yX0_reduced yX0_reduced, .code yX0_reduced cX0_reduced 2 (some .int), .fieldLink RX0 43 "ToneButterflies" "prime" "I", .methodLink RX0 168 yJ9_floorMod_7cf53, .static yJ9_floorMod_7cf53, .initialized RJ9, .code yJ9_floorMod_7cf53 cJ9_floorMod_7cf53 3 (some .int)] ++ wsX00)
def wsX0_fold_r1 : List Cond := [Cond.fieldLink RX0 84 "ToneButterflies" "length" "I", Cond.methodLink RX0 59 yX0_requireRow, Cond.instanceMethod yX0_requireRow, Cond.selects RX0 yX0_requireRow yX0_requireRow, Cond.initialized RX0, Cond.code yX0_requireRow cX0_requireRow 2 none, Cond.classLink RX0 93 "java/lang/IndexOutOfBoundsException", Cond.initialized "java/lang/IndexOutOfBoundsException", Cond.methodLink RX0 102 yX0_foldedAt, Cond.instanceMethod yX0_foldedAt, Cond.selects RX0 yX0_foldedAt yX0_foldedAt, Cond.code yX0_foldedAt cX0_foldedAt 6 (some .int), Cond.methodLink RX0 68 yX0_read, Cond.instanceMethod yX0_read, Cond.selects RX0 yX0_read yX0_read, Cond.code yX0_read cX0_read 4 (some .int), Cond.fieldLink RX0 9 "ToneButterflies" "numbers" "[I", Cond.methodLink RX0 116 yX0_wrapped, Cond.instanceMethod yX0_wrapped, Cond.selects RX0 yX0_wrapped yX0_wrapped, Cond.code yX0_wrapped cX0_wrapped 2 (some .int), Cond.methodLink RX0 46 yX0_reduced, Cond.instanceMethod yX0_reduced, Cond.selects RX0 yX0_reduced yX0_reduced]
def wsX0_fold_r2 : List Cond := [Cond.code yX0_reduced cX0_reduced 2 (some .int), Cond.fieldLink RX0 43 "ToneButterflies" "prime" "I", Cond.methodLink RX0 168 yJ9_floorMod_7cf53, Cond.static yJ9_floorMod_7cf53, Cond.initialized RJ9, Cond.code yJ9_floorMod_7cf53 cJ9_floorMod_7cf53 3 (some .int), Cond.methodLink RX0 71 yX0_write, Cond.instanceMethod yX0_write, Cond.selects RX0 yX0_write yX0_write, Cond.code yX0_write cX0_write 5 none, Cond.methodLink RX0 75 yX0_copyRow, Cond.instanceMethod yX0_copyRow, Cond.selects RX0 yX0_copyRow yX0_copyRow, Cond.code yX0_copyRow cX0_copyRow 6 (some .int)]
def wsX0_fold : List Cond := .code yX0_fold cX0_fold 4 (some .int) :: ((wsX0_fold_r1 ++ wsX0_fold_r2) ++ wsX00 ++ (vx_atS RX0 97 "java/lang/IndexOutOfBoundsException" ["java/lang/RuntimeException", "java/lang/Exception"]).filter goodWord)
def wsX0_joined : List Cond := .code yX0_joined cX0_joined 4 (some .int) :: ([.methodLink RX0 46 yX0_reduced, .instanceMethod yX0_reduced, .selects RX0 yX0_reduced yX0_reduced, .initialized RX0, .code yX0_reduced cX0_reduced 2 (some .int), .fieldLink RX0 43 "ToneButterflies" "prime" "I", .methodLink RX0 168 yJ9_floorMod_7cf53, .static yJ9_floorMod_7cf53, .initialized RJ9, .code yJ9_floorMod_7cf53 cJ9_floorMod_7cf53 3 (some .int)] ++ wsX00)
def wsX0_nonZeros : List Cond := .code yX0_nonZeros cX0_nonZeros 4 (some .int) :: ([.fieldLink RX0 84 "ToneButterflies" "length" "I", .methodLink RX0 68 yX0_read, .instanceMethod yX0_read, .selects RX0 yX0_read yX0_read, .initialized RX0, .code yX0_read cX0_read 4 (some .int), .fieldLink RX0 9 "ToneButterflies" "numbers" "[I"] ++ wsX00)
def wsX0_join_r1 : List Cond := [Cond.classLink RX0 93 "java/lang/IndexOutOfBoundsException", Cond.initialized "java/lang/IndexOutOfBoundsException", Cond.fieldLink RX0 84 "ToneButterflies" "length" "I", Cond.methodLink RX0 59 yX0_requireRow, Cond.instanceMethod yX0_requireRow, Cond.selects RX0 yX0_requireRow yX0_requireRow, Cond.initialized RX0, Cond.code yX0_requireRow cX0_requireRow 2 none, Cond.methodLink RX0 68 yX0_read, Cond.instanceMethod yX0_read, Cond.selects RX0 yX0_read yX0_read, Cond.code yX0_read cX0_read 4 (some .int), Cond.fieldLink RX0 9 "ToneButterflies" "numbers" "[I", Cond.methodLink RX0 108 yX0_joined, Cond.instanceMethod yX0_joined, Cond.selects RX0 yX0_joined yX0_joined, Cond.code yX0_joined cX0_joined 4 (some .int), Cond.methodLink RX0 46 yX0_reduced, Cond.instanceMethod yX0_reduced, Cond.selects RX0 yX0_reduced yX0_reduced, Cond.code yX0_reduced cX0_reduced 2 (some .int), Cond.fieldLink RX0 43 "ToneButterflies" "prime" "I", Cond.methodLink RX0 168 yJ9_floorMod_7cf53, Cond.static yJ9_floorMod_7cf53]
def wsX0_join_r2 : List Cond := [Cond.initialized RJ9, Cond.code yJ9_floorMod_7cf53 cJ9_floorMod_7cf53 3 (some .int), Cond.methodLink RX0 71 yX0_write, Cond.instanceMethod yX0_write, Cond.selects RX0 yX0_write yX0_write, Cond.code yX0_write cX0_write 5 none, Cond.methodLink RX0 111 yX0_nonZeros, Cond.instanceMethod yX0_nonZeros, Cond.selects RX0 yX0_nonZeros yX0_nonZeros, Cond.code yX0_nonZeros cX0_nonZeros 4 (some .int)]
def wsX0_join : List Cond := .code yX0_join cX0_join 5 (some .int) :: ((wsX0_join_r1 ++ wsX0_join_r2) ++ wsX00 ++ (vx_atS RX0 97 "java/lang/IndexOutOfBoundsException" ["java/lang/RuntimeException", "java/lang/Exception"]).filter goodWord)
def wsX0_move_r1 : List Cond := [Cond.classLink RX0 28 "java/lang/IllegalArgumentException", Cond.initialized "java/lang/IllegalArgumentException", Cond.fieldLink RX0 84 "ToneButterflies" "length" "I", Cond.methodLink RX0 59 yX0_requireRow, Cond.instanceMethod yX0_requireRow, Cond.selects RX0 yX0_requireRow yX0_requireRow, Cond.initialized RX0, Cond.code yX0_requireRow cX0_requireRow 2 none, Cond.classLink RX0 93 "java/lang/IndexOutOfBoundsException", Cond.initialized "java/lang/IndexOutOfBoundsException", Cond.methodLink RX0 116 yX0_wrapped, Cond.instanceMethod yX0_wrapped, Cond.selects RX0 yX0_wrapped yX0_wrapped, Cond.code yX0_wrapped cX0_wrapped 2 (some .int), Cond.methodLink RX0 68 yX0_read, Cond.instanceMethod yX0_read, Cond.selects RX0 yX0_read yX0_read, Cond.code yX0_read cX0_read 4 (some .int), Cond.fieldLink RX0 9 "ToneButterflies" "numbers" "[I", Cond.methodLink RX0 71 yX0_write, Cond.instanceMethod yX0_write, Cond.selects RX0 yX0_write yX0_write, Cond.code yX0_write cX0_write 5 none, Cond.methodLink RX0 75 yX0_copyRow]
def wsX0_move_r2 : List Cond := [Cond.instanceMethod yX0_copyRow, Cond.selects RX0 yX0_copyRow yX0_copyRow, Cond.code yX0_copyRow cX0_copyRow 6 (some .int)]
def wsX0_move : List Cond := .code yX0_move cX0_move 4 (some .int) :: ((wsX0_move_r1 ++ wsX0_move_r2) ++ wsX00 ++ (vx_atS RX0 32 "java/lang/IllegalArgumentException" ["java/lang/RuntimeException", "java/lang/Exception"]).filter goodWord ++ (vx_atS RX0 97 "java/lang/IndexOutOfBoundsException" ["java/lang/RuntimeException", "java/lang/Exception"]).filter goodWord)
def wsX0_times_r1 : List Cond := [Cond.fieldLink RX0 84 "ToneButterflies" "length" "I", Cond.methodLink RX0 59 yX0_requireRow, Cond.instanceMethod yX0_requireRow, Cond.selects RX0 yX0_requireRow yX0_requireRow, Cond.initialized RX0, Cond.code yX0_requireRow cX0_requireRow 2 none, Cond.classLink RX0 93 "java/lang/IndexOutOfBoundsException", Cond.initialized "java/lang/IndexOutOfBoundsException", Cond.methodLink RX0 65 yX0_requireNumber, Cond.instanceMethod yX0_requireNumber, Cond.selects RX0 yX0_requireNumber yX0_requireNumber, Cond.code yX0_requireNumber cX0_requireNumber 2 none, Cond.classLink RX0 28 "java/lang/IllegalArgumentException", Cond.initialized "java/lang/IllegalArgumentException", Cond.fieldLink RX0 43 "ToneButterflies" "prime" "I", Cond.methodLink RX0 68 yX0_read, Cond.instanceMethod yX0_read, Cond.selects RX0 yX0_read yX0_read, Cond.code yX0_read cX0_read 4 (some .int), Cond.fieldLink RX0 9 "ToneButterflies" "numbers" "[I", Cond.methodLink RX0 46 yX0_reduced, Cond.instanceMethod yX0_reduced, Cond.selects RX0 yX0_reduced yX0_reduced, Cond.code yX0_reduced cX0_reduced 2 (some .int)]
def wsX0_times_r2 : List Cond := [Cond.methodLink RX0 168 yJ9_floorMod_7cf53, Cond.static yJ9_floorMod_7cf53, Cond.initialized RJ9, Cond.code yJ9_floorMod_7cf53 cJ9_floorMod_7cf53 3 (some .int), Cond.methodLink RX0 71 yX0_write, Cond.instanceMethod yX0_write, Cond.selects RX0 yX0_write yX0_write, Cond.code yX0_write cX0_write 5 none, Cond.methodLink RX0 111 yX0_nonZeros, Cond.instanceMethod yX0_nonZeros, Cond.selects RX0 yX0_nonZeros yX0_nonZeros, Cond.code yX0_nonZeros cX0_nonZeros 4 (some .int)]
def wsX0_times : List Cond := .code yX0_times cX0_times 4 (some .int) :: ((wsX0_times_r1 ++ wsX0_times_r2) ++ wsX00 ++ (vx_atS RX0 97 "java/lang/IndexOutOfBoundsException" ["java/lang/RuntimeException", "java/lang/Exception"]).filter goodWord ++ (vx_atS RX0 32 "java/lang/IllegalArgumentException" ["java/lang/RuntimeException", "java/lang/Exception"]).filter goodWord)
def wsX0_at : List Cond := .code yX0_at cX0_at 3 (some .int) :: ([.methodLink RX0 59 yX0_requireRow, .instanceMethod yX0_requireRow, .selects RX0 yX0_requireRow yX0_requireRow, .initialized RX0, .code yX0_requireRow cX0_requireRow 2 none, .classLink RX0 93 "java/lang/IndexOutOfBoundsException", .initialized "java/lang/IndexOutOfBoundsException", .methodLink RX0 62 yX0_requirePlace, .instanceMethod yX0_requirePlace, .selects RX0 yX0_requirePlace yX0_requirePlace, .code yX0_requirePlace cX0_requirePlace 2 none, .fieldLink RX0 84 "ToneButterflies" "length" "I", .methodLink RX0 68 yX0_read, .instanceMethod yX0_read, .selects RX0 yX0_read yX0_read, .code yX0_read cX0_read 4 (some .int), .fieldLink RX0 9 "ToneButterflies" "numbers" "[I"] ++ wsX00 ++ (vx_atS RX0 97 "java/lang/IndexOutOfBoundsException" ["java/lang/RuntimeException", "java/lang/Exception"]).filter goodWord)
def wsX0_point_r1 : List Cond := [Cond.methodLink RX0 59 yX0_requireRow, Cond.instanceMethod yX0_requireRow, Cond.selects RX0 yX0_requireRow yX0_requireRow, Cond.initialized RX0, Cond.code yX0_requireRow cX0_requireRow 2 none, Cond.classLink RX0 93 "java/lang/IndexOutOfBoundsException", Cond.initialized "java/lang/IndexOutOfBoundsException", Cond.methodLink RX0 65 yX0_requireNumber, Cond.instanceMethod yX0_requireNumber, Cond.selects RX0 yX0_requireNumber yX0_requireNumber, Cond.code yX0_requireNumber cX0_requireNumber 2 none, Cond.classLink RX0 28 "java/lang/IllegalArgumentException", Cond.initialized "java/lang/IllegalArgumentException", Cond.fieldLink RX0 43 "ToneButterflies" "prime" "I", Cond.methodLink RX0 119 yX0_valueAt, Cond.instanceMethod yX0_valueAt, Cond.selects RX0 yX0_valueAt yX0_valueAt, Cond.code yX0_valueAt cX0_valueAt 5 (some .int), Cond.fieldLink RX0 84 "ToneButterflies" "length" "I", Cond.methodLink RX0 68 yX0_read, Cond.instanceMethod yX0_read, Cond.selects RX0 yX0_read yX0_read, Cond.code yX0_read cX0_read 4 (some .int), Cond.fieldLink RX0 9 "ToneButterflies" "numbers" "[I"]
def wsX0_point_r2 : List Cond := [Cond.methodLink RX0 46 yX0_reduced, Cond.instanceMethod yX0_reduced, Cond.selects RX0 yX0_reduced yX0_reduced, Cond.code yX0_reduced cX0_reduced 2 (some .int), Cond.methodLink RX0 168 yJ9_floorMod_7cf53, Cond.static yJ9_floorMod_7cf53, Cond.initialized RJ9, Cond.code yJ9_floorMod_7cf53 cJ9_floorMod_7cf53 3 (some .int)]
def wsX0_point : List Cond := .code yX0_point cX0_point 3 (some .int) :: ((wsX0_point_r1 ++ wsX0_point_r2) ++ wsX00 ++ (vx_atS RX0 97 "java/lang/IndexOutOfBoundsException" ["java/lang/RuntimeException", "java/lang/Exception"]).filter goodWord ++ (vx_atS RX0 32 "java/lang/IllegalArgumentException" ["java/lang/RuntimeException", "java/lang/Exception"]).filter goodWord)
def wsX0_plainSum : List Cond := .code yX0_plainSum cX0_plainSum 4 (some .int) :: ([.fieldLink RX0 84 "ToneButterflies" "length" "I", .methodLink RX0 68 yX0_read, .instanceMethod yX0_read, .selects RX0 yX0_read yX0_read, .initialized RX0, .code yX0_read cX0_read 4 (some .int), .fieldLink RX0 9 "ToneButterflies" "numbers" "[I"] ++ wsX00)
def wsX0_lastNonZero : List Cond := .code yX0_lastNonZero cX0_lastNonZero 3 (some .int) :: ([.fieldLink RX0 84 "ToneButterflies" "length" "I", .methodLink RX0 68 yX0_read, .instanceMethod yX0_read, .selects RX0 yX0_read yX0_read, .initialized RX0, .code yX0_read cX0_read 4 (some .int), .fieldLink RX0 9 "ToneButterflies" "numbers" "[I"] ++ wsX00)
def wsX0_isWhenMoved : List Cond := .code yX0_isWhenMoved cX0_isWhenMoved 5 (some .boolean) :: ([.fieldLink RX0 84 "ToneButterflies" "length" "I", .methodLink RX0 116 yX0_wrapped, .instanceMethod yX0_wrapped, .selects RX0 yX0_wrapped yX0_wrapped, .initialized RX0, .code yX0_wrapped cX0_wrapped 2 (some .int), .methodLink RX0 68 yX0_read, .instanceMethod yX0_read, .selects RX0 yX0_read yX0_read, .code yX0_read cX0_read 4 (some .int), .fieldLink RX0 9 "ToneButterflies" "numbers" "[I"] ++ wsX00)
def wsX0_period : List Cond := .code yX0_period cX0_period 3 (some .int) :: ([.fieldLink RX0 84 "ToneButterflies" "length" "I", .methodLink RX0 132 yX0_isWhenMoved, .instanceMethod yX0_isWhenMoved, .selects RX0 yX0_isWhenMoved yX0_isWhenMoved, .initialized RX0, .code yX0_isWhenMoved cX0_isWhenMoved 5 (some .boolean), .methodLink RX0 116 yX0_wrapped, .instanceMethod yX0_wrapped, .selects RX0 yX0_wrapped yX0_wrapped, .code yX0_wrapped cX0_wrapped 2 (some .int), .methodLink RX0 68 yX0_read, .instanceMethod yX0_read, .selects RX0 yX0_read yX0_read, .code yX0_read cX0_read 4 (some .int), .fieldLink RX0 9 "ToneButterflies" "numbers" "[I"] ++ wsX00)
def wsX0_greatestNumber : List Cond := .code yX0_greatestNumber cX0_greatestNumber 4 (some .int) :: ([.fieldLink RX0 84 "ToneButterflies" "length" "I", .methodLink RX0 185 Lib.Math.max.name, .static Lib.Math.max.name, .initialized "java/lang/Math", .code Lib.Math.max.name Lib.Math.max.code 2 (some .int), .methodLink RX0 68 yX0_read, .instanceMethod yX0_read, .selects RX0 yX0_read yX0_read, .initialized RX0, .code yX0_read cX0_read 4 (some .int), .fieldLink RX0 9 "ToneButterflies" "numbers" "[I"] ++ wsX00)
def wsX0_told_r1 : List Cond := [Cond.methodLink RX0 139 yX0_plainSum, Cond.instanceMethod yX0_plainSum, Cond.selects RX0 yX0_plainSum yX0_plainSum, Cond.initialized RX0, Cond.code yX0_plainSum cX0_plainSum 4 (some .int), Cond.fieldLink RX0 84 "ToneButterflies" "length" "I", Cond.methodLink RX0 68 yX0_read, Cond.instanceMethod yX0_read, Cond.selects RX0 yX0_read yX0_read, Cond.code yX0_read cX0_read 4 (some .int), Cond.fieldLink RX0 9 "ToneButterflies" "numbers" "[I", Cond.methodLink RX0 46 yX0_reduced, Cond.instanceMethod yX0_reduced, Cond.selects RX0 yX0_reduced yX0_reduced, Cond.code yX0_reduced cX0_reduced 2 (some .int), Cond.fieldLink RX0 43 "ToneButterflies" "prime" "I", Cond.methodLink RX0 168 yJ9_floorMod_7cf53, Cond.static yJ9_floorMod_7cf53, Cond.initialized RJ9, Cond.code yJ9_floorMod_7cf53 cJ9_floorMod_7cf53 3 (some .int), Cond.methodLink RX0 111 yX0_nonZeros, Cond.instanceMethod yX0_nonZeros, Cond.selects RX0 yX0_nonZeros yX0_nonZeros, Cond.code yX0_nonZeros cX0_nonZeros 4 (some .int)]
def wsX0_told_r2 : List Cond := [Cond.methodLink RX0 176 yX0_lastNonZero, Cond.instanceMethod yX0_lastNonZero, Cond.selects RX0 yX0_lastNonZero yX0_lastNonZero, Cond.code yX0_lastNonZero cX0_lastNonZero 3 (some .int), Cond.methodLink RX0 179 yX0_period, Cond.instanceMethod yX0_period, Cond.selects RX0 yX0_period yX0_period, Cond.code yX0_period cX0_period 3 (some .int), Cond.methodLink RX0 132 yX0_isWhenMoved, Cond.instanceMethod yX0_isWhenMoved, Cond.selects RX0 yX0_isWhenMoved yX0_isWhenMoved, Cond.code yX0_isWhenMoved cX0_isWhenMoved 5 (some .boolean), Cond.methodLink RX0 116 yX0_wrapped, Cond.instanceMethod yX0_wrapped, Cond.selects RX0 yX0_wrapped yX0_wrapped, Cond.code yX0_wrapped cX0_wrapped 2 (some .int), Cond.methodLink RX0 182 yX0_greatestNumber, Cond.instanceMethod yX0_greatestNumber, Cond.selects RX0 yX0_greatestNumber yX0_greatestNumber, Cond.code yX0_greatestNumber cX0_greatestNumber 4 (some .int), Cond.methodLink RX0 185 Lib.Math.max.name, Cond.static Lib.Math.max.name, Cond.initialized "java/lang/Math", Cond.code Lib.Math.max.name Lib.Math.max.code 2 (some .int)]
def wsX0_told : List Cond := .code yX0_told cX0_told 3 (some .int) :: ((wsX0_told_r1 ++ wsX0_told_r2) ++ wsX00)
def wsX0_about_r1 : List Cond := [Cond.classLink RX0 93 "java/lang/IndexOutOfBoundsException", Cond.initialized "java/lang/IndexOutOfBoundsException", Cond.methodLink RX0 59 yX0_requireRow, Cond.instanceMethod yX0_requireRow, Cond.selects RX0 yX0_requireRow yX0_requireRow, Cond.initialized RX0, Cond.code yX0_requireRow cX0_requireRow 2 none, Cond.methodLink RX0 124 yX0_told, Cond.instanceMethod yX0_told, Cond.selects RX0 yX0_told yX0_told, Cond.code yX0_told cX0_told 3 (some .int), Cond.methodLink RX0 139 yX0_plainSum, Cond.instanceMethod yX0_plainSum, Cond.selects RX0 yX0_plainSum yX0_plainSum, Cond.code yX0_plainSum cX0_plainSum 4 (some .int), Cond.fieldLink RX0 84 "ToneButterflies" "length" "I", Cond.methodLink RX0 68 yX0_read, Cond.instanceMethod yX0_read, Cond.selects RX0 yX0_read yX0_read, Cond.code yX0_read cX0_read 4 (some .int), Cond.fieldLink RX0 9 "ToneButterflies" "numbers" "[I", Cond.methodLink RX0 46 yX0_reduced, Cond.instanceMethod yX0_reduced, Cond.selects RX0 yX0_reduced yX0_reduced]
def wsX0_about_r2 : List Cond := [Cond.code yX0_reduced cX0_reduced 2 (some .int), Cond.fieldLink RX0 43 "ToneButterflies" "prime" "I", Cond.methodLink RX0 168 yJ9_floorMod_7cf53, Cond.static yJ9_floorMod_7cf53, Cond.initialized RJ9, Cond.code yJ9_floorMod_7cf53 cJ9_floorMod_7cf53 3 (some .int), Cond.methodLink RX0 111 yX0_nonZeros, Cond.instanceMethod yX0_nonZeros, Cond.selects RX0 yX0_nonZeros yX0_nonZeros, Cond.code yX0_nonZeros cX0_nonZeros 4 (some .int), Cond.methodLink RX0 176 yX0_lastNonZero, Cond.instanceMethod yX0_lastNonZero, Cond.selects RX0 yX0_lastNonZero yX0_lastNonZero, Cond.code yX0_lastNonZero cX0_lastNonZero 3 (some .int), Cond.methodLink RX0 179 yX0_period, Cond.instanceMethod yX0_period, Cond.selects RX0 yX0_period yX0_period, Cond.code yX0_period cX0_period 3 (some .int), Cond.methodLink RX0 132 yX0_isWhenMoved, Cond.instanceMethod yX0_isWhenMoved, Cond.selects RX0 yX0_isWhenMoved yX0_isWhenMoved, Cond.code yX0_isWhenMoved cX0_isWhenMoved 5 (some .boolean), Cond.methodLink RX0 116 yX0_wrapped, Cond.instanceMethod yX0_wrapped]
def wsX0_about_r3 : List Cond := [Cond.selects RX0 yX0_wrapped yX0_wrapped, Cond.code yX0_wrapped cX0_wrapped 2 (some .int), Cond.methodLink RX0 182 yX0_greatestNumber, Cond.instanceMethod yX0_greatestNumber, Cond.selects RX0 yX0_greatestNumber yX0_greatestNumber, Cond.code yX0_greatestNumber cX0_greatestNumber 4 (some .int), Cond.methodLink RX0 185 Lib.Math.max.name, Cond.static Lib.Math.max.name, Cond.initialized "java/lang/Math", Cond.code Lib.Math.max.name Lib.Math.max.code 2 (some .int)]
def wsX0_about : List Cond := .code yX0_about cX0_about 3 (some .int) :: ((wsX0_about_r1 ++ (wsX0_about_r2 ++ wsX0_about_r3)) ++ wsX00 ++ (vx_atS RX0 97 "java/lang/IndexOutOfBoundsException" ["java/lang/RuntimeException", "java/lang/Exception"]).filter goodWord)
def wsX0_counted : List Cond := .code yX0_counted cX0_counted 2 (some .int) :: ([.fieldLink RX0 84 "ToneButterflies" "length" "I", .fieldLink RX0 43 "ToneButterflies" "prime" "I", .fieldLink RX0 35 "ToneButterflies" "unityRoot" "I", .fieldLink RX0 162 "ToneButterflies" "unityRootInverse" "I", .fieldLink RX0 165 "ToneButterflies" "lengthInverse" "I", .fieldLink RX0 90 "ToneButterflies" "bits" "I"] ++ wsX00)
def wsX0_count : List Cond := .code yX0_count cX0_count 2 (some .int) :: ([.classLink RX0 93 "java/lang/IndexOutOfBoundsException", .initialized "java/lang/IndexOutOfBoundsException", .methodLink RX0 129 yX0_counted, .instanceMethod yX0_counted, .selects RX0 yX0_counted yX0_counted, .initialized RX0, .code yX0_counted cX0_counted 2 (some .int), .fieldLink RX0 84 "ToneButterflies" "length" "I", .fieldLink RX0 43 "ToneButterflies" "prime" "I", .fieldLink RX0 35 "ToneButterflies" "unityRoot" "I", .fieldLink RX0 162 "ToneButterflies" "unityRootInverse" "I", .fieldLink RX0 165 "ToneButterflies" "lengthInverse" "I", .fieldLink RX0 90 "ToneButterflies" "bits" "I"] ++ wsX00 ++ (vx_atS RX0 97 "java/lang/IndexOutOfBoundsException" ["java/lang/RuntimeException", "java/lang/Exception"]).filter goodWord)
def wsX0_would_r1 : List Cond := [Cond.methodLink RX0 59 yX0_requireRow, Cond.instanceMethod yX0_requireRow, Cond.selects RX0 yX0_requireRow yX0_requireRow, Cond.initialized RX0, Cond.code yX0_requireRow cX0_requireRow 2 none, Cond.classLink RX0 93 "java/lang/IndexOutOfBoundsException", Cond.initialized "java/lang/IndexOutOfBoundsException", Cond.methodLink RX0 62 yX0_requirePlace, Cond.instanceMethod yX0_requirePlace, Cond.selects RX0 yX0_requirePlace yX0_requirePlace, Cond.code yX0_requirePlace cX0_requirePlace 2 none, Cond.fieldLink RX0 84 "ToneButterflies" "length" "I", Cond.methodLink RX0 102 yX0_foldedAt, Cond.instanceMethod yX0_foldedAt, Cond.selects RX0 yX0_foldedAt yX0_foldedAt, Cond.code yX0_foldedAt cX0_foldedAt 6 (some .int), Cond.methodLink RX0 68 yX0_read, Cond.instanceMethod yX0_read, Cond.selects RX0 yX0_read yX0_read, Cond.code yX0_read cX0_read 4 (some .int), Cond.fieldLink RX0 9 "ToneButterflies" "numbers" "[I", Cond.methodLink RX0 116 yX0_wrapped, Cond.instanceMethod yX0_wrapped, Cond.selects RX0 yX0_wrapped yX0_wrapped]
def wsX0_would_r2 : List Cond := [Cond.code yX0_wrapped cX0_wrapped 2 (some .int), Cond.methodLink RX0 46 yX0_reduced, Cond.instanceMethod yX0_reduced, Cond.selects RX0 yX0_reduced yX0_reduced, Cond.code yX0_reduced cX0_reduced 2 (some .int), Cond.fieldLink RX0 43 "ToneButterflies" "prime" "I", Cond.methodLink RX0 168 yJ9_floorMod_7cf53, Cond.static yJ9_floorMod_7cf53, Cond.initialized RJ9, Cond.code yJ9_floorMod_7cf53 cJ9_floorMod_7cf53 3 (some .int)]
def wsX0_would : List Cond := .code yX0_would cX0_would 4 (some .int) :: ((wsX0_would_r1 ++ wsX0_would_r2) ++ wsX00 ++ (vx_atS RX0 97 "java/lang/IndexOutOfBoundsException" ["java/lang/RuntimeException", "java/lang/Exception"]).filter goodWord)
def wsX0_comes : List Cond := .code yX0_comes cX0_comes 4 (some .int) :: ([.fieldLink RX0 84 "ToneButterflies" "length" "I", .methodLink RX0 59 yX0_requireRow, .instanceMethod yX0_requireRow, .selects RX0 yX0_requireRow yX0_requireRow, .initialized RX0, .code yX0_requireRow cX0_requireRow 2 none, .classLink RX0 93 "java/lang/IndexOutOfBoundsException", .initialized "java/lang/IndexOutOfBoundsException", .methodLink RX0 132 yX0_isWhenMoved, .instanceMethod yX0_isWhenMoved, .selects RX0 yX0_isWhenMoved yX0_isWhenMoved, .code yX0_isWhenMoved cX0_isWhenMoved 5 (some .boolean), .methodLink RX0 116 yX0_wrapped, .instanceMethod yX0_wrapped, .selects RX0 yX0_wrapped yX0_wrapped, .code yX0_wrapped cX0_wrapped 2 (some .int), .methodLink RX0 68 yX0_read, .instanceMethod yX0_read, .selects RX0 yX0_read yX0_read, .code yX0_read cX0_read 4 (some .int), .fieldLink RX0 9 "ToneButterflies" "numbers" "[I"] ++ wsX00 ++ (vx_atS RX0 97 "java/lang/IndexOutOfBoundsException" ["java/lang/RuntimeException", "java/lang/Exception"]).filter goodWord)
def wsX0_soundWhenMoved : List Cond := .code yX0_soundWhenMoved cX0_soundWhenMoved 6 (some .int) :: ([.fieldLink RX0 84 "ToneButterflies" "length" "I", .methodLink RX0 68 yX0_read, .instanceMethod yX0_read, .selects RX0 yX0_read yX0_read, .initialized RX0, .code yX0_read cX0_read 4 (some .int), .fieldLink RX0 9 "ToneButterflies" "numbers" "[I", .methodLink RX0 116 yX0_wrapped, .instanceMethod yX0_wrapped, .selects RX0 yX0_wrapped yX0_wrapped, .code yX0_wrapped cX0_wrapped 2 (some .int), .methodLink RX0 46 yX0_reduced, .instanceMethod yX0_reduced, .selects RX0 yX0_reduced yX0_reduced, .code yX0_reduced cX0_reduced 2 (some .int), .fieldLink RX0 43 "ToneButterflies" "prime" "I", .methodLink RX0 168 yJ9_floorMod_7cf53, .static yJ9_floorMod_7cf53, .initialized RJ9, .code yJ9_floorMod_7cf53 cJ9_floorMod_7cf53 3 (some .int)] ++ wsX00)
def wsX0_advise_r1 : List Cond := [Cond.fieldLink RX0 84 "ToneButterflies" "length" "I", Cond.methodLink RX0 59 yX0_requireRow, Cond.instanceMethod yX0_requireRow, Cond.selects RX0 yX0_requireRow yX0_requireRow, Cond.initialized RX0, Cond.code yX0_requireRow cX0_requireRow 2 none, Cond.classLink RX0 93 "java/lang/IndexOutOfBoundsException", Cond.initialized "java/lang/IndexOutOfBoundsException", Cond.methodLink RX0 136 yX0_soundWhenMoved, Cond.instanceMethod yX0_soundWhenMoved, Cond.selects RX0 yX0_soundWhenMoved yX0_soundWhenMoved, Cond.code yX0_soundWhenMoved cX0_soundWhenMoved 6 (some .int), Cond.methodLink RX0 68 yX0_read, Cond.instanceMethod yX0_read, Cond.selects RX0 yX0_read yX0_read, Cond.code yX0_read cX0_read 4 (some .int), Cond.fieldLink RX0 9 "ToneButterflies" "numbers" "[I", Cond.methodLink RX0 116 yX0_wrapped, Cond.instanceMethod yX0_wrapped, Cond.selects RX0 yX0_wrapped yX0_wrapped, Cond.code yX0_wrapped cX0_wrapped 2 (some .int), Cond.methodLink RX0 46 yX0_reduced, Cond.instanceMethod yX0_reduced, Cond.selects RX0 yX0_reduced yX0_reduced]
def wsX0_advise_r2 : List Cond := [Cond.code yX0_reduced cX0_reduced 2 (some .int), Cond.fieldLink RX0 43 "ToneButterflies" "prime" "I", Cond.methodLink RX0 168 yJ9_floorMod_7cf53, Cond.static yJ9_floorMod_7cf53, Cond.initialized RJ9, Cond.code yJ9_floorMod_7cf53 cJ9_floorMod_7cf53 3 (some .int)]
def wsX0_advise : List Cond := .code yX0_advise cX0_advise 7 (some .int) :: ((wsX0_advise_r1 ++ wsX0_advise_r2) ++ wsX00 ++ (vx_atS RX0 97 "java/lang/IndexOutOfBoundsException" ["java/lang/RuntimeException", "java/lang/Exception"]).filter goodWord)
def wsX0_tones_r1 : List Cond := [Cond.methodLink RX0 59 yX0_requireRow, Cond.instanceMethod yX0_requireRow, Cond.selects RX0 yX0_requireRow yX0_requireRow, Cond.initialized RX0, Cond.code yX0_requireRow cX0_requireRow 2 none, Cond.classLink RX0 93 "java/lang/IndexOutOfBoundsException", Cond.initialized "java/lang/IndexOutOfBoundsException", Cond.methodLink RX0 81 yX0_scratchTones, Cond.instanceMethod yX0_scratchTones, Cond.selects RX0 yX0_scratchTones yX0_scratchTones, Cond.code yX0_scratchTones cX0_scratchTones 2 none, Cond.fieldLink RX0 35 "ToneButterflies" "unityRoot" "I", Cond.methodLink RX0 173 yX0_scratchValues, Cond.instanceMethod yX0_scratchValues, Cond.selects RX0 yX0_scratchValues yX0_scratchValues, Cond.code yX0_scratchValues cX0_scratchValues 6 none, Cond.fieldLink RX0 84 "ToneButterflies" "length" "I", Cond.methodLink RX0 119 yX0_valueAt, Cond.instanceMethod yX0_valueAt, Cond.selects RX0 yX0_valueAt yX0_valueAt, Cond.code yX0_valueAt cX0_valueAt 5 (some .int), Cond.methodLink RX0 68 yX0_read, Cond.instanceMethod yX0_read, Cond.selects RX0 yX0_read yX0_read]
def wsX0_tones_r2 : List Cond := [Cond.code yX0_read cX0_read 4 (some .int), Cond.fieldLink RX0 9 "ToneButterflies" "numbers" "[I", Cond.methodLink RX0 46 yX0_reduced, Cond.instanceMethod yX0_reduced, Cond.selects RX0 yX0_reduced yX0_reduced, Cond.code yX0_reduced cX0_reduced 2 (some .int), Cond.fieldLink RX0 43 "ToneButterflies" "prime" "I", Cond.methodLink RX0 168 yJ9_floorMod_7cf53, Cond.static yJ9_floorMod_7cf53, Cond.initialized RJ9, Cond.code yJ9_floorMod_7cf53 cJ9_floorMod_7cf53 3 (some .int), Cond.methodLink RX0 71 yX0_write, Cond.instanceMethod yX0_write, Cond.selects RX0 yX0_write yX0_write, Cond.code yX0_write cX0_write 5 none, Cond.methodLink RX0 132 yX0_isWhenMoved, Cond.instanceMethod yX0_isWhenMoved, Cond.selects RX0 yX0_isWhenMoved yX0_isWhenMoved, Cond.code yX0_isWhenMoved cX0_isWhenMoved 5 (some .boolean), Cond.methodLink RX0 116 yX0_wrapped, Cond.instanceMethod yX0_wrapped, Cond.selects RX0 yX0_wrapped yX0_wrapped, Cond.code yX0_wrapped cX0_wrapped 2 (some .int)]
def wsX0_tones : List Cond := .code yX0_tones cX0_tones 3 (some .boolean) :: ((wsX0_tones_r1 ++ wsX0_tones_r2) ++ wsX00 ++ (vx_atS RX0 97 "java/lang/IndexOutOfBoundsException" ["java/lang/RuntimeException", "java/lang/Exception"]).filter goodWord)
def wsX0_mean : List Cond := .code yX0_mean cX0_mean 2 (some .double) :: ([.fieldLink RX0 84 "ToneButterflies" "length" "I", .methodLink RX0 59 yX0_requireRow, .instanceMethod yX0_requireRow, .selects RX0 yX0_requireRow yX0_requireRow, .initialized RX0, .code yX0_requireRow cX0_requireRow 2 none, .classLink RX0 93 "java/lang/IndexOutOfBoundsException", .initialized "java/lang/IndexOutOfBoundsException", .methodLink RX0 139 yX0_plainSum, .instanceMethod yX0_plainSum, .selects RX0 yX0_plainSum yX0_plainSum, .code yX0_plainSum cX0_plainSum 4 (some .int), .methodLink RX0 68 yX0_read, .instanceMethod yX0_read, .selects RX0 yX0_read yX0_read, .code yX0_read cX0_read 4 (some .int), .fieldLink RX0 9 "ToneButterflies" "numbers" "[I"] ++ wsX00 ++ (vx_atS RX0 97 "java/lang/IndexOutOfBoundsException" ["java/lang/RuntimeException", "java/lang/Exception"]).filter goodWord)
def wsX0_digestRow : List Cond := .code yX0_digestRow cX0_digestRow 7 (some .long) :: ([.fieldLink RX0 84 "ToneButterflies" "length" "I", .constantLong RX0 144 (31), .methodLink RX0 68 yX0_read, .instanceMethod yX0_read, .selects RX0 yX0_read yX0_read, .initialized RX0, .code yX0_read cX0_read 4 (some .int), .fieldLink RX0 9 "ToneButterflies" "numbers" "[I"] ++ wsX00)
def wsX0_digest_r1 : List Cond := [Cond.constantLong RX0 142 (1777), Cond.constantLong RX0 144 (31), Cond.methodLink RX0 129 yX0_counted, Cond.instanceMethod yX0_counted, Cond.selects RX0 yX0_counted yX0_counted, Cond.initialized RX0, Cond.code yX0_counted cX0_counted 2 (some .int), Cond.fieldLink RX0 84 "ToneButterflies" "length" "I", Cond.fieldLink RX0 43 "ToneButterflies" "prime" "I", Cond.fieldLink RX0 35 "ToneButterflies" "unityRoot" "I", Cond.fieldLink RX0 162 "ToneButterflies" "unityRootInverse" "I", Cond.fieldLink RX0 165 "ToneButterflies" "lengthInverse" "I", Cond.fieldLink RX0 90 "ToneButterflies" "bits" "I", Cond.methodLink RX0 146 yX0_digestRow, Cond.instanceMethod yX0_digestRow, Cond.selects RX0 yX0_digestRow yX0_digestRow, Cond.code yX0_digestRow cX0_digestRow 7 (some .long), Cond.methodLink RX0 68 yX0_read, Cond.instanceMethod yX0_read, Cond.selects RX0 yX0_read yX0_read, Cond.code yX0_read cX0_read 4 (some .int), Cond.fieldLink RX0 9 "ToneButterflies" "numbers" "[I", Cond.methodLink RX0 124 yX0_told, Cond.instanceMethod yX0_told]
def wsX0_digest_r2 : List Cond := [Cond.selects RX0 yX0_told yX0_told, Cond.code yX0_told cX0_told 3 (some .int), Cond.methodLink RX0 139 yX0_plainSum, Cond.instanceMethod yX0_plainSum, Cond.selects RX0 yX0_plainSum yX0_plainSum, Cond.code yX0_plainSum cX0_plainSum 4 (some .int), Cond.methodLink RX0 46 yX0_reduced, Cond.instanceMethod yX0_reduced, Cond.selects RX0 yX0_reduced yX0_reduced, Cond.code yX0_reduced cX0_reduced 2 (some .int), Cond.methodLink RX0 168 yJ9_floorMod_7cf53, Cond.static yJ9_floorMod_7cf53, Cond.initialized RJ9, Cond.code yJ9_floorMod_7cf53 cJ9_floorMod_7cf53 3 (some .int), Cond.methodLink RX0 111 yX0_nonZeros, Cond.instanceMethod yX0_nonZeros, Cond.selects RX0 yX0_nonZeros yX0_nonZeros, Cond.code yX0_nonZeros cX0_nonZeros 4 (some .int), Cond.methodLink RX0 176 yX0_lastNonZero, Cond.instanceMethod yX0_lastNonZero, Cond.selects RX0 yX0_lastNonZero yX0_lastNonZero, Cond.code yX0_lastNonZero cX0_lastNonZero 3 (some .int), Cond.methodLink RX0 179 yX0_period, Cond.instanceMethod yX0_period]
def wsX0_digest_r3 : List Cond := [Cond.selects RX0 yX0_period yX0_period, Cond.code yX0_period cX0_period 3 (some .int), Cond.methodLink RX0 132 yX0_isWhenMoved, Cond.instanceMethod yX0_isWhenMoved, Cond.selects RX0 yX0_isWhenMoved yX0_isWhenMoved, Cond.code yX0_isWhenMoved cX0_isWhenMoved 5 (some .boolean), Cond.methodLink RX0 116 yX0_wrapped, Cond.instanceMethod yX0_wrapped, Cond.selects RX0 yX0_wrapped yX0_wrapped, Cond.code yX0_wrapped cX0_wrapped 2 (some .int), Cond.methodLink RX0 182 yX0_greatestNumber, Cond.instanceMethod yX0_greatestNumber, Cond.selects RX0 yX0_greatestNumber yX0_greatestNumber, Cond.code yX0_greatestNumber cX0_greatestNumber 4 (some .int), Cond.methodLink RX0 185 Lib.Math.max.name, Cond.static Lib.Math.max.name, Cond.initialized "java/lang/Math", Cond.code Lib.Math.max.name Lib.Math.max.code 2 (some .int), Cond.methodLink RX0 81 yX0_scratchTones, Cond.instanceMethod yX0_scratchTones, Cond.selects RX0 yX0_scratchTones yX0_scratchTones, Cond.code yX0_scratchTones cX0_scratchTones 2 none, Cond.methodLink RX0 173 yX0_scratchValues, Cond.instanceMethod yX0_scratchValues]
def wsX0_digest_r4 : List Cond := [Cond.selects RX0 yX0_scratchValues yX0_scratchValues, Cond.code yX0_scratchValues cX0_scratchValues 6 none, Cond.methodLink RX0 119 yX0_valueAt, Cond.instanceMethod yX0_valueAt, Cond.selects RX0 yX0_valueAt yX0_valueAt, Cond.code yX0_valueAt cX0_valueAt 5 (some .int), Cond.methodLink RX0 71 yX0_write, Cond.instanceMethod yX0_write, Cond.selects RX0 yX0_write yX0_write, Cond.code yX0_write cX0_write 5 none]
def wsX0_digest : List Cond := .code yX0_digest cX0_digest 5 (some .long) :: ((wsX0_digest_r1 ++ (wsX0_digest_r2 ++ (wsX0_digest_r3 ++ wsX0_digest_r4))) ++ wsX00)
def wsX1_init : List Cond := .code yX1_init cX1_init 1 none :: ([.methodLink RX1 1 objectInit, .instanceMethod objectInit, .code objectInit ⟨#[0xb1]⟩ 1 none, .fieldLink RX1 7 "ToneButterfliesModel" "n" "I", .fieldLink RX1 13 "ToneButterfliesModel" "p" "I", .fieldLink RX1 16 "ToneButterfliesModel" "w" "I", .fieldLink RX1 19 "ToneButterfliesModel" "bits" "I", .arrayClass .int, .fieldLink RX1 22 "ToneButterfliesModel" "rows" "[I", .fieldLink RX1 26 "ToneButterfliesModel" "made" "[I"] ++ wsX10)
def wsX1_thrown : List Cond := .code yX1_thrown cX1_thrown 1 (some .int) :: ([.fieldLink RX1 29 "ToneButterfliesModel" "thrown" "I"] ++ wsX10)
def wsX1_no : List Cond := .code yX1_no cX1_no 2 (some .int) :: ([.fieldLink RX1 29 "ToneButterfliesModel" "thrown" "I"] ++ wsX10)
def wsX1_isIn : List Cond := .code yX1_isIn cX1_isIn 3 (some .boolean) :: ([])
def wsX1_isRow : List Cond := .code yX1_isRow cX1_isRow 1 (some .boolean) :: ([.methodLink RX1 32 yX1_isIn, .static yX1_isIn, .initialized RX1, .code yX1_isIn cX1_isIn 3 (some .boolean)])
def wsX1_isPlace : List Cond := .code yX1_isPlace cX1_isPlace 2 (some .boolean) :: ([.fieldLink RX1 7 "ToneButterfliesModel" "n" "I", .methodLink RX1 32 yX1_isIn, .static yX1_isIn, .initialized RX1, .code yX1_isIn cX1_isIn 3 (some .boolean)] ++ wsX10)
def wsX1_its : List Cond := .code yX1_its cX1_its 3 (some .int) :: ([.fieldLink RX1 22 "ToneButterfliesModel" "rows" "[I"] ++ wsX10)
def wsX1_plus : List Cond := .code yX1_plus cX1_plus 3 (some .int) :: ([.fieldLink RX1 13 "ToneButterfliesModel" "p" "I"] ++ wsX10)
def wsX1_minus : List Cond := .code yX1_minus cX1_minus 3 (some .int) :: ([.fieldLink RX1 13 "ToneButterfliesModel" "p" "I"] ++ wsX10)
def wsX1_by : List Cond := .code yX1_by cX1_by 3 (some .int) :: ([.fieldLink RX1 13 "ToneButterfliesModel" "p" "I"] ++ wsX10)
def wsX1_power : List Cond := .code yX1_power cX1_power 6 (some .int) :: ([.methodLink RX1 36 yX1_by, .instanceMethod yX1_by, .selects RX1 yX1_by yX1_by, .initialized RX1, .code yX1_by cX1_by 3 (some .int), .fieldLink RX1 13 "ToneButterfliesModel" "p" "I"] ++ wsX10)
def wsX1_inverseOf : List Cond := .code yX1_inverseOf cX1_inverseOf 9 (some .int) :: ([.fieldLink RX1 13 "ToneButterfliesModel" "p" "I"] ++ wsX10)
def wsX1_orderOf : List Cond := .code yX1_orderOf cX1_orderOf 4 (some .int) :: ([.methodLink RX1 36 yX1_by, .instanceMethod yX1_by, .selects RX1 yX1_by yX1_by, .initialized RX1, .code yX1_by cX1_by 3 (some .int), .fieldLink RX1 13 "ToneButterfliesModel" "p" "I"] ++ wsX10)
def wsX1_isPrime : List Cond := .code yX1_isPrime cX1_isPrime 2 (some .boolean) :: ([])
def wsX1_rootOf : List Cond := .code yX1_rootOf cX1_rootOf 2 (some .int) :: ([.fieldLink RX1 7 "ToneButterfliesModel" "n" "I", .methodLink RX1 40 yX1_orderOf, .instanceMethod yX1_orderOf, .selects RX1 yX1_orderOf yX1_orderOf, .initialized RX1, .code yX1_orderOf cX1_orderOf 4 (some .int), .methodLink RX1 36 yX1_by, .instanceMethod yX1_by, .selects RX1 yX1_by yX1_by, .code yX1_by cX1_by 3 (some .int), .fieldLink RX1 13 "ToneButterfliesModel" "p" "I"] ++ wsX10)
def wsX1_ring_r1 : List Cond := [Cond.fieldLink RX1 29 "ToneButterfliesModel" "thrown" "I", Cond.fieldLink RX1 7 "ToneButterfliesModel" "n" "I", Cond.fieldLink RX1 13 "ToneButterfliesModel" "p" "I", Cond.fieldLink RX1 16 "ToneButterfliesModel" "w" "I", Cond.fieldLink RX1 19 "ToneButterfliesModel" "bits" "I", Cond.fieldLink RX1 22 "ToneButterfliesModel" "rows" "[I", Cond.methodLink RX1 32 yX1_isIn, Cond.static yX1_isIn, Cond.initialized RX1, Cond.code yX1_isIn cX1_isIn 3 (some .boolean), Cond.methodLink RX1 44 yX1_isPrime, Cond.static yX1_isPrime, Cond.code yX1_isPrime cX1_isPrime 2 (some .boolean), Cond.methodLink RX1 48 yX1_no, Cond.instanceMethod yX1_no, Cond.selects RX1 yX1_no yX1_no, Cond.code yX1_no cX1_no 2 (some .int), Cond.methodLink RX1 51 yX1_rootOf, Cond.instanceMethod yX1_rootOf, Cond.selects RX1 yX1_rootOf yX1_rootOf, Cond.code yX1_rootOf cX1_rootOf 2 (some .int), Cond.methodLink RX1 40 yX1_orderOf, Cond.instanceMethod yX1_orderOf, Cond.selects RX1 yX1_orderOf yX1_orderOf]
def wsX1_ring_r2 : List Cond := [Cond.code yX1_orderOf cX1_orderOf 4 (some .int), Cond.methodLink RX1 36 yX1_by, Cond.instanceMethod yX1_by, Cond.selects RX1 yX1_by yX1_by, Cond.code yX1_by cX1_by 3 (some .int)]
def wsX1_ring : List Cond := .code yX1_ring cX1_ring 4 (some .int) :: ((wsX1_ring_r1 ++ wsX1_ring_r2) ++ wsX10)
def wsX1_isUnit : List Cond := .code yX1_isUnit cX1_isUnit 2 (some .boolean) :: ([.fieldLink RX1 13 "ToneButterfliesModel" "p" "I", .methodLink RX1 32 yX1_isIn, .static yX1_isIn, .initialized RX1, .code yX1_isIn cX1_isIn 3 (some .boolean)] ++ wsX10)
def wsX1_order : List Cond := .code yX1_order cX1_order 2 (some .int) :: ([.fieldLink RX1 29 "ToneButterfliesModel" "thrown" "I", .methodLink RX1 55 yX1_isUnit, .instanceMethod yX1_isUnit, .selects RX1 yX1_isUnit yX1_isUnit, .initialized RX1, .code yX1_isUnit cX1_isUnit 2 (some .boolean), .fieldLink RX1 13 "ToneButterfliesModel" "p" "I", .methodLink RX1 32 yX1_isIn, .static yX1_isIn, .code yX1_isIn cX1_isIn 3 (some .boolean), .methodLink RX1 40 yX1_orderOf, .instanceMethod yX1_orderOf, .selects RX1 yX1_orderOf yX1_orderOf, .code yX1_orderOf cX1_orderOf 4 (some .int), .methodLink RX1 36 yX1_by, .instanceMethod yX1_by, .selects RX1 yX1_by yX1_by, .code yX1_by cX1_by 3 (some .int), .methodLink RX1 48 yX1_no, .instanceMethod yX1_no, .selects RX1 yX1_no yX1_no, .code yX1_no cX1_no 2 (some .int)] ++ wsX10)
def wsX1_inverse : List Cond := .code yX1_inverse cX1_inverse 2 (some .int) :: ([.fieldLink RX1 29 "ToneButterfliesModel" "thrown" "I", .methodLink RX1 55 yX1_isUnit, .instanceMethod yX1_isUnit, .selects RX1 yX1_isUnit yX1_isUnit, .initialized RX1, .code yX1_isUnit cX1_isUnit 2 (some .boolean), .fieldLink RX1 13 "ToneButterfliesModel" "p" "I", .methodLink RX1 32 yX1_isIn, .static yX1_isIn, .code yX1_isIn cX1_isIn 3 (some .boolean), .methodLink RX1 58 yX1_inverseOf, .instanceMethod yX1_inverseOf, .selects RX1 yX1_inverseOf yX1_inverseOf, .code yX1_inverseOf cX1_inverseOf 9 (some .int), .methodLink RX1 48 yX1_no, .instanceMethod yX1_no, .selects RX1 yX1_no yX1_no, .code yX1_no cX1_no 2 (some .int)] ++ wsX10)
def wsX1_root : List Cond := .code yX1_root cX1_root 2 (some .int) :: ([.fieldLink RX1 29 "ToneButterfliesModel" "thrown" "I", .fieldLink RX1 16 "ToneButterfliesModel" "w" "I", .methodLink RX1 32 yX1_isIn, .static yX1_isIn, .initialized RX1, .code yX1_isIn cX1_isIn 3 (some .boolean), .methodLink RX1 61 yX1_power, .instanceMethod yX1_power, .selects RX1 yX1_power yX1_power, .code yX1_power cX1_power 6 (some .int), .methodLink RX1 36 yX1_by, .instanceMethod yX1_by, .selects RX1 yX1_by yX1_by, .code yX1_by cX1_by 3 (some .int), .fieldLink RX1 13 "ToneButterfliesModel" "p" "I", .methodLink RX1 48 yX1_no, .instanceMethod yX1_no, .selects RX1 yX1_no yX1_no, .code yX1_no cX1_no 2 (some .int)] ++ wsX10)
def wsX1_lay : List Cond := .code yX1_lay cX1_lay 2 none :: ([.fieldLink RX1 26 "ToneButterfliesModel" "made" "[I", .fieldLink RX1 22 "ToneButterfliesModel" "rows" "[I", .fieldLink RX1 7 "ToneButterfliesModel" "n" "I", .methodLink RX1 64 arraycopyName, .native arraycopyName, .static arraycopyName, .initialized "java/lang/System"] ++ wsX10)
def wsX1_changes : List Cond := .code yX1_changes cX1_changes 4 (some .int) :: ([.fieldLink RX1 7 "ToneButterfliesModel" "n" "I", .fieldLink RX1 26 "ToneButterfliesModel" "made" "[I", .methodLink RX1 70 yX1_its, .instanceMethod yX1_its, .selects RX1 yX1_its yX1_its, .initialized RX1, .code yX1_its cX1_its 3 (some .int), .fieldLink RX1 22 "ToneButterfliesModel" "rows" "[I"] ++ wsX10)
def wsX1_others : List Cond := .code yX1_others cX1_others 4 (some .int) :: ([.fieldLink RX1 7 "ToneButterfliesModel" "n" "I", .methodLink RX1 70 yX1_its, .instanceMethod yX1_its, .selects RX1 yX1_its yX1_its, .initialized RX1, .code yX1_its cX1_its 3 (some .int), .fieldLink RX1 22 "ToneButterfliesModel" "rows" "[I"] ++ wsX10)
def wsX1_pointOf : List Cond := .code yX1_pointOf cX1_pointOf 5 (some .int) :: ([.fieldLink RX1 7 "ToneButterfliesModel" "n" "I", .methodLink RX1 36 yX1_by, .instanceMethod yX1_by, .selects RX1 yX1_by yX1_by, .initialized RX1, .code yX1_by cX1_by 3 (some .int), .fieldLink RX1 13 "ToneButterfliesModel" "p" "I", .methodLink RX1 70 yX1_its, .instanceMethod yX1_its, .selects RX1 yX1_its yX1_its, .code yX1_its cX1_its 3 (some .int), .fieldLink RX1 22 "ToneButterfliesModel" "rows" "[I", .methodLink RX1 73 yX1_plus, .instanceMethod yX1_plus, .selects RX1 yX1_plus yX1_plus, .code yX1_plus cX1_plus 3 (some .int)] ++ wsX10)
def wsX1_makeTones : List Cond := .code yX1_makeTones cX1_makeTones 6 none :: ([.fieldLink RX1 7 "ToneButterfliesModel" "n" "I", .fieldLink RX1 26 "ToneButterfliesModel" "made" "[I", .methodLink RX1 76 yX1_pointOf, .instanceMethod yX1_pointOf, .selects RX1 yX1_pointOf yX1_pointOf, .initialized RX1, .code yX1_pointOf cX1_pointOf 5 (some .int), .methodLink RX1 36 yX1_by, .instanceMethod yX1_by, .selects RX1 yX1_by yX1_by, .code yX1_by cX1_by 3 (some .int), .fieldLink RX1 13 "ToneButterfliesModel" "p" "I", .methodLink RX1 70 yX1_its, .instanceMethod yX1_its, .selects RX1 yX1_its yX1_its, .code yX1_its cX1_its 3 (some .int), .fieldLink RX1 22 "ToneButterfliesModel" "rows" "[I", .methodLink RX1 73 yX1_plus, .instanceMethod yX1_plus, .selects RX1 yX1_plus yX1_plus, .code yX1_plus cX1_plus 3 (some .int)] ++ wsX10)
def wsX1_folded : List Cond := .code yX1_folded cX1_folded 6 (some .int) :: ([.fieldLink RX1 7 "ToneButterfliesModel" "n" "I", .methodLink RX1 70 yX1_its, .instanceMethod yX1_its, .selects RX1 yX1_its yX1_its, .initialized RX1, .code yX1_its cX1_its 3 (some .int), .fieldLink RX1 22 "ToneButterfliesModel" "rows" "[I", .methodLink RX1 36 yX1_by, .instanceMethod yX1_by, .selects RX1 yX1_by yX1_by, .code yX1_by cX1_by 3 (some .int), .fieldLink RX1 13 "ToneButterfliesModel" "p" "I", .methodLink RX1 73 yX1_plus, .instanceMethod yX1_plus, .selects RX1 yX1_plus yX1_plus, .code yX1_plus cX1_plus 3 (some .int)] ++ wsX10)
def wsX1_mirrored : List Cond := .code yX1_mirrored cX1_mirrored 4 (some .int) :: ([.fieldLink RX1 19 "ToneButterfliesModel" "bits" "I"] ++ wsX10)
def wsX1_set : List Cond := .code yX1_set cX1_set 5 (some .int) :: ([.fieldLink RX1 29 "ToneButterfliesModel" "thrown" "I", .fieldLink RX1 13 "ToneButterfliesModel" "p" "I", .fieldLink RX1 22 "ToneButterfliesModel" "rows" "[I", .methodLink RX1 79 yX1_isRow, .static yX1_isRow, .initialized RX1, .code yX1_isRow cX1_isRow 1 (some .boolean), .methodLink RX1 32 yX1_isIn, .static yX1_isIn, .code yX1_isIn cX1_isIn 3 (some .boolean), .methodLink RX1 82 yX1_isPlace, .instanceMethod yX1_isPlace, .selects RX1 yX1_isPlace yX1_isPlace, .code yX1_isPlace cX1_isPlace 2 (some .boolean), .fieldLink RX1 7 "ToneButterfliesModel" "n" "I", .methodLink RX1 48 yX1_no, .instanceMethod yX1_no, .selects RX1 yX1_no yX1_no, .code yX1_no cX1_no 2 (some .int), .methodLink RX1 70 yX1_its, .instanceMethod yX1_its, .selects RX1 yX1_its yX1_its, .code yX1_its cX1_its 3 (some .int)] ++ wsX10)
def wsX1_copy_r1 : List Cond := [Cond.fieldLink RX1 29 "ToneButterfliesModel" "thrown" "I", Cond.fieldLink RX1 22 "ToneButterfliesModel" "rows" "[I", Cond.fieldLink RX1 26 "ToneButterfliesModel" "made" "[I", Cond.fieldLink RX1 7 "ToneButterfliesModel" "n" "I", Cond.methodLink RX1 64 arraycopyName, Cond.native arraycopyName, Cond.static arraycopyName, Cond.initialized "java/lang/System", Cond.methodLink RX1 79 yX1_isRow, Cond.static yX1_isRow, Cond.initialized RX1, Cond.code yX1_isRow cX1_isRow 1 (some .boolean), Cond.methodLink RX1 32 yX1_isIn, Cond.static yX1_isIn, Cond.code yX1_isIn cX1_isIn 3 (some .boolean), Cond.methodLink RX1 48 yX1_no, Cond.instanceMethod yX1_no, Cond.selects RX1 yX1_no yX1_no, Cond.code yX1_no cX1_no 2 (some .int), Cond.methodLink RX1 85 yX1_changes, Cond.instanceMethod yX1_changes, Cond.selects RX1 yX1_changes yX1_changes, Cond.code yX1_changes cX1_changes 4 (some .int), Cond.methodLink RX1 70 yX1_its]
def wsX1_copy_r2 : List Cond := [Cond.instanceMethod yX1_its, Cond.selects RX1 yX1_its yX1_its, Cond.code yX1_its cX1_its 3 (some .int), Cond.methodLink RX1 88 yX1_lay, Cond.instanceMethod yX1_lay, Cond.selects RX1 yX1_lay yX1_lay, Cond.code yX1_lay cX1_lay 2 none]
def wsX1_copy : List Cond := .code yX1_copy cX1_copy 4 (some .int) :: ((wsX1_copy_r1 ++ wsX1_copy_r2) ++ wsX10)
def wsX1_turn_r1 : List Cond := [Cond.fieldLink RX1 29 "ToneButterfliesModel" "thrown" "I", Cond.fieldLink RX1 16 "ToneButterfliesModel" "w" "I", Cond.fieldLink RX1 7 "ToneButterfliesModel" "n" "I", Cond.fieldLink RX1 26 "ToneButterfliesModel" "made" "[I", Cond.methodLink RX1 79 yX1_isRow, Cond.static yX1_isRow, Cond.initialized RX1, Cond.code yX1_isRow cX1_isRow 1 (some .boolean), Cond.methodLink RX1 32 yX1_isIn, Cond.static yX1_isIn, Cond.code yX1_isIn cX1_isIn 3 (some .boolean), Cond.methodLink RX1 48 yX1_no, Cond.instanceMethod yX1_no, Cond.selects RX1 yX1_no yX1_no, Cond.code yX1_no cX1_no 2 (some .int), Cond.methodLink RX1 58 yX1_inverseOf, Cond.instanceMethod yX1_inverseOf, Cond.selects RX1 yX1_inverseOf yX1_inverseOf, Cond.code yX1_inverseOf cX1_inverseOf 9 (some .int), Cond.fieldLink RX1 13 "ToneButterfliesModel" "p" "I", Cond.methodLink RX1 92 yX1_makeTones, Cond.instanceMethod yX1_makeTones, Cond.selects RX1 yX1_makeTones yX1_makeTones, Cond.code yX1_makeTones cX1_makeTones 6 none]
def wsX1_turn_r2 : List Cond := [Cond.methodLink RX1 76 yX1_pointOf, Cond.instanceMethod yX1_pointOf, Cond.selects RX1 yX1_pointOf yX1_pointOf, Cond.code yX1_pointOf cX1_pointOf 5 (some .int), Cond.methodLink RX1 36 yX1_by, Cond.instanceMethod yX1_by, Cond.selects RX1 yX1_by yX1_by, Cond.code yX1_by cX1_by 3 (some .int), Cond.methodLink RX1 70 yX1_its, Cond.instanceMethod yX1_its, Cond.selects RX1 yX1_its yX1_its, Cond.code yX1_its cX1_its 3 (some .int), Cond.fieldLink RX1 22 "ToneButterfliesModel" "rows" "[I", Cond.methodLink RX1 73 yX1_plus, Cond.instanceMethod yX1_plus, Cond.selects RX1 yX1_plus yX1_plus, Cond.code yX1_plus cX1_plus 3 (some .int), Cond.methodLink RX1 88 yX1_lay, Cond.instanceMethod yX1_lay, Cond.selects RX1 yX1_lay yX1_lay, Cond.code yX1_lay cX1_lay 2 none, Cond.methodLink RX1 64 arraycopyName, Cond.native arraycopyName, Cond.static arraycopyName]
def wsX1_turn_r3 : List Cond := [Cond.initialized "java/lang/System"]
def wsX1_turn : List Cond := .code yX1_turn cX1_turn 3 (some .int) :: ((wsX1_turn_r1 ++ (wsX1_turn_r2 ++ wsX1_turn_r3)) ++ wsX10)
def wsX1_mirror_r1 : List Cond := [Cond.fieldLink RX1 29 "ToneButterfliesModel" "thrown" "I", Cond.fieldLink RX1 7 "ToneButterfliesModel" "n" "I", Cond.fieldLink RX1 26 "ToneButterfliesModel" "made" "[I", Cond.methodLink RX1 79 yX1_isRow, Cond.static yX1_isRow, Cond.initialized RX1, Cond.code yX1_isRow cX1_isRow 1 (some .boolean), Cond.methodLink RX1 32 yX1_isIn, Cond.static yX1_isIn, Cond.code yX1_isIn cX1_isIn 3 (some .boolean), Cond.methodLink RX1 48 yX1_no, Cond.instanceMethod yX1_no, Cond.selects RX1 yX1_no yX1_no, Cond.code yX1_no cX1_no 2 (some .int), Cond.methodLink RX1 96 yX1_mirrored, Cond.instanceMethod yX1_mirrored, Cond.selects RX1 yX1_mirrored yX1_mirrored, Cond.code yX1_mirrored cX1_mirrored 4 (some .int), Cond.fieldLink RX1 19 "ToneButterfliesModel" "bits" "I", Cond.methodLink RX1 70 yX1_its, Cond.instanceMethod yX1_its, Cond.selects RX1 yX1_its yX1_its, Cond.code yX1_its cX1_its 3 (some .int), Cond.fieldLink RX1 22 "ToneButterfliesModel" "rows" "[I"]
def wsX1_mirror_r2 : List Cond := [Cond.methodLink RX1 85 yX1_changes, Cond.instanceMethod yX1_changes, Cond.selects RX1 yX1_changes yX1_changes, Cond.code yX1_changes cX1_changes 4 (some .int), Cond.methodLink RX1 88 yX1_lay, Cond.instanceMethod yX1_lay, Cond.selects RX1 yX1_lay yX1_lay, Cond.code yX1_lay cX1_lay 2 none, Cond.methodLink RX1 64 arraycopyName, Cond.native arraycopyName, Cond.static arraycopyName, Cond.initialized "java/lang/System"]
def wsX1_mirror : List Cond := .code yX1_mirror cX1_mirror 3 (some .int) :: ((wsX1_mirror_r1 ++ wsX1_mirror_r2) ++ wsX10)
def wsX1_stage_r1 : List Cond := [Cond.fieldLink RX1 29 "ToneButterfliesModel" "thrown" "I", Cond.fieldLink RX1 19 "ToneButterfliesModel" "bits" "I", Cond.fieldLink RX1 7 "ToneButterfliesModel" "n" "I", Cond.fieldLink RX1 16 "ToneButterfliesModel" "w" "I", Cond.fieldLink RX1 26 "ToneButterfliesModel" "made" "[I", Cond.methodLink RX1 79 yX1_isRow, Cond.static yX1_isRow, Cond.initialized RX1, Cond.code yX1_isRow cX1_isRow 1 (some .boolean), Cond.methodLink RX1 32 yX1_isIn, Cond.static yX1_isIn, Cond.code yX1_isIn cX1_isIn 3 (some .boolean), Cond.methodLink RX1 48 yX1_no, Cond.instanceMethod yX1_no, Cond.selects RX1 yX1_no yX1_no, Cond.code yX1_no cX1_no 2 (some .int), Cond.methodLink RX1 70 yX1_its, Cond.instanceMethod yX1_its, Cond.selects RX1 yX1_its yX1_its, Cond.code yX1_its cX1_its 3 (some .int), Cond.fieldLink RX1 22 "ToneButterfliesModel" "rows" "[I", Cond.methodLink RX1 61 yX1_power, Cond.instanceMethod yX1_power, Cond.selects RX1 yX1_power yX1_power]
def wsX1_stage_r2 : List Cond := [Cond.code yX1_power cX1_power 6 (some .int), Cond.methodLink RX1 36 yX1_by, Cond.instanceMethod yX1_by, Cond.selects RX1 yX1_by yX1_by, Cond.code yX1_by cX1_by 3 (some .int), Cond.fieldLink RX1 13 "ToneButterfliesModel" "p" "I", Cond.methodLink RX1 73 yX1_plus, Cond.instanceMethod yX1_plus, Cond.selects RX1 yX1_plus yX1_plus, Cond.code yX1_plus cX1_plus 3 (some .int), Cond.methodLink RX1 99 yX1_minus, Cond.instanceMethod yX1_minus, Cond.selects RX1 yX1_minus yX1_minus, Cond.code yX1_minus cX1_minus 3 (some .int), Cond.methodLink RX1 88 yX1_lay, Cond.instanceMethod yX1_lay, Cond.selects RX1 yX1_lay yX1_lay, Cond.code yX1_lay cX1_lay 2 none, Cond.methodLink RX1 64 arraycopyName, Cond.native arraycopyName, Cond.static arraycopyName, Cond.initialized "java/lang/System"]
def wsX1_stage : List Cond := .code yX1_stage cX1_stage 9 (some .int) :: ((wsX1_stage_r1 ++ wsX1_stage_r2) ++ wsX10)
def wsX1_fold_r1 : List Cond := [Cond.fieldLink RX1 29 "ToneButterfliesModel" "thrown" "I", Cond.fieldLink RX1 7 "ToneButterfliesModel" "n" "I", Cond.fieldLink RX1 26 "ToneButterfliesModel" "made" "[I", Cond.methodLink RX1 79 yX1_isRow, Cond.static yX1_isRow, Cond.initialized RX1, Cond.code yX1_isRow cX1_isRow 1 (some .boolean), Cond.methodLink RX1 32 yX1_isIn, Cond.static yX1_isIn, Cond.code yX1_isIn cX1_isIn 3 (some .boolean), Cond.methodLink RX1 48 yX1_no, Cond.instanceMethod yX1_no, Cond.selects RX1 yX1_no yX1_no, Cond.code yX1_no cX1_no 2 (some .int), Cond.methodLink RX1 102 yX1_folded, Cond.instanceMethod yX1_folded, Cond.selects RX1 yX1_folded yX1_folded, Cond.code yX1_folded cX1_folded 6 (some .int), Cond.methodLink RX1 70 yX1_its, Cond.instanceMethod yX1_its, Cond.selects RX1 yX1_its yX1_its, Cond.code yX1_its cX1_its 3 (some .int), Cond.fieldLink RX1 22 "ToneButterfliesModel" "rows" "[I", Cond.methodLink RX1 36 yX1_by]
def wsX1_fold_r2 : List Cond := [Cond.instanceMethod yX1_by, Cond.selects RX1 yX1_by yX1_by, Cond.code yX1_by cX1_by 3 (some .int), Cond.fieldLink RX1 13 "ToneButterfliesModel" "p" "I", Cond.methodLink RX1 73 yX1_plus, Cond.instanceMethod yX1_plus, Cond.selects RX1 yX1_plus yX1_plus, Cond.code yX1_plus cX1_plus 3 (some .int), Cond.methodLink RX1 88 yX1_lay, Cond.instanceMethod yX1_lay, Cond.selects RX1 yX1_lay yX1_lay, Cond.code yX1_lay cX1_lay 2 none, Cond.methodLink RX1 64 arraycopyName, Cond.native arraycopyName, Cond.static arraycopyName, Cond.initialized "java/lang/System"]
def wsX1_fold : List Cond := .code yX1_fold cX1_fold 4 (some .int) :: ((wsX1_fold_r1 ++ wsX1_fold_r2) ++ wsX10)
def wsX1_join_r1 : List Cond := [Cond.fieldLink RX1 29 "ToneButterfliesModel" "thrown" "I", Cond.fieldLink RX1 7 "ToneButterfliesModel" "n" "I", Cond.fieldLink RX1 26 "ToneButterfliesModel" "made" "[I", Cond.methodLink RX1 79 yX1_isRow, Cond.static yX1_isRow, Cond.initialized RX1, Cond.code yX1_isRow cX1_isRow 1 (some .boolean), Cond.methodLink RX1 32 yX1_isIn, Cond.static yX1_isIn, Cond.code yX1_isIn cX1_isIn 3 (some .boolean), Cond.methodLink RX1 48 yX1_no, Cond.instanceMethod yX1_no, Cond.selects RX1 yX1_no yX1_no, Cond.code yX1_no cX1_no 2 (some .int), Cond.methodLink RX1 70 yX1_its, Cond.instanceMethod yX1_its, Cond.selects RX1 yX1_its yX1_its, Cond.code yX1_its cX1_its 3 (some .int), Cond.fieldLink RX1 22 "ToneButterfliesModel" "rows" "[I", Cond.methodLink RX1 73 yX1_plus, Cond.instanceMethod yX1_plus, Cond.selects RX1 yX1_plus yX1_plus, Cond.code yX1_plus cX1_plus 3 (some .int), Cond.fieldLink RX1 13 "ToneButterfliesModel" "p" "I"]
def wsX1_join_r2 : List Cond := [Cond.methodLink RX1 99 yX1_minus, Cond.instanceMethod yX1_minus, Cond.selects RX1 yX1_minus yX1_minus, Cond.code yX1_minus cX1_minus 3 (some .int), Cond.methodLink RX1 36 yX1_by, Cond.instanceMethod yX1_by, Cond.selects RX1 yX1_by yX1_by, Cond.code yX1_by cX1_by 3 (some .int), Cond.methodLink RX1 88 yX1_lay, Cond.instanceMethod yX1_lay, Cond.selects RX1 yX1_lay yX1_lay, Cond.code yX1_lay cX1_lay 2 none, Cond.methodLink RX1 64 arraycopyName, Cond.native arraycopyName, Cond.static arraycopyName, Cond.initialized "java/lang/System", Cond.methodLink RX1 106 yX1_others, Cond.instanceMethod yX1_others, Cond.selects RX1 yX1_others yX1_others, Cond.code yX1_others cX1_others 4 (some .int)]
def wsX1_join : List Cond := .code yX1_join cX1_join 5 (some .int) :: ((wsX1_join_r1 ++ wsX1_join_r2) ++ wsX10)
def wsX1_move_r1 : List Cond := [Cond.fieldLink RX1 29 "ToneButterfliesModel" "thrown" "I", Cond.fieldLink RX1 7 "ToneButterfliesModel" "n" "I", Cond.fieldLink RX1 26 "ToneButterfliesModel" "made" "[I", Cond.methodLink RX1 79 yX1_isRow, Cond.static yX1_isRow, Cond.initialized RX1, Cond.code yX1_isRow cX1_isRow 1 (some .boolean), Cond.methodLink RX1 32 yX1_isIn, Cond.static yX1_isIn, Cond.code yX1_isIn cX1_isIn 3 (some .boolean), Cond.methodLink RX1 48 yX1_no, Cond.instanceMethod yX1_no, Cond.selects RX1 yX1_no yX1_no, Cond.code yX1_no cX1_no 2 (some .int), Cond.methodLink RX1 82 yX1_isPlace, Cond.instanceMethod yX1_isPlace, Cond.selects RX1 yX1_isPlace yX1_isPlace, Cond.code yX1_isPlace cX1_isPlace 2 (some .boolean), Cond.methodLink RX1 70 yX1_its, Cond.instanceMethod yX1_its, Cond.selects RX1 yX1_its yX1_its, Cond.code yX1_its cX1_its 3 (some .int), Cond.fieldLink RX1 22 "ToneButterfliesModel" "rows" "[I", Cond.methodLink RX1 88 yX1_lay]
def wsX1_move_r2 : List Cond := [Cond.instanceMethod yX1_lay, Cond.selects RX1 yX1_lay yX1_lay, Cond.code yX1_lay cX1_lay 2 none, Cond.methodLink RX1 64 arraycopyName, Cond.native arraycopyName, Cond.static arraycopyName, Cond.initialized "java/lang/System"]
def wsX1_move : List Cond := .code yX1_move cX1_move 4 (some .int) :: ((wsX1_move_r1 ++ wsX1_move_r2) ++ wsX10)
def wsX1_times_r1 : List Cond := [Cond.fieldLink RX1 29 "ToneButterfliesModel" "thrown" "I", Cond.fieldLink RX1 13 "ToneButterfliesModel" "p" "I", Cond.fieldLink RX1 7 "ToneButterfliesModel" "n" "I", Cond.fieldLink RX1 26 "ToneButterfliesModel" "made" "[I", Cond.methodLink RX1 79 yX1_isRow, Cond.static yX1_isRow, Cond.initialized RX1, Cond.code yX1_isRow cX1_isRow 1 (some .boolean), Cond.methodLink RX1 32 yX1_isIn, Cond.static yX1_isIn, Cond.code yX1_isIn cX1_isIn 3 (some .boolean), Cond.methodLink RX1 48 yX1_no, Cond.instanceMethod yX1_no, Cond.selects RX1 yX1_no yX1_no, Cond.code yX1_no cX1_no 2 (some .int), Cond.methodLink RX1 70 yX1_its, Cond.instanceMethod yX1_its, Cond.selects RX1 yX1_its yX1_its, Cond.code yX1_its cX1_its 3 (some .int), Cond.fieldLink RX1 22 "ToneButterfliesModel" "rows" "[I", Cond.methodLink RX1 36 yX1_by, Cond.instanceMethod yX1_by, Cond.selects RX1 yX1_by yX1_by, Cond.code yX1_by cX1_by 3 (some .int)]
def wsX1_times_r2 : List Cond := [Cond.methodLink RX1 88 yX1_lay, Cond.instanceMethod yX1_lay, Cond.selects RX1 yX1_lay yX1_lay, Cond.code yX1_lay cX1_lay 2 none, Cond.methodLink RX1 64 arraycopyName, Cond.native arraycopyName, Cond.static arraycopyName, Cond.initialized "java/lang/System", Cond.methodLink RX1 106 yX1_others, Cond.instanceMethod yX1_others, Cond.selects RX1 yX1_others yX1_others, Cond.code yX1_others cX1_others 4 (some .int)]
def wsX1_times : List Cond := .code yX1_times cX1_times 4 (some .int) :: ((wsX1_times_r1 ++ wsX1_times_r2) ++ wsX10)
def wsX1_at : List Cond := .code yX1_at cX1_at 3 (some .int) :: ([.fieldLink RX1 29 "ToneButterfliesModel" "thrown" "I", .methodLink RX1 79 yX1_isRow, .static yX1_isRow, .initialized RX1, .code yX1_isRow cX1_isRow 1 (some .boolean), .methodLink RX1 32 yX1_isIn, .static yX1_isIn, .code yX1_isIn cX1_isIn 3 (some .boolean), .methodLink RX1 82 yX1_isPlace, .instanceMethod yX1_isPlace, .selects RX1 yX1_isPlace yX1_isPlace, .code yX1_isPlace cX1_isPlace 2 (some .boolean), .fieldLink RX1 7 "ToneButterfliesModel" "n" "I", .methodLink RX1 70 yX1_its, .instanceMethod yX1_its, .selects RX1 yX1_its yX1_its, .code yX1_its cX1_its 3 (some .int), .fieldLink RX1 22 "ToneButterfliesModel" "rows" "[I", .methodLink RX1 48 yX1_no, .instanceMethod yX1_no, .selects RX1 yX1_no yX1_no, .code yX1_no cX1_no 2 (some .int)] ++ wsX10)
def wsX1_point_r1 : List Cond := [Cond.fieldLink RX1 29 "ToneButterfliesModel" "thrown" "I", Cond.fieldLink RX1 13 "ToneButterfliesModel" "p" "I", Cond.methodLink RX1 79 yX1_isRow, Cond.static yX1_isRow, Cond.initialized RX1, Cond.code yX1_isRow cX1_isRow 1 (some .boolean), Cond.methodLink RX1 32 yX1_isIn, Cond.static yX1_isIn, Cond.code yX1_isIn cX1_isIn 3 (some .boolean), Cond.methodLink RX1 48 yX1_no, Cond.instanceMethod yX1_no, Cond.selects RX1 yX1_no yX1_no, Cond.code yX1_no cX1_no 2 (some .int), Cond.methodLink RX1 76 yX1_pointOf, Cond.instanceMethod yX1_pointOf, Cond.selects RX1 yX1_pointOf yX1_pointOf, Cond.code yX1_pointOf cX1_pointOf 5 (some .int), Cond.fieldLink RX1 7 "ToneButterfliesModel" "n" "I", Cond.methodLink RX1 36 yX1_by, Cond.instanceMethod yX1_by, Cond.selects RX1 yX1_by yX1_by, Cond.code yX1_by cX1_by 3 (some .int), Cond.methodLink RX1 70 yX1_its, Cond.instanceMethod yX1_its]
def wsX1_point_r2 : List Cond := [Cond.selects RX1 yX1_its yX1_its, Cond.code yX1_its cX1_its 3 (some .int), Cond.fieldLink RX1 22 "ToneButterfliesModel" "rows" "[I", Cond.methodLink RX1 73 yX1_plus, Cond.instanceMethod yX1_plus, Cond.selects RX1 yX1_plus yX1_plus, Cond.code yX1_plus cX1_plus 3 (some .int)]
def wsX1_point : List Cond := .code yX1_point cX1_point 3 (some .int) :: ((wsX1_point_r1 ++ wsX1_point_r2) ++ wsX10)
def wsX1_isMoved : List Cond := .code yX1_isMoved cX1_isMoved 5 (some .boolean) :: ([.fieldLink RX1 7 "ToneButterfliesModel" "n" "I", .methodLink RX1 70 yX1_its, .instanceMethod yX1_its, .selects RX1 yX1_its yX1_its, .initialized RX1, .code yX1_its cX1_its 3 (some .int), .fieldLink RX1 22 "ToneButterfliesModel" "rows" "[I"] ++ wsX10)
def wsX1_aboutTold_r1 : List Cond := [Cond.fieldLink RX1 7 "ToneButterfliesModel" "n" "I", Cond.methodLink RX1 112 Lib.Math.max.name, Cond.static Lib.Math.max.name, Cond.initialized "java/lang/Math", Cond.code Lib.Math.max.name Lib.Math.max.code 2 (some .int), Cond.methodLink RX1 76 yX1_pointOf, Cond.instanceMethod yX1_pointOf, Cond.selects RX1 yX1_pointOf yX1_pointOf, Cond.initialized RX1, Cond.code yX1_pointOf cX1_pointOf 5 (some .int), Cond.methodLink RX1 36 yX1_by, Cond.instanceMethod yX1_by, Cond.selects RX1 yX1_by yX1_by, Cond.code yX1_by cX1_by 3 (some .int), Cond.fieldLink RX1 13 "ToneButterfliesModel" "p" "I", Cond.methodLink RX1 70 yX1_its, Cond.instanceMethod yX1_its, Cond.selects RX1 yX1_its yX1_its, Cond.code yX1_its cX1_its 3 (some .int), Cond.fieldLink RX1 22 "ToneButterfliesModel" "rows" "[I", Cond.methodLink RX1 73 yX1_plus, Cond.instanceMethod yX1_plus, Cond.selects RX1 yX1_plus yX1_plus, Cond.code yX1_plus cX1_plus 3 (some .int)]
def wsX1_aboutTold_r2 : List Cond := [Cond.methodLink RX1 106 yX1_others, Cond.instanceMethod yX1_others, Cond.selects RX1 yX1_others yX1_others, Cond.code yX1_others cX1_others 4 (some .int), Cond.methodLink RX1 109 yX1_isMoved, Cond.instanceMethod yX1_isMoved, Cond.selects RX1 yX1_isMoved yX1_isMoved, Cond.code yX1_isMoved cX1_isMoved 5 (some .boolean)]
def wsX1_aboutTold : List Cond := .code yX1_aboutTold cX1_aboutTold 5 (some .int) :: ((wsX1_aboutTold_r1 ++ wsX1_aboutTold_r2) ++ wsX10)
def wsX1_about_r1 : List Cond := [Cond.fieldLink RX1 29 "ToneButterfliesModel" "thrown" "I", Cond.methodLink RX1 79 yX1_isRow, Cond.static yX1_isRow, Cond.initialized RX1, Cond.code yX1_isRow cX1_isRow 1 (some .boolean), Cond.methodLink RX1 32 yX1_isIn, Cond.static yX1_isIn, Cond.code yX1_isIn cX1_isIn 3 (some .boolean), Cond.methodLink RX1 117 yX1_aboutTold, Cond.instanceMethod yX1_aboutTold, Cond.selects RX1 yX1_aboutTold yX1_aboutTold, Cond.code yX1_aboutTold cX1_aboutTold 5 (some .int), Cond.fieldLink RX1 7 "ToneButterfliesModel" "n" "I", Cond.methodLink RX1 112 Lib.Math.max.name, Cond.static Lib.Math.max.name, Cond.initialized "java/lang/Math", Cond.code Lib.Math.max.name Lib.Math.max.code 2 (some .int), Cond.methodLink RX1 76 yX1_pointOf, Cond.instanceMethod yX1_pointOf, Cond.selects RX1 yX1_pointOf yX1_pointOf, Cond.code yX1_pointOf cX1_pointOf 5 (some .int), Cond.methodLink RX1 36 yX1_by, Cond.instanceMethod yX1_by, Cond.selects RX1 yX1_by yX1_by]
def wsX1_about_r2 : List Cond := [Cond.code yX1_by cX1_by 3 (some .int), Cond.fieldLink RX1 13 "ToneButterfliesModel" "p" "I", Cond.methodLink RX1 70 yX1_its, Cond.instanceMethod yX1_its, Cond.selects RX1 yX1_its yX1_its, Cond.code yX1_its cX1_its 3 (some .int), Cond.fieldLink RX1 22 "ToneButterfliesModel" "rows" "[I", Cond.methodLink RX1 73 yX1_plus, Cond.instanceMethod yX1_plus, Cond.selects RX1 yX1_plus yX1_plus, Cond.code yX1_plus cX1_plus 3 (some .int), Cond.methodLink RX1 106 yX1_others, Cond.instanceMethod yX1_others, Cond.selects RX1 yX1_others yX1_others, Cond.code yX1_others cX1_others 4 (some .int), Cond.methodLink RX1 109 yX1_isMoved, Cond.instanceMethod yX1_isMoved, Cond.selects RX1 yX1_isMoved yX1_isMoved, Cond.code yX1_isMoved cX1_isMoved 5 (some .boolean), Cond.methodLink RX1 48 yX1_no, Cond.instanceMethod yX1_no, Cond.selects RX1 yX1_no yX1_no, Cond.code yX1_no cX1_no 2 (some .int)]
def wsX1_about : List Cond := .code yX1_about cX1_about 3 (some .int) :: ((wsX1_about_r1 ++ wsX1_about_r2) ++ wsX10)
def wsX1_counted : List Cond := .code yX1_counted cX1_counted 2 (some .int) :: ([.fieldLink RX1 7 "ToneButterfliesModel" "n" "I", .fieldLink RX1 13 "ToneButterfliesModel" "p" "I", .fieldLink RX1 16 "ToneButterfliesModel" "w" "I", .fieldLink RX1 19 "ToneButterfliesModel" "bits" "I", .methodLink RX1 58 yX1_inverseOf, .instanceMethod yX1_inverseOf, .selects RX1 yX1_inverseOf yX1_inverseOf, .initialized RX1, .code yX1_inverseOf cX1_inverseOf 9 (some .int)] ++ wsX10)
def wsX1_count : List Cond := .code yX1_count cX1_count 2 (some .int) :: ([.fieldLink RX1 29 "ToneButterfliesModel" "thrown" "I", .methodLink RX1 32 yX1_isIn, .static yX1_isIn, .initialized RX1, .code yX1_isIn cX1_isIn 3 (some .boolean), .methodLink RX1 120 yX1_counted, .instanceMethod yX1_counted, .selects RX1 yX1_counted yX1_counted, .code yX1_counted cX1_counted 2 (some .int), .fieldLink RX1 7 "ToneButterfliesModel" "n" "I", .fieldLink RX1 13 "ToneButterfliesModel" "p" "I", .fieldLink RX1 16 "ToneButterfliesModel" "w" "I", .fieldLink RX1 19 "ToneButterfliesModel" "bits" "I", .methodLink RX1 58 yX1_inverseOf, .instanceMethod yX1_inverseOf, .selects RX1 yX1_inverseOf yX1_inverseOf, .code yX1_inverseOf cX1_inverseOf 9 (some .int), .methodLink RX1 48 yX1_no, .instanceMethod yX1_no, .selects RX1 yX1_no yX1_no, .code yX1_no cX1_no 2 (some .int)] ++ wsX10)
def wsX1_would_r1 : List Cond := [Cond.fieldLink RX1 29 "ToneButterfliesModel" "thrown" "I", Cond.methodLink RX1 79 yX1_isRow, Cond.static yX1_isRow, Cond.initialized RX1, Cond.code yX1_isRow cX1_isRow 1 (some .boolean), Cond.methodLink RX1 32 yX1_isIn, Cond.static yX1_isIn, Cond.code yX1_isIn cX1_isIn 3 (some .boolean), Cond.methodLink RX1 82 yX1_isPlace, Cond.instanceMethod yX1_isPlace, Cond.selects RX1 yX1_isPlace yX1_isPlace, Cond.code yX1_isPlace cX1_isPlace 2 (some .boolean), Cond.fieldLink RX1 7 "ToneButterfliesModel" "n" "I", Cond.methodLink RX1 102 yX1_folded, Cond.instanceMethod yX1_folded, Cond.selects RX1 yX1_folded yX1_folded, Cond.code yX1_folded cX1_folded 6 (some .int), Cond.methodLink RX1 70 yX1_its, Cond.instanceMethod yX1_its, Cond.selects RX1 yX1_its yX1_its, Cond.code yX1_its cX1_its 3 (some .int), Cond.fieldLink RX1 22 "ToneButterfliesModel" "rows" "[I", Cond.methodLink RX1 36 yX1_by, Cond.instanceMethod yX1_by]
def wsX1_would_r2 : List Cond := [Cond.selects RX1 yX1_by yX1_by, Cond.code yX1_by cX1_by 3 (some .int), Cond.fieldLink RX1 13 "ToneButterfliesModel" "p" "I", Cond.methodLink RX1 73 yX1_plus, Cond.instanceMethod yX1_plus, Cond.selects RX1 yX1_plus yX1_plus, Cond.code yX1_plus cX1_plus 3 (some .int), Cond.methodLink RX1 48 yX1_no, Cond.instanceMethod yX1_no, Cond.selects RX1 yX1_no yX1_no, Cond.code yX1_no cX1_no 2 (some .int)]
def wsX1_would : List Cond := .code yX1_would cX1_would 4 (some .int) :: ((wsX1_would_r1 ++ wsX1_would_r2) ++ wsX10)
def wsX1_comesBy : List Cond := .code yX1_comesBy cX1_comesBy 4 (some .int) :: ([.fieldLink RX1 7 "ToneButterfliesModel" "n" "I", .methodLink RX1 109 yX1_isMoved, .instanceMethod yX1_isMoved, .selects RX1 yX1_isMoved yX1_isMoved, .initialized RX1, .code yX1_isMoved cX1_isMoved 5 (some .boolean), .methodLink RX1 70 yX1_its, .instanceMethod yX1_its, .selects RX1 yX1_its yX1_its, .code yX1_its cX1_its 3 (some .int), .fieldLink RX1 22 "ToneButterfliesModel" "rows" "[I"] ++ wsX10)
def wsX1_comes_r1 : List Cond := [Cond.fieldLink RX1 29 "ToneButterfliesModel" "thrown" "I", Cond.methodLink RX1 79 yX1_isRow, Cond.static yX1_isRow, Cond.initialized RX1, Cond.code yX1_isRow cX1_isRow 1 (some .boolean), Cond.methodLink RX1 32 yX1_isIn, Cond.static yX1_isIn, Cond.code yX1_isIn cX1_isIn 3 (some .boolean), Cond.methodLink RX1 123 yX1_comesBy, Cond.instanceMethod yX1_comesBy, Cond.selects RX1 yX1_comesBy yX1_comesBy, Cond.code yX1_comesBy cX1_comesBy 4 (some .int), Cond.fieldLink RX1 7 "ToneButterfliesModel" "n" "I", Cond.methodLink RX1 109 yX1_isMoved, Cond.instanceMethod yX1_isMoved, Cond.selects RX1 yX1_isMoved yX1_isMoved, Cond.code yX1_isMoved cX1_isMoved 5 (some .boolean), Cond.methodLink RX1 70 yX1_its, Cond.instanceMethod yX1_its, Cond.selects RX1 yX1_its yX1_its, Cond.code yX1_its cX1_its 3 (some .int), Cond.fieldLink RX1 22 "ToneButterfliesModel" "rows" "[I", Cond.methodLink RX1 48 yX1_no, Cond.instanceMethod yX1_no]
def wsX1_comes_r2 : List Cond := [Cond.selects RX1 yX1_no yX1_no, Cond.code yX1_no cX1_no 2 (some .int)]
def wsX1_comes : List Cond := .code yX1_comes cX1_comes 3 (some .int) :: ((wsX1_comes_r1 ++ wsX1_comes_r2) ++ wsX10)
def wsX1_together : List Cond := .code yX1_together cX1_together 6 (some .int) :: ([.fieldLink RX1 7 "ToneButterfliesModel" "n" "I", .methodLink RX1 70 yX1_its, .instanceMethod yX1_its, .selects RX1 yX1_its yX1_its, .initialized RX1, .code yX1_its cX1_its 3 (some .int), .fieldLink RX1 22 "ToneButterfliesModel" "rows" "[I", .methodLink RX1 36 yX1_by, .instanceMethod yX1_by, .selects RX1 yX1_by yX1_by, .code yX1_by cX1_by 3 (some .int), .fieldLink RX1 13 "ToneButterfliesModel" "p" "I", .methodLink RX1 73 yX1_plus, .instanceMethod yX1_plus, .selects RX1 yX1_plus yX1_plus, .code yX1_plus cX1_plus 3 (some .int)] ++ wsX10)
def wsX1_advise_r1 : List Cond := [Cond.fieldLink RX1 29 "ToneButterfliesModel" "thrown" "I", Cond.fieldLink RX1 7 "ToneButterfliesModel" "n" "I", Cond.methodLink RX1 79 yX1_isRow, Cond.static yX1_isRow, Cond.initialized RX1, Cond.code yX1_isRow cX1_isRow 1 (some .boolean), Cond.methodLink RX1 32 yX1_isIn, Cond.static yX1_isIn, Cond.code yX1_isIn cX1_isIn 3 (some .boolean), Cond.methodLink RX1 48 yX1_no, Cond.instanceMethod yX1_no, Cond.selects RX1 yX1_no yX1_no, Cond.code yX1_no cX1_no 2 (some .int), Cond.methodLink RX1 126 yX1_together, Cond.instanceMethod yX1_together, Cond.selects RX1 yX1_together yX1_together, Cond.code yX1_together cX1_together 6 (some .int), Cond.methodLink RX1 70 yX1_its, Cond.instanceMethod yX1_its, Cond.selects RX1 yX1_its yX1_its, Cond.code yX1_its cX1_its 3 (some .int), Cond.fieldLink RX1 22 "ToneButterfliesModel" "rows" "[I", Cond.methodLink RX1 36 yX1_by, Cond.instanceMethod yX1_by]
def wsX1_advise_r2 : List Cond := [Cond.selects RX1 yX1_by yX1_by, Cond.code yX1_by cX1_by 3 (some .int), Cond.fieldLink RX1 13 "ToneButterfliesModel" "p" "I", Cond.methodLink RX1 73 yX1_plus, Cond.instanceMethod yX1_plus, Cond.selects RX1 yX1_plus yX1_plus, Cond.code yX1_plus cX1_plus 3 (some .int)]
def wsX1_advise : List Cond := .code yX1_advise cX1_advise 5 (some .int) :: ((wsX1_advise_r1 ++ wsX1_advise_r2) ++ wsX10)
def wsX1_areTones_r1 : List Cond := [Cond.fieldLink RX1 16 "ToneButterfliesModel" "w" "I", Cond.methodLink RX1 92 yX1_makeTones, Cond.instanceMethod yX1_makeTones, Cond.selects RX1 yX1_makeTones yX1_makeTones, Cond.initialized RX1, Cond.code yX1_makeTones cX1_makeTones 6 none, Cond.fieldLink RX1 7 "ToneButterfliesModel" "n" "I", Cond.fieldLink RX1 26 "ToneButterfliesModel" "made" "[I", Cond.methodLink RX1 76 yX1_pointOf, Cond.instanceMethod yX1_pointOf, Cond.selects RX1 yX1_pointOf yX1_pointOf, Cond.code yX1_pointOf cX1_pointOf 5 (some .int), Cond.methodLink RX1 36 yX1_by, Cond.instanceMethod yX1_by, Cond.selects RX1 yX1_by yX1_by, Cond.code yX1_by cX1_by 3 (some .int), Cond.fieldLink RX1 13 "ToneButterfliesModel" "p" "I", Cond.methodLink RX1 70 yX1_its, Cond.instanceMethod yX1_its, Cond.selects RX1 yX1_its yX1_its, Cond.code yX1_its cX1_its 3 (some .int), Cond.fieldLink RX1 22 "ToneButterfliesModel" "rows" "[I", Cond.methodLink RX1 73 yX1_plus, Cond.instanceMethod yX1_plus]
def wsX1_areTones_r2 : List Cond := [Cond.selects RX1 yX1_plus yX1_plus, Cond.code yX1_plus cX1_plus 3 (some .int), Cond.methodLink RX1 85 yX1_changes, Cond.instanceMethod yX1_changes, Cond.selects RX1 yX1_changes yX1_changes, Cond.code yX1_changes cX1_changes 4 (some .int)]
def wsX1_areTones : List Cond := .code yX1_areTones cX1_areTones 3 (some .boolean) :: ((wsX1_areTones_r1 ++ wsX1_areTones_r2) ++ wsX10)
def wsX1_tones_r1 : List Cond := [Cond.fieldLink RX1 29 "ToneButterfliesModel" "thrown" "I", Cond.methodLink RX1 79 yX1_isRow, Cond.static yX1_isRow, Cond.initialized RX1, Cond.code yX1_isRow cX1_isRow 1 (some .boolean), Cond.methodLink RX1 32 yX1_isIn, Cond.static yX1_isIn, Cond.code yX1_isIn cX1_isIn 3 (some .boolean), Cond.methodLink RX1 129 yX1_areTones, Cond.instanceMethod yX1_areTones, Cond.selects RX1 yX1_areTones yX1_areTones, Cond.code yX1_areTones cX1_areTones 3 (some .boolean), Cond.fieldLink RX1 16 "ToneButterfliesModel" "w" "I", Cond.methodLink RX1 92 yX1_makeTones, Cond.instanceMethod yX1_makeTones, Cond.selects RX1 yX1_makeTones yX1_makeTones, Cond.code yX1_makeTones cX1_makeTones 6 none, Cond.fieldLink RX1 7 "ToneButterfliesModel" "n" "I", Cond.fieldLink RX1 26 "ToneButterfliesModel" "made" "[I", Cond.methodLink RX1 76 yX1_pointOf, Cond.instanceMethod yX1_pointOf, Cond.selects RX1 yX1_pointOf yX1_pointOf, Cond.code yX1_pointOf cX1_pointOf 5 (some .int), Cond.methodLink RX1 36 yX1_by]
def wsX1_tones_r2 : List Cond := [Cond.instanceMethod yX1_by, Cond.selects RX1 yX1_by yX1_by, Cond.code yX1_by cX1_by 3 (some .int), Cond.fieldLink RX1 13 "ToneButterfliesModel" "p" "I", Cond.methodLink RX1 70 yX1_its, Cond.instanceMethod yX1_its, Cond.selects RX1 yX1_its yX1_its, Cond.code yX1_its cX1_its 3 (some .int), Cond.fieldLink RX1 22 "ToneButterfliesModel" "rows" "[I", Cond.methodLink RX1 73 yX1_plus, Cond.instanceMethod yX1_plus, Cond.selects RX1 yX1_plus yX1_plus, Cond.code yX1_plus cX1_plus 3 (some .int), Cond.methodLink RX1 85 yX1_changes, Cond.instanceMethod yX1_changes, Cond.selects RX1 yX1_changes yX1_changes, Cond.code yX1_changes cX1_changes 4 (some .int)]
def wsX1_tones : List Cond := .code yX1_tones cX1_tones 3 (some .boolean) :: ((wsX1_tones_r1 ++ wsX1_tones_r2) ++ wsX10)
def wsX1_mean : List Cond := .code yX1_mean cX1_mean 4 (some .double) :: ([.fieldLink RX1 29 "ToneButterfliesModel" "thrown" "I", .fieldLink RX1 7 "ToneButterfliesModel" "n" "I", .methodLink RX1 79 yX1_isRow, .static yX1_isRow, .initialized RX1, .code yX1_isRow cX1_isRow 1 (some .boolean), .methodLink RX1 32 yX1_isIn, .static yX1_isIn, .code yX1_isIn cX1_isIn 3 (some .boolean), .methodLink RX1 70 yX1_its, .instanceMethod yX1_its, .selects RX1 yX1_its yX1_its, .code yX1_its cX1_its 3 (some .int), .fieldLink RX1 22 "ToneButterfliesModel" "rows" "[I"] ++ wsX10)
def wsX1_digest_r1 : List Cond := [Cond.fieldLink RX1 29 "ToneButterfliesModel" "thrown" "I", Cond.constantLong RX1 133 (1777), Cond.constantLong RX1 135 (31), Cond.fieldLink RX1 7 "ToneButterfliesModel" "n" "I", Cond.fieldLink RX1 16 "ToneButterfliesModel" "w" "I", Cond.fieldLink RX1 26 "ToneButterfliesModel" "made" "[I", Cond.methodLink RX1 120 yX1_counted, Cond.instanceMethod yX1_counted, Cond.selects RX1 yX1_counted yX1_counted, Cond.initialized RX1, Cond.code yX1_counted cX1_counted 2 (some .int), Cond.fieldLink RX1 13 "ToneButterfliesModel" "p" "I", Cond.fieldLink RX1 19 "ToneButterfliesModel" "bits" "I", Cond.methodLink RX1 58 yX1_inverseOf, Cond.instanceMethod yX1_inverseOf, Cond.selects RX1 yX1_inverseOf yX1_inverseOf, Cond.code yX1_inverseOf cX1_inverseOf 9 (some .int), Cond.methodLink RX1 70 yX1_its, Cond.instanceMethod yX1_its, Cond.selects RX1 yX1_its yX1_its, Cond.code yX1_its cX1_its 3 (some .int), Cond.fieldLink RX1 22 "ToneButterfliesModel" "rows" "[I", Cond.methodLink RX1 117 yX1_aboutTold, Cond.instanceMethod yX1_aboutTold]
def wsX1_digest_r2 : List Cond := [Cond.selects RX1 yX1_aboutTold yX1_aboutTold, Cond.code yX1_aboutTold cX1_aboutTold 5 (some .int), Cond.methodLink RX1 112 Lib.Math.max.name, Cond.static Lib.Math.max.name, Cond.initialized "java/lang/Math", Cond.code Lib.Math.max.name Lib.Math.max.code 2 (some .int), Cond.methodLink RX1 76 yX1_pointOf, Cond.instanceMethod yX1_pointOf, Cond.selects RX1 yX1_pointOf yX1_pointOf, Cond.code yX1_pointOf cX1_pointOf 5 (some .int), Cond.methodLink RX1 36 yX1_by, Cond.instanceMethod yX1_by, Cond.selects RX1 yX1_by yX1_by, Cond.code yX1_by cX1_by 3 (some .int), Cond.methodLink RX1 73 yX1_plus, Cond.instanceMethod yX1_plus, Cond.selects RX1 yX1_plus yX1_plus, Cond.code yX1_plus cX1_plus 3 (some .int), Cond.methodLink RX1 106 yX1_others, Cond.instanceMethod yX1_others, Cond.selects RX1 yX1_others yX1_others, Cond.code yX1_others cX1_others 4 (some .int), Cond.methodLink RX1 109 yX1_isMoved, Cond.instanceMethod yX1_isMoved]
def wsX1_digest_r3 : List Cond := [Cond.selects RX1 yX1_isMoved yX1_isMoved, Cond.code yX1_isMoved cX1_isMoved 5 (some .boolean), Cond.methodLink RX1 92 yX1_makeTones, Cond.instanceMethod yX1_makeTones, Cond.selects RX1 yX1_makeTones yX1_makeTones, Cond.code yX1_makeTones cX1_makeTones 6 none]
def wsX1_digest : List Cond := .code yX1_digest cX1_digest 5 (some .long) :: ((wsX1_digest_r1 ++ (wsX1_digest_r2 ++ wsX1_digest_r3)) ++ wsX10)
def wsJ9_max_7cf53 : List Cond := .code yJ9_max_7cf53 cJ9_max_7cf53 2 (some .int) :: ([])
def wsL_ring_r1 : List Cond := [Cond.classLink RL 13 "java/lang/IllegalArgumentException", Cond.methodLink RL 7 yX0_ring, Cond.instanceMethod yX0_ring, Cond.selects RX0 yX0_ring yX0_ring, Cond.initialized RX0, Cond.code yX0_ring cX0_ring 3 (some .int), Cond.classLink RX0 28 "java/lang/IllegalArgumentException", Cond.initialized "java/lang/IllegalArgumentException", Cond.fieldLink RX0 35 "ToneButterflies" "unityRoot" "I", Cond.methodLink RX0 17 yX0_isLength, Cond.static yX0_isLength, Cond.code yX0_isLength cX0_isLength 1 (some .boolean), Cond.methodLink RX0 21 yX0_isPrimeOfRing, Cond.static yX0_isPrimeOfRing, Cond.code yX0_isPrimeOfRing cX0_isPrimeOfRing 2 (some .boolean), Cond.methodLink RX0 24 yX0_divides, Cond.static yX0_divides, Cond.code yX0_divides cX0_divides 2 (some .boolean), Cond.methodLink RX0 13 yX0_takeRing, Cond.instanceMethod yX0_takeRing, Cond.selects RX0 yX0_takeRing yX0_takeRing, Cond.code yX0_takeRing cX0_takeRing 4 none, Cond.fieldLink RX0 84 "ToneButterflies" "length" "I", Cond.fieldLink RX0 43 "ToneButterflies" "prime" "I"]
def wsL_ring_r2 : List Cond := [Cond.fieldLink RX0 90 "ToneButterflies" "bits" "I", Cond.fieldLink RX0 162 "ToneButterflies" "unityRootInverse" "I", Cond.fieldLink RX0 165 "ToneButterflies" "lengthInverse" "I", Cond.fieldLink RX0 9 "ToneButterflies" "numbers" "[I", Cond.methodLink RX0 158 yX0_smallestRoot, Cond.instanceMethod yX0_smallestRoot, Cond.selects RX0 yX0_smallestRoot yX0_smallestRoot, Cond.code yX0_smallestRoot cX0_smallestRoot 2 (some .int), Cond.methodLink RX0 55 yX0_powerOf, Cond.instanceMethod yX0_powerOf, Cond.selects RX0 yX0_powerOf yX0_powerOf, Cond.code yX0_powerOf cX0_powerOf 6 (some .int), Cond.methodLink RX0 46 yX0_reduced, Cond.instanceMethod yX0_reduced, Cond.selects RX0 yX0_reduced yX0_reduced, Cond.code yX0_reduced cX0_reduced 2 (some .int), Cond.methodLink RX0 168 yJ9_floorMod_7cf53, Cond.static yJ9_floorMod_7cf53, Cond.initialized RJ9, Cond.code yJ9_floorMod_7cf53 cJ9_floorMod_7cf53 3 (some .int), Cond.methodLink RX0 50 yX0_inverseOf, Cond.instanceMethod yX0_inverseOf, Cond.selects RX0 yX0_inverseOf yX0_inverseOf, Cond.code yX0_inverseOf cX0_inverseOf 2 (some .int)]
def wsL_ring : List Cond := .codeWith yL_ring cL_ring 5 (some .int) [(0, 10, 13, 13)] :: ((wsL_ring_r1 ++ wsL_ring_r2) ++ wsX00 ++ (vx_atS RX0 32 "java/lang/IllegalArgumentException" ["java/lang/RuntimeException", "java/lang/Exception"]).filter goodWord)
def wsL_order : List Cond := .codeWith yL_order cL_order 4 (some .int) [(0, 9, 12, 13)] :: ([.classLink RL 13 "java/lang/IllegalArgumentException", .methodLink RL 15 yX0_order, .instanceMethod yX0_order, .selects RX0 yX0_order yX0_order, .initialized RX0, .code yX0_order cX0_order 4 (some .int), .fieldLink RX0 43 "ToneButterflies" "prime" "I", .methodLink RX0 39 yX0_requireInvertible, .instanceMethod yX0_requireInvertible, .selects RX0 yX0_requireInvertible yX0_requireInvertible, .code yX0_requireInvertible cX0_requireInvertible 2 none, .classLink RX0 28 "java/lang/IllegalArgumentException", .initialized "java/lang/IllegalArgumentException", .methodLink RX0 46 yX0_reduced, .instanceMethod yX0_reduced, .selects RX0 yX0_reduced yX0_reduced, .code yX0_reduced cX0_reduced 2 (some .int), .methodLink RX0 168 yJ9_floorMod_7cf53, .static yJ9_floorMod_7cf53, .initialized RJ9, .code yJ9_floorMod_7cf53 cJ9_floorMod_7cf53 3 (some .int)] ++ wsX00 ++ (vx_atS RX0 32 "java/lang/IllegalArgumentException" ["java/lang/RuntimeException", "java/lang/Exception"]).filter goodWord)
def wsL_inverse_r1 : List Cond := [Cond.classLink RL 13 "java/lang/IllegalArgumentException", Cond.methodLink RL 19 yX0_inverse, Cond.instanceMethod yX0_inverse, Cond.selects RX0 yX0_inverse yX0_inverse, Cond.initialized RX0, Cond.code yX0_inverse cX0_inverse 2 (some .int), Cond.methodLink RX0 39 yX0_requireInvertible, Cond.instanceMethod yX0_requireInvertible, Cond.selects RX0 yX0_requireInvertible yX0_requireInvertible, Cond.code yX0_requireInvertible cX0_requireInvertible 2 none, Cond.classLink RX0 28 "java/lang/IllegalArgumentException", Cond.initialized "java/lang/IllegalArgumentException", Cond.fieldLink RX0 43 "ToneButterflies" "prime" "I", Cond.methodLink RX0 50 yX0_inverseOf, Cond.instanceMethod yX0_inverseOf, Cond.selects RX0 yX0_inverseOf yX0_inverseOf, Cond.code yX0_inverseOf cX0_inverseOf 2 (some .int), Cond.methodLink RX0 55 yX0_powerOf, Cond.instanceMethod yX0_powerOf, Cond.selects RX0 yX0_powerOf yX0_powerOf, Cond.code yX0_powerOf cX0_powerOf 6 (some .int), Cond.methodLink RX0 46 yX0_reduced, Cond.instanceMethod yX0_reduced, Cond.selects RX0 yX0_reduced yX0_reduced]
def wsL_inverse_r2 : List Cond := [Cond.code yX0_reduced cX0_reduced 2 (some .int), Cond.methodLink RX0 168 yJ9_floorMod_7cf53, Cond.static yJ9_floorMod_7cf53, Cond.initialized RJ9, Cond.code yJ9_floorMod_7cf53 cJ9_floorMod_7cf53 3 (some .int)]
def wsL_inverse : List Cond := .codeWith yL_inverse cL_inverse 4 (some .int) [(0, 9, 12, 13)] :: ((wsL_inverse_r1 ++ wsL_inverse_r2) ++ wsX00 ++ (vx_atS RX0 32 "java/lang/IllegalArgumentException" ["java/lang/RuntimeException", "java/lang/Exception"]).filter goodWord)
def wsL_root : List Cond := .codeWith yL_root cL_root 4 (some .int) [(0, 9, 12, 13)] :: ([.classLink RL 13 "java/lang/IllegalArgumentException", .methodLink RL 22 yX0_root, .instanceMethod yX0_root, .selects RX0 yX0_root yX0_root, .initialized RX0, .code yX0_root cX0_root 2 (some .int), .classLink RX0 28 "java/lang/IllegalArgumentException", .initialized "java/lang/IllegalArgumentException", .fieldLink RX0 35 "ToneButterflies" "unityRoot" "I", .methodLink RX0 55 yX0_powerOf, .instanceMethod yX0_powerOf, .selects RX0 yX0_powerOf yX0_powerOf, .code yX0_powerOf cX0_powerOf 6 (some .int), .methodLink RX0 46 yX0_reduced, .instanceMethod yX0_reduced, .selects RX0 yX0_reduced yX0_reduced, .code yX0_reduced cX0_reduced 2 (some .int), .fieldLink RX0 43 "ToneButterflies" "prime" "I", .methodLink RX0 168 yJ9_floorMod_7cf53, .static yJ9_floorMod_7cf53, .initialized RJ9, .code yJ9_floorMod_7cf53 cJ9_floorMod_7cf53 3 (some .int)] ++ wsX00 ++ (vx_atS RX0 32 "java/lang/IllegalArgumentException" ["java/lang/RuntimeException", "java/lang/Exception"]).filter goodWord)
def wsL_set_r1 : List Cond := [Cond.classLink RL 29 "java/lang/IndexOutOfBoundsException", Cond.classLink RL 13 "java/lang/IllegalArgumentException", Cond.methodLink RL 25 yX0_set, Cond.instanceMethod yX0_set, Cond.selects RX0 yX0_set yX0_set, Cond.initialized RX0, Cond.code yX0_set cX0_set 5 (some .int), Cond.methodLink RX0 59 yX0_requireRow, Cond.instanceMethod yX0_requireRow, Cond.selects RX0 yX0_requireRow yX0_requireRow, Cond.code yX0_requireRow cX0_requireRow 2 none, Cond.classLink RX0 93 "java/lang/IndexOutOfBoundsException", Cond.initialized "java/lang/IndexOutOfBoundsException", Cond.methodLink RX0 62 yX0_requirePlace, Cond.instanceMethod yX0_requirePlace, Cond.selects RX0 yX0_requirePlace yX0_requirePlace, Cond.code yX0_requirePlace cX0_requirePlace 2 none, Cond.fieldLink RX0 84 "ToneButterflies" "length" "I", Cond.methodLink RX0 65 yX0_requireNumber, Cond.instanceMethod yX0_requireNumber, Cond.selects RX0 yX0_requireNumber yX0_requireNumber, Cond.code yX0_requireNumber cX0_requireNumber 2 none, Cond.classLink RX0 28 "java/lang/IllegalArgumentException", Cond.initialized "java/lang/IllegalArgumentException"]
def wsL_set_r2 : List Cond := [Cond.fieldLink RX0 43 "ToneButterflies" "prime" "I", Cond.methodLink RX0 68 yX0_read, Cond.instanceMethod yX0_read, Cond.selects RX0 yX0_read yX0_read, Cond.code yX0_read cX0_read 4 (some .int), Cond.fieldLink RX0 9 "ToneButterflies" "numbers" "[I", Cond.methodLink RX0 71 yX0_write, Cond.instanceMethod yX0_write, Cond.selects RX0 yX0_write yX0_write, Cond.code yX0_write cX0_write 5 none]
def wsL_set : List Cond := .codeWith yL_set cL_set 6 (some .int) [(0, 12, 15, 29), (0, 12, 19, 13)] :: ((wsL_set_r1 ++ wsL_set_r2) ++ wsX00 ++ (vx_atS RX0 97 "java/lang/IndexOutOfBoundsException" ["java/lang/RuntimeException", "java/lang/Exception"]).filter goodWord ++ (vx_atS RX0 32 "java/lang/IllegalArgumentException" ["java/lang/RuntimeException", "java/lang/Exception"]).filter goodWord)
def wsL_copy_r1 : List Cond := [Cond.classLink RL 29 "java/lang/IndexOutOfBoundsException", Cond.methodLink RL 31 yX0_copy, Cond.instanceMethod yX0_copy, Cond.selects RX0 yX0_copy yX0_copy, Cond.initialized RX0, Cond.code yX0_copy cX0_copy 3 (some .int), Cond.methodLink RX0 59 yX0_requireRow, Cond.instanceMethod yX0_requireRow, Cond.selects RX0 yX0_requireRow yX0_requireRow, Cond.code yX0_requireRow cX0_requireRow 2 none, Cond.classLink RX0 93 "java/lang/IndexOutOfBoundsException", Cond.initialized "java/lang/IndexOutOfBoundsException", Cond.methodLink RX0 75 yX0_copyRow, Cond.instanceMethod yX0_copyRow, Cond.selects RX0 yX0_copyRow yX0_copyRow, Cond.code yX0_copyRow cX0_copyRow 6 (some .int), Cond.fieldLink RX0 84 "ToneButterflies" "length" "I", Cond.methodLink RX0 68 yX0_read, Cond.instanceMethod yX0_read, Cond.selects RX0 yX0_read yX0_read, Cond.code yX0_read cX0_read 4 (some .int), Cond.fieldLink RX0 9 "ToneButterflies" "numbers" "[I", Cond.methodLink RX0 71 yX0_write, Cond.instanceMethod yX0_write]
def wsL_copy_r2 : List Cond := [Cond.selects RX0 yX0_write yX0_write, Cond.code yX0_write cX0_write 5 none]
def wsL_copy : List Cond := .codeWith yL_copy cL_copy 5 (some .int) [(0, 10, 13, 29)] :: ((wsL_copy_r1 ++ wsL_copy_r2) ++ wsX00 ++ (vx_atS RX0 97 "java/lang/IndexOutOfBoundsException" ["java/lang/RuntimeException", "java/lang/Exception"]).filter goodWord)
def wsL_turn_r1 : List Cond := [Cond.classLink RL 29 "java/lang/IndexOutOfBoundsException", Cond.methodLink RL 34 yX0_turn, Cond.instanceMethod yX0_turn, Cond.selects RX0 yX0_turn yX0_turn, Cond.initialized RX0, Cond.code yX0_turn cX0_turn 3 (some .int), Cond.methodLink RX0 59 yX0_requireRow, Cond.instanceMethod yX0_requireRow, Cond.selects RX0 yX0_requireRow yX0_requireRow, Cond.code yX0_requireRow cX0_requireRow 2 none, Cond.classLink RX0 93 "java/lang/IndexOutOfBoundsException", Cond.initialized "java/lang/IndexOutOfBoundsException", Cond.methodLink RX0 78 yX0_scratchTurnedBack, Cond.instanceMethod yX0_scratchTurnedBack, Cond.selects RX0 yX0_scratchTurnedBack yX0_scratchTurnedBack, Cond.code yX0_scratchTurnedBack cX0_scratchTurnedBack 2 none, Cond.fieldLink RX0 162 "ToneButterflies" "unityRootInverse" "I", Cond.fieldLink RX0 165 "ToneButterflies" "lengthInverse" "I", Cond.methodLink RX0 173 yX0_scratchValues, Cond.instanceMethod yX0_scratchValues, Cond.selects RX0 yX0_scratchValues yX0_scratchValues, Cond.code yX0_scratchValues cX0_scratchValues 6 none, Cond.fieldLink RX0 84 "ToneButterflies" "length" "I", Cond.methodLink RX0 119 yX0_valueAt]
def wsL_turn_r2 : List Cond := [Cond.instanceMethod yX0_valueAt, Cond.selects RX0 yX0_valueAt yX0_valueAt, Cond.code yX0_valueAt cX0_valueAt 5 (some .int), Cond.methodLink RX0 68 yX0_read, Cond.instanceMethod yX0_read, Cond.selects RX0 yX0_read yX0_read, Cond.code yX0_read cX0_read 4 (some .int), Cond.fieldLink RX0 9 "ToneButterflies" "numbers" "[I", Cond.methodLink RX0 46 yX0_reduced, Cond.instanceMethod yX0_reduced, Cond.selects RX0 yX0_reduced yX0_reduced, Cond.code yX0_reduced cX0_reduced 2 (some .int), Cond.fieldLink RX0 43 "ToneButterflies" "prime" "I", Cond.methodLink RX0 168 yJ9_floorMod_7cf53, Cond.static yJ9_floorMod_7cf53, Cond.initialized RJ9, Cond.code yJ9_floorMod_7cf53 cJ9_floorMod_7cf53 3 (some .int), Cond.methodLink RX0 71 yX0_write, Cond.instanceMethod yX0_write, Cond.selects RX0 yX0_write yX0_write, Cond.code yX0_write cX0_write 5 none, Cond.methodLink RX0 81 yX0_scratchTones, Cond.instanceMethod yX0_scratchTones, Cond.selects RX0 yX0_scratchTones yX0_scratchTones]
def wsL_turn_r3 : List Cond := [Cond.code yX0_scratchTones cX0_scratchTones 2 none, Cond.fieldLink RX0 35 "ToneButterflies" "unityRoot" "I", Cond.methodLink RX0 75 yX0_copyRow, Cond.instanceMethod yX0_copyRow, Cond.selects RX0 yX0_copyRow yX0_copyRow, Cond.code yX0_copyRow cX0_copyRow 6 (some .int)]
def wsL_turn : List Cond := .codeWith yL_turn cL_turn 5 (some .int) [(0, 10, 13, 29)] :: ((wsL_turn_r1 ++ (wsL_turn_r2 ++ wsL_turn_r3)) ++ wsX00 ++ (vx_atS RX0 97 "java/lang/IndexOutOfBoundsException" ["java/lang/RuntimeException", "java/lang/Exception"]).filter goodWord)
def wsL_mirror_r1 : List Cond := [Cond.classLink RL 29 "java/lang/IndexOutOfBoundsException", Cond.methodLink RL 38 yX0_mirror, Cond.instanceMethod yX0_mirror, Cond.selects RX0 yX0_mirror yX0_mirror, Cond.initialized RX0, Cond.code yX0_mirror cX0_mirror 3 (some .int), Cond.fieldLink RX0 84 "ToneButterflies" "length" "I", Cond.methodLink RX0 59 yX0_requireRow, Cond.instanceMethod yX0_requireRow, Cond.selects RX0 yX0_requireRow yX0_requireRow, Cond.code yX0_requireRow cX0_requireRow 2 none, Cond.classLink RX0 93 "java/lang/IndexOutOfBoundsException", Cond.initialized "java/lang/IndexOutOfBoundsException", Cond.methodLink RX0 87 yX0_mirrored, Cond.instanceMethod yX0_mirrored, Cond.selects RX0 yX0_mirrored yX0_mirrored, Cond.code yX0_mirrored cX0_mirrored 4 (some .int), Cond.fieldLink RX0 90 "ToneButterflies" "bits" "I", Cond.methodLink RX0 68 yX0_read, Cond.instanceMethod yX0_read, Cond.selects RX0 yX0_read yX0_read, Cond.code yX0_read cX0_read 4 (some .int), Cond.fieldLink RX0 9 "ToneButterflies" "numbers" "[I", Cond.methodLink RX0 71 yX0_write]
def wsL_mirror_r2 : List Cond := [Cond.instanceMethod yX0_write, Cond.selects RX0 yX0_write yX0_write, Cond.code yX0_write cX0_write 5 none, Cond.methodLink RX0 75 yX0_copyRow, Cond.instanceMethod yX0_copyRow, Cond.selects RX0 yX0_copyRow yX0_copyRow, Cond.code yX0_copyRow cX0_copyRow 6 (some .int)]
def wsL_mirror : List Cond := .codeWith yL_mirror cL_mirror 4 (some .int) [(0, 9, 12, 29)] :: ((wsL_mirror_r1 ++ wsL_mirror_r2) ++ wsX00 ++ (vx_atS RX0 97 "java/lang/IndexOutOfBoundsException" ["java/lang/RuntimeException", "java/lang/Exception"]).filter goodWord)
def wsL_stage_r1 : List Cond := [Cond.classLink RL 29 "java/lang/IndexOutOfBoundsException", Cond.methodLink RL 41 yX0_stage, Cond.instanceMethod yX0_stage, Cond.selects RX0 yX0_stage yX0_stage, Cond.initialized RX0, Cond.code yX0_stage cX0_stage 7 (some .int), Cond.classLink RX0 93 "java/lang/IndexOutOfBoundsException", Cond.initialized "java/lang/IndexOutOfBoundsException", Cond.fieldLink RX0 90 "ToneButterflies" "bits" "I", Cond.fieldLink RX0 84 "ToneButterflies" "length" "I", Cond.fieldLink RX0 35 "ToneButterflies" "unityRoot" "I", Cond.methodLink RX0 59 yX0_requireRow, Cond.instanceMethod yX0_requireRow, Cond.selects RX0 yX0_requireRow yX0_requireRow, Cond.code yX0_requireRow cX0_requireRow 2 none, Cond.methodLink RX0 55 yX0_powerOf, Cond.instanceMethod yX0_powerOf, Cond.selects RX0 yX0_powerOf yX0_powerOf, Cond.code yX0_powerOf cX0_powerOf 6 (some .int), Cond.methodLink RX0 46 yX0_reduced, Cond.instanceMethod yX0_reduced, Cond.selects RX0 yX0_reduced yX0_reduced, Cond.code yX0_reduced cX0_reduced 2 (some .int), Cond.fieldLink RX0 43 "ToneButterflies" "prime" "I"]
def wsL_stage_r2 : List Cond := [Cond.methodLink RX0 168 yJ9_floorMod_7cf53, Cond.static yJ9_floorMod_7cf53, Cond.initialized RJ9, Cond.code yJ9_floorMod_7cf53 cJ9_floorMod_7cf53 3 (some .int), Cond.methodLink RX0 98 yX0_butterfly, Cond.instanceMethod yX0_butterfly, Cond.selects RX0 yX0_butterfly yX0_butterfly, Cond.code yX0_butterfly cX0_butterfly 7 none, Cond.methodLink RX0 68 yX0_read, Cond.instanceMethod yX0_read, Cond.selects RX0 yX0_read yX0_read, Cond.code yX0_read cX0_read 4 (some .int), Cond.fieldLink RX0 9 "ToneButterflies" "numbers" "[I", Cond.methodLink RX0 71 yX0_write, Cond.instanceMethod yX0_write, Cond.selects RX0 yX0_write yX0_write, Cond.code yX0_write cX0_write 5 none]
def wsL_stage : List Cond := .codeWith yL_stage cL_stage 5 (some .int) [(0, 10, 13, 29)] :: ((wsL_stage_r1 ++ wsL_stage_r2) ++ wsX00 ++ (vx_atS RX0 97 "java/lang/IndexOutOfBoundsException" ["java/lang/RuntimeException", "java/lang/Exception"]).filter goodWord)
def wsL_fold_r1 : List Cond := [Cond.classLink RL 29 "java/lang/IndexOutOfBoundsException", Cond.methodLink RL 44 yX0_fold, Cond.instanceMethod yX0_fold, Cond.selects RX0 yX0_fold yX0_fold, Cond.initialized RX0, Cond.code yX0_fold cX0_fold 4 (some .int), Cond.fieldLink RX0 84 "ToneButterflies" "length" "I", Cond.methodLink RX0 59 yX0_requireRow, Cond.instanceMethod yX0_requireRow, Cond.selects RX0 yX0_requireRow yX0_requireRow, Cond.code yX0_requireRow cX0_requireRow 2 none, Cond.classLink RX0 93 "java/lang/IndexOutOfBoundsException", Cond.initialized "java/lang/IndexOutOfBoundsException", Cond.methodLink RX0 102 yX0_foldedAt, Cond.instanceMethod yX0_foldedAt, Cond.selects RX0 yX0_foldedAt yX0_foldedAt, Cond.code yX0_foldedAt cX0_foldedAt 6 (some .int), Cond.methodLink RX0 68 yX0_read, Cond.instanceMethod yX0_read, Cond.selects RX0 yX0_read yX0_read, Cond.code yX0_read cX0_read 4 (some .int), Cond.fieldLink RX0 9 "ToneButterflies" "numbers" "[I", Cond.methodLink RX0 116 yX0_wrapped, Cond.instanceMethod yX0_wrapped]
def wsL_fold_r2 : List Cond := [Cond.selects RX0 yX0_wrapped yX0_wrapped, Cond.code yX0_wrapped cX0_wrapped 2 (some .int), Cond.methodLink RX0 46 yX0_reduced, Cond.instanceMethod yX0_reduced, Cond.selects RX0 yX0_reduced yX0_reduced, Cond.code yX0_reduced cX0_reduced 2 (some .int), Cond.fieldLink RX0 43 "ToneButterflies" "prime" "I", Cond.methodLink RX0 168 yJ9_floorMod_7cf53, Cond.static yJ9_floorMod_7cf53, Cond.initialized RJ9, Cond.code yJ9_floorMod_7cf53 cJ9_floorMod_7cf53 3 (some .int), Cond.methodLink RX0 71 yX0_write, Cond.instanceMethod yX0_write, Cond.selects RX0 yX0_write yX0_write, Cond.code yX0_write cX0_write 5 none, Cond.methodLink RX0 75 yX0_copyRow, Cond.instanceMethod yX0_copyRow, Cond.selects RX0 yX0_copyRow yX0_copyRow, Cond.code yX0_copyRow cX0_copyRow 6 (some .int)]
def wsL_fold : List Cond := .codeWith yL_fold cL_fold 5 (some .int) [(0, 10, 13, 29)] :: ((wsL_fold_r1 ++ wsL_fold_r2) ++ wsX00 ++ (vx_atS RX0 97 "java/lang/IndexOutOfBoundsException" ["java/lang/RuntimeException", "java/lang/Exception"]).filter goodWord)
def wsL_join_r1 : List Cond := [Cond.classLink RL 29 "java/lang/IndexOutOfBoundsException", Cond.methodLink RL 47 yX0_join, Cond.instanceMethod yX0_join, Cond.selects RX0 yX0_join yX0_join, Cond.initialized RX0, Cond.code yX0_join cX0_join 5 (some .int), Cond.classLink RX0 93 "java/lang/IndexOutOfBoundsException", Cond.initialized "java/lang/IndexOutOfBoundsException", Cond.fieldLink RX0 84 "ToneButterflies" "length" "I", Cond.methodLink RX0 59 yX0_requireRow, Cond.instanceMethod yX0_requireRow, Cond.selects RX0 yX0_requireRow yX0_requireRow, Cond.code yX0_requireRow cX0_requireRow 2 none, Cond.methodLink RX0 68 yX0_read, Cond.instanceMethod yX0_read, Cond.selects RX0 yX0_read yX0_read, Cond.code yX0_read cX0_read 4 (some .int), Cond.fieldLink RX0 9 "ToneButterflies" "numbers" "[I", Cond.methodLink RX0 108 yX0_joined, Cond.instanceMethod yX0_joined, Cond.selects RX0 yX0_joined yX0_joined, Cond.code yX0_joined cX0_joined 4 (some .int), Cond.methodLink RX0 46 yX0_reduced, Cond.instanceMethod yX0_reduced]
def wsL_join_r2 : List Cond := [Cond.selects RX0 yX0_reduced yX0_reduced, Cond.code yX0_reduced cX0_reduced 2 (some .int), Cond.fieldLink RX0 43 "ToneButterflies" "prime" "I", Cond.methodLink RX0 168 yJ9_floorMod_7cf53, Cond.static yJ9_floorMod_7cf53, Cond.initialized RJ9, Cond.code yJ9_floorMod_7cf53 cJ9_floorMod_7cf53 3 (some .int), Cond.methodLink RX0 71 yX0_write, Cond.instanceMethod yX0_write, Cond.selects RX0 yX0_write yX0_write, Cond.code yX0_write cX0_write 5 none, Cond.methodLink RX0 111 yX0_nonZeros, Cond.instanceMethod yX0_nonZeros, Cond.selects RX0 yX0_nonZeros yX0_nonZeros, Cond.code yX0_nonZeros cX0_nonZeros 4 (some .int)]
def wsL_join : List Cond := .codeWith yL_join cL_join 6 (some .int) [(0, 12, 15, 29)] :: ((wsL_join_r1 ++ wsL_join_r2) ++ wsX00 ++ (vx_atS RX0 97 "java/lang/IndexOutOfBoundsException" ["java/lang/RuntimeException", "java/lang/Exception"]).filter goodWord)
def wsL_move_r1 : List Cond := [Cond.classLink RL 29 "java/lang/IndexOutOfBoundsException", Cond.classLink RL 13 "java/lang/IllegalArgumentException", Cond.methodLink RL 50 yX0_move, Cond.instanceMethod yX0_move, Cond.selects RX0 yX0_move yX0_move, Cond.initialized RX0, Cond.code yX0_move cX0_move 4 (some .int), Cond.classLink RX0 28 "java/lang/IllegalArgumentException", Cond.initialized "java/lang/IllegalArgumentException", Cond.fieldLink RX0 84 "ToneButterflies" "length" "I", Cond.methodLink RX0 59 yX0_requireRow, Cond.instanceMethod yX0_requireRow, Cond.selects RX0 yX0_requireRow yX0_requireRow, Cond.code yX0_requireRow cX0_requireRow 2 none, Cond.classLink RX0 93 "java/lang/IndexOutOfBoundsException", Cond.initialized "java/lang/IndexOutOfBoundsException", Cond.methodLink RX0 116 yX0_wrapped, Cond.instanceMethod yX0_wrapped, Cond.selects RX0 yX0_wrapped yX0_wrapped, Cond.code yX0_wrapped cX0_wrapped 2 (some .int), Cond.methodLink RX0 68 yX0_read, Cond.instanceMethod yX0_read, Cond.selects RX0 yX0_read yX0_read, Cond.code yX0_read cX0_read 4 (some .int)]
def wsL_move_r2 : List Cond := [Cond.fieldLink RX0 9 "ToneButterflies" "numbers" "[I", Cond.methodLink RX0 71 yX0_write, Cond.instanceMethod yX0_write, Cond.selects RX0 yX0_write yX0_write, Cond.code yX0_write cX0_write 5 none, Cond.methodLink RX0 75 yX0_copyRow, Cond.instanceMethod yX0_copyRow, Cond.selects RX0 yX0_copyRow yX0_copyRow, Cond.code yX0_copyRow cX0_copyRow 6 (some .int)]
def wsL_move : List Cond := .codeWith yL_move cL_move 5 (some .int) [(0, 10, 13, 29), (0, 10, 17, 13)] :: ((wsL_move_r1 ++ wsL_move_r2) ++ wsX00 ++ (vx_atS RX0 32 "java/lang/IllegalArgumentException" ["java/lang/RuntimeException", "java/lang/Exception"]).filter goodWord ++ (vx_atS RX0 97 "java/lang/IndexOutOfBoundsException" ["java/lang/RuntimeException", "java/lang/Exception"]).filter goodWord)
def wsL_times_r1 : List Cond := [Cond.classLink RL 29 "java/lang/IndexOutOfBoundsException", Cond.classLink RL 13 "java/lang/IllegalArgumentException", Cond.methodLink RL 53 yX0_times, Cond.instanceMethod yX0_times, Cond.selects RX0 yX0_times yX0_times, Cond.initialized RX0, Cond.code yX0_times cX0_times 4 (some .int), Cond.fieldLink RX0 84 "ToneButterflies" "length" "I", Cond.methodLink RX0 59 yX0_requireRow, Cond.instanceMethod yX0_requireRow, Cond.selects RX0 yX0_requireRow yX0_requireRow, Cond.code yX0_requireRow cX0_requireRow 2 none, Cond.classLink RX0 93 "java/lang/IndexOutOfBoundsException", Cond.initialized "java/lang/IndexOutOfBoundsException", Cond.methodLink RX0 65 yX0_requireNumber, Cond.instanceMethod yX0_requireNumber, Cond.selects RX0 yX0_requireNumber yX0_requireNumber, Cond.code yX0_requireNumber cX0_requireNumber 2 none, Cond.classLink RX0 28 "java/lang/IllegalArgumentException", Cond.initialized "java/lang/IllegalArgumentException", Cond.fieldLink RX0 43 "ToneButterflies" "prime" "I", Cond.methodLink RX0 68 yX0_read, Cond.instanceMethod yX0_read, Cond.selects RX0 yX0_read yX0_read]
def wsL_times_r2 : List Cond := [Cond.code yX0_read cX0_read 4 (some .int), Cond.fieldLink RX0 9 "ToneButterflies" "numbers" "[I", Cond.methodLink RX0 46 yX0_reduced, Cond.instanceMethod yX0_reduced, Cond.selects RX0 yX0_reduced yX0_reduced, Cond.code yX0_reduced cX0_reduced 2 (some .int), Cond.methodLink RX0 168 yJ9_floorMod_7cf53, Cond.static yJ9_floorMod_7cf53, Cond.initialized RJ9, Cond.code yJ9_floorMod_7cf53 cJ9_floorMod_7cf53 3 (some .int), Cond.methodLink RX0 71 yX0_write, Cond.instanceMethod yX0_write, Cond.selects RX0 yX0_write yX0_write, Cond.code yX0_write cX0_write 5 none, Cond.methodLink RX0 111 yX0_nonZeros, Cond.instanceMethod yX0_nonZeros, Cond.selects RX0 yX0_nonZeros yX0_nonZeros, Cond.code yX0_nonZeros cX0_nonZeros 4 (some .int)]
def wsL_times : List Cond := .codeWith yL_times cL_times 5 (some .int) [(0, 10, 13, 29), (0, 10, 17, 13)] :: ((wsL_times_r1 ++ wsL_times_r2) ++ wsX00 ++ (vx_atS RX0 97 "java/lang/IndexOutOfBoundsException" ["java/lang/RuntimeException", "java/lang/Exception"]).filter goodWord ++ (vx_atS RX0 32 "java/lang/IllegalArgumentException" ["java/lang/RuntimeException", "java/lang/Exception"]).filter goodWord)
def wsL_at : List Cond := .codeWith yL_at cL_at 5 (some .int) [(0, 10, 13, 29)] :: ([.classLink RL 29 "java/lang/IndexOutOfBoundsException", .methodLink RL 56 yX0_at, .instanceMethod yX0_at, .selects RX0 yX0_at yX0_at, .initialized RX0, .code yX0_at cX0_at 3 (some .int), .methodLink RX0 59 yX0_requireRow, .instanceMethod yX0_requireRow, .selects RX0 yX0_requireRow yX0_requireRow, .code yX0_requireRow cX0_requireRow 2 none, .classLink RX0 93 "java/lang/IndexOutOfBoundsException", .initialized "java/lang/IndexOutOfBoundsException", .methodLink RX0 62 yX0_requirePlace, .instanceMethod yX0_requirePlace, .selects RX0 yX0_requirePlace yX0_requirePlace, .code yX0_requirePlace cX0_requirePlace 2 none, .fieldLink RX0 84 "ToneButterflies" "length" "I", .methodLink RX0 68 yX0_read, .instanceMethod yX0_read, .selects RX0 yX0_read yX0_read, .code yX0_read cX0_read 4 (some .int), .fieldLink RX0 9 "ToneButterflies" "numbers" "[I"] ++ wsX00 ++ (vx_atS RX0 97 "java/lang/IndexOutOfBoundsException" ["java/lang/RuntimeException", "java/lang/Exception"]).filter goodWord)
def wsL_point_r1 : List Cond := [Cond.classLink RL 29 "java/lang/IndexOutOfBoundsException", Cond.classLink RL 13 "java/lang/IllegalArgumentException", Cond.methodLink RL 59 yX0_point, Cond.instanceMethod yX0_point, Cond.selects RX0 yX0_point yX0_point, Cond.initialized RX0, Cond.code yX0_point cX0_point 3 (some .int), Cond.methodLink RX0 59 yX0_requireRow, Cond.instanceMethod yX0_requireRow, Cond.selects RX0 yX0_requireRow yX0_requireRow, Cond.code yX0_requireRow cX0_requireRow 2 none, Cond.classLink RX0 93 "java/lang/IndexOutOfBoundsException", Cond.initialized "java/lang/IndexOutOfBoundsException", Cond.methodLink RX0 65 yX0_requireNumber, Cond.instanceMethod yX0_requireNumber, Cond.selects RX0 yX0_requireNumber yX0_requireNumber, Cond.code yX0_requireNumber cX0_requireNumber 2 none, Cond.classLink RX0 28 "java/lang/IllegalArgumentException", Cond.initialized "java/lang/IllegalArgumentException", Cond.fieldLink RX0 43 "ToneButterflies" "prime" "I", Cond.methodLink RX0 119 yX0_valueAt, Cond.instanceMethod yX0_valueAt, Cond.selects RX0 yX0_valueAt yX0_valueAt, Cond.code yX0_valueAt cX0_valueAt 5 (some .int)]
def wsL_point_r2 : List Cond := [Cond.fieldLink RX0 84 "ToneButterflies" "length" "I", Cond.methodLink RX0 68 yX0_read, Cond.instanceMethod yX0_read, Cond.selects RX0 yX0_read yX0_read, Cond.code yX0_read cX0_read 4 (some .int), Cond.fieldLink RX0 9 "ToneButterflies" "numbers" "[I", Cond.methodLink RX0 46 yX0_reduced, Cond.instanceMethod yX0_reduced, Cond.selects RX0 yX0_reduced yX0_reduced, Cond.code yX0_reduced cX0_reduced 2 (some .int), Cond.methodLink RX0 168 yJ9_floorMod_7cf53, Cond.static yJ9_floorMod_7cf53, Cond.initialized RJ9, Cond.code yJ9_floorMod_7cf53 cJ9_floorMod_7cf53 3 (some .int)]
def wsL_point : List Cond := .codeWith yL_point cL_point 5 (some .int) [(0, 10, 13, 29), (0, 10, 17, 13)] :: ((wsL_point_r1 ++ wsL_point_r2) ++ wsX00 ++ (vx_atS RX0 97 "java/lang/IndexOutOfBoundsException" ["java/lang/RuntimeException", "java/lang/Exception"]).filter goodWord ++ (vx_atS RX0 32 "java/lang/IllegalArgumentException" ["java/lang/RuntimeException", "java/lang/Exception"]).filter goodWord)
def wsL_about_r1 : List Cond := [Cond.classLink RL 29 "java/lang/IndexOutOfBoundsException", Cond.methodLink RL 62 yX0_about, Cond.instanceMethod yX0_about, Cond.selects RX0 yX0_about yX0_about, Cond.initialized RX0, Cond.code yX0_about cX0_about 3 (some .int), Cond.classLink RX0 93 "java/lang/IndexOutOfBoundsException", Cond.initialized "java/lang/IndexOutOfBoundsException", Cond.methodLink RX0 59 yX0_requireRow, Cond.instanceMethod yX0_requireRow, Cond.selects RX0 yX0_requireRow yX0_requireRow, Cond.code yX0_requireRow cX0_requireRow 2 none, Cond.methodLink RX0 124 yX0_told, Cond.instanceMethod yX0_told, Cond.selects RX0 yX0_told yX0_told, Cond.code yX0_told cX0_told 3 (some .int), Cond.methodLink RX0 139 yX0_plainSum, Cond.instanceMethod yX0_plainSum, Cond.selects RX0 yX0_plainSum yX0_plainSum, Cond.code yX0_plainSum cX0_plainSum 4 (some .int), Cond.fieldLink RX0 84 "ToneButterflies" "length" "I", Cond.methodLink RX0 68 yX0_read, Cond.instanceMethod yX0_read, Cond.selects RX0 yX0_read yX0_read]
def wsL_about_r2 : List Cond := [Cond.code yX0_read cX0_read 4 (some .int), Cond.fieldLink RX0 9 "ToneButterflies" "numbers" "[I", Cond.methodLink RX0 46 yX0_reduced, Cond.instanceMethod yX0_reduced, Cond.selects RX0 yX0_reduced yX0_reduced, Cond.code yX0_reduced cX0_reduced 2 (some .int), Cond.fieldLink RX0 43 "ToneButterflies" "prime" "I", Cond.methodLink RX0 168 yJ9_floorMod_7cf53, Cond.static yJ9_floorMod_7cf53, Cond.initialized RJ9, Cond.code yJ9_floorMod_7cf53 cJ9_floorMod_7cf53 3 (some .int), Cond.methodLink RX0 111 yX0_nonZeros, Cond.instanceMethod yX0_nonZeros, Cond.selects RX0 yX0_nonZeros yX0_nonZeros, Cond.code yX0_nonZeros cX0_nonZeros 4 (some .int), Cond.methodLink RX0 176 yX0_lastNonZero, Cond.instanceMethod yX0_lastNonZero, Cond.selects RX0 yX0_lastNonZero yX0_lastNonZero, Cond.code yX0_lastNonZero cX0_lastNonZero 3 (some .int), Cond.methodLink RX0 179 yX0_period, Cond.instanceMethod yX0_period, Cond.selects RX0 yX0_period yX0_period, Cond.code yX0_period cX0_period 3 (some .int), Cond.methodLink RX0 132 yX0_isWhenMoved]
def wsL_about_r3 : List Cond := [Cond.instanceMethod yX0_isWhenMoved, Cond.selects RX0 yX0_isWhenMoved yX0_isWhenMoved, Cond.code yX0_isWhenMoved cX0_isWhenMoved 5 (some .boolean), Cond.methodLink RX0 116 yX0_wrapped, Cond.instanceMethod yX0_wrapped, Cond.selects RX0 yX0_wrapped yX0_wrapped, Cond.code yX0_wrapped cX0_wrapped 2 (some .int), Cond.methodLink RX0 182 yX0_greatestNumber, Cond.instanceMethod yX0_greatestNumber, Cond.selects RX0 yX0_greatestNumber yX0_greatestNumber, Cond.code yX0_greatestNumber cX0_greatestNumber 4 (some .int), Cond.methodLink RX0 185 Lib.Math.max.name, Cond.static Lib.Math.max.name, Cond.initialized "java/lang/Math", Cond.code Lib.Math.max.name Lib.Math.max.code 2 (some .int)]
def wsL_about : List Cond := .codeWith yL_about cL_about 5 (some .int) [(0, 10, 13, 29)] :: ((wsL_about_r1 ++ (wsL_about_r2 ++ wsL_about_r3)) ++ wsX00 ++ (vx_atS RX0 97 "java/lang/IndexOutOfBoundsException" ["java/lang/RuntimeException", "java/lang/Exception"]).filter goodWord)
def wsL_count : List Cond := .codeWith yL_count cL_count 4 (some .int) [(0, 9, 12, 29)] :: ([.classLink RL 29 "java/lang/IndexOutOfBoundsException", .methodLink RL 65 yX0_count, .instanceMethod yX0_count, .selects RX0 yX0_count yX0_count, .initialized RX0, .code yX0_count cX0_count 2 (some .int), .classLink RX0 93 "java/lang/IndexOutOfBoundsException", .initialized "java/lang/IndexOutOfBoundsException", .methodLink RX0 129 yX0_counted, .instanceMethod yX0_counted, .selects RX0 yX0_counted yX0_counted, .code yX0_counted cX0_counted 2 (some .int), .fieldLink RX0 84 "ToneButterflies" "length" "I", .fieldLink RX0 43 "ToneButterflies" "prime" "I", .fieldLink RX0 35 "ToneButterflies" "unityRoot" "I", .fieldLink RX0 162 "ToneButterflies" "unityRootInverse" "I", .fieldLink RX0 165 "ToneButterflies" "lengthInverse" "I", .fieldLink RX0 90 "ToneButterflies" "bits" "I"] ++ wsX00 ++ (vx_atS RX0 97 "java/lang/IndexOutOfBoundsException" ["java/lang/RuntimeException", "java/lang/Exception"]).filter goodWord)
def wsL_would_r1 : List Cond := [Cond.classLink RL 29 "java/lang/IndexOutOfBoundsException", Cond.methodLink RL 68 yX0_would, Cond.instanceMethod yX0_would, Cond.selects RX0 yX0_would yX0_would, Cond.initialized RX0, Cond.code yX0_would cX0_would 4 (some .int), Cond.methodLink RX0 59 yX0_requireRow, Cond.instanceMethod yX0_requireRow, Cond.selects RX0 yX0_requireRow yX0_requireRow, Cond.code yX0_requireRow cX0_requireRow 2 none, Cond.classLink RX0 93 "java/lang/IndexOutOfBoundsException", Cond.initialized "java/lang/IndexOutOfBoundsException", Cond.methodLink RX0 62 yX0_requirePlace, Cond.instanceMethod yX0_requirePlace, Cond.selects RX0 yX0_requirePlace yX0_requirePlace, Cond.code yX0_requirePlace cX0_requirePlace 2 none, Cond.fieldLink RX0 84 "ToneButterflies" "length" "I", Cond.methodLink RX0 102 yX0_foldedAt, Cond.instanceMethod yX0_foldedAt, Cond.selects RX0 yX0_foldedAt yX0_foldedAt, Cond.code yX0_foldedAt cX0_foldedAt 6 (some .int), Cond.methodLink RX0 68 yX0_read, Cond.instanceMethod yX0_read, Cond.selects RX0 yX0_read yX0_read]
def wsL_would_r2 : List Cond := [Cond.code yX0_read cX0_read 4 (some .int), Cond.fieldLink RX0 9 "ToneButterflies" "numbers" "[I", Cond.methodLink RX0 116 yX0_wrapped, Cond.instanceMethod yX0_wrapped, Cond.selects RX0 yX0_wrapped yX0_wrapped, Cond.code yX0_wrapped cX0_wrapped 2 (some .int), Cond.methodLink RX0 46 yX0_reduced, Cond.instanceMethod yX0_reduced, Cond.selects RX0 yX0_reduced yX0_reduced, Cond.code yX0_reduced cX0_reduced 2 (some .int), Cond.fieldLink RX0 43 "ToneButterflies" "prime" "I", Cond.methodLink RX0 168 yJ9_floorMod_7cf53, Cond.static yJ9_floorMod_7cf53, Cond.initialized RJ9, Cond.code yJ9_floorMod_7cf53 cJ9_floorMod_7cf53 3 (some .int)]
def wsL_would : List Cond := .codeWith yL_would cL_would 6 (some .int) [(0, 12, 15, 29)] :: ((wsL_would_r1 ++ wsL_would_r2) ++ wsX00 ++ (vx_atS RX0 97 "java/lang/IndexOutOfBoundsException" ["java/lang/RuntimeException", "java/lang/Exception"]).filter goodWord)
def wsL_comes_r1 : List Cond := [Cond.classLink RL 29 "java/lang/IndexOutOfBoundsException", Cond.methodLink RL 71 yX0_comes, Cond.instanceMethod yX0_comes, Cond.selects RX0 yX0_comes yX0_comes, Cond.initialized RX0, Cond.code yX0_comes cX0_comes 4 (some .int), Cond.fieldLink RX0 84 "ToneButterflies" "length" "I", Cond.methodLink RX0 59 yX0_requireRow, Cond.instanceMethod yX0_requireRow, Cond.selects RX0 yX0_requireRow yX0_requireRow, Cond.code yX0_requireRow cX0_requireRow 2 none, Cond.classLink RX0 93 "java/lang/IndexOutOfBoundsException", Cond.initialized "java/lang/IndexOutOfBoundsException", Cond.methodLink RX0 132 yX0_isWhenMoved, Cond.instanceMethod yX0_isWhenMoved, Cond.selects RX0 yX0_isWhenMoved yX0_isWhenMoved, Cond.code yX0_isWhenMoved cX0_isWhenMoved 5 (some .boolean), Cond.methodLink RX0 116 yX0_wrapped, Cond.instanceMethod yX0_wrapped, Cond.selects RX0 yX0_wrapped yX0_wrapped, Cond.code yX0_wrapped cX0_wrapped 2 (some .int), Cond.methodLink RX0 68 yX0_read, Cond.instanceMethod yX0_read, Cond.selects RX0 yX0_read yX0_read]
def wsL_comes_r2 : List Cond := [Cond.code yX0_read cX0_read 4 (some .int), Cond.fieldLink RX0 9 "ToneButterflies" "numbers" "[I"]
def wsL_comes : List Cond := .codeWith yL_comes cL_comes 5 (some .int) [(0, 10, 13, 29)] :: ((wsL_comes_r1 ++ wsL_comes_r2) ++ wsX00 ++ (vx_atS RX0 97 "java/lang/IndexOutOfBoundsException" ["java/lang/RuntimeException", "java/lang/Exception"]).filter goodWord)
def wsL_advise_r1 : List Cond := [Cond.classLink RL 29 "java/lang/IndexOutOfBoundsException", Cond.methodLink RL 74 yX0_advise, Cond.instanceMethod yX0_advise, Cond.selects RX0 yX0_advise yX0_advise, Cond.initialized RX0, Cond.code yX0_advise cX0_advise 7 (some .int), Cond.fieldLink RX0 84 "ToneButterflies" "length" "I", Cond.methodLink RX0 59 yX0_requireRow, Cond.instanceMethod yX0_requireRow, Cond.selects RX0 yX0_requireRow yX0_requireRow, Cond.code yX0_requireRow cX0_requireRow 2 none, Cond.classLink RX0 93 "java/lang/IndexOutOfBoundsException", Cond.initialized "java/lang/IndexOutOfBoundsException", Cond.methodLink RX0 136 yX0_soundWhenMoved, Cond.instanceMethod yX0_soundWhenMoved, Cond.selects RX0 yX0_soundWhenMoved yX0_soundWhenMoved, Cond.code yX0_soundWhenMoved cX0_soundWhenMoved 6 (some .int), Cond.methodLink RX0 68 yX0_read, Cond.instanceMethod yX0_read, Cond.selects RX0 yX0_read yX0_read, Cond.code yX0_read cX0_read 4 (some .int), Cond.fieldLink RX0 9 "ToneButterflies" "numbers" "[I", Cond.methodLink RX0 116 yX0_wrapped, Cond.instanceMethod yX0_wrapped]
def wsL_advise_r2 : List Cond := [Cond.selects RX0 yX0_wrapped yX0_wrapped, Cond.code yX0_wrapped cX0_wrapped 2 (some .int), Cond.methodLink RX0 46 yX0_reduced, Cond.instanceMethod yX0_reduced, Cond.selects RX0 yX0_reduced yX0_reduced, Cond.code yX0_reduced cX0_reduced 2 (some .int), Cond.fieldLink RX0 43 "ToneButterflies" "prime" "I", Cond.methodLink RX0 168 yJ9_floorMod_7cf53, Cond.static yJ9_floorMod_7cf53, Cond.initialized RJ9, Cond.code yJ9_floorMod_7cf53 cJ9_floorMod_7cf53 3 (some .int)]
def wsL_advise : List Cond := .codeWith yL_advise cL_advise 5 (some .int) [(0, 10, 13, 29)] :: ((wsL_advise_r1 ++ wsL_advise_r2) ++ wsX00 ++ (vx_atS RX0 97 "java/lang/IndexOutOfBoundsException" ["java/lang/RuntimeException", "java/lang/Exception"]).filter goodWord)
def wsL_tones_r1 : List Cond := [Cond.classLink RL 29 "java/lang/IndexOutOfBoundsException", Cond.methodLink RL 77 yX0_tones, Cond.instanceMethod yX0_tones, Cond.selects RX0 yX0_tones yX0_tones, Cond.initialized RX0, Cond.code yX0_tones cX0_tones 3 (some .boolean), Cond.methodLink RX0 59 yX0_requireRow, Cond.instanceMethod yX0_requireRow, Cond.selects RX0 yX0_requireRow yX0_requireRow, Cond.code yX0_requireRow cX0_requireRow 2 none, Cond.classLink RX0 93 "java/lang/IndexOutOfBoundsException", Cond.initialized "java/lang/IndexOutOfBoundsException", Cond.methodLink RX0 81 yX0_scratchTones, Cond.instanceMethod yX0_scratchTones, Cond.selects RX0 yX0_scratchTones yX0_scratchTones, Cond.code yX0_scratchTones cX0_scratchTones 2 none, Cond.fieldLink RX0 35 "ToneButterflies" "unityRoot" "I", Cond.methodLink RX0 173 yX0_scratchValues, Cond.instanceMethod yX0_scratchValues, Cond.selects RX0 yX0_scratchValues yX0_scratchValues, Cond.code yX0_scratchValues cX0_scratchValues 6 none, Cond.fieldLink RX0 84 "ToneButterflies" "length" "I", Cond.methodLink RX0 119 yX0_valueAt, Cond.instanceMethod yX0_valueAt]
def wsL_tones_r2 : List Cond := [Cond.selects RX0 yX0_valueAt yX0_valueAt, Cond.code yX0_valueAt cX0_valueAt 5 (some .int), Cond.methodLink RX0 68 yX0_read, Cond.instanceMethod yX0_read, Cond.selects RX0 yX0_read yX0_read, Cond.code yX0_read cX0_read 4 (some .int), Cond.fieldLink RX0 9 "ToneButterflies" "numbers" "[I", Cond.methodLink RX0 46 yX0_reduced, Cond.instanceMethod yX0_reduced, Cond.selects RX0 yX0_reduced yX0_reduced, Cond.code yX0_reduced cX0_reduced 2 (some .int), Cond.fieldLink RX0 43 "ToneButterflies" "prime" "I", Cond.methodLink RX0 168 yJ9_floorMod_7cf53, Cond.static yJ9_floorMod_7cf53, Cond.initialized RJ9, Cond.code yJ9_floorMod_7cf53 cJ9_floorMod_7cf53 3 (some .int), Cond.methodLink RX0 71 yX0_write, Cond.instanceMethod yX0_write, Cond.selects RX0 yX0_write yX0_write, Cond.code yX0_write cX0_write 5 none, Cond.methodLink RX0 132 yX0_isWhenMoved, Cond.instanceMethod yX0_isWhenMoved, Cond.selects RX0 yX0_isWhenMoved yX0_isWhenMoved, Cond.code yX0_isWhenMoved cX0_isWhenMoved 5 (some .boolean)]
def wsL_tones_r3 : List Cond := [Cond.methodLink RX0 116 yX0_wrapped, Cond.instanceMethod yX0_wrapped, Cond.selects RX0 yX0_wrapped yX0_wrapped, Cond.code yX0_wrapped cX0_wrapped 2 (some .int)]
def wsL_tones : List Cond := .codeWith yL_tones cL_tones 5 (some .int) [(0, 17, 20, 29)] :: ((wsL_tones_r1 ++ (wsL_tones_r2 ++ wsL_tones_r3)) ++ wsX00 ++ (vx_atS RX0 97 "java/lang/IndexOutOfBoundsException" ["java/lang/RuntimeException", "java/lang/Exception"]).filter goodWord)
def wsL_mean : List Cond := .codeWith yL_mean cL_mean 4 (some .int) [(0, 8, 11, 29)] :: ([.classLink RL 29 "java/lang/IndexOutOfBoundsException", .methodLink RL 81 yX0_mean, .instanceMethod yX0_mean, .selects RX0 yX0_mean yX0_mean, .initialized RX0, .code yX0_mean cX0_mean 2 (some .double), .fieldLink RX0 84 "ToneButterflies" "length" "I", .methodLink RX0 59 yX0_requireRow, .instanceMethod yX0_requireRow, .selects RX0 yX0_requireRow yX0_requireRow, .code yX0_requireRow cX0_requireRow 2 none, .classLink RX0 93 "java/lang/IndexOutOfBoundsException", .initialized "java/lang/IndexOutOfBoundsException", .methodLink RX0 139 yX0_plainSum, .instanceMethod yX0_plainSum, .selects RX0 yX0_plainSum yX0_plainSum, .code yX0_plainSum cX0_plainSum 4 (some .int), .methodLink RX0 68 yX0_read, .instanceMethod yX0_read, .selects RX0 yX0_read yX0_read, .code yX0_read cX0_read 4 (some .int), .fieldLink RX0 9 "ToneButterflies" "numbers" "[I"] ++ wsX00 ++ (vx_atS RX0 97 "java/lang/IndexOutOfBoundsException" ["java/lang/RuntimeException", "java/lang/Exception"]).filter goodWord)
def wsL_law0_r1 : List Cond := [Cond.classLink RL 8 RX0, Cond.instantiable RX0 7, Cond.initialized RX0, Cond.classLink RL 86 RX1, Cond.instantiable RX1 7, Cond.initialized RX1, Cond.arrayClass .long, Cond.arrayClass .double, Cond.methodLink RL 85 yX0_init, Cond.instanceMethod yX0_init, Cond.code yX0_init cX0_init 1 none, Cond.methodLink RX0 3 objectInit, Cond.instanceMethod objectInit, Cond.code objectInit ⟨#[0xb1]⟩ 1 none, Cond.arrayClass .int, Cond.fieldLink RX0 9 "ToneButterflies" "numbers" "[I", Cond.methodLink RX0 13 yX0_takeRing, Cond.instanceMethod yX0_takeRing, Cond.selects RX0 yX0_takeRing yX0_takeRing, Cond.code yX0_takeRing cX0_takeRing 4 none, Cond.fieldLink RX0 84 "ToneButterflies" "length" "I", Cond.fieldLink RX0 43 "ToneButterflies" "prime" "I", Cond.fieldLink RX0 90 "ToneButterflies" "bits" "I", Cond.fieldLink RX0 35 "ToneButterflies" "unityRoot" "I"]
def wsL_law0_r2 : List Cond := [Cond.fieldLink RX0 162 "ToneButterflies" "unityRootInverse" "I", Cond.fieldLink RX0 165 "ToneButterflies" "lengthInverse" "I", Cond.methodLink RX0 158 yX0_smallestRoot, Cond.instanceMethod yX0_smallestRoot, Cond.selects RX0 yX0_smallestRoot yX0_smallestRoot, Cond.code yX0_smallestRoot cX0_smallestRoot 2 (some .int), Cond.methodLink RX0 55 yX0_powerOf, Cond.instanceMethod yX0_powerOf, Cond.selects RX0 yX0_powerOf yX0_powerOf, Cond.code yX0_powerOf cX0_powerOf 6 (some .int), Cond.methodLink RX0 46 yX0_reduced, Cond.instanceMethod yX0_reduced, Cond.selects RX0 yX0_reduced yX0_reduced, Cond.code yX0_reduced cX0_reduced 2 (some .int), Cond.methodLink RX0 168 yJ9_floorMod_7cf53, Cond.static yJ9_floorMod_7cf53, Cond.initialized RJ9, Cond.code yJ9_floorMod_7cf53 cJ9_floorMod_7cf53 3 (some .int), Cond.methodLink RX0 50 yX0_inverseOf, Cond.instanceMethod yX0_inverseOf, Cond.selects RX0 yX0_inverseOf yX0_inverseOf, Cond.code yX0_inverseOf cX0_inverseOf 2 (some .int), Cond.methodLink RL 88 yX1_init, Cond.instanceMethod yX1_init]
def wsL_law0_r3 : List Cond := [Cond.code yX1_init cX1_init 1 none, Cond.methodLink RX1 1 objectInit, Cond.fieldLink RX1 7 "ToneButterfliesModel" "n" "I", Cond.fieldLink RX1 13 "ToneButterfliesModel" "p" "I", Cond.fieldLink RX1 16 "ToneButterfliesModel" "w" "I", Cond.fieldLink RX1 19 "ToneButterfliesModel" "bits" "I", Cond.fieldLink RX1 22 "ToneButterfliesModel" "rows" "[I", Cond.fieldLink RX1 26 "ToneButterfliesModel" "made" "[I", Cond.methodLink RL 89 yL_ring, Cond.static yL_ring, Cond.initialized RL, Cond.codeWith yL_ring cL_ring 5 (some .int) [(0, 10, 13, 13)], Cond.classLink RL 13 "java/lang/IllegalArgumentException", Cond.methodLink RL 7 yX0_ring, Cond.instanceMethod yX0_ring, Cond.selects RX0 yX0_ring yX0_ring, Cond.code yX0_ring cX0_ring 3 (some .int), Cond.classLink RX0 28 "java/lang/IllegalArgumentException", Cond.initialized "java/lang/IllegalArgumentException", Cond.methodLink RX0 17 yX0_isLength, Cond.static yX0_isLength, Cond.code yX0_isLength cX0_isLength 1 (some .boolean), Cond.methodLink RX0 21 yX0_isPrimeOfRing, Cond.static yX0_isPrimeOfRing]
def wsL_law0_r4 : List Cond := [Cond.code yX0_isPrimeOfRing cX0_isPrimeOfRing 2 (some .boolean), Cond.methodLink RX0 24 yX0_divides, Cond.static yX0_divides, Cond.code yX0_divides cX0_divides 2 (some .boolean), Cond.methodLink RL 94 yX1_ring, Cond.instanceMethod yX1_ring, Cond.selects RX1 yX1_ring yX1_ring, Cond.code yX1_ring cX1_ring 4 (some .int), Cond.fieldLink RX1 29 "ToneButterfliesModel" "thrown" "I", Cond.methodLink RX1 32 yX1_isIn, Cond.static yX1_isIn, Cond.code yX1_isIn cX1_isIn 3 (some .boolean), Cond.methodLink RX1 44 yX1_isPrime, Cond.static yX1_isPrime, Cond.code yX1_isPrime cX1_isPrime 2 (some .boolean), Cond.methodLink RX1 48 yX1_no, Cond.instanceMethod yX1_no, Cond.selects RX1 yX1_no yX1_no, Cond.code yX1_no cX1_no 2 (some .int), Cond.methodLink RX1 51 yX1_rootOf, Cond.instanceMethod yX1_rootOf, Cond.selects RX1 yX1_rootOf yX1_rootOf, Cond.code yX1_rootOf cX1_rootOf 2 (some .int), Cond.methodLink RX1 40 yX1_orderOf]
def wsL_law0_r5 : List Cond := [Cond.instanceMethod yX1_orderOf, Cond.selects RX1 yX1_orderOf yX1_orderOf, Cond.code yX1_orderOf cX1_orderOf 4 (some .int), Cond.methodLink RX1 36 yX1_by, Cond.instanceMethod yX1_by, Cond.selects RX1 yX1_by yX1_by, Cond.code yX1_by cX1_by 3 (some .int), Cond.methodLink RL 95 yX1_thrown, Cond.instanceMethod yX1_thrown, Cond.selects RX1 yX1_thrown yX1_thrown, Cond.code yX1_thrown cX1_thrown 1 (some .int), Cond.methodLink RL 99 yL_order, Cond.static yL_order, Cond.codeWith yL_order cL_order 4 (some .int) [(0, 9, 12, 13)], Cond.methodLink RL 15 yX0_order, Cond.instanceMethod yX0_order, Cond.selects RX0 yX0_order yX0_order, Cond.code yX0_order cX0_order 4 (some .int), Cond.methodLink RX0 39 yX0_requireInvertible, Cond.instanceMethod yX0_requireInvertible, Cond.selects RX0 yX0_requireInvertible yX0_requireInvertible, Cond.code yX0_requireInvertible cX0_requireInvertible 2 none, Cond.methodLink RL 102 yX1_order, Cond.instanceMethod yX1_order]
def wsL_law0_r6 : List Cond := [Cond.selects RX1 yX1_order yX1_order, Cond.code yX1_order cX1_order 2 (some .int), Cond.methodLink RX1 55 yX1_isUnit, Cond.instanceMethod yX1_isUnit, Cond.selects RX1 yX1_isUnit yX1_isUnit, Cond.code yX1_isUnit cX1_isUnit 2 (some .boolean), Cond.methodLink RL 103 yL_inverse, Cond.static yL_inverse, Cond.codeWith yL_inverse cL_inverse 4 (some .int) [(0, 9, 12, 13)], Cond.methodLink RL 19 yX0_inverse, Cond.instanceMethod yX0_inverse, Cond.selects RX0 yX0_inverse yX0_inverse, Cond.code yX0_inverse cX0_inverse 2 (some .int), Cond.methodLink RL 105 yX1_inverse, Cond.instanceMethod yX1_inverse, Cond.selects RX1 yX1_inverse yX1_inverse, Cond.code yX1_inverse cX1_inverse 2 (some .int), Cond.methodLink RX1 58 yX1_inverseOf, Cond.instanceMethod yX1_inverseOf, Cond.selects RX1 yX1_inverseOf yX1_inverseOf, Cond.code yX1_inverseOf cX1_inverseOf 9 (some .int), Cond.methodLink RL 106 yL_root, Cond.static yL_root, Cond.codeWith yL_root cL_root 4 (some .int) [(0, 9, 12, 13)]]
def wsL_law0_r7 : List Cond := [Cond.methodLink RL 22 yX0_root, Cond.instanceMethod yX0_root, Cond.selects RX0 yX0_root yX0_root, Cond.code yX0_root cX0_root 2 (some .int), Cond.methodLink RL 108 yX1_root, Cond.instanceMethod yX1_root, Cond.selects RX1 yX1_root yX1_root, Cond.code yX1_root cX1_root 2 (some .int), Cond.methodLink RX1 61 yX1_power, Cond.instanceMethod yX1_power, Cond.selects RX1 yX1_power yX1_power, Cond.code yX1_power cX1_power 6 (some .int), Cond.methodLink RL 109 yL_set, Cond.static yL_set, Cond.codeWith yL_set cL_set 6 (some .int) [(0, 12, 15, 29), (0, 12, 19, 13)], Cond.classLink RL 29 "java/lang/IndexOutOfBoundsException", Cond.methodLink RL 25 yX0_set, Cond.instanceMethod yX0_set, Cond.selects RX0 yX0_set yX0_set, Cond.code yX0_set cX0_set 5 (some .int), Cond.methodLink RX0 59 yX0_requireRow, Cond.instanceMethod yX0_requireRow, Cond.selects RX0 yX0_requireRow yX0_requireRow, Cond.code yX0_requireRow cX0_requireRow 2 none]
def wsL_law0_r8 : List Cond := [Cond.classLink RX0 93 "java/lang/IndexOutOfBoundsException", Cond.initialized "java/lang/IndexOutOfBoundsException", Cond.methodLink RX0 62 yX0_requirePlace, Cond.instanceMethod yX0_requirePlace, Cond.selects RX0 yX0_requirePlace yX0_requirePlace, Cond.code yX0_requirePlace cX0_requirePlace 2 none, Cond.methodLink RX0 65 yX0_requireNumber, Cond.instanceMethod yX0_requireNumber, Cond.selects RX0 yX0_requireNumber yX0_requireNumber, Cond.code yX0_requireNumber cX0_requireNumber 2 none, Cond.methodLink RX0 68 yX0_read, Cond.instanceMethod yX0_read, Cond.selects RX0 yX0_read yX0_read, Cond.code yX0_read cX0_read 4 (some .int), Cond.methodLink RX0 71 yX0_write, Cond.instanceMethod yX0_write, Cond.selects RX0 yX0_write yX0_write, Cond.code yX0_write cX0_write 5 none, Cond.methodLink RL 112 yX1_set, Cond.instanceMethod yX1_set, Cond.selects RX1 yX1_set yX1_set, Cond.code yX1_set cX1_set 5 (some .int), Cond.methodLink RX1 79 yX1_isRow, Cond.static yX1_isRow]
def wsL_law0_r9 : List Cond := [Cond.code yX1_isRow cX1_isRow 1 (some .boolean), Cond.methodLink RX1 82 yX1_isPlace, Cond.instanceMethod yX1_isPlace, Cond.selects RX1 yX1_isPlace yX1_isPlace, Cond.code yX1_isPlace cX1_isPlace 2 (some .boolean), Cond.methodLink RX1 70 yX1_its, Cond.instanceMethod yX1_its, Cond.selects RX1 yX1_its yX1_its, Cond.code yX1_its cX1_its 3 (some .int), Cond.methodLink RL 113 yL_copy, Cond.static yL_copy, Cond.codeWith yL_copy cL_copy 5 (some .int) [(0, 10, 13, 29)], Cond.methodLink RL 31 yX0_copy, Cond.instanceMethod yX0_copy, Cond.selects RX0 yX0_copy yX0_copy, Cond.code yX0_copy cX0_copy 3 (some .int), Cond.methodLink RX0 75 yX0_copyRow, Cond.instanceMethod yX0_copyRow, Cond.selects RX0 yX0_copyRow yX0_copyRow, Cond.code yX0_copyRow cX0_copyRow 6 (some .int), Cond.methodLink RL 115 yX1_copy, Cond.instanceMethod yX1_copy, Cond.selects RX1 yX1_copy yX1_copy, Cond.code yX1_copy cX1_copy 4 (some .int)]
def wsL_law0_r10 : List Cond := [Cond.methodLink RX1 64 arraycopyName, Cond.native arraycopyName, Cond.static arraycopyName, Cond.initialized "java/lang/System", Cond.methodLink RX1 85 yX1_changes, Cond.instanceMethod yX1_changes, Cond.selects RX1 yX1_changes yX1_changes, Cond.code yX1_changes cX1_changes 4 (some .int), Cond.methodLink RX1 88 yX1_lay, Cond.instanceMethod yX1_lay, Cond.selects RX1 yX1_lay yX1_lay, Cond.code yX1_lay cX1_lay 2 none, Cond.methodLink RL 116 yL_turn, Cond.static yL_turn, Cond.codeWith yL_turn cL_turn 5 (some .int) [(0, 10, 13, 29)], Cond.methodLink RL 34 yX0_turn, Cond.instanceMethod yX0_turn, Cond.selects RX0 yX0_turn yX0_turn, Cond.code yX0_turn cX0_turn 3 (some .int), Cond.methodLink RX0 78 yX0_scratchTurnedBack, Cond.instanceMethod yX0_scratchTurnedBack, Cond.selects RX0 yX0_scratchTurnedBack yX0_scratchTurnedBack, Cond.code yX0_scratchTurnedBack cX0_scratchTurnedBack 2 none, Cond.methodLink RX0 173 yX0_scratchValues]
def wsL_law0_r11 : List Cond := [Cond.instanceMethod yX0_scratchValues, Cond.selects RX0 yX0_scratchValues yX0_scratchValues, Cond.code yX0_scratchValues cX0_scratchValues 6 none, Cond.methodLink RX0 119 yX0_valueAt, Cond.instanceMethod yX0_valueAt, Cond.selects RX0 yX0_valueAt yX0_valueAt, Cond.code yX0_valueAt cX0_valueAt 5 (some .int), Cond.methodLink RX0 81 yX0_scratchTones, Cond.instanceMethod yX0_scratchTones, Cond.selects RX0 yX0_scratchTones yX0_scratchTones, Cond.code yX0_scratchTones cX0_scratchTones 2 none, Cond.methodLink RL 119 yX1_turn, Cond.instanceMethod yX1_turn, Cond.selects RX1 yX1_turn yX1_turn, Cond.code yX1_turn cX1_turn 3 (some .int), Cond.methodLink RX1 92 yX1_makeTones, Cond.instanceMethod yX1_makeTones, Cond.selects RX1 yX1_makeTones yX1_makeTones, Cond.code yX1_makeTones cX1_makeTones 6 none, Cond.methodLink RX1 76 yX1_pointOf, Cond.instanceMethod yX1_pointOf, Cond.selects RX1 yX1_pointOf yX1_pointOf, Cond.code yX1_pointOf cX1_pointOf 5 (some .int), Cond.methodLink RX1 73 yX1_plus]
def wsL_law0_r12 : List Cond := [Cond.instanceMethod yX1_plus, Cond.selects RX1 yX1_plus yX1_plus, Cond.code yX1_plus cX1_plus 3 (some .int), Cond.methodLink RL 120 yL_mirror, Cond.static yL_mirror, Cond.codeWith yL_mirror cL_mirror 4 (some .int) [(0, 9, 12, 29)], Cond.methodLink RL 38 yX0_mirror, Cond.instanceMethod yX0_mirror, Cond.selects RX0 yX0_mirror yX0_mirror, Cond.code yX0_mirror cX0_mirror 3 (some .int), Cond.methodLink RX0 87 yX0_mirrored, Cond.instanceMethod yX0_mirrored, Cond.selects RX0 yX0_mirrored yX0_mirrored, Cond.code yX0_mirrored cX0_mirrored 4 (some .int), Cond.methodLink RL 122 yX1_mirror, Cond.instanceMethod yX1_mirror, Cond.selects RX1 yX1_mirror yX1_mirror, Cond.code yX1_mirror cX1_mirror 3 (some .int), Cond.methodLink RX1 96 yX1_mirrored, Cond.instanceMethod yX1_mirrored, Cond.selects RX1 yX1_mirrored yX1_mirrored, Cond.code yX1_mirrored cX1_mirrored 4 (some .int), Cond.methodLink RL 123 yL_stage, Cond.static yL_stage]
def wsL_law0_r13 : List Cond := [Cond.codeWith yL_stage cL_stage 5 (some .int) [(0, 10, 13, 29)], Cond.methodLink RL 41 yX0_stage, Cond.instanceMethod yX0_stage, Cond.selects RX0 yX0_stage yX0_stage, Cond.code yX0_stage cX0_stage 7 (some .int), Cond.methodLink RX0 98 yX0_butterfly, Cond.instanceMethod yX0_butterfly, Cond.selects RX0 yX0_butterfly yX0_butterfly, Cond.code yX0_butterfly cX0_butterfly 7 none, Cond.methodLink RL 125 yX1_stage, Cond.instanceMethod yX1_stage, Cond.selects RX1 yX1_stage yX1_stage, Cond.code yX1_stage cX1_stage 9 (some .int), Cond.methodLink RX1 99 yX1_minus, Cond.instanceMethod yX1_minus, Cond.selects RX1 yX1_minus yX1_minus, Cond.code yX1_minus cX1_minus 3 (some .int), Cond.methodLink RL 126 yL_fold, Cond.static yL_fold, Cond.codeWith yL_fold cL_fold 5 (some .int) [(0, 10, 13, 29)], Cond.methodLink RL 44 yX0_fold, Cond.instanceMethod yX0_fold, Cond.selects RX0 yX0_fold yX0_fold, Cond.code yX0_fold cX0_fold 4 (some .int)]
def wsL_law0_r14 : List Cond := [Cond.methodLink RX0 102 yX0_foldedAt, Cond.instanceMethod yX0_foldedAt, Cond.selects RX0 yX0_foldedAt yX0_foldedAt, Cond.code yX0_foldedAt cX0_foldedAt 6 (some .int), Cond.methodLink RX0 116 yX0_wrapped, Cond.instanceMethod yX0_wrapped, Cond.selects RX0 yX0_wrapped yX0_wrapped, Cond.code yX0_wrapped cX0_wrapped 2 (some .int), Cond.methodLink RL 128 yX1_fold, Cond.instanceMethod yX1_fold, Cond.selects RX1 yX1_fold yX1_fold, Cond.code yX1_fold cX1_fold 4 (some .int), Cond.methodLink RX1 102 yX1_folded, Cond.instanceMethod yX1_folded, Cond.selects RX1 yX1_folded yX1_folded, Cond.code yX1_folded cX1_folded 6 (some .int), Cond.methodLink RL 129 yL_join, Cond.static yL_join, Cond.codeWith yL_join cL_join 6 (some .int) [(0, 12, 15, 29)], Cond.methodLink RL 47 yX0_join, Cond.instanceMethod yX0_join, Cond.selects RX0 yX0_join yX0_join, Cond.code yX0_join cX0_join 5 (some .int), Cond.methodLink RX0 108 yX0_joined]
def wsL_law0_r15 : List Cond := [Cond.instanceMethod yX0_joined, Cond.selects RX0 yX0_joined yX0_joined, Cond.code yX0_joined cX0_joined 4 (some .int), Cond.methodLink RX0 111 yX0_nonZeros, Cond.instanceMethod yX0_nonZeros, Cond.selects RX0 yX0_nonZeros yX0_nonZeros, Cond.code yX0_nonZeros cX0_nonZeros 4 (some .int), Cond.methodLink RL 131 yX1_join, Cond.instanceMethod yX1_join, Cond.selects RX1 yX1_join yX1_join, Cond.code yX1_join cX1_join 5 (some .int), Cond.methodLink RX1 106 yX1_others, Cond.instanceMethod yX1_others, Cond.selects RX1 yX1_others yX1_others, Cond.code yX1_others cX1_others 4 (some .int), Cond.methodLink RL 132 yL_move, Cond.static yL_move, Cond.codeWith yL_move cL_move 5 (some .int) [(0, 10, 13, 29), (0, 10, 17, 13)], Cond.methodLink RL 50 yX0_move, Cond.instanceMethod yX0_move, Cond.selects RX0 yX0_move yX0_move, Cond.code yX0_move cX0_move 4 (some .int), Cond.methodLink RL 134 yX1_move, Cond.instanceMethod yX1_move]
def wsL_law0_r16 : List Cond := [Cond.selects RX1 yX1_move yX1_move, Cond.code yX1_move cX1_move 4 (some .int), Cond.methodLink RL 135 yL_times, Cond.static yL_times, Cond.codeWith yL_times cL_times 5 (some .int) [(0, 10, 13, 29), (0, 10, 17, 13)], Cond.methodLink RL 53 yX0_times, Cond.instanceMethod yX0_times, Cond.selects RX0 yX0_times yX0_times, Cond.code yX0_times cX0_times 4 (some .int), Cond.methodLink RL 137 yX1_times, Cond.instanceMethod yX1_times, Cond.selects RX1 yX1_times yX1_times, Cond.code yX1_times cX1_times 4 (some .int), Cond.methodLink RL 138 yL_at, Cond.static yL_at, Cond.codeWith yL_at cL_at 5 (some .int) [(0, 10, 13, 29)], Cond.methodLink RL 56 yX0_at, Cond.instanceMethod yX0_at, Cond.selects RX0 yX0_at yX0_at, Cond.code yX0_at cX0_at 3 (some .int), Cond.methodLink RL 140 yX1_at, Cond.instanceMethod yX1_at, Cond.selects RX1 yX1_at yX1_at, Cond.code yX1_at cX1_at 3 (some .int)]
def wsL_law0_r17 : List Cond := [Cond.methodLink RL 141 yL_point, Cond.static yL_point, Cond.codeWith yL_point cL_point 5 (some .int) [(0, 10, 13, 29), (0, 10, 17, 13)], Cond.methodLink RL 59 yX0_point, Cond.instanceMethod yX0_point, Cond.selects RX0 yX0_point yX0_point, Cond.code yX0_point cX0_point 3 (some .int), Cond.methodLink RL 143 yX1_point, Cond.instanceMethod yX1_point, Cond.selects RX1 yX1_point yX1_point, Cond.code yX1_point cX1_point 3 (some .int), Cond.methodLink RL 144 yL_about, Cond.static yL_about, Cond.codeWith yL_about cL_about 5 (some .int) [(0, 10, 13, 29)], Cond.methodLink RL 62 yX0_about, Cond.instanceMethod yX0_about, Cond.selects RX0 yX0_about yX0_about, Cond.code yX0_about cX0_about 3 (some .int), Cond.methodLink RX0 124 yX0_told, Cond.instanceMethod yX0_told, Cond.selects RX0 yX0_told yX0_told, Cond.code yX0_told cX0_told 3 (some .int), Cond.methodLink RX0 139 yX0_plainSum, Cond.instanceMethod yX0_plainSum]
def wsL_law0_r18 : List Cond := [Cond.selects RX0 yX0_plainSum yX0_plainSum, Cond.code yX0_plainSum cX0_plainSum 4 (some .int), Cond.methodLink RX0 176 yX0_lastNonZero, Cond.instanceMethod yX0_lastNonZero, Cond.selects RX0 yX0_lastNonZero yX0_lastNonZero, Cond.code yX0_lastNonZero cX0_lastNonZero 3 (some .int), Cond.methodLink RX0 179 yX0_period, Cond.instanceMethod yX0_period, Cond.selects RX0 yX0_period yX0_period, Cond.code yX0_period cX0_period 3 (some .int), Cond.methodLink RX0 132 yX0_isWhenMoved, Cond.instanceMethod yX0_isWhenMoved, Cond.selects RX0 yX0_isWhenMoved yX0_isWhenMoved, Cond.code yX0_isWhenMoved cX0_isWhenMoved 5 (some .boolean), Cond.methodLink RX0 182 yX0_greatestNumber, Cond.instanceMethod yX0_greatestNumber, Cond.selects RX0 yX0_greatestNumber yX0_greatestNumber, Cond.code yX0_greatestNumber cX0_greatestNumber 4 (some .int), Cond.methodLink RX0 185 Lib.Math.max.name, Cond.static Lib.Math.max.name, Cond.initialized "java/lang/Math", Cond.code Lib.Math.max.name Lib.Math.max.code 2 (some .int), Cond.methodLink RL 146 yX1_about, Cond.instanceMethod yX1_about]
def wsL_law0_r19 : List Cond := [Cond.selects RX1 yX1_about yX1_about, Cond.code yX1_about cX1_about 3 (some .int), Cond.methodLink RX1 117 yX1_aboutTold, Cond.instanceMethod yX1_aboutTold, Cond.selects RX1 yX1_aboutTold yX1_aboutTold, Cond.code yX1_aboutTold cX1_aboutTold 5 (some .int), Cond.methodLink RX1 112 Lib.Math.max.name, Cond.methodLink RX1 109 yX1_isMoved, Cond.instanceMethod yX1_isMoved, Cond.selects RX1 yX1_isMoved yX1_isMoved, Cond.code yX1_isMoved cX1_isMoved 5 (some .boolean), Cond.methodLink RL 147 yL_count, Cond.static yL_count, Cond.codeWith yL_count cL_count 4 (some .int) [(0, 9, 12, 29)], Cond.methodLink RL 65 yX0_count, Cond.instanceMethod yX0_count, Cond.selects RX0 yX0_count yX0_count, Cond.code yX0_count cX0_count 2 (some .int), Cond.methodLink RX0 129 yX0_counted, Cond.instanceMethod yX0_counted, Cond.selects RX0 yX0_counted yX0_counted, Cond.code yX0_counted cX0_counted 2 (some .int), Cond.methodLink RL 149 yX1_count, Cond.instanceMethod yX1_count]
def wsL_law0_r20 : List Cond := [Cond.selects RX1 yX1_count yX1_count, Cond.code yX1_count cX1_count 2 (some .int), Cond.methodLink RX1 120 yX1_counted, Cond.instanceMethod yX1_counted, Cond.selects RX1 yX1_counted yX1_counted, Cond.code yX1_counted cX1_counted 2 (some .int), Cond.methodLink RL 150 yL_would, Cond.static yL_would, Cond.codeWith yL_would cL_would 6 (some .int) [(0, 12, 15, 29)], Cond.methodLink RL 68 yX0_would, Cond.instanceMethod yX0_would, Cond.selects RX0 yX0_would yX0_would, Cond.code yX0_would cX0_would 4 (some .int), Cond.methodLink RL 152 yX1_would, Cond.instanceMethod yX1_would, Cond.selects RX1 yX1_would yX1_would, Cond.code yX1_would cX1_would 4 (some .int), Cond.methodLink RL 153 yL_comes, Cond.static yL_comes, Cond.codeWith yL_comes cL_comes 5 (some .int) [(0, 10, 13, 29)], Cond.methodLink RL 71 yX0_comes, Cond.instanceMethod yX0_comes, Cond.selects RX0 yX0_comes yX0_comes, Cond.code yX0_comes cX0_comes 4 (some .int)]
def wsL_law0_r21 : List Cond := [Cond.methodLink RL 155 yX1_comes, Cond.instanceMethod yX1_comes, Cond.selects RX1 yX1_comes yX1_comes, Cond.code yX1_comes cX1_comes 3 (some .int), Cond.methodLink RX1 123 yX1_comesBy, Cond.instanceMethod yX1_comesBy, Cond.selects RX1 yX1_comesBy yX1_comesBy, Cond.code yX1_comesBy cX1_comesBy 4 (some .int), Cond.methodLink RL 156 yL_advise, Cond.static yL_advise, Cond.codeWith yL_advise cL_advise 5 (some .int) [(0, 10, 13, 29)], Cond.methodLink RL 74 yX0_advise, Cond.instanceMethod yX0_advise, Cond.selects RX0 yX0_advise yX0_advise, Cond.code yX0_advise cX0_advise 7 (some .int), Cond.methodLink RX0 136 yX0_soundWhenMoved, Cond.instanceMethod yX0_soundWhenMoved, Cond.selects RX0 yX0_soundWhenMoved yX0_soundWhenMoved, Cond.code yX0_soundWhenMoved cX0_soundWhenMoved 6 (some .int), Cond.methodLink RL 158 yX1_advise, Cond.instanceMethod yX1_advise, Cond.selects RX1 yX1_advise yX1_advise, Cond.code yX1_advise cX1_advise 5 (some .int), Cond.methodLink RX1 126 yX1_together]
def wsL_law0_r22 : List Cond := [Cond.instanceMethod yX1_together, Cond.selects RX1 yX1_together yX1_together, Cond.code yX1_together cX1_together 6 (some .int), Cond.methodLink RL 159 yL_tones, Cond.static yL_tones, Cond.codeWith yL_tones cL_tones 5 (some .int) [(0, 17, 20, 29)], Cond.methodLink RL 77 yX0_tones, Cond.instanceMethod yX0_tones, Cond.selects RX0 yX0_tones yX0_tones, Cond.code yX0_tones cX0_tones 3 (some .boolean), Cond.methodLink RL 161 yX1_tones, Cond.instanceMethod yX1_tones, Cond.selects RX1 yX1_tones yX1_tones, Cond.code yX1_tones cX1_tones 3 (some .boolean), Cond.methodLink RX1 129 yX1_areTones, Cond.instanceMethod yX1_areTones, Cond.selects RX1 yX1_areTones yX1_areTones, Cond.code yX1_areTones cX1_areTones 3 (some .boolean), Cond.methodLink RL 162 yL_mean, Cond.static yL_mean, Cond.codeWith yL_mean cL_mean 4 (some .int) [(0, 8, 11, 29)], Cond.methodLink RL 81 yX0_mean, Cond.instanceMethod yX0_mean, Cond.selects RX0 yX0_mean yX0_mean]
def wsL_law0_r23 : List Cond := [Cond.code yX0_mean cX0_mean 2 (some .double), Cond.methodLink RL 165 yX1_mean, Cond.instanceMethod yX1_mean, Cond.selects RX1 yX1_mean yX1_mean, Cond.code yX1_mean cX1_mean 4 (some .double), Cond.methodLink RL 166 yX0_digest, Cond.instanceMethod yX0_digest, Cond.selects RX0 yX0_digest yX0_digest, Cond.code yX0_digest cX0_digest 5 (some .long), Cond.constantLong RX0 142 (1777), Cond.constantLong RX0 144 (31), Cond.methodLink RX0 146 yX0_digestRow, Cond.instanceMethod yX0_digestRow, Cond.selects RX0 yX0_digestRow yX0_digestRow, Cond.code yX0_digestRow cX0_digestRow 7 (some .long), Cond.methodLink RL 170 yX1_digest, Cond.instanceMethod yX1_digest, Cond.selects RX1 yX1_digest yX1_digest, Cond.code yX1_digest cX1_digest 5 (some .long), Cond.constantLong RX1 133 (1777), Cond.constantLong RX1 135 (31)]
def wsL_law0 : List Cond := (wsL_law0_r1 ++ (wsL_law0_r2 ++ (wsL_law0_r3 ++ (wsL_law0_r4 ++ (wsL_law0_r5 ++ (wsL_law0_r6 ++ (wsL_law0_r7 ++ (wsL_law0_r8 ++ (wsL_law0_r9 ++ (wsL_law0_r10 ++ (wsL_law0_r11 ++ (wsL_law0_r12 ++ (wsL_law0_r13 ++ (wsL_law0_r14 ++ (wsL_law0_r15 ++ (wsL_law0_r16 ++ (wsL_law0_r17 ++ (wsL_law0_r18 ++ (wsL_law0_r19 ++ (wsL_law0_r20 ++ (wsL_law0_r21 ++ (wsL_law0_r22 ++ wsL_law0_r23)))))))))))))))))))))) ++ wsX00 ++ wsX10 ++ ([] : List Cond)
def wsL_law : List Cond := wsL_law0 ++ (vx_atS RX0 32 "java/lang/IllegalArgumentException" ["java/lang/RuntimeException", "java/lang/Exception"]).filter goodWord ++ (vx_atS RX0 97 "java/lang/IndexOutOfBoundsException" ["java/lang/RuntimeException", "java/lang/Exception"]).filter goodWord
abbrev vwCl : List vw_C := [(RX0, TX0, 7), (RX1, TX1, 7)]
end
