-- ===== YOUR PART BEGINS =====
abbrev tmR : Term := .static "ToneButterfliesLaw" "RINGS" "[I"
theorem lw_el : ∀ j, j < 24 → Cond.eq (.elem tmR (.int (Int32.ofNat j))) (.int (iI ((RG j : Nat) : Int))) ∈ flatC (Jvm.Cond.and given_1 narrow_1) := by decide +kernel
set_option maxHeartbeats 4000000 in
/-- from the entry, for every script of at most 260 ints, the law comes to its end with true -/
theorem whole_start {p : Program} {e : Env} {s : State} {m : MethodId} {below : List Frame} {meth : Method} {c : Code} (l : Launch) (hflags : l.flags = flags0) {b L : Nat} {xs : Nat → Int32} (hL : L ≤ 260) (C0 : lw_At p s m meth c b L xs) : W p l e room_1 s m #[Value.ref b] below meth c s.heap [] 0 0 (lw_Z below #[Value.ref b] s) (entryFrame m ([Value.ref b] : List Value).toArray 19) := by
  obtain ⟨hx, hb, hr, hml, hown, hts, hX, hbl, hlocks, hgv⟩ := id C0
  have hs := flat_of_before _ hgv
  have hA : ∀ q : Nat, s.heap.size ≤ q → (fun q : Nat => s.heap.size ≤ q) q := fun _ h => h
  have hA2 : ∀ a : Nat, a < s.heap.size → ¬ (fun q : Nat => s.heap.size ≤ q) a := fun a h => Nat.not_le.mpr h
  obtain ⟨c0, iS0, hKn0⟩ := u_known (C := RX0) (T := TX0) (N := 7) (n := 7) hts inX0 (hts (.instantiable RX0 7) (by decide +kernel))
  obtain ⟨c1, iS1, hKn1⟩ := u_known (C := RX1) (T := TX1) (N := 4) (n := 4) hts inX1 (hts (.instantiable RX1 4) (by decide +kernel))
  obtain ⟨dC, dI, hKc⟩ : ∃ (dC : Nat → ClassId) (dI : Nat → Nat → Nat), ∀ (k : Nat) (q : vw_C), vwCl[k]? = some q → u_Kn s q.1 q.2.1 q.2.2 (dC k) (dI k) := by
    refine ⟨fun k => if k = 0 then c0 else c1, fun k => if k = 0 then iS0 else iS1, ?_⟩
    intro k q hq
    match k, hq with
    | 0, hq => cases hq; exact hKn0
    | 1, hq => cases hq; exact hKn1
    | k + 2, hq => simp [vwCl] at hq
  obtain ⟨cI, hcI⟩ := arrK (hts (.arrayClass .int) (by decide +kernel))
  have hov : va_AOA .int s := va_AOA.of (hts (.arrayOver (.array .int)) (by decide +kernel))
  obtain ⟨comp, cQ, kA, k3, -, k1, k2, k4⟩ := arrayOverA_spec (va_AOA.use (args := #[Value.ref b]) hov)
  have hK : va_K (dC, dI) vwCl [(cI, .int), (cQ, .array .int)] s := by
    refine ⟨hKc, ?_⟩
    intro k q h
    match k, h with
    | 0, h => cases h; exact hcI
    | 1, h => cases h; exact ⟨fun n z => ⟨fun k h => (by cases h), kA, k1, comp, k2⟩, k4⟩
    | k + 2, h => simp at h
  have hP : va_P (dC, dI) vwCl [] s.heap := fun k q h => by simp at h
  have hD : va_D (fun q : Nat => s.heap.size ≤ q) [] := ⟨fun i j p q h => by simp at h, fun k q h => by simp at h⟩
  obtain ⟨t, ht, hT⟩ := va_Tof (args := #[Value.ref b]) (s := s) (tm := tmR) (ty := .int) (N := 24) (f := fun j => nV (RG j)) (A := fun q : Nat => s.heap.size ≤ q) (by decide) (hs _ (by decide +kernel)) (va_eqt (hs (Cond.eq (.length tmR) (.int (Int32.ofNat 24))) (by decide +kernel))) (fun j hj => va_eqt (hs _ (lw_el j hj))) hA2
  have Yq : xy b (fun q : Nat => s.heap.size ≤ q) s := by
    refine ⟨hov, va_Nw.of rfl (hts (.castable "[I" "java/lang/Cloneable") (by decide +kernel)), ⟨t, va_Zref (hts _ (by decide +kernel)) (hts _ (by decide +kernel)) ht hA2, hT⟩, L, xs, by omega, ?_⟩
    obtain ⟨scr, h1, h2, h3, h4, h5⟩ := hX
    exact ⟨scr, h1, h2, h3, Nat.le_of_eq h4.symm, (congrArg Nat.toInt32 h4).trans rfl, h5, hA2 b hbl⟩
  have Nq : va_Nw nestW s := va_Nw.of rfl (hts nestW (by decide +kernel))
  have C : xc (p, l, e, room_1, s, m, #[Value.ref b], below, meth, c, lw_Z below #[Value.ref b] s, (dC, dI), vwCl, [(cI, .int), (cQ, .array .int)], fun q : Nat => s.heap.size ≤ q, 19) l room_1 (dC, dI) vwCl [(cI, .int), (cQ, .array .int)] 19 cL_law RL wsL_law :=
    ⟨rfl, rfl, rfl, rfl, rfl, rfl, hx, hb, hml, hown, fun w hw => hts w (wsL_law_in w hw), hK, hA⟩
  have fin : ∀ (k nn : Nat) (w : va_W) (lv : List (Nat × Value)), k ≤ 1300 → nn ≤ 19000 → xw (p, l, e, room_1, s, m, #[Value.ref b], below, meth, c, lw_Z below #[Value.ref b] s, (dC, dI), vwCl, [(cI, .int), (cQ, .array .int)], fun q : Nat => s.heap.size ≤ q, 19) k nn w 1014 lv [] := by
    intro k nn w lv hk hn
    refine xw_iconst_N (pc := 1014) C 1 dL_law_1014 rfl ?_
    intro H locs ls hP hD hS h
    refine va_forget (fun q hq => hS.2.2 q hq) ?_
    refine W.widen (show k ≤ 759041 by omega) (show nn ≤ 6824346 by omega) ?_
    exact W.base (lw_ret (d0 := s.drawn) (Drawn.sameBut.refl s.drawn lw_cs) hx hb hr hlocks dL_law_1015)
  rw [lg_entry_eq]
  exact law_body C Yq Nq fin s.heap [] _ hP hD va_S.rf (lv_entry [.ref b] (Nat.le_of_ble_eq_true rfl))
