-- ===== YOUR PART BEGINS =====
theorem lw_xB : ∀ w ∈ xB, w ∈ lw_tbl := by decide +kernel
theorem lw_xS : ∀ q ∈ xS, Cond.stringRef RX0 q.1 q.2 ∈ lw_tbl := by decide +kernel
theorem lw_xE : ∀ q ∈ xS, Cond.exactly (.string RX0 q.1) "java/lang/String" ∈ flatC (Jvm.Cond.and given_1 narrow_1) := by decide +kernel
theorem lw_rk : rt 8 17 = 2 := by decide +kernel
theorem lw_r8 : rok 8 17 := ⟨Or.inr (Or.inl rfl), by decide, by decide, by decide +kernel, by decide⟩
theorem lw_I0 : LI 8 17 (zf (fun _ => 0) 80) (fun _ => 0) (fun _ => 0) := by
  refine ⟨lw_r8, zf_lt (fun _ => (by decide : 0 < 500)), fun j hj => ?_, fun _ => (by decide : 0 < 500), fun j hj => ?_, fun _ => (by decide : 0 < 500)⟩
  · unfold zf; rw [if_pos (by omega)]
  · unfold zf; rw [if_pos (by omega)]; decide
theorem lw_wL {cI cJ cD : ClassId} {hx a hm r d o od : Nat} : (wX cI hx a 8 17 (bt 8) (rt 8 17) (rt 8 17 ^ (17 - 2) % 17) (8 ^ (17 - 2) % 17) (zf (fun _ => 0) 80) ++ wM cI hm r d 0 8 17 2 3 (fun _ => 0) (fun _ => 0)) ++ wO cJ o (fun _ => 0) ++ wE cD od (fun _ => 0) = wL cI cJ cD hx a hm r d o od 8 17 0 (zf (fun _ => 0) 80) (fun _ => 0) (fun _ => 0) (fun _ => 0) (fun _ => 0) := by
  unfold wL
  rw [lw_rk, show bt 8 = 3 from rfl, List.append_assoc, List.append_assoc]
set_option maxHeartbeats 4000000 in
set_option maxRecDepth 100000 in
/-- the law's body from its entry, over what is held there -/
theorem law_body {φ : Fx} {l : Launch} {D : va_G} {cI cJ cD : ClassId} {b L : Nat} {xs : Nat → Int32} (C : xc φ l room_1 D vwCl [(cI, .int), (cJ, .long), (cD, .double)] 9 cL_law RL wsL_law) (Zc : xzc φ) (X : xsx φ b L xs) (hL : L ≤ 2048) (hl : l.stackTraces = false) (fin : ∀ (k nn : Nat) (w : va_W) (lv : List (Nat × Value)), k ≤ 1042 → nn ≤ 8434 → xw φ k nn w 1676 lv []) : xw φ 0 0 [] 0 [(0, .ref b)] [] := by
  refine xw_new (pc := 0) (Cn := RX0) (T := TX0) (N := 7) (ci := 0) (fs := [.null, nV 0, nV 0, nV 0, nV 0, nV 0, nV 0]) C inlX0 tyX0 tyX0_ok (by decide +kernel) (by decide +kernel) (by decide +kernel) rfl (by decide +kernel) (Nat.le_of_ble_eq_true rfl) (Nat.le_of_ble_eq_true rfl) dL_law_0 (fun hx => ?_)
  refine xw_wo (w' := w0X hx) rfl ?_
  refine xw_dup (pc := 3) C dL_law_3 rfl ?_
  refine xw_IF (pc := 4) (na := 0) (As := []) (rest := [.ref hx]) (wc := w0X hx) (wr := []) C [0] [] [0] m_X0_init ggL_law_X0_init rfl rfl rfl (by decide +kernel) (by decide +kernel) (by decide +kernel) rfl rfl (by decide +kernel) ⟨(Nat.le_of_ble_eq_true rfl), (Nat.le_of_ble_eq_true rfl)⟩ rfl rfl rfl ⟨rfl, rfl⟩ (by decide) rfl rfl (Nat.le_of_ble_eq_true rfl) dL_law_4 ⟨(Nat.le_of_ble_eq_true rfl), (Nat.le_of_ble_eq_true rfl)⟩ (fun v9 w9 hp9 => ?_)
  obtain ⟨a, rfl, rfl⟩ := hp9
  refine xw_wo (w' := wX cI hx a 8 17 (bt 8) (rt 8 17) (rt 8 17 ^ (17 - 2) % 17) (8 ^ (17 - 2) % 17) (zf (fun _ => 0) 80)) rfl ?_
  refine xw_st (st' := [.ref hx]) rfl ?_
  refine xw_astore_n (pc := 7) (lv' := [(0, .ref b), (1, .ref hx)]) C [1, 0] dL_law_7 rfl (by decide) rfl ?_
  refine xw_new (pc := 8) (Cn := RX1) (T := TX1) (N := 7) (ci := 1) (fs := [nV 0, nV 0, nV 0, nV 0, nV 0, .null, .null]) C inlX1 tyX1 tyX1_ok (by decide +kernel) (by decide +kernel) (by decide +kernel) rfl (by decide +kernel) (Nat.le_of_ble_eq_true rfl) (Nat.le_of_ble_eq_true rfl) dL_law_8 (fun hm => ?_)
  refine xw_wo (w' := wX cI hx a 8 17 (bt 8) (rt 8 17) (rt 8 17 ^ (17 - 2) % 17) (8 ^ (17 - 2) % 17) (zf (fun _ => 0) 80) ++ w0M hm) rfl ?_
  refine xw_dup (pc := 11) C dL_law_11 rfl ?_
  refine xw_IF (pc := 12) (na := 0) (As := []) (rest := [.ref hm]) (wc := w0M hm) (wr := wX cI hx a 8 17 (bt 8) (rt 8 17) (rt 8 17 ^ (17 - 2) % 17) (8 ^ (17 - 2) % 17) (zf (fun _ => 0) 80)) C [2] [0, 1] [0] m_X1_init ggL_law_X1_init rfl rfl rfl (by decide +kernel) (by decide +kernel) (by decide +kernel) rfl rfl (by decide +kernel) ⟨(Nat.le_of_ble_eq_true rfl), (Nat.le_of_ble_eq_true rfl)⟩ rfl rfl rfl ⟨rfl, rfl⟩ (by decide) rfl rfl (Nat.le_of_ble_eq_true rfl) dL_law_12 ⟨(Nat.le_of_ble_eq_true rfl), (Nat.le_of_ble_eq_true rfl)⟩ (fun v9 w9 hp9 => ?_)
  obtain ⟨r, d, rfl, rfl⟩ := hp9
  refine xw_st (st' := [.ref hm]) rfl ?_
  refine xw_astore_n (pc := 15) (lv' := [(0, .ref b), (1, .ref hx), (2, .ref hm)]) C [1, 2, 0] dL_law_15 rfl (by decide) rfl ?_
  refine xw_iconst_N (pc := 16) C 1 dL_law_16 rfl ?_
  refine xw_newJ (pc := 17) C 1 rfl (by decide +kernel) (by decide) (Nat.le_of_ble_eq_true rfl) (Nat.le_of_ble_eq_true rfl) dL_law_17 (fun o => ?_)
  refine xw_astore_n (pc := 19) (lv' := [(0, .ref b), (1, .ref hx), (2, .ref hm), (3, .ref o)]) C [1, 2, 3, 0] dL_law_19 rfl (by decide) rfl ?_
  refine xw_iconst_N (pc := 20) C 1 dL_law_20 rfl ?_
  refine xw_newD (pc := 21) C 2 rfl (by decide +kernel) (by decide) (Nat.le_of_ble_eq_true rfl) (Nat.le_of_ble_eq_true rfl) dL_law_21 (fun od => ?_)
  refine xw_astore (pc := 23) (lv' := [(0, .ref b), (1, .ref hx), (2, .ref hm), (3, .ref o), (4, .ref od)]) C [1, 2, 3, 4, 0] dL_law_23 (by decide) rfl ?_
  refine xw_iconst_N (pc := 25) C 0 dL_law_25 rfl ?_
  refine xw_istore (pc := 26) (lv' := [(0, .ref b), (1, .ref hx), (2, .ref hm), (3, .ref o), (4, .ref od), (5, nV 0)]) C [1, 2, 3, 4, 5, 0] dL_law_26 (by decide) rfl ?_
  refine xw_wo lw_wL ?_
  exact law_loop C Zc X hL hl fin 513 0 7 176 8 17 0 _ _ _ _ _ lw_I0 (by omega) (by decide) (by decide) (by decide)
set_option maxHeartbeats 4000000 in
/-- from the entry, for every script of at most 2048 ints, the law comes to its end with true -/
theorem whole_start {p : Program} {e : Env} {s : State} {m : MethodId} {below : List Frame} {meth : Method} {c : Code} (l : Launch) (hflags : l.flags = flags0) {b L : Nat} {xs : Nat → Int32} (hL : L ≤ 2048) (C0 : lw_At p s m meth c b L xs) : W p l e room_1 s m #[Value.ref b] below meth c s.heap [] 0 0 (lw_Z below #[Value.ref b] s) (entryFrame m ([Value.ref b] : List Value).toArray 9) := by
  obtain ⟨hx, hb, hr, hml, hown, hts, hX, hbl, hlocks, hgv⟩ := id C0
  have hs := flat_of_before _ hgv
  have hA : ∀ q : Nat, s.heap.size ≤ q → (fun q : Nat => s.heap.size ≤ q) q := fun _ h => h
  have hA2 : ∀ a : Nat, a < s.heap.size → ¬ (fun q : Nat => s.heap.size ≤ q) a := fun a h => Nat.not_le.mpr h
  obtain ⟨c0, iS0, hKn0⟩ := u_known (C := RX0) (T := TX0) (N := 7) (n := 7) hts inX0 (hts (.instantiable RX0 7) (by decide +kernel))
  obtain ⟨c1, iS1, hKn1⟩ := u_known (C := RX1) (T := TX1) (N := 7) (n := 7) hts inX1 (hts (.instantiable RX1 7) (by decide +kernel))
  obtain ⟨dC, dI, hKc⟩ : ∃ (dC : Nat → ClassId) (dI : Nat → Nat → Nat), ∀ (k : Nat) (q : vw_C), vwCl[k]? = some q → u_Kn s q.1 q.2.1 q.2.2 (dC k) (dI k) := by
    refine ⟨fun k => if k = 0 then c0 else c1, fun k => if k = 0 then iS0 else iS1, ?_⟩
    intro k q hq
    match k, hq with
    | 0, hq => cases hq; exact hKn0
    | 1, hq => cases hq; exact hKn1
    | k + 2, hq => simp [vwCl] at hq
  obtain ⟨cI, hcI⟩ := arrK (hts (.arrayClass .int) (by decide +kernel))
  obtain ⟨cJ, hcJ⟩ := arrK (hts (.arrayClass .long) (by decide +kernel))
  obtain ⟨cD, hcD⟩ := arrK (hts (.arrayClass .double) (by decide +kernel))
  have hK : va_K (dC, dI) vwCl [(cI, .int), (cJ, .long), (cD, .double)] s := by
    refine ⟨hKc, ?_⟩
    intro k q h
    match k, h with
    | 0, h => cases h; exact hcI
    | 1, h => cases h; exact hcJ
    | 2, h => cases h; exact hcD
    | k + 3, h => simp at h
  have hl : l.stackTraces = false := by
    unfold Launch.stackTraces
    rw [hflags]
    decide +kernel
  have hP : va_P (dC, dI) vwCl [] s.heap := fun k q h => by simp at h
  have hD : va_D (fun q : Nat => s.heap.size ≤ q) [] := ⟨fun i j p q h => by simp at h, fun k q h => by simp at h⟩
  have Zq : xz (fun q : Nat => s.heap.size ≤ q) s := by
    refine ⟨vx_Zqof (hts _ (by decide +kernel)) (hts _ (by decide +kernel)) (hs _ (by decide +kernel)) hA2, vx_Zqof (hts _ (by decide +kernel)) (hts _ (by decide +kernel)) (hs _ (by decide +kernel)) hA2, fun w hw => ?_, fun q hq => ?_, va_Nc.of (hs _ (by decide +kernel))⟩
    · have h9 := xB_ok w hw
      rw [Bool.and_eq_true] at h9
      exact va_tabs h9.2 (u := s) rfl (hts w (lw_xB w hw))
    · have h1 := hts _ (lw_xS q hq)
      have h2 : (Cond.exactly (.string RX0 q.1) "java/lang/String").before #[Value.ref b] s = true := hs _ (lw_xE q hq)
      obtain ⟨sa, c9, cA9, kA9, q1, -⟩ := Cond.exactly_spec (args := #[Value.ref b]) (first := s) (o := none) (s := s) (idx := []) (t := .string RX0 q.1) (cls := "java/lang/String") h2
      exact ⟨sa, vk_R.of h1 q1⟩
  have C : xc (p, l, e, room_1, s, m, #[Value.ref b], below, meth, c, lw_Z below #[Value.ref b] s, (dC, dI), vwCl, [(cI, .int), (cJ, .long), (cD, .double)], fun q : Nat => s.heap.size ≤ q, 9) l room_1 (dC, dI) vwCl [(cI, .int), (cJ, .long), (cD, .double)] 9 cL_law RL wsL_law :=
    ⟨rfl, rfl, rfl, rfl, rfl, rfl, hx, hb, hml, hown, fun w hw => hts w (wsL_law_in w hw), hK, hA⟩
  have fin : ∀ (k nn : Nat) (w : va_W) (lv : List (Nat × Value)), k ≤ 1042 → nn ≤ 8434 → xw (p, l, e, room_1, s, m, #[Value.ref b], below, meth, c, lw_Z below #[Value.ref b] s, (dC, dI), vwCl, [(cI, .int), (cJ, .long), (cD, .double)], fun q : Nat => s.heap.size ≤ q, 9) k nn w 1676 lv [] := by
    intro k nn w lv hk hn
    refine xw_iconst_N (pc := 1676) C 1 dL_law_1676 rfl ?_
    intro H locs ls hP hD hS h
    refine va_forget (fun q hq => hS.2.2 q hq) ?_
    refine W.widen hk hn ?_
    exact W.base (lw_ret (d0 := s.drawn) (Drawn.sameBut.refl s.drawn lw_cs) hx hb hr hlocks dL_law_1677)
  rw [lg_entry_eq]
  exact law_body C Zq ⟨hX, hbl, Nat.not_le.mpr hbl⟩ hL hl fin s.heap [] _ hP hD va_S.rf (lv_entry [.ref b] (Nat.le_of_ble_eq_true rfl))
