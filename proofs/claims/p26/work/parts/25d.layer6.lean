/-! ===== the law's world: the hand with its rows, what is made by the way, the object ===== -/
def LW (cI cQ : ClassId) (o rr n2 p2 w2 : Nat) (g B : Nat → Nat) (e x : va_W) : va_W := (wS cI cQ o n2 p2 w2 rr g B ++ e) ++ x
section LWS
variable {cI cQ : ClassId} {o rr n2 p2 w2 : Nat} {g B : Nat → Nat} {e x : va_W}
theorem LW_o : (LW cI cQ o rr n2 p2 w2 g B e x)[0]? = some (o, .inr (1, [nV n2, nV p2, nV w2, .ref rr])) := rfl
theorem LW_q : (LW cI cQ o rr n2 p2 w2 g B e x)[1]? = some (rr, .inl (cQ, 4, .inr (.inr (.inr (.inr (fun i => if i < 4 then some (g i) else none)))))) := rfl
theorem LW_r {i : Nat} (hi : i < 4) : (LW cI cQ o rr n2 p2 w2 g B e x)[2 + i]? = some (g i, .inl (cI, n2, .inl (fN (fun k => B (16 * i + k))))) := by
  rcases (show i = 0 ∨ i = 1 ∨ i = 2 ∨ i = 3 by omega) with rfl | rfl | rfl | rfl <;> rfl
theorem LW_rs {i q : Nat} (hi : i < 4) (hq : g i = q) : (LW cI cQ o rr n2 p2 w2 g B e x)[2 + i]? = some (q, .inl (cI, n2, .inl (fN (fun k => B (16 * i + k))))) := by
  rw [← hq]; exact LW_r hi
end LWS
/-- the same cells, told in other words -/
def wEq : va_W → va_W → Prop
  | [], [] => True
  | q :: a, q' :: b => (q.1 = q'.1 ∧ ∀ (D : va_G) (cl : List vw_C) (H : Heap), va_at D cl q H → va_at D cl q' H) ∧ wEq a b
  | _, _ => False
theorem wEq.rf : ∀ w : va_W, wEq w w
  | [] => trivial
  | _ :: a => ⟨⟨rfl, fun _ _ _ h => h⟩, wEq.rf a⟩
theorem wEq.app : ∀ {a b c d : va_W}, wEq a b → wEq c d → wEq (a ++ c) (b ++ d)
  | [], [], _, _, _, h => h
  | _ :: _, _ :: _, _, _, h, h2 => ⟨h.1, wEq.app h.2 h2⟩
theorem wEq.at_ : ∀ {a b : va_W}, wEq a b → ∀ (i : Nat) (q' : Nat × va_E), b[i]? = some q' → ∃ q, a[i]? = some q ∧ q.1 = q'.1 ∧ ∀ (D : va_G) (cl : List vw_C) (H : Heap), va_at D cl q H → va_at D cl q' H
  | [], [], _, _, _, h => by cases h
  | q :: _, q1 :: _, h, 0, q', e => by
    cases e
    exact ⟨q, rfl, h.1.1, h.1.2⟩
  | _ :: _, _ :: _, h, i + 1, q', e => wEq.at_ h.2 i q' e
theorem arrV_cg {cI : ClassId} {N : Nat} {f g : Nat → Value} (h : ∀ k, k < N → f k = g k) : arrV cI N f = arrV cI N g := by
  unfold arrV
  congr 2
  exact funext (fun j => h j.1 j.2)
theorem at_cg {cI : ClassId} {q N : Nat} {F G : Nat → Nat} (h : ∀ k, k < N → F k = G k) : ∀ (D : va_G) (cl : List vw_C) (H : Heap), va_at D cl (q, .inl (cI, N, .inl (fN F))) H → va_at D cl (q, .inl (cI, N, .inl (fN G))) H := by
  intro D cl H z
  show H[q]? = some (arrV cI N (fun j => .int (fN G j)))
  rw [← arrV_cg (f := fun j => .int (fN F j)) (fun k hk => by show Value.int (iI (F k : Int)) = Value.int (iI (G k : Int)); rw [h k hk])]
  exact z
section XW6
variable {φ : Fx} {l : Launch} {D : va_G} {cl : List vw_C} {tys : List (ClassId × FieldType)} {R : Room} {cc : ByteArray} {own : String} {Ts : List Cond} {nL k n : Nat} {w : va_W} {pc : Nat} {lv : List (Nat × Value)} {st rest : List Value}
theorem xw_weq {w' : va_W} (E : wEq w w') (kk : xw φ k n w' pc lv st) : xw φ k n w pc lv st := by
  obtain ⟨p, l, e, R, s, m, args, below, meth, c, Q, D, cl, tys, A, nL⟩ := φ
  intro H locs ls hP hD hS h
  refine kk H locs ls (fun i q' hq => ?_) ⟨fun i j a b hi hj hab => ?_, fun i q' hq => ?_⟩ hS h
  · obtain ⟨q, h1, -, h3⟩ := E.at_ i q' hq
    exact h3 D cl H (hP i q h1)
  · obtain ⟨a1, h1, h2, -⟩ := E.at_ i a hi
    obtain ⟨b1, h4, h5, -⟩ := E.at_ j b hj
    exact hD.1 i j a1 b1 h1 h4 (h2.trans (hab.trans h5.symm))
  · obtain ⟨q, h1, h2, -⟩ := E.at_ i q' hq
    rw [← h2]; exact hD.2 i q h1
/-- the last cell put to a place, in what stood there's stead -/
theorem xw_move {c : Nat × va_E} (i : Nat) (hi : i < w.length) (kk : xw φ k n (w.set i c) pc lv st) : xw φ k n (w ++ [c]) pc lv st := by
  obtain ⟨p, l, e, R, s, m, args, below, meth, c1, Q, D, cl, tys, A, nL⟩ := φ
  have g : ∀ (j : Nat) (q : Nat × va_E), (w.set i c)[j]? = some q → (w ++ [c])[if j = i then w.length else j]? = some q := fun j q hq => by
    by_cases e : j = i
    · rw [if_pos e]; subst e
      rw [List.getElem?_set_self hi] at hq
      rw [← hq]; exact gl_new
    · rw [if_neg e]
      rw [List.getElem?_set_ne (fun z => e z.symm)] at hq
      exact gl_old hq
  have gl : ∀ (j : Nat) (q : Nat × va_E), (w.set i c)[j]? = some q → j < w.length := fun j q hq => by
    have := (List.getElem?_eq_some_iff.mp hq).1
    rwa [List.length_set] at this
  intro H locs ls hP hD hS h
  refine kk H locs ls (fun j q hq => hP _ q (g j q hq)) ⟨fun j1 j2 a b h1 h2 hab => ?_, fun j q hq => hD.2 _ q (g j q hq)⟩ hS h
  have h3 := hD.1 _ _ a b (g j1 a h1) (g j2 b h2) hab
  have l1 := gl j1 a h1
  have l2 := gl j2 b h2
  by_cases e1 : j1 = i <;> by_cases e2 : j2 = i
  · omega
  · rw [if_pos e1, if_neg e2] at h3; omega
  · rw [if_neg e1, if_pos e2] at h3; omega
  · rw [if_neg e1, if_neg e2] at h3; exact h3
/-- the rows' numbers told by another function -/
theorem wS_eq {cI cQ : ClassId} {o rr n2 p2 w2 : Nat} {g B B' : Nat → Nat} (h : ∀ i, i < 4 → ∀ k, k < n2 → B (16 * i + k) = B' (16 * i + k)) : wEq (wS cI cQ o n2 p2 w2 rr g B) (wS cI cQ o n2 p2 w2 rr g B') :=
  ⟨⟨rfl, fun _ _ _ z => z⟩, ⟨rfl, fun _ _ _ z => z⟩, ⟨rfl, at_cg (h 0 (by omega))⟩, ⟨rfl, at_cg (h 1 (by omega))⟩, ⟨rfl, at_cg (h 2 (by omega))⟩, ⟨rfl, at_cg (h 3 (by omega))⟩, trivial⟩
theorem xw_sB {cI cQ : ClassId} {o rr n2 p2 w2 : Nat} {g B : Nat → Nat} {e x : va_W} (B' : Nat → Nat) (h : ∀ i, i < 4 → ∀ k, k < n2 → B (16 * i + k) = B' (16 * i + k)) (kk : xw φ k n (LW cI cQ o rr n2 p2 w2 g B' e x) pc lv st) : xw φ k n (LW cI cQ o rr n2 p2 w2 g B e x) pc lv st :=
  xw_weq (wEq.app (wEq.app (wS_eq h) (wEq.rf e)) (wEq.rf x)) kk
def wT (cI cQ : ClassId) (o n2 p2 w2 rr : Nat) (f : Nat → Option Nat) (q0 q1 q2 q3 : Nat) (F0 F1 F2 F3 : Nat → Nat) : va_W := [(o, .inr (1, [nV n2, nV p2, nV w2, .ref rr])), (rr, .inl (cQ, 4, .inr (.inr (.inr (.inr f))))), (q0, .inl (cI, n2, .inl (fN F0))), (q1, .inl (cI, n2, .inl (fN F1))), (q2, .inl (cI, n2, .inl (fN F2))), (q3, .inl (cI, n2, .inl (fN F3)))]
theorem wT_eq {cI cQ : ClassId} {o n2 p2 w2 rr : Nat} {f : Nat → Option Nat} {q0 q1 q2 q3 : Nat} {F0 F1 F2 F3 G0 G1 G2 G3 : Nat → Nat} (h0 : ∀ k, k < n2 → F0 k = G0 k) (h1 : ∀ k, k < n2 → F1 k = G1 k) (h2 : ∀ k, k < n2 → F2 k = G2 k) (h3 : ∀ k, k < n2 → F3 k = G3 k) : wEq (wT cI cQ o n2 p2 w2 rr f q0 q1 q2 q3 F0 F1 F2 F3) (wT cI cQ o n2 p2 w2 rr f q0 q1 q2 q3 G0 G1 G2 G3) :=
  ⟨⟨rfl, fun _ _ _ z => z⟩, ⟨rfl, fun _ _ _ z => z⟩, ⟨rfl, at_cg h0⟩, ⟨rfl, at_cg h1⟩, ⟨rfl, at_cg h2⟩, ⟨rfl, at_cg h3⟩, trivial⟩
set_option maxHeartbeats 4000000 in
/-- a row made anew is put in a row's stead -/
theorem xw_srow {cI cQ : ClassId} (C : xc φ l R D cl [(cI, .int), (cQ, .array .int)] nL cc own Ts) {sc : Nat} (Y : xyc sc φ) {o rr n2 p2 w2 : Nat} {g B F : Nat → Nat} {e x : va_W} (a q : Nat) (ha : a < 4) (hn : n2 ≤ 16) (d : decode cc pc = .ok (.aastore, 1)) (kk : xw φ k n (LW cI cQ o rr n2 p2 w2 (va_up g a q) (mr B a F n2) e x) (pc + 1) lv st) : xw φ k n (LW cI cQ o rr n2 p2 w2 g B e x ++ [(q, .inl (cI, n2, .inl (fN F)))]) pc lv (.ref q :: nV a :: .ref rr :: st) := by
  have hF : va_up (fun i => if i < 4 then some (g i) else none) a (some q) = fun i => if i < 4 then some (va_up g a q i) else none := by
    funext i; unfold va_up
    by_cases h : i = a
    · subst h; rw [if_pos rfl, if_pos ha, if_pos rfl]
    · rw [if_neg h, if_neg h]
  have hr : ∀ i, i < 4 → i ≠ a → ∀ k, k < n2 → B (16 * i + k) = mr B a F n2 (16 * i + k) := fun i hi hia k hk => by
    unfold mr; rw [if_neg (by omega)]
  refine xw_aast (w' := ((wT cI cQ o n2 p2 w2 rr (fun i => if i < 4 then some (va_up g a q i) else none) (g 0) (g 1) (g 2) (g 3) (fun k => B (16 * 0 + k)) (fun k => B (16 * 1 + k)) (fun k => B (16 * 2 + k)) (fun k => B (16 * 3 + k)) ++ e) ++ x) ++ [(q, .inl (cI, n2, .inl (fN F)))]) C Y 1 1 0 (LW cI cQ o rr n2 p2 w2 g B e x).length a (gl_old LW_q) rfl rfl gl_new ha (by decide) (by rw [hF]; rfl) d ?_
  refine xw_move (2 + a) (by rw [List.length_append, List.length_append]; show 2 + a < 6 + _ + _; omega) ?_
  rcases (show a = 0 ∨ a = 1 ∨ a = 2 ∨ a = 3 by omega) with rfl | rfl | rfl | rfl
  · refine xw_wo (w' := (wT cI cQ o n2 p2 w2 rr (fun i => if i < 4 then some (va_up g 0 q i) else none) (q) (g 1) (g 2) (g 3) (F) (fun k => B (16 * 1 + k)) (fun k => B (16 * 2 + k)) (fun k => B (16 * 3 + k)) ++ e) ++ x) rfl ?_
    exact xw_weq (wEq.app (wEq.app (wT_eq (fun k hk => (mr_in hk).symm) (hr 1 (by omega) (by omega)) (hr 2 (by omega) (by omega)) (hr 3 (by omega) (by omega))) (wEq.rf e)) (wEq.rf x)) kk
  · refine xw_wo (w' := (wT cI cQ o n2 p2 w2 rr (fun i => if i < 4 then some (va_up g 1 q i) else none) (g 0) (q) (g 2) (g 3) (fun k => B (16 * 0 + k)) (F) (fun k => B (16 * 2 + k)) (fun k => B (16 * 3 + k)) ++ e) ++ x) rfl ?_
    exact xw_weq (wEq.app (wEq.app (wT_eq (hr 0 (by omega) (by omega)) (fun k hk => (mr_in hk).symm) (hr 2 (by omega) (by omega)) (hr 3 (by omega) (by omega))) (wEq.rf e)) (wEq.rf x)) kk
  · refine xw_wo (w' := (wT cI cQ o n2 p2 w2 rr (fun i => if i < 4 then some (va_up g 2 q i) else none) (g 0) (g 1) (q) (g 3) (fun k => B (16 * 0 + k)) (fun k => B (16 * 1 + k)) (F) (fun k => B (16 * 3 + k)) ++ e) ++ x) rfl ?_
    exact xw_weq (wEq.app (wEq.app (wT_eq (hr 0 (by omega) (by omega)) (hr 1 (by omega) (by omega)) (fun k hk => (mr_in hk).symm) (hr 3 (by omega) (by omega))) (wEq.rf e)) (wEq.rf x)) kk
  · refine xw_wo (w' := (wT cI cQ o n2 p2 w2 rr (fun i => if i < 4 then some (va_up g 3 q i) else none) (g 0) (g 1) (g 2) (q) (fun k => B (16 * 0 + k)) (fun k => B (16 * 1 + k)) (fun k => B (16 * 2 + k)) (F) ++ e) ++ x) rfl ?_
    exact xw_weq (wEq.app (wEq.app (wT_eq (hr 0 (by omega) (by omega)) (hr 1 (by omega) (by omega)) (hr 2 (by omega) (by omega)) (fun k hk => (mr_in hk).symm)) (wEq.rf e)) (wEq.rf x)) kk
set_option maxHeartbeats 4000000 in
/-- a number put into a row -/
theorem xw_rset {cI cQ : ClassId} (C : xc φ l R D cl [(cI, .int), (cQ, .array .int)] nL cc own Ts) {o rr n2 p2 w2 : Nat} {g B : Nat → Nat} {e x : va_W} (a j v : Nat) (ha : a < 4) (hj : j < n2) (hn : n2 ≤ 16) (d : decode cc pc = .ok (.iastore, 1)) (kk : xw φ k n (LW cI cQ o rr n2 p2 w2 g (va_up B (16 * a + j) v) e x) (pc + 1) lv st) : xw φ k n (LW cI cQ o rr n2 p2 w2 g B e x) pc lv (nV v :: nV j :: .ref (g a) :: st) := by
  have hr : ∀ i, i < 4 → i ≠ a → ∀ k, k < n2 → B (16 * i + k) = va_up B (16 * a + j) v (16 * i + k) := fun i hi hia k hk => by
    unfold va_up; rw [if_neg (by omega)]
  have hs : ∀ k, va_up (fun k => B (16 * a + k)) j v k = va_up B (16 * a + j) v (16 * a + k) := fun k => by
    unfold va_up
    by_cases h : k = j
    · rw [if_pos h, if_pos (by omega)]
    · rw [if_neg h, if_neg (by omega)]
  refine xw_iast C (2 + a) 0 j v (LW_r ha) rfl rfl rfl hj (by omega) rfl d ?_
  rcases (show a = 0 ∨ a = 1 ∨ a = 2 ∨ a = 3 by omega) with rfl | rfl | rfl | rfl
  · refine xw_wo (w' := (wT cI cQ o n2 p2 w2 rr (fun i => if i < 4 then some (g i) else none) (g 0) (g 1) (g 2) (g 3) (va_up (fun k => B (16 * 0 + k)) j v) (fun k => B (16 * 1 + k)) (fun k => B (16 * 2 + k)) (fun k => B (16 * 3 + k)) ++ e) ++ x) rfl ?_
    exact xw_weq (wEq.app (wEq.app (wT_eq (fun k hk => hs k) (hr 1 (by omega) (by omega)) (hr 2 (by omega) (by omega)) (hr 3 (by omega) (by omega))) (wEq.rf e)) (wEq.rf x)) kk
  · refine xw_wo (w' := (wT cI cQ o n2 p2 w2 rr (fun i => if i < 4 then some (g i) else none) (g 0) (g 1) (g 2) (g 3) (fun k => B (16 * 0 + k)) (va_up (fun k => B (16 * 1 + k)) j v) (fun k => B (16 * 2 + k)) (fun k => B (16 * 3 + k)) ++ e) ++ x) rfl ?_
    exact xw_weq (wEq.app (wEq.app (wT_eq (hr 0 (by omega) (by omega)) (fun k hk => hs k) (hr 2 (by omega) (by omega)) (hr 3 (by omega) (by omega))) (wEq.rf e)) (wEq.rf x)) kk
  · refine xw_wo (w' := (wT cI cQ o n2 p2 w2 rr (fun i => if i < 4 then some (g i) else none) (g 0) (g 1) (g 2) (g 3) (fun k => B (16 * 0 + k)) (fun k => B (16 * 1 + k)) (va_up (fun k => B (16 * 2 + k)) j v) (fun k => B (16 * 3 + k)) ++ e) ++ x) rfl ?_
    exact xw_weq (wEq.app (wEq.app (wT_eq (hr 0 (by omega) (by omega)) (hr 1 (by omega) (by omega)) (fun k hk => hs k) (hr 3 (by omega) (by omega))) (wEq.rf e)) (wEq.rf x)) kk
  · refine xw_wo (w' := (wT cI cQ o n2 p2 w2 rr (fun i => if i < 4 then some (g i) else none) (g 0) (g 1) (g 2) (g 3) (fun k => B (16 * 0 + k)) (fun k => B (16 * 1 + k)) (fun k => B (16 * 2 + k)) (va_up (fun k => B (16 * 3 + k)) j v) ++ e) ++ x) rfl ?_
    exact xw_weq (wEq.app (wEq.app (wT_eq (hr 0 (by omega) (by omega)) (hr 1 (by omega) (by omega)) (hr 2 (by omega) (by omega)) (fun k hk => hs k)) (wEq.rf e)) (wEq.rf x)) kk
theorem xw_ne_same (C : xc φ l R D cl tys nL cc own Ts) {a b : Int32} {off : Int} {tgt : Nat} (hab : a = b) (d : decode cc pc = .ok (.if_icmp .ne off, 3)) (ht : (pc : Int) + off = (tgt : Int)) (kk : xw φ k n w (pc + 3) lv st) : xw φ k n w pc lv (.int b :: .int a :: st) := by
  obtain ⟨p, l, e, R, s, m, args, below, meth, c, Q, D, cl, tys, A, nL⟩ := φ
  obtain ⟨rfl, rfl, rfl, rfl, rfl, rfl, hx, hb, hml, hown, hts, hK, hA⟩ := C
  intro H locs ls hP hD hS h
  exact lv_icmp_ne hx hb d ht (fun z => absurd hab z) (fun _ => kk H locs ls hP hD hS h)
theorem xw_eq_same (C : xc φ l R D cl tys nL cc own Ts) {a b : Int32} {off : Int} {tgt : Nat} (hab : a = b) (d : decode cc pc = .ok (.if_icmp .eq off, 3)) (ht : (pc : Int) + off = (tgt : Int)) (kk : xw φ k n w tgt lv st) : xw φ k n w pc lv (.int b :: .int a :: st) := by
  obtain ⟨p, l, e, R, s, m, args, below, meth, c, Q, D, cl, tys, A, nL⟩ := φ
  obtain ⟨rfl, rfl, rfl, rfl, rfl, rfl, hx, hb, hml, hown, hts, hK, hA⟩ := C
  intro H locs ls hP hD hS h
  exact lv_icmp_eq hx hb d ht (fun _ => kk H locs ls hP hD hS h) (fun z => absurd hab z)
end XW6
