set_option maxHeartbeats 4000000 in
set_option maxRecDepth 100000 in
theorem c_ring {φ : Fx} {l : Launch} {D : va_G} {cI cJ cD : ClassId} {b L hx hm r d o od i k nn : Nat} {xs : Nat → Int32} (C : xc φ l room_1 D vwCl [(cI, .int), (cJ, .long), (cD, .double)] 9 cL_law RL wsL_law) (Zc : xzc φ) (X : xsx φ b L xs) (hL : L ≤ 2048) (hi : i + 3 < L) (hk : k + 1 ≤ 1042) (hnn : nn + 6 ≤ 8434) (hl : l.stackTraces = false) {a n p th : Nat} {A B M : Nat → Nat} {f : Nat → Int64} {g : Nat → UInt64} (I : LI n p A B M) (kk : ∀ (n p th : Nat) (A B M : Nat → Nat) (f : Nat → Int64) (g : Nat → UInt64), LI n p A B M → xw φ (k + 1) (nn + 6) (wL cI cJ cD hx a hm r d o od n p th A B M f g) 1670 [(0, .ref b), (1, .ref hx), (2, .ref hm), (3, .ref o), (4, .ref od), (5, nV i)] []) : xw φ k nn (wL cI cJ cD hx a hm r d o od n p th A B M f g) 152 [(0, .ref b), (1, .ref hx), (2, .ref hm), (3, .ref o), (4, .ref od), (5, nV i)] [] := by
  obtain ⟨hro, hA, hAB, hB, hAp, hM⟩ := id I
  have hn3 := hro.1
  have hp := hro.2.1
  have hp5 := hro.2.2.1
  have hn16 := lt3 hn3
  have hw := rok_w hro
  have hb5 := bt_lt hn3
  have hw5 : rt n p < 500 := by omega
  have hp0 : 0 < p := by omega
  have hp1 : 1 < p := by omega
  have hn0 : 0 < n := by omega
  have hBp : ∀ j, j < 64 → B j < p := fun j hj => by rw [← hAB j hj]; exact hAp j hj
  by_cases c1 : ((xs (i + 1)).toInt = 4 ∨ (xs (i + 1)).toInt = 8 ∨ (xs (i + 1)).toInt = 16) ∧ (5 ≤ (xs (i + 2)).toInt ∧ (xs (i + 2)).toInt ≤ 499) ∧ prm (xs (i + 2)).toInt.toNat = true ∧ ((xs (i + 2)).toInt - 1) % (xs (i + 1)).toInt = 0
  · obtain ⟨q2, h2⟩ := Int.eq_ofNat_of_zero_le (show 0 ≤ (xs (i + 2)).toInt by omega)
    have hq : 5 ≤ q2 ∧ q2 < 500 := by omega
    have hpr : prm q2 = true := by have := c1.2.2.1; rw [h2] at this; exact this
    have hdv := c1.2.2.2
    rcases c1.1 with e | e | e
    · have h1 : (xs (i + 1)).toInt = ((4 : Nat) : Int) := e
      have hd : (q2 - 1) % 4 = 0 := by rw [e, h2] at hdv; omega
      have hr1 : rok 4 q2 := ⟨Or.inl rfl, hq.1, hq.2, hpr, hd⟩
      exact g_ring C Zc X hL hi hk hnn h1 h2 ⟨by decide, by decide⟩ (m_L_ring_ok (cD := cD) (g := g) _ _ _ (m_X0_ring 4 q2 (Or.inl rfl) (by omega) hq.2 hpr hd)) (m_X1_ring_4 q2 hr1) (by decide) (fun _ => eqN _ rfl) (kk 4 q2 _ _ _ _ _ _ (LI_ring I hr1))
    · have h1 : (xs (i + 1)).toInt = ((8 : Nat) : Int) := e
      have hd : (q2 - 1) % 8 = 0 := by rw [e, h2] at hdv; omega
      have hr1 : rok 8 q2 := ⟨Or.inr (Or.inl rfl), hq.1, hq.2, hpr, hd⟩
      exact g_ring C Zc X hL hi hk hnn h1 h2 ⟨by decide, by decide⟩ (m_L_ring_ok (cD := cD) (g := g) _ _ _ (m_X0_ring 8 q2 (Or.inr (Or.inl rfl)) (by omega) hq.2 hpr hd)) (m_X1_ring_8 q2 hr1) (by decide) (fun _ => eqN _ rfl) (kk 8 q2 _ _ _ _ _ _ (LI_ring I hr1))
    · have h1 : (xs (i + 1)).toInt = ((16 : Nat) : Int) := e
      have hd : (q2 - 1) % 16 = 0 := by rw [e, h2] at hdv; omega
      have hr1 : rok 16 q2 := ⟨Or.inr (Or.inr rfl), hq.1, hq.2, hpr, hd⟩
      exact g_ring C Zc X hL hi hk hnn h1 h2 ⟨by decide, by decide⟩ (m_L_ring_ok (cD := cD) (g := g) _ _ _ (m_X0_ring 16 q2 (Or.inr (Or.inr rfl)) (by omega) hq.2 hpr hd)) (m_X1_ring_16 q2 hr1) (by decide) (fun _ => eqN _ rfl) (kk 16 q2 _ _ _ _ _ _ (LI_ring I hr1))
  · exact g_ring C Zc X hL hi hk hnn rfl rfl ⟨by decide, by decide⟩ (m_L_ring_nIAE (cD := cD) (g := g) _ _ (m_X0_ring_nIAE hl _ _ (iI_rg _) (iI_rg _) c1)) (m_X1_ring_no1 _ _ (iI_rg _) (iI_rg _) c1) (by decide) (fun h => absurd h (by decide)) (kk _ _ _ _ _ _ _ _ I)

set_option maxHeartbeats 4000000 in
set_option maxRecDepth 100000 in
theorem c_order {φ : Fx} {l : Launch} {D : va_G} {cI cJ cD : ClassId} {b L hx hm r d o od i k nn : Nat} {xs : Nat → Int32} (C : xc φ l room_1 D vwCl [(cI, .int), (cJ, .long), (cD, .double)] 9 cL_law RL wsL_law) (Zc : xzc φ) (X : xsx φ b L xs) (hL : L ≤ 2048) (hi : i + 3 < L) (hk : k + 1 ≤ 1042) (hnn : nn + 6 ≤ 8434) (hl : l.stackTraces = false) {a n p th : Nat} {A B M : Nat → Nat} {f : Nat → Int64} {g : Nat → UInt64} (I : LI n p A B M) (kk : ∀ (n p th : Nat) (A B M : Nat → Nat) (f : Nat → Int64) (g : Nat → UInt64), LI n p A B M → xw φ (k + 1) (nn + 6) (wL cI cJ cD hx a hm r d o od n p th A B M f g) 1670 [(0, .ref b), (1, .ref hx), (2, .ref hm), (3, .ref o), (4, .ref od), (5, nV i)] []) : xw φ k nn (wL cI cJ cD hx a hm r d o od n p th A B M f g) 220 [(0, .ref b), (1, .ref hx), (2, .ref hm), (3, .ref o), (4, .ref od), (5, nV i)] [] := by
  obtain ⟨hro, hA, hAB, hB, hAp, hM⟩ := id I
  have hn3 := hro.1
  have hp := hro.2.1
  have hp5 := hro.2.2.1
  have hn16 := lt3 hn3
  have hw := rok_w hro
  have hb5 := bt_lt hn3
  have hw5 : rt n p < 500 := by omega
  have hp0 : 0 < p := by omega
  have hp1 : 1 < p := by omega
  have hn0 : 0 < n := by omega
  have hBp : ∀ j, j < 64 → B j < p := fun j hj => by rw [← hAB j hj]; exact hAp j hj
  by_cases c1 : (1 ≤ (xs (i + 1)).toInt ∧ (xs (i + 1)).toInt < (p : Int))
  · obtain ⟨q1, h1⟩ := Int.eq_ofNat_of_zero_le (show 0 ≤ (xs (i + 1)).toInt by omega)
    have b1 : 1 ≤ q1 ∧ q1 < p := by omega
    exact g_order C Zc X hL hi hk hnn h1 ⟨by decide, by decide⟩ (m_L_order_ok (cD := cD) (g := g) _ _ (m_X0_order hp1 hp5 q1 b1.1 b1.2)) (m_X1_order hro q1 b1.1 b1.2) (by decide) (fun _ => eqN _ rfl) (kk _ _ _ _ _ _ _ _ (I))
  · exact g_order C Zc X hL hi hk hnn rfl ⟨by decide, by decide⟩ (m_L_order_nIAE (cD := cD) (g := g) _ (m_X0_order_nIAE hl hn3 hp5 hb5 _ (iI_rg _) c1)) (m_X1_order_no1 hn3 hp5 hb5 _ (iI_rg _) c1) (by decide) (fun h => absurd h (by decide)) (kk _ _ _ _ _ _ _ _ I)

set_option maxHeartbeats 4000000 in
set_option maxRecDepth 100000 in
theorem c_inverse {φ : Fx} {l : Launch} {D : va_G} {cI cJ cD : ClassId} {b L hx hm r d o od i k nn : Nat} {xs : Nat → Int32} (C : xc φ l room_1 D vwCl [(cI, .int), (cJ, .long), (cD, .double)] 9 cL_law RL wsL_law) (Zc : xzc φ) (X : xsx φ b L xs) (hL : L ≤ 2048) (hi : i + 3 < L) (hk : k + 1 ≤ 1042) (hnn : nn + 6 ≤ 8434) (hl : l.stackTraces = false) {a n p th : Nat} {A B M : Nat → Nat} {f : Nat → Int64} {g : Nat → UInt64} (I : LI n p A B M) (kk : ∀ (n p th : Nat) (A B M : Nat → Nat) (f : Nat → Int64) (g : Nat → UInt64), LI n p A B M → xw φ (k + 1) (nn + 6) (wL cI cJ cD hx a hm r d o od n p th A B M f g) 1670 [(0, .ref b), (1, .ref hx), (2, .ref hm), (3, .ref o), (4, .ref od), (5, nV i)] []) : xw φ k nn (wL cI cJ cD hx a hm r d o od n p th A B M f g) 276 [(0, .ref b), (1, .ref hx), (2, .ref hm), (3, .ref o), (4, .ref od), (5, nV i)] [] := by
  obtain ⟨hro, hA, hAB, hB, hAp, hM⟩ := id I
  have hn3 := hro.1
  have hp := hro.2.1
  have hp5 := hro.2.2.1
  have hn16 := lt3 hn3
  have hw := rok_w hro
  have hb5 := bt_lt hn3
  have hw5 : rt n p < 500 := by omega
  have hp0 : 0 < p := by omega
  have hp1 : 1 < p := by omega
  have hn0 : 0 < n := by omega
  have hBp : ∀ j, j < 64 → B j < p := fun j hj => by rw [← hAB j hj]; exact hAp j hj
  by_cases c1 : (1 ≤ (xs (i + 1)).toInt ∧ (xs (i + 1)).toInt < (p : Int))
  · obtain ⟨q1, h1⟩ := Int.eq_ofNat_of_zero_le (show 0 ≤ (xs (i + 1)).toInt by omega)
    have b1 : 1 ≤ q1 ∧ q1 < p := by omega
    exact g_inverse C Zc X hL hi hk hnn h1 ⟨by decide, by decide⟩ (m_L_inverse_ok (cD := cD) (g := g) _ _ (m_X0_inverse hp1 hp5 q1 b1.1 b1.2)) (m_X1_inverse hro q1 b1.1 b1.2) (by decide) (fun _ => eqN _ rfl) (kk _ _ _ _ _ _ _ _ (I))
  · exact g_inverse C Zc X hL hi hk hnn rfl ⟨by decide, by decide⟩ (m_L_inverse_nIAE (cD := cD) (g := g) _ (m_X0_inverse_nIAE hl hn3 hp5 hb5 _ (iI_rg _) c1)) (m_X1_inverse_no1 hn3 hp5 hb5 _ (iI_rg _) c1) (by decide) (fun h => absurd h (by decide)) (kk _ _ _ _ _ _ _ _ I)

set_option maxHeartbeats 4000000 in
set_option maxRecDepth 100000 in
theorem c_root {φ : Fx} {l : Launch} {D : va_G} {cI cJ cD : ClassId} {b L hx hm r d o od i k nn : Nat} {xs : Nat → Int32} (C : xc φ l room_1 D vwCl [(cI, .int), (cJ, .long), (cD, .double)] 9 cL_law RL wsL_law) (Zc : xzc φ) (X : xsx φ b L xs) (hL : L ≤ 2048) (hi : i + 3 < L) (hk : k + 1 ≤ 1042) (hnn : nn + 6 ≤ 8434) (hl : l.stackTraces = false) {a n p th : Nat} {A B M : Nat → Nat} {f : Nat → Int64} {g : Nat → UInt64} (I : LI n p A B M) (kk : ∀ (n p th : Nat) (A B M : Nat → Nat) (f : Nat → Int64) (g : Nat → UInt64), LI n p A B M → xw φ (k + 1) (nn + 6) (wL cI cJ cD hx a hm r d o od n p th A B M f g) 1670 [(0, .ref b), (1, .ref hx), (2, .ref hm), (3, .ref o), (4, .ref od), (5, nV i)] []) : xw φ k nn (wL cI cJ cD hx a hm r d o od n p th A B M f g) 332 [(0, .ref b), (1, .ref hx), (2, .ref hm), (3, .ref o), (4, .ref od), (5, nV i)] [] := by
  obtain ⟨hro, hA, hAB, hB, hAp, hM⟩ := id I
  have hn3 := hro.1
  have hp := hro.2.1
  have hp5 := hro.2.2.1
  have hn16 := lt3 hn3
  have hw := rok_w hro
  have hb5 := bt_lt hn3
  have hw5 : rt n p < 500 := by omega
  have hp0 : 0 < p := by omega
  have hp1 : 1 < p := by omega
  have hn0 : 0 < n := by omega
  have hBp : ∀ j, j < 64 → B j < p := fun j hj => by rw [← hAB j hj]; exact hAp j hj
  by_cases c1 : (0 ≤ (xs (i + 1)).toInt ∧ (xs (i + 1)).toInt ≤ 9999)
  · obtain ⟨q1, h1⟩ := Int.eq_ofNat_of_zero_le (show 0 ≤ (xs (i + 1)).toInt by omega)
    have b1 : q1 ≤ 9999 := by omega
    exact g_root C Zc X hL hi hk hnn h1 ⟨by decide, by decide⟩ (m_L_root_ok (cD := cD) (g := g) _ _ (m_X0_root hp1 hp5 hw5 q1 b1)) (m_X1_root hp1 hp5 hw5 q1 b1) (by decide) (fun _ => eqN _ rfl) (kk _ _ _ _ _ _ _ _ (I))
  · exact g_root C Zc X hL hi hk hnn rfl ⟨by decide, by decide⟩ (m_L_root_nIAE (cD := cD) (g := g) _ (m_X0_root_nIAE hl hn3 hp5 hb5 _ (iI_rg _) c1)) (m_X1_root_no1 hn3 hp5 hb5 _ (iI_rg _) c1) (by decide) (fun h => absurd h (by decide)) (kk _ _ _ _ _ _ _ _ I)

set_option maxHeartbeats 4000000 in
set_option maxRecDepth 100000 in
theorem c_set {φ : Fx} {l : Launch} {D : va_G} {cI cJ cD : ClassId} {b L hx hm r d o od i k nn : Nat} {xs : Nat → Int32} (C : xc φ l room_1 D vwCl [(cI, .int), (cJ, .long), (cD, .double)] 9 cL_law RL wsL_law) (Zc : xzc φ) (X : xsx φ b L xs) (hL : L ≤ 2048) (hi : i + 3 < L) (hk : k + 1 ≤ 1042) (hnn : nn + 6 ≤ 8434) (hl : l.stackTraces = false) {a n p th : Nat} {A B M : Nat → Nat} {f : Nat → Int64} {g : Nat → UInt64} (I : LI n p A B M) (kk : ∀ (n p th : Nat) (A B M : Nat → Nat) (f : Nat → Int64) (g : Nat → UInt64), LI n p A B M → xw φ (k + 1) (nn + 6) (wL cI cJ cD hx a hm r d o od n p th A B M f g) 1670 [(0, .ref b), (1, .ref hx), (2, .ref hm), (3, .ref o), (4, .ref od), (5, nV i)] []) : xw φ k nn (wL cI cJ cD hx a hm r d o od n p th A B M f g) 388 [(0, .ref b), (1, .ref hx), (2, .ref hm), (3, .ref o), (4, .ref od), (5, nV i)] [] := by
  obtain ⟨hro, hA, hAB, hB, hAp, hM⟩ := id I
  have hn3 := hro.1
  have hp := hro.2.1
  have hp5 := hro.2.2.1
  have hn16 := lt3 hn3
  have hw := rok_w hro
  have hb5 := bt_lt hn3
  have hw5 : rt n p < 500 := by omega
  have hp0 : 0 < p := by omega
  have hp1 : 1 < p := by omega
  have hn0 : 0 < n := by omega
  have hBp : ∀ j, j < 64 → B j < p := fun j hj => by rw [← hAB j hj]; exact hAp j hj
  by_cases c1 : (0 ≤ (xs (i + 1)).toInt ∧ (xs (i + 1)).toInt < 4) ∧ (0 ≤ (xs (i + 2)).toInt ∧ (xs (i + 2)).toInt < (n : Int))
  · by_cases c2 : (0 ≤ (xs (i + 3)).toInt ∧ (xs (i + 3)).toInt < (p : Int))
    · obtain ⟨q1, h1⟩ := Int.eq_ofNat_of_zero_le (show 0 ≤ (xs (i + 1)).toInt by omega)
      have b1 : q1 < 4 := by omega
      obtain ⟨q2, h2⟩ := Int.eq_ofNat_of_zero_le (show 0 ≤ (xs (i + 2)).toInt by omega)
      have b2 : q2 < n := by omega
      obtain ⟨q3, h3⟩ := Int.eq_ofNat_of_zero_le (show 0 ≤ (xs (i + 3)).toInt by omega)
      have b3 : q3 < p := by omega
      have R1 : ∀ k, k < n → A (16 * q1 + k) = B (16 * q1 + k) := fun k hk => hAB _ (by omega)
      exact g_set C Zc X hL hi hk hnn h1 h2 h3 ⟨by decide, by decide⟩ (m_L_set_ok (cD := cD) (g := g) _ _ _ _ (m_X0_set hp5 hn3 q1 q2 q3 b1 b2 b3)) (m_X1_set hn3 hp5 q1 q2 q3 b1 b2 b3) (by decide) (fun _ => eqN _ (hAB _ (by omega))) (kk _ _ _ _ _ _ _ _ (LI_up I b3))
    · exact g_set C Zc X hL hi hk hnn rfl rfl rfl ⟨by decide, by decide⟩ (m_L_set_nIAE (cD := cD) (g := g) _ _ _ (m_X0_set_nIAE hl hn3 hp5 hb5 _ (iI_rg _) _ (iI_rg _) _ (iI_rg _) c1.1 c1.2 c2)) (m_X1_set_no2 hn3 hp5 hb5 _ (iI_rg _) _ (iI_rg _) _ (iI_rg _) c1.1 c1.2 c2) (by decide) (fun h => absurd h (by decide)) (kk _ _ _ _ _ _ _ _ I)
  · exact g_set C Zc X hL hi hk hnn rfl rfl rfl ⟨by decide, by decide⟩ (m_L_set_nIOB (cD := cD) (g := g) _ _ _ (m_X0_set_nIOB hl hn3 hp5 hb5 _ (iI_rg _) _ (iI_rg _) _ (iI_rg _) c1)) (m_X1_set_no1 hn3 hp5 hb5 _ (iI_rg _) _ (iI_rg _) _ (iI_rg _) c1) (by decide) (fun h => absurd h (by decide)) (kk _ _ _ _ _ _ _ _ I)

set_option maxHeartbeats 4000000 in
set_option maxRecDepth 100000 in
theorem c_copy {φ : Fx} {l : Launch} {D : va_G} {cI cJ cD : ClassId} {b L hx hm r d o od i k nn : Nat} {xs : Nat → Int32} (C : xc φ l room_1 D vwCl [(cI, .int), (cJ, .long), (cD, .double)] 9 cL_law RL wsL_law) (Zc : xzc φ) (X : xsx φ b L xs) (hL : L ≤ 2048) (hi : i + 3 < L) (hk : k + 1 ≤ 1042) (hnn : nn + 6 ≤ 8434) (hl : l.stackTraces = false) {a n p th : Nat} {A B M : Nat → Nat} {f : Nat → Int64} {g : Nat → UInt64} (I : LI n p A B M) (kk : ∀ (n p th : Nat) (A B M : Nat → Nat) (f : Nat → Int64) (g : Nat → UInt64), LI n p A B M → xw φ (k + 1) (nn + 6) (wL cI cJ cD hx a hm r d o od n p th A B M f g) 1670 [(0, .ref b), (1, .ref hx), (2, .ref hm), (3, .ref o), (4, .ref od), (5, nV i)] []) : xw φ k nn (wL cI cJ cD hx a hm r d o od n p th A B M f g) 468 [(0, .ref b), (1, .ref hx), (2, .ref hm), (3, .ref o), (4, .ref od), (5, nV i)] [] := by
  obtain ⟨hro, hA, hAB, hB, hAp, hM⟩ := id I
  have hn3 := hro.1
  have hp := hro.2.1
  have hp5 := hro.2.2.1
  have hn16 := lt3 hn3
  have hw := rok_w hro
  have hb5 := bt_lt hn3
  have hw5 : rt n p < 500 := by omega
  have hp0 : 0 < p := by omega
  have hp1 : 1 < p := by omega
  have hn0 : 0 < n := by omega
  have hBp : ∀ j, j < 64 → B j < p := fun j hj => by rw [← hAB j hj]; exact hAp j hj
  by_cases c1 : (0 ≤ (xs (i + 1)).toInt ∧ (xs (i + 1)).toInt < 4) ∧ (0 ≤ (xs (i + 2)).toInt ∧ (xs (i + 2)).toInt < 4)
  · obtain ⟨q1, h1⟩ := Int.eq_ofNat_of_zero_le (show 0 ≤ (xs (i + 1)).toInt by omega)
    have b1 : q1 < 4 := by omega
    obtain ⟨q2, h2⟩ := Int.eq_ofNat_of_zero_le (show 0 ≤ (xs (i + 2)).toInt by omega)
    have b2 : q2 < 4 := by omega
    have R1 : ∀ k, k < n → A (16 * q1 + k) = B (16 * q1 + k) := fun k hk => hAB _ (by omega)
    have R2 : ∀ k, k < n → A (16 * q2 + k) = B (16 * q2 + k) := fun k hk => hAB _ (by omega)
    exact g_copy C Zc X hL hi hk hnn h1 h2 ⟨by decide, by decide⟩ (m_L_copy_ok (cD := cD) (g := g) _ _ _ (m_X0_copy hn3 hA q1 q2 b1 b2)) (m_X1_copy hn3 hB hM q1 q2 b1 b2) (by decide) (fun _ => eqN _ (cc_cg n (fun j hj => by rw [R2 j hj, R1 j hj]))) (kk _ _ _ _ _ _ _ _ (LI_mr I b2 (gA := fun i => A (16 * q1 + i)) R1 (fun j hj => hAp _ (by omega)) (mk_lt hM (fun j hj => hB _))))
  · exact g_copy C Zc X hL hi hk hnn rfl rfl ⟨by decide, by decide⟩ (m_L_copy_nIOB (cD := cD) (g := g) _ _ (m_X0_copy_nIOB hl hn3 hp5 hb5 _ (iI_rg _) _ (iI_rg _) c1)) (m_X1_copy_no1 hn3 hp5 hb5 _ (iI_rg _) _ (iI_rg _) c1) (by decide) (fun h => absurd h (by decide)) (kk _ _ _ _ _ _ _ _ I)

set_option maxHeartbeats 4000000 in
set_option maxRecDepth 100000 in
theorem c_turn {φ : Fx} {l : Launch} {D : va_G} {cI cJ cD : ClassId} {b L hx hm r d o od i k nn : Nat} {xs : Nat → Int32} (C : xc φ l room_1 D vwCl [(cI, .int), (cJ, .long), (cD, .double)] 9 cL_law RL wsL_law) (Zc : xzc φ) (X : xsx φ b L xs) (hL : L ≤ 2048) (hi : i + 3 < L) (hk : k + 1 ≤ 1042) (hnn : nn + 6 ≤ 8434) (hl : l.stackTraces = false) {a n p th : Nat} {A B M : Nat → Nat} {f : Nat → Int64} {g : Nat → UInt64} (I : LI n p A B M) (kk : ∀ (n p th : Nat) (A B M : Nat → Nat) (f : Nat → Int64) (g : Nat → UInt64), LI n p A B M → xw φ (k + 1) (nn + 6) (wL cI cJ cD hx a hm r d o od n p th A B M f g) 1670 [(0, .ref b), (1, .ref hx), (2, .ref hm), (3, .ref o), (4, .ref od), (5, nV i)] []) : xw φ k nn (wL cI cJ cD hx a hm r d o od n p th A B M f g) 536 [(0, .ref b), (1, .ref hx), (2, .ref hm), (3, .ref o), (4, .ref od), (5, nV i)] [] := by
  obtain ⟨hro, hA, hAB, hB, hAp, hM⟩ := id I
  have hn3 := hro.1
  have hp := hro.2.1
  have hp5 := hro.2.2.1
  have hn16 := lt3 hn3
  have hw := rok_w hro
  have hb5 := bt_lt hn3
  have hw5 : rt n p < 500 := by omega
  have hp0 : 0 < p := by omega
  have hp1 : 1 < p := by omega
  have hn0 : 0 < n := by omega
  have hBp : ∀ j, j < 64 → B j < p := fun j hj => by rw [← hAB j hj]; exact hAp j hj
  by_cases c1 : (0 ≤ (xs (i + 1)).toInt ∧ (xs (i + 1)).toInt < 4)
  · obtain ⟨q1, h1⟩ := Int.eq_ofNat_of_zero_le (show 0 ≤ (xs (i + 1)).toInt by omega)
    have b1 : q1 < 4 := by omega
    have R1 : ∀ k, k < n → A (16 * q1 + k) = B (16 * q1 + k) := fun k hk => hAB _ (by omega)
    by_cases t : (xs (i + 2)).toInt = 0
    · exact g_turn C Zc X hL hi hk hnn h1 (decide_eq_false (fun q => q t)) ⟨by decide, by decide⟩ (m_L_turn_ok (cD := cD) (g := g) _ _ _ (m_X0_turn_false hp0 hp5 hn3 hA hw5 (ml hp0 hp5) (ml hp0 hp5) q1 b1)) (m_X1_turn_false hro hB hM hw.1 hw.2 q1 b1) (by decide) (fun _ => eqN _ (congrFun (tn_cg R1) 0)) (kk _ _ _ _ _ _ _ _ (LI_ly I b1 (fun k hk => congrFun (tn_cg R1) k) (fun k hk => Nat.mod_lt _ hp0) (mk_lt hM (fun j hj => ml hp0 hp5))))
    · exact g_turn C Zc X hL hi hk hnn h1 (decide_eq_true t) ⟨by decide, by decide⟩ (m_L_turn_ok (cD := cD) (g := g) _ _ _ (m_X0_turn_true hp0 hp5 hn3 hA hw5 (ml hp0 hp5) (ml hp0 hp5) q1 b1)) (m_X1_turn_true hro hB hM hw.1 hw.2 q1 b1) (by decide) (fun _ => eqN _ (congrFun (tn_cg R1) 0)) (kk _ _ _ _ _ _ _ _ (LI_ly I b1 (fun k hk => congrFun (tn_cg R1) k) (fun k hk => Nat.mod_lt _ hp0) (mk_lt hM (fun j hj => ml hp0 hp5))))
  · exact g_turn C Zc X hL hi hk hnn rfl rfl ⟨by decide, by decide⟩ (m_L_turn_nIOB (cD := cD) (g := g) _ _ (m_X0_turn_nIOB hl hn3 hp5 hb5 _ (iI_rg _) _ c1)) (m_X1_turn_no1 hn3 hp5 hb5 _ (iI_rg _) _ c1) (by decide) (fun h => absurd h (by decide)) (kk _ _ _ _ _ _ _ _ I)

set_option maxHeartbeats 4000000 in
set_option maxRecDepth 100000 in
theorem c_mirror {φ : Fx} {l : Launch} {D : va_G} {cI cJ cD : ClassId} {b L hx hm r d o od i k nn : Nat} {xs : Nat → Int32} (C : xc φ l room_1 D vwCl [(cI, .int), (cJ, .long), (cD, .double)] 9 cL_law RL wsL_law) (Zc : xzc φ) (X : xsx φ b L xs) (hL : L ≤ 2048) (hi : i + 3 < L) (hk : k + 1 ≤ 1042) (hnn : nn + 6 ≤ 8434) (hl : l.stackTraces = false) {a n p th : Nat} {A B M : Nat → Nat} {f : Nat → Int64} {g : Nat → UInt64} (I : LI n p A B M) (kk : ∀ (n p th : Nat) (A B M : Nat → Nat) (f : Nat → Int64) (g : Nat → UInt64), LI n p A B M → xw φ (k + 1) (nn + 6) (wL cI cJ cD hx a hm r d o od n p th A B M f g) 1670 [(0, .ref b), (1, .ref hx), (2, .ref hm), (3, .ref o), (4, .ref od), (5, nV i)] []) : xw φ k nn (wL cI cJ cD hx a hm r d o od n p th A B M f g) 620 [(0, .ref b), (1, .ref hx), (2, .ref hm), (3, .ref o), (4, .ref od), (5, nV i)] [] := by
  obtain ⟨hro, hA, hAB, hB, hAp, hM⟩ := id I
  have hn3 := hro.1
  have hp := hro.2.1
  have hp5 := hro.2.2.1
  have hn16 := lt3 hn3
  have hw := rok_w hro
  have hb5 := bt_lt hn3
  have hw5 : rt n p < 500 := by omega
  have hp0 : 0 < p := by omega
  have hp1 : 1 < p := by omega
  have hn0 : 0 < n := by omega
  have hBp : ∀ j, j < 64 → B j < p := fun j hj => by rw [← hAB j hj]; exact hAp j hj
  by_cases c1 : (0 ≤ (xs (i + 1)).toInt ∧ (xs (i + 1)).toInt < 4)
  · obtain ⟨q1, h1⟩ := Int.eq_ofNat_of_zero_le (show 0 ≤ (xs (i + 1)).toInt by omega)
    have b1 : q1 < 4 := by omega
    have R1 : ∀ k, k < n → A (16 * q1 + k) = B (16 * q1 + k) := fun k hk => hAB _ (by omega)
    have MI : ∀ j, j < n → mi j (bt n) < n := fun j hj => (mi_p n (by omega) hn3 j (by omega) hj).1
    have G : ∀ k, k < n → A (16 * q1 + mi k (bt n)) = B (16 * q1 + mi k (bt n)) := fun k hk => R1 _ (MI k hk)
    exact g_mirror C Zc X hL hi hk hnn h1 ⟨by decide, by decide⟩ (m_L_mirror_ok (cD := cD) (g := g) _ _ (m_X0_mirror hn3 hA rfl q1 b1)) (m_X1_mirror (b := 0) hn3 hB hM q1 b1) (by decide) (fun _ => eqN _ (cc_cg n (fun j hj => by show decide (A (16 * q1 + j) ≠ A (16 * q1 + mi j (bt n))) = decide (B (16 * q1 + j) ≠ B (16 * q1 + mi j (bt n))); rw [R1 j hj, G j hj]))) (kk _ _ _ _ _ _ _ _ (LI_ly I b1 G (fun k hk => hAp _ (by have := MI k hk; omega)) (mk_lt hM (fun j hj => hB _))))
  · exact g_mirror C Zc X hL hi hk hnn rfl ⟨by decide, by decide⟩ (m_L_mirror_nIOB (cD := cD) (g := g) _ (m_X0_mirror_nIOB hl hn3 hp5 hb5 _ (iI_rg _) c1)) (m_X1_mirror_no1 hn3 hp5 hb5 _ (iI_rg _) c1) (by decide) (fun h => absurd h (by decide)) (kk _ _ _ _ _ _ _ _ I)

set_option maxHeartbeats 4000000 in
set_option maxRecDepth 100000 in
theorem c_stage {φ : Fx} {l : Launch} {D : va_G} {cI cJ cD : ClassId} {b L hx hm r d o od i k nn : Nat} {xs : Nat → Int32} (C : xc φ l room_1 D vwCl [(cI, .int), (cJ, .long), (cD, .double)] 9 cL_law RL wsL_law) (Zc : xzc φ) (X : xsx φ b L xs) (hL : L ≤ 2048) (hi : i + 3 < L) (hk : k + 1 ≤ 1042) (hnn : nn + 6 ≤ 8434) (hl : l.stackTraces = false) {a n p th : Nat} {A B M : Nat → Nat} {f : Nat → Int64} {g : Nat → UInt64} (I : LI n p A B M) (kk : ∀ (n p th : Nat) (A B M : Nat → Nat) (f : Nat → Int64) (g : Nat → UInt64), LI n p A B M → xw φ (k + 1) (nn + 6) (wL cI cJ cD hx a hm r d o od n p th A B M f g) 1670 [(0, .ref b), (1, .ref hx), (2, .ref hm), (3, .ref o), (4, .ref od), (5, nV i)] []) : xw φ k nn (wL cI cJ cD hx a hm r d o od n p th A B M f g) 676 [(0, .ref b), (1, .ref hx), (2, .ref hm), (3, .ref o), (4, .ref od), (5, nV i)] [] := by
  obtain ⟨hro, hA, hAB, hB, hAp, hM⟩ := id I
  have hn3 := hro.1
  have hp := hro.2.1
  have hp5 := hro.2.2.1
  have hn16 := lt3 hn3
  have hw := rok_w hro
  have hb5 := bt_lt hn3
  have hw5 : rt n p < 500 := by omega
  have hp0 : 0 < p := by omega
  have hp1 : 1 < p := by omega
  have hn0 : 0 < n := by omega
  have hBp : ∀ j, j < 64 → B j < p := fun j hj => by rw [← hAB j hj]; exact hAp j hj
  by_cases c1 : (0 ≤ (xs (i + 1)).toInt ∧ (xs (i + 1)).toInt < 4) ∧ (0 ≤ (xs (i + 2)).toInt ∧ (xs (i + 2)).toInt < (bt n : Int))
  · obtain ⟨q1, h1⟩ := Int.eq_ofNat_of_zero_le (show 0 ≤ (xs (i + 1)).toInt by omega)
    have b1 : q1 < 4 := by omega
    obtain ⟨q2, h2⟩ := Int.eq_ofNat_of_zero_le (show 0 ≤ (xs (i + 2)).toInt by omega)
    have b2 : q2 < bt n := by omega
    have R1 : ∀ k, k < n → A (16 * q1 + k) = B (16 * q1 + k) := fun k hk => hAB _ (by omega)
    exact g_stage C Zc X hL hi hk hnn h1 h2 ⟨by decide, by decide⟩ (m_L_stage_ok (cD := cD) (g := g) _ _ _ (m_X0_stage hp1 hp0 hp5 hn3 hA hw5 rfl q1 q2 b1 b2 (2 ^ q2) rfl)) (m_X1_stage hp1 hp0 hp5 hn3 hB hw5 rfl q1 q2 b1 b2 (2 ^ q2) rfl) (by decide) (fun _ => eqN _ (sg_cg hn3 b2 rfl R1 0 hn0)) (kk _ _ _ _ _ _ _ _ (LI_mr I b1 (sg_cg hn3 b2 rfl R1) (fun k hk => sg_lt hp0 k) (mk_lt hM (fun j hj => Nat.lt_trans (sg_lt hp0 j) hp5))))
  · exact g_stage C Zc X hL hi hk hnn rfl rfl ⟨by decide, by decide⟩ (m_L_stage_nIOB (cD := cD) (g := g) _ _ (m_X0_stage_nIOB hl hn3 hp5 hb5 _ (iI_rg _) _ (iI_rg _) c1)) (m_X1_stage_no1 hn3 hp5 hb5 _ (iI_rg _) _ (iI_rg _) c1) (by decide) (fun h => absurd h (by decide)) (kk _ _ _ _ _ _ _ _ I)

set_option maxHeartbeats 4000000 in
set_option maxRecDepth 100000 in
theorem c_fold {φ : Fx} {l : Launch} {D : va_G} {cI cJ cD : ClassId} {b L hx hm r d o od i k nn : Nat} {xs : Nat → Int32} (C : xc φ l room_1 D vwCl [(cI, .int), (cJ, .long), (cD, .double)] 9 cL_law RL wsL_law) (Zc : xzc φ) (X : xsx φ b L xs) (hL : L ≤ 2048) (hi : i + 3 < L) (hk : k + 1 ≤ 1042) (hnn : nn + 6 ≤ 8434) (hl : l.stackTraces = false) {a n p th : Nat} {A B M : Nat → Nat} {f : Nat → Int64} {g : Nat → UInt64} (I : LI n p A B M) (kk : ∀ (n p th : Nat) (A B M : Nat → Nat) (f : Nat → Int64) (g : Nat → UInt64), LI n p A B M → xw φ (k + 1) (nn + 6) (wL cI cJ cD hx a hm r d o od n p th A B M f g) 1670 [(0, .ref b), (1, .ref hx), (2, .ref hm), (3, .ref o), (4, .ref od), (5, nV i)] []) : xw φ k nn (wL cI cJ cD hx a hm r d o od n p th A B M f g) 744 [(0, .ref b), (1, .ref hx), (2, .ref hm), (3, .ref o), (4, .ref od), (5, nV i)] [] := by
  obtain ⟨hro, hA, hAB, hB, hAp, hM⟩ := id I
  have hn3 := hro.1
  have hp := hro.2.1
  have hp5 := hro.2.2.1
  have hn16 := lt3 hn3
  have hw := rok_w hro
  have hb5 := bt_lt hn3
  have hw5 : rt n p < 500 := by omega
  have hp0 : 0 < p := by omega
  have hp1 : 1 < p := by omega
  have hn0 : 0 < n := by omega
  have hBp : ∀ j, j < 64 → B j < p := fun j hj => by rw [← hAB j hj]; exact hAp j hj
  by_cases c1 : (0 ≤ (xs (i + 1)).toInt ∧ (xs (i + 1)).toInt < 4) ∧ (0 ≤ (xs (i + 2)).toInt ∧ (xs (i + 2)).toInt < 4)
  · obtain ⟨q1, h1⟩ := Int.eq_ofNat_of_zero_le (show 0 ≤ (xs (i + 1)).toInt by omega)
    have b1 : q1 < 4 := by omega
    obtain ⟨q2, h2⟩ := Int.eq_ofNat_of_zero_le (show 0 ≤ (xs (i + 2)).toInt by omega)
    have b2 : q2 < 4 := by omega
    have R1 : ∀ k, k < n → A (16 * q1 + k) = B (16 * q1 + k) := fun k hk => hAB _ (by omega)
    have R2 : ∀ k, k < n → A (16 * q2 + k) = B (16 * q2 + k) := fun k hk => hAB _ (by omega)
    exact g_fold C Zc X hL hi hk hnn h1 h2 ⟨by decide, by decide⟩ (m_L_fold_ok (cD := cD) (g := g) _ _ _ (m_X0_fold hp0 hp5 hn3 hA q1 q2 b1 b2)) (m_X1_fold hp0 hp5 hn3 hB q1 q2 b1 b2) (by decide) (fun _ => eqN _ (fo_cg hn0 R1 R2 n (Nat.le_refl n))) (kk _ _ _ _ _ _ _ _ (LI_ly I b1 (fun k hk => fo_cg hn0 R1 R2 n (Nat.le_refl n)) (fun k hk => fo_lt hp0 n) (mk_lt hM (fun j hj => Nat.lt_trans (fo_lt hp0 n) hp5))))
  · exact g_fold C Zc X hL hi hk hnn rfl rfl ⟨by decide, by decide⟩ (m_L_fold_nIOB (cD := cD) (g := g) _ _ (m_X0_fold_nIOB hl hn3 hp5 hb5 _ (iI_rg _) _ (iI_rg _) c1)) (m_X1_fold_no1 hn3 hp5 hb5 _ (iI_rg _) _ (iI_rg _) c1) (by decide) (fun h => absurd h (by decide)) (kk _ _ _ _ _ _ _ _ I)

set_option maxHeartbeats 4000000 in
set_option maxRecDepth 100000 in
theorem c_join {φ : Fx} {l : Launch} {D : va_G} {cI cJ cD : ClassId} {b L hx hm r d o od i k nn : Nat} {xs : Nat → Int32} (C : xc φ l room_1 D vwCl [(cI, .int), (cJ, .long), (cD, .double)] 9 cL_law RL wsL_law) (Zc : xzc φ) (X : xsx φ b L xs) (hL : L ≤ 2048) (hi : i + 3 < L) (hk : k + 1 ≤ 1042) (hnn : nn + 6 ≤ 8434) (hl : l.stackTraces = false) {a n p th : Nat} {A B M : Nat → Nat} {f : Nat → Int64} {g : Nat → UInt64} (I : LI n p A B M) (kk : ∀ (n p th : Nat) (A B M : Nat → Nat) (f : Nat → Int64) (g : Nat → UInt64), LI n p A B M → xw φ (k + 1) (nn + 6) (wL cI cJ cD hx a hm r d o od n p th A B M f g) 1670 [(0, .ref b), (1, .ref hx), (2, .ref hm), (3, .ref o), (4, .ref od), (5, nV i)] []) : xw φ k nn (wL cI cJ cD hx a hm r d o od n p th A B M f g) 812 [(0, .ref b), (1, .ref hx), (2, .ref hm), (3, .ref o), (4, .ref od), (5, nV i)] [] := by
  obtain ⟨hro, hA, hAB, hB, hAp, hM⟩ := id I
  have hn3 := hro.1
  have hp := hro.2.1
  have hp5 := hro.2.2.1
  have hn16 := lt3 hn3
  have hw := rok_w hro
  have hb5 := bt_lt hn3
  have hw5 : rt n p < 500 := by omega
  have hp0 : 0 < p := by omega
  have hp1 : 1 < p := by omega
  have hn0 : 0 < n := by omega
  have hBp : ∀ j, j < 64 → B j < p := fun j hj => by rw [← hAB j hj]; exact hAp j hj
  by_cases c1 : (0 ≤ (xs (i + 1)).toInt ∧ (xs (i + 1)).toInt < 4) ∧ (0 ≤ (xs (i + 2)).toInt ∧ (xs (i + 2)).toInt < 4) ∧ (0 ≤ (xs (i + 3)).toInt ∧ (xs (i + 3)).toInt < 3)
  · obtain ⟨q1, h1⟩ := Int.eq_ofNat_of_zero_le (show 0 ≤ (xs (i + 1)).toInt by omega)
    have b1 : q1 < 4 := by omega
    obtain ⟨q2, h2⟩ := Int.eq_ofNat_of_zero_le (show 0 ≤ (xs (i + 2)).toInt by omega)
    have b2 : q2 < 4 := by omega
    obtain ⟨q3, h3⟩ := Int.eq_ofNat_of_zero_le (show 0 ≤ (xs (i + 3)).toInt by omega)
    have b3 : q3 < 3 := by omega
    have R1 : ∀ k, k < n → A (16 * q1 + k) = B (16 * q1 + k) := fun k hk => hAB _ (by omega)
    have R2 : ∀ k, k < n → A (16 * q2 + k) = B (16 * q2 + k) := fun k hk => hAB _ (by omega)
    exact g_join C Zc X hL hi hk hnn h1 h2 h3 ⟨by decide, by decide⟩ (m_L_join_ok (cD := cD) (g := g) _ _ _ _ (m_X0_join hp0 hp5 hn3 hA hAp q1 q2 b1 b2 q3 b3)) (m_X1_join hp0 hp5 hn3 hB hBp q1 q2 b1 b2 q3 b3) (by decide) (fun _ => eqN _ (cc_cg n (fun j hj => by rw [mr_in hj, mr_in hj, R1 j hj, R2 j hj]))) (kk _ _ _ _ _ _ _ _ (LI_mr I b1 (fun k hk => jn_cg (R1 k hk) (R2 k hk)) (fun k hk => jn_lt hp0 q3) (mk_lt hM (fun j hj => Nat.lt_trans (jn_lt hp0 q3) hp5))))
  · exact g_join C Zc X hL hi hk hnn rfl rfl rfl ⟨by decide, by decide⟩ (m_L_join_nIOB (cD := cD) (g := g) _ _ _ (m_X0_join_nIOB hl hn3 hp5 hb5 _ (iI_rg _) _ (iI_rg _) _ (iI_rg _) c1)) (m_X1_join_no1 hn3 hp5 hb5 _ (iI_rg _) _ (iI_rg _) _ (iI_rg _) c1) (by decide) (fun h => absurd h (by decide)) (kk _ _ _ _ _ _ _ _ I)

set_option maxHeartbeats 4000000 in
set_option maxRecDepth 100000 in
theorem c_move {φ : Fx} {l : Launch} {D : va_G} {cI cJ cD : ClassId} {b L hx hm r d o od i k nn : Nat} {xs : Nat → Int32} (C : xc φ l room_1 D vwCl [(cI, .int), (cJ, .long), (cD, .double)] 9 cL_law RL wsL_law) (Zc : xzc φ) (X : xsx φ b L xs) (hL : L ≤ 2048) (hi : i + 3 < L) (hk : k + 1 ≤ 1042) (hnn : nn + 6 ≤ 8434) (hl : l.stackTraces = false) {a n p th : Nat} {A B M : Nat → Nat} {f : Nat → Int64} {g : Nat → UInt64} (I : LI n p A B M) (kk : ∀ (n p th : Nat) (A B M : Nat → Nat) (f : Nat → Int64) (g : Nat → UInt64), LI n p A B M → xw φ (k + 1) (nn + 6) (wL cI cJ cD hx a hm r d o od n p th A B M f g) 1670 [(0, .ref b), (1, .ref hx), (2, .ref hm), (3, .ref o), (4, .ref od), (5, nV i)] []) : xw φ k nn (wL cI cJ cD hx a hm r d o od n p th A B M f g) 892 [(0, .ref b), (1, .ref hx), (2, .ref hm), (3, .ref o), (4, .ref od), (5, nV i)] [] := by
  obtain ⟨hro, hA, hAB, hB, hAp, hM⟩ := id I
  have hn3 := hro.1
  have hp := hro.2.1
  have hp5 := hro.2.2.1
  have hn16 := lt3 hn3
  have hw := rok_w hro
  have hb5 := bt_lt hn3
  have hw5 : rt n p < 500 := by omega
  have hp0 : 0 < p := by omega
  have hp1 : 1 < p := by omega
  have hn0 : 0 < n := by omega
  have hBp : ∀ j, j < 64 → B j < p := fun j hj => by rw [← hAB j hj]; exact hAp j hj
  by_cases c1 : (0 ≤ (xs (i + 1)).toInt ∧ (xs (i + 1)).toInt < 4)
  · by_cases c2 : (0 ≤ (xs (i + 2)).toInt ∧ (xs (i + 2)).toInt < (n : Int))
    · obtain ⟨q1, h1⟩ := Int.eq_ofNat_of_zero_le (show 0 ≤ (xs (i + 1)).toInt by omega)
      have b1 : q1 < 4 := by omega
      obtain ⟨q2, h2⟩ := Int.eq_ofNat_of_zero_le (show 0 ≤ (xs (i + 2)).toInt by omega)
      have b2 : q2 < n := by omega
      have R1 : ∀ k, k < n → A (16 * q1 + k) = B (16 * q1 + k) := fun k hk => hAB _ (by omega)
      exact g_move C Zc X hL hi hk hnn h1 h2 ⟨by decide, by decide⟩ (m_L_move_ok (cD := cD) (g := g) _ _ _ (m_X0_move hn3 hA q1 b1 q2 b2)) (m_X1_move hn3 q1 b1 q2 b2) (by decide) (fun _ => eqN _ (R1 _ (Nat.mod_lt _ hn0))) (kk _ _ _ _ _ _ _ _ (LI_ly I b1 (fun k hk => R1 _ (Nat.mod_lt _ hn0)) (fun k hk => hAp _ (by have := Nat.mod_lt (k + n - q2) hn0; omega)) (mk_lt hM (fun j hj => hB _))))
    · exact g_move C Zc X hL hi hk hnn rfl rfl ⟨by decide, by decide⟩ (m_L_move_nIAE (cD := cD) (g := g) _ _ (m_X0_move_nIAE hl hn3 hp5 hb5 _ (iI_rg _) _ (iI_rg _) c1 c2)) (m_X1_move_no2 hn3 hp5 hb5 _ (iI_rg _) _ (iI_rg _) c1 c2) (by decide) (fun h => absurd h (by decide)) (kk _ _ _ _ _ _ _ _ I)
  · exact g_move C Zc X hL hi hk hnn rfl rfl ⟨by decide, by decide⟩ (m_L_move_nIOB (cD := cD) (g := g) _ _ (m_X0_move_nIOB hl hn3 hp5 hb5 _ (iI_rg _) _ (iI_rg _) c1)) (m_X1_move_no1 hn3 hp5 hb5 _ (iI_rg _) _ (iI_rg _) c1) (by decide) (fun h => absurd h (by decide)) (kk _ _ _ _ _ _ _ _ I)

set_option maxHeartbeats 4000000 in
set_option maxRecDepth 100000 in
theorem c_times {φ : Fx} {l : Launch} {D : va_G} {cI cJ cD : ClassId} {b L hx hm r d o od i k nn : Nat} {xs : Nat → Int32} (C : xc φ l room_1 D vwCl [(cI, .int), (cJ, .long), (cD, .double)] 9 cL_law RL wsL_law) (Zc : xzc φ) (X : xsx φ b L xs) (hL : L ≤ 2048) (hi : i + 3 < L) (hk : k + 1 ≤ 1042) (hnn : nn + 6 ≤ 8434) (hl : l.stackTraces = false) {a n p th : Nat} {A B M : Nat → Nat} {f : Nat → Int64} {g : Nat → UInt64} (I : LI n p A B M) (kk : ∀ (n p th : Nat) (A B M : Nat → Nat) (f : Nat → Int64) (g : Nat → UInt64), LI n p A B M → xw φ (k + 1) (nn + 6) (wL cI cJ cD hx a hm r d o od n p th A B M f g) 1670 [(0, .ref b), (1, .ref hx), (2, .ref hm), (3, .ref o), (4, .ref od), (5, nV i)] []) : xw φ k nn (wL cI cJ cD hx a hm r d o od n p th A B M f g) 960 [(0, .ref b), (1, .ref hx), (2, .ref hm), (3, .ref o), (4, .ref od), (5, nV i)] [] := by
  obtain ⟨hro, hA, hAB, hB, hAp, hM⟩ := id I
  have hn3 := hro.1
  have hp := hro.2.1
  have hp5 := hro.2.2.1
  have hn16 := lt3 hn3
  have hw := rok_w hro
  have hb5 := bt_lt hn3
  have hw5 : rt n p < 500 := by omega
  have hp0 : 0 < p := by omega
  have hp1 : 1 < p := by omega
  have hn0 : 0 < n := by omega
  have hBp : ∀ j, j < 64 → B j < p := fun j hj => by rw [← hAB j hj]; exact hAp j hj
  by_cases c1 : (0 ≤ (xs (i + 1)).toInt ∧ (xs (i + 1)).toInt < 4)
  · by_cases c2 : (0 ≤ (xs (i + 2)).toInt ∧ (xs (i + 2)).toInt < (p : Int))
    · obtain ⟨q1, h1⟩ := Int.eq_ofNat_of_zero_le (show 0 ≤ (xs (i + 1)).toInt by omega)
      have b1 : q1 < 4 := by omega
      obtain ⟨q2, h2⟩ := Int.eq_ofNat_of_zero_le (show 0 ≤ (xs (i + 2)).toInt by omega)
      have b2 : q2 < p := by omega
      have R1 : ∀ k, k < n → A (16 * q1 + k) = B (16 * q1 + k) := fun k hk => hAB _ (by omega)
      exact g_times C Zc X hL hi hk hnn h1 h2 ⟨by decide, by decide⟩ (m_L_times_ok (cD := cD) (g := g) _ _ _ (m_X0_times hp0 hp5 hn3 hA q1 b1 q2 b2)) (m_X1_times hp0 hp5 hn3 hB q1 b1 q2 b2) (by decide) (fun _ => eqN _ (cc_cg n (fun j hj => by rw [mr_in hj, mr_in hj, R1 j hj]))) (kk _ _ _ _ _ _ _ _ (LI_mr I b1 (fun k hk => congrArg (fun z => z * q2 % p) (R1 k hk)) (fun k hk => Nat.mod_lt _ hp0) (mk_lt hM (fun j hj => ml hp0 hp5))))
    · exact g_times C Zc X hL hi hk hnn rfl rfl ⟨by decide, by decide⟩ (m_L_times_nIAE (cD := cD) (g := g) _ _ (m_X0_times_nIAE hl hn3 hp5 hb5 _ (iI_rg _) _ (iI_rg _) c1 c2)) (m_X1_times_no2 hn3 hp5 hb5 _ (iI_rg _) _ (iI_rg _) c1 c2) (by decide) (fun h => absurd h (by decide)) (kk _ _ _ _ _ _ _ _ I)
  · exact g_times C Zc X hL hi hk hnn rfl rfl ⟨by decide, by decide⟩ (m_L_times_nIOB (cD := cD) (g := g) _ _ (m_X0_times_nIOB hl hn3 hp5 hb5 _ (iI_rg _) _ (iI_rg _) c1)) (m_X1_times_no1 hn3 hp5 hb5 _ (iI_rg _) _ (iI_rg _) c1) (by decide) (fun h => absurd h (by decide)) (kk _ _ _ _ _ _ _ _ I)

set_option maxHeartbeats 4000000 in
set_option maxRecDepth 100000 in
theorem c_at {φ : Fx} {l : Launch} {D : va_G} {cI cJ cD : ClassId} {b L hx hm r d o od i k nn : Nat} {xs : Nat → Int32} (C : xc φ l room_1 D vwCl [(cI, .int), (cJ, .long), (cD, .double)] 9 cL_law RL wsL_law) (Zc : xzc φ) (X : xsx φ b L xs) (hL : L ≤ 2048) (hi : i + 3 < L) (hk : k + 1 ≤ 1042) (hnn : nn + 6 ≤ 8434) (hl : l.stackTraces = false) {a n p th : Nat} {A B M : Nat → Nat} {f : Nat → Int64} {g : Nat → UInt64} (I : LI n p A B M) (kk : ∀ (n p th : Nat) (A B M : Nat → Nat) (f : Nat → Int64) (g : Nat → UInt64), LI n p A B M → xw φ (k + 1) (nn + 6) (wL cI cJ cD hx a hm r d o od n p th A B M f g) 1670 [(0, .ref b), (1, .ref hx), (2, .ref hm), (3, .ref o), (4, .ref od), (5, nV i)] []) : xw φ k nn (wL cI cJ cD hx a hm r d o od n p th A B M f g) 1028 [(0, .ref b), (1, .ref hx), (2, .ref hm), (3, .ref o), (4, .ref od), (5, nV i)] [] := by
  obtain ⟨hro, hA, hAB, hB, hAp, hM⟩ := id I
  have hn3 := hro.1
  have hp := hro.2.1
  have hp5 := hro.2.2.1
  have hn16 := lt3 hn3
  have hw := rok_w hro
  have hb5 := bt_lt hn3
  have hw5 : rt n p < 500 := by omega
  have hp0 : 0 < p := by omega
  have hp1 : 1 < p := by omega
  have hn0 : 0 < n := by omega
  have hBp : ∀ j, j < 64 → B j < p := fun j hj => by rw [← hAB j hj]; exact hAp j hj
  by_cases c1 : (0 ≤ (xs (i + 1)).toInt ∧ (xs (i + 1)).toInt < 4) ∧ (0 ≤ (xs (i + 2)).toInt ∧ (xs (i + 2)).toInt < (n : Int))
  · obtain ⟨q1, h1⟩ := Int.eq_ofNat_of_zero_le (show 0 ≤ (xs (i + 1)).toInt by omega)
    have b1 : q1 < 4 := by omega
    obtain ⟨q2, h2⟩ := Int.eq_ofNat_of_zero_le (show 0 ≤ (xs (i + 2)).toInt by omega)
    have b2 : q2 < n := by omega
    have R1 : ∀ k, k < n → A (16 * q1 + k) = B (16 * q1 + k) := fun k hk => hAB _ (by omega)
    exact g_at C Zc X hL hi hk hnn h1 h2 ⟨by decide, by decide⟩ (m_L_at_ok (cD := cD) (g := g) _ _ _ (m_X0_at hn3 q1 b1 q2 b2)) (m_X1_at hn3 q1 b1 q2 b2) (by decide) (fun _ => eqN _ (hAB _ (by omega))) (kk _ _ _ _ _ _ _ _ (I))
  · exact g_at C Zc X hL hi hk hnn rfl rfl ⟨by decide, by decide⟩ (m_L_at_nIOB (cD := cD) (g := g) _ _ (m_X0_at_nIOB hl hn3 hp5 hb5 _ (iI_rg _) _ (iI_rg _) c1)) (m_X1_at_no1 hn3 hp5 hb5 _ (iI_rg _) _ (iI_rg _) c1) (by decide) (fun h => absurd h (by decide)) (kk _ _ _ _ _ _ _ _ I)

set_option maxHeartbeats 4000000 in
set_option maxRecDepth 100000 in
theorem c_point {φ : Fx} {l : Launch} {D : va_G} {cI cJ cD : ClassId} {b L hx hm r d o od i k nn : Nat} {xs : Nat → Int32} (C : xc φ l room_1 D vwCl [(cI, .int), (cJ, .long), (cD, .double)] 9 cL_law RL wsL_law) (Zc : xzc φ) (X : xsx φ b L xs) (hL : L ≤ 2048) (hi : i + 3 < L) (hk : k + 1 ≤ 1042) (hnn : nn + 6 ≤ 8434) (hl : l.stackTraces = false) {a n p th : Nat} {A B M : Nat → Nat} {f : Nat → Int64} {g : Nat → UInt64} (I : LI n p A B M) (kk : ∀ (n p th : Nat) (A B M : Nat → Nat) (f : Nat → Int64) (g : Nat → UInt64), LI n p A B M → xw φ (k + 1) (nn + 6) (wL cI cJ cD hx a hm r d o od n p th A B M f g) 1670 [(0, .ref b), (1, .ref hx), (2, .ref hm), (3, .ref o), (4, .ref od), (5, nV i)] []) : xw φ k nn (wL cI cJ cD hx a hm r d o od n p th A B M f g) 1096 [(0, .ref b), (1, .ref hx), (2, .ref hm), (3, .ref o), (4, .ref od), (5, nV i)] [] := by
  obtain ⟨hro, hA, hAB, hB, hAp, hM⟩ := id I
  have hn3 := hro.1
  have hp := hro.2.1
  have hp5 := hro.2.2.1
  have hn16 := lt3 hn3
  have hw := rok_w hro
  have hb5 := bt_lt hn3
  have hw5 : rt n p < 500 := by omega
  have hp0 : 0 < p := by omega
  have hp1 : 1 < p := by omega
  have hn0 : 0 < n := by omega
  have hBp : ∀ j, j < 64 → B j < p := fun j hj => by rw [← hAB j hj]; exact hAp j hj
  by_cases c1 : (0 ≤ (xs (i + 1)).toInt ∧ (xs (i + 1)).toInt < 4)
  · by_cases c2 : (0 ≤ (xs (i + 2)).toInt ∧ (xs (i + 2)).toInt < (p : Int))
    · obtain ⟨q1, h1⟩ := Int.eq_ofNat_of_zero_le (show 0 ≤ (xs (i + 1)).toInt by omega)
      have b1 : q1 < 4 := by omega
      obtain ⟨q2, h2⟩ := Int.eq_ofNat_of_zero_le (show 0 ≤ (xs (i + 2)).toInt by omega)
      have b2 : q2 < p := by omega
      have R1 : ∀ k, k < n → A (16 * q1 + k) = B (16 * q1 + k) := fun k hk => hAB _ (by omega)
      exact g_point C Zc X hL hi hk hnn h1 h2 ⟨by decide, by decide⟩ (m_L_point_ok (cD := cD) (g := g) _ _ _ (m_X0_point hp0 hp5 hn3 hA q1 b1 q2 b2)) (m_X1_point hp0 hp5 hn3 hB q1 b1 q2 b2) (by decide) (fun _ => eqN _ (pv_cg R1)) (kk _ _ _ _ _ _ _ _ (I))
    · exact g_point C Zc X hL hi hk hnn rfl rfl ⟨by decide, by decide⟩ (m_L_point_nIAE (cD := cD) (g := g) _ _ (m_X0_point_nIAE hl hn3 hp5 hb5 _ (iI_rg _) _ (iI_rg _) c1 c2)) (m_X1_point_no2 hn3 hp5 hb5 _ (iI_rg _) _ (iI_rg _) c1 c2) (by decide) (fun h => absurd h (by decide)) (kk _ _ _ _ _ _ _ _ I)
  · exact g_point C Zc X hL hi hk hnn rfl rfl ⟨by decide, by decide⟩ (m_L_point_nIOB (cD := cD) (g := g) _ _ (m_X0_point_nIOB hl hn3 hp5 hb5 _ (iI_rg _) _ (iI_rg _) c1)) (m_X1_point_no1 hn3 hp5 hb5 _ (iI_rg _) _ (iI_rg _) c1) (by decide) (fun h => absurd h (by decide)) (kk _ _ _ _ _ _ _ _ I)

set_option maxHeartbeats 4000000 in
set_option maxRecDepth 100000 in
theorem c_about {φ : Fx} {l : Launch} {D : va_G} {cI cJ cD : ClassId} {b L hx hm r d o od i k nn : Nat} {xs : Nat → Int32} (C : xc φ l room_1 D vwCl [(cI, .int), (cJ, .long), (cD, .double)] 9 cL_law RL wsL_law) (Zc : xzc φ) (X : xsx φ b L xs) (hL : L ≤ 2048) (hi : i + 3 < L) (hk : k + 1 ≤ 1042) (hnn : nn + 6 ≤ 8434) (hl : l.stackTraces = false) {a n p th : Nat} {A B M : Nat → Nat} {f : Nat → Int64} {g : Nat → UInt64} (I : LI n p A B M) (kk : ∀ (n p th : Nat) (A B M : Nat → Nat) (f : Nat → Int64) (g : Nat → UInt64), LI n p A B M → xw φ (k + 1) (nn + 6) (wL cI cJ cD hx a hm r d o od n p th A B M f g) 1670 [(0, .ref b), (1, .ref hx), (2, .ref hm), (3, .ref o), (4, .ref od), (5, nV i)] []) : xw φ k nn (wL cI cJ cD hx a hm r d o od n p th A B M f g) 1164 [(0, .ref b), (1, .ref hx), (2, .ref hm), (3, .ref o), (4, .ref od), (5, nV i)] [] := by
  obtain ⟨hro, hA, hAB, hB, hAp, hM⟩ := id I
  have hn3 := hro.1
  have hp := hro.2.1
  have hp5 := hro.2.2.1
  have hn16 := lt3 hn3
  have hw := rok_w hro
  have hb5 := bt_lt hn3
  have hw5 : rt n p < 500 := by omega
  have hp0 : 0 < p := by omega
  have hp1 : 1 < p := by omega
  have hn0 : 0 < n := by omega
  have hBp : ∀ j, j < 64 → B j < p := fun j hj => by rw [← hAB j hj]; exact hAp j hj
  by_cases c1 : (0 ≤ (xs (i + 1)).toInt ∧ (xs (i + 1)).toInt < 4) ∧ (0 ≤ (xs (i + 2)).toInt ∧ (xs (i + 2)).toInt < 5)
  · obtain ⟨q1, h1⟩ := Int.eq_ofNat_of_zero_le (show 0 ≤ (xs (i + 1)).toInt by omega)
    have b1 : q1 < 4 := by omega
    obtain ⟨q2, h2⟩ := Int.eq_ofNat_of_zero_le (show 0 ≤ (xs (i + 2)).toInt by omega)
    have b2 : q2 < 5 := by omega
    have R1 : ∀ k, k < n → A (16 * q1 + k) = B (16 * q1 + k) := fun k hk => hAB _ (by omega)
    exact g_about C Zc X hL hi hk hnn h1 h2 ⟨by decide, by decide⟩ (m_L_about_ok (cD := cD) (g := g) _ _ _ (m_X0_about hp0 hp5 hn3 hA q1 b1 q2 b2)) (m_X1_about hp0 hp5 hn3 hB q1 b1 q2 b2) (by decide) (fun _ => eqZ _ (tl_cg hn0 R1 q2)) (kk _ _ _ _ _ _ _ _ (I))
  · exact g_about C Zc X hL hi hk hnn rfl rfl ⟨by decide, by decide⟩ (m_L_about_nIOB (cD := cD) (g := g) _ _ (m_X0_about_nIOB hl hn3 hp5 hb5 _ (iI_rg _) _ (iI_rg _) c1)) (m_X1_about_no1 hn3 hp5 hb5 _ (iI_rg _) _ (iI_rg _) c1) (by decide) (fun h => absurd h (by decide)) (kk _ _ _ _ _ _ _ _ I)

set_option maxHeartbeats 4000000 in
set_option maxRecDepth 100000 in
theorem c_count {φ : Fx} {l : Launch} {D : va_G} {cI cJ cD : ClassId} {b L hx hm r d o od i k nn : Nat} {xs : Nat → Int32} (C : xc φ l room_1 D vwCl [(cI, .int), (cJ, .long), (cD, .double)] 9 cL_law RL wsL_law) (Zc : xzc φ) (X : xsx φ b L xs) (hL : L ≤ 2048) (hi : i + 3 < L) (hk : k + 1 ≤ 1042) (hnn : nn + 6 ≤ 8434) (hl : l.stackTraces = false) {a n p th : Nat} {A B M : Nat → Nat} {f : Nat → Int64} {g : Nat → UInt64} (I : LI n p A B M) (kk : ∀ (n p th : Nat) (A B M : Nat → Nat) (f : Nat → Int64) (g : Nat → UInt64), LI n p A B M → xw φ (k + 1) (nn + 6) (wL cI cJ cD hx a hm r d o od n p th A B M f g) 1670 [(0, .ref b), (1, .ref hx), (2, .ref hm), (3, .ref o), (4, .ref od), (5, nV i)] []) : xw φ k nn (wL cI cJ cD hx a hm r d o od n p th A B M f g) 1232 [(0, .ref b), (1, .ref hx), (2, .ref hm), (3, .ref o), (4, .ref od), (5, nV i)] [] := by
  obtain ⟨hro, hA, hAB, hB, hAp, hM⟩ := id I
  have hn3 := hro.1
  have hp := hro.2.1
  have hp5 := hro.2.2.1
  have hn16 := lt3 hn3
  have hw := rok_w hro
  have hb5 := bt_lt hn3
  have hw5 : rt n p < 500 := by omega
  have hp0 : 0 < p := by omega
  have hp1 : 1 < p := by omega
  have hn0 : 0 < n := by omega
  have hBp : ∀ j, j < 64 → B j < p := fun j hj => by rw [← hAB j hj]; exact hAp j hj
  by_cases c1 : (0 ≤ (xs (i + 1)).toInt ∧ (xs (i + 1)).toInt < 6)
  · obtain ⟨q1, h1⟩ := Int.eq_ofNat_of_zero_le (show 0 ≤ (xs (i + 1)).toInt by omega)
    have b1 : q1 < 6 := by omega
    exact g_count C Zc X hL hi hk hnn h1 ⟨by decide, by decide⟩ (m_L_count_ok (cD := cD) (g := g) _ _ (m_X0_count q1 b1)) (m_X1_count hro hw.1 hw.2 q1 b1) (by decide) (fun _ => eqN _ rfl) (kk _ _ _ _ _ _ _ _ (I))
  · exact g_count C Zc X hL hi hk hnn rfl ⟨by decide, by decide⟩ (m_L_count_nIOB (cD := cD) (g := g) _ (m_X0_count_nIOB hl hn3 hp5 hb5 _ (iI_rg _) c1)) (m_X1_count_no1 hn3 hp5 hb5 _ (iI_rg _) c1) (by decide) (fun h => absurd h (by decide)) (kk _ _ _ _ _ _ _ _ I)

set_option maxHeartbeats 4000000 in
set_option maxRecDepth 100000 in
theorem c_would {φ : Fx} {l : Launch} {D : va_G} {cI cJ cD : ClassId} {b L hx hm r d o od i k nn : Nat} {xs : Nat → Int32} (C : xc φ l room_1 D vwCl [(cI, .int), (cJ, .long), (cD, .double)] 9 cL_law RL wsL_law) (Zc : xzc φ) (X : xsx φ b L xs) (hL : L ≤ 2048) (hi : i + 3 < L) (hk : k + 1 ≤ 1042) (hnn : nn + 6 ≤ 8434) (hl : l.stackTraces = false) {a n p th : Nat} {A B M : Nat → Nat} {f : Nat → Int64} {g : Nat → UInt64} (I : LI n p A B M) (kk : ∀ (n p th : Nat) (A B M : Nat → Nat) (f : Nat → Int64) (g : Nat → UInt64), LI n p A B M → xw φ (k + 1) (nn + 6) (wL cI cJ cD hx a hm r d o od n p th A B M f g) 1670 [(0, .ref b), (1, .ref hx), (2, .ref hm), (3, .ref o), (4, .ref od), (5, nV i)] []) : xw φ k nn (wL cI cJ cD hx a hm r d o od n p th A B M f g) 1288 [(0, .ref b), (1, .ref hx), (2, .ref hm), (3, .ref o), (4, .ref od), (5, nV i)] [] := by
  obtain ⟨hro, hA, hAB, hB, hAp, hM⟩ := id I
  have hn3 := hro.1
  have hp := hro.2.1
  have hp5 := hro.2.2.1
  have hn16 := lt3 hn3
  have hw := rok_w hro
  have hb5 := bt_lt hn3
  have hw5 : rt n p < 500 := by omega
  have hp0 : 0 < p := by omega
  have hp1 : 1 < p := by omega
  have hn0 : 0 < n := by omega
  have hBp : ∀ j, j < 64 → B j < p := fun j hj => by rw [← hAB j hj]; exact hAp j hj
  by_cases c1 : (0 ≤ (xs (i + 1)).toInt ∧ (xs (i + 1)).toInt < 4) ∧ (0 ≤ (xs (i + 2)).toInt ∧ (xs (i + 2)).toInt < 4) ∧ (0 ≤ (xs (i + 3)).toInt ∧ (xs (i + 3)).toInt < (n : Int))
  · obtain ⟨q1, h1⟩ := Int.eq_ofNat_of_zero_le (show 0 ≤ (xs (i + 1)).toInt by omega)
    have b1 : q1 < 4 := by omega
    obtain ⟨q2, h2⟩ := Int.eq_ofNat_of_zero_le (show 0 ≤ (xs (i + 2)).toInt by omega)
    have b2 : q2 < 4 := by omega
    obtain ⟨q3, h3⟩ := Int.eq_ofNat_of_zero_le (show 0 ≤ (xs (i + 3)).toInt by omega)
    have b3 : q3 < n := by omega
    have R1 : ∀ k, k < n → A (16 * q1 + k) = B (16 * q1 + k) := fun k hk => hAB _ (by omega)
    have R2 : ∀ k, k < n → A (16 * q2 + k) = B (16 * q2 + k) := fun k hk => hAB _ (by omega)
    exact g_would C Zc X hL hi hk hnn h1 h2 h3 ⟨by decide, by decide⟩ (m_L_would_ok (cD := cD) (g := g) _ _ _ _ (m_X0_would hp0 hp5 hn3 hA q1 q2 b1 b2 q3 b3)) (m_X1_would hp0 hp5 hn3 hB q1 q2 b1 b2 q3 b3) (by decide) (fun _ => eqN _ (fo_cg hn0 R1 R2 n (Nat.le_refl n))) (kk _ _ _ _ _ _ _ _ (I))
  · exact g_would C Zc X hL hi hk hnn rfl rfl rfl ⟨by decide, by decide⟩ (m_L_would_nIOB (cD := cD) (g := g) _ _ _ (m_X0_would_nIOB hl hn3 hp5 hb5 _ (iI_rg _) _ (iI_rg _) _ (iI_rg _) c1)) (m_X1_would_no1 hn3 hp5 hb5 _ (iI_rg _) _ (iI_rg _) _ (iI_rg _) c1) (by decide) (fun h => absurd h (by decide)) (kk _ _ _ _ _ _ _ _ I)

set_option maxHeartbeats 4000000 in
set_option maxRecDepth 100000 in
theorem c_comes {φ : Fx} {l : Launch} {D : va_G} {cI cJ cD : ClassId} {b L hx hm r d o od i k nn : Nat} {xs : Nat → Int32} (C : xc φ l room_1 D vwCl [(cI, .int), (cJ, .long), (cD, .double)] 9 cL_law RL wsL_law) (Zc : xzc φ) (X : xsx φ b L xs) (hL : L ≤ 2048) (hi : i + 3 < L) (hk : k + 1 ≤ 1042) (hnn : nn + 6 ≤ 8434) (hl : l.stackTraces = false) {a n p th : Nat} {A B M : Nat → Nat} {f : Nat → Int64} {g : Nat → UInt64} (I : LI n p A B M) (kk : ∀ (n p th : Nat) (A B M : Nat → Nat) (f : Nat → Int64) (g : Nat → UInt64), LI n p A B M → xw φ (k + 1) (nn + 6) (wL cI cJ cD hx a hm r d o od n p th A B M f g) 1670 [(0, .ref b), (1, .ref hx), (2, .ref hm), (3, .ref o), (4, .ref od), (5, nV i)] []) : xw φ k nn (wL cI cJ cD hx a hm r d o od n p th A B M f g) 1368 [(0, .ref b), (1, .ref hx), (2, .ref hm), (3, .ref o), (4, .ref od), (5, nV i)] [] := by
  obtain ⟨hro, hA, hAB, hB, hAp, hM⟩ := id I
  have hn3 := hro.1
  have hp := hro.2.1
  have hp5 := hro.2.2.1
  have hn16 := lt3 hn3
  have hw := rok_w hro
  have hb5 := bt_lt hn3
  have hw5 : rt n p < 500 := by omega
  have hp0 : 0 < p := by omega
  have hp1 : 1 < p := by omega
  have hn0 : 0 < n := by omega
  have hBp : ∀ j, j < 64 → B j < p := fun j hj => by rw [← hAB j hj]; exact hAp j hj
  by_cases c1 : (0 ≤ (xs (i + 1)).toInt ∧ (xs (i + 1)).toInt < 4) ∧ (0 ≤ (xs (i + 2)).toInt ∧ (xs (i + 2)).toInt < 4)
  · obtain ⟨q1, h1⟩ := Int.eq_ofNat_of_zero_le (show 0 ≤ (xs (i + 1)).toInt by omega)
    have b1 : q1 < 4 := by omega
    obtain ⟨q2, h2⟩ := Int.eq_ofNat_of_zero_le (show 0 ≤ (xs (i + 2)).toInt by omega)
    have b2 : q2 < 4 := by omega
    have R1 : ∀ k, k < n → A (16 * q1 + k) = B (16 * q1 + k) := fun k hk => hAB _ (by omega)
    have R2 : ∀ k, k < n → A (16 * q2 + k) = B (16 * q2 + k) := fun k hk => hAB _ (by omega)
    exact g_comes C Zc X hL hi hk hnn h1 h2 ⟨by decide, by decide⟩ (m_L_comes_ok (cD := cD) (g := g) _ _ _ (m_X0_comes hn3 hA q1 q2 b1 b2)) (m_X1_comes hn3 hB q1 q2 b1 b2) (by decide) (fun _ => eqZ _ (cm_cg hn0 R1 R2)) (kk _ _ _ _ _ _ _ _ (I))
  · exact g_comes C Zc X hL hi hk hnn rfl rfl ⟨by decide, by decide⟩ (m_L_comes_nIOB (cD := cD) (g := g) _ _ (m_X0_comes_nIOB hl hn3 hp5 hb5 _ (iI_rg _) _ (iI_rg _) c1)) (m_X1_comes_no1 hn3 hp5 hb5 _ (iI_rg _) _ (iI_rg _) c1) (by decide) (fun h => absurd h (by decide)) (kk _ _ _ _ _ _ _ _ I)

set_option maxHeartbeats 4000000 in
set_option maxRecDepth 100000 in
theorem c_advise {φ : Fx} {l : Launch} {D : va_G} {cI cJ cD : ClassId} {b L hx hm r d o od i k nn : Nat} {xs : Nat → Int32} (C : xc φ l room_1 D vwCl [(cI, .int), (cJ, .long), (cD, .double)] 9 cL_law RL wsL_law) (Zc : xzc φ) (X : xsx φ b L xs) (hL : L ≤ 2048) (hi : i + 3 < L) (hk : k + 1 ≤ 1042) (hnn : nn + 6 ≤ 8434) (hl : l.stackTraces = false) {a n p th : Nat} {A B M : Nat → Nat} {f : Nat → Int64} {g : Nat → UInt64} (I : LI n p A B M) (kk : ∀ (n p th : Nat) (A B M : Nat → Nat) (f : Nat → Int64) (g : Nat → UInt64), LI n p A B M → xw φ (k + 1) (nn + 6) (wL cI cJ cD hx a hm r d o od n p th A B M f g) 1670 [(0, .ref b), (1, .ref hx), (2, .ref hm), (3, .ref o), (4, .ref od), (5, nV i)] []) : xw φ k nn (wL cI cJ cD hx a hm r d o od n p th A B M f g) 1436 [(0, .ref b), (1, .ref hx), (2, .ref hm), (3, .ref o), (4, .ref od), (5, nV i)] [] := by
  obtain ⟨hro, hA, hAB, hB, hAp, hM⟩ := id I
  have hn3 := hro.1
  have hp := hro.2.1
  have hp5 := hro.2.2.1
  have hn16 := lt3 hn3
  have hw := rok_w hro
  have hb5 := bt_lt hn3
  have hw5 : rt n p < 500 := by omega
  have hp0 : 0 < p := by omega
  have hp1 : 1 < p := by omega
  have hn0 : 0 < n := by omega
  have hBp : ∀ j, j < 64 → B j < p := fun j hj => by rw [← hAB j hj]; exact hAp j hj
  by_cases c1 : (0 ≤ (xs (i + 1)).toInt ∧ (xs (i + 1)).toInt < 4) ∧ (0 ≤ (xs (i + 2)).toInt ∧ (xs (i + 2)).toInt < 4)
  · obtain ⟨q1, h1⟩ := Int.eq_ofNat_of_zero_le (show 0 ≤ (xs (i + 1)).toInt by omega)
    have b1 : q1 < 4 := by omega
    obtain ⟨q2, h2⟩ := Int.eq_ofNat_of_zero_le (show 0 ≤ (xs (i + 2)).toInt by omega)
    have b2 : q2 < 4 := by omega
    have R1 : ∀ k, k < n → A (16 * q1 + k) = B (16 * q1 + k) := fun k hk => hAB _ (by omega)
    have R2 : ∀ k, k < n → A (16 * q2 + k) = B (16 * q2 + k) := fun k hk => hAB _ (by omega)
    exact g_advise C Zc X hL hi hk hnn h1 h2 ⟨by decide, by decide⟩ (m_L_advise_ok (cD := cD) (g := g) _ _ _ (m_X0_advise hp0 hp5 hn3 hA q1 q2 b1 b2)) (m_X1_advise hp0 hp5 hn3 hB q1 q2 b1 b2) (by decide) (fun _ => eqN _ (am_cg (funext fun q => so_cg hn0 R1 R2 n (Nat.le_refl n)))) (kk _ _ _ _ _ _ _ _ (I))
  · exact g_advise C Zc X hL hi hk hnn rfl rfl ⟨by decide, by decide⟩ (m_L_advise_nIOB (cD := cD) (g := g) _ _ (m_X0_advise_nIOB hl hn3 hp5 hb5 _ (iI_rg _) _ (iI_rg _) c1)) (m_X1_advise_no1 hn3 hp5 hb5 _ (iI_rg _) _ (iI_rg _) c1) (by decide) (fun h => absurd h (by decide)) (kk _ _ _ _ _ _ _ _ I)

set_option maxHeartbeats 4000000 in
set_option maxRecDepth 100000 in
theorem c_tones {φ : Fx} {l : Launch} {D : va_G} {cI cJ cD : ClassId} {b L hx hm r d o od i k nn : Nat} {xs : Nat → Int32} (C : xc φ l room_1 D vwCl [(cI, .int), (cJ, .long), (cD, .double)] 9 cL_law RL wsL_law) (Zc : xzc φ) (X : xsx φ b L xs) (hL : L ≤ 2048) (hi : i + 3 < L) (hk : k + 1 ≤ 1042) (hnn : nn + 6 ≤ 8434) (hl : l.stackTraces = false) {a n p th : Nat} {A B M : Nat → Nat} {f : Nat → Int64} {g : Nat → UInt64} (I : LI n p A B M) (kk : ∀ (n p th : Nat) (A B M : Nat → Nat) (f : Nat → Int64) (g : Nat → UInt64), LI n p A B M → xw φ (k + 1) (nn + 6) (wL cI cJ cD hx a hm r d o od n p th A B M f g) 1670 [(0, .ref b), (1, .ref hx), (2, .ref hm), (3, .ref o), (4, .ref od), (5, nV i)] []) : xw φ k nn (wL cI cJ cD hx a hm r d o od n p th A B M f g) 1504 [(0, .ref b), (1, .ref hx), (2, .ref hm), (3, .ref o), (4, .ref od), (5, nV i)] [] := by
  obtain ⟨hro, hA, hAB, hB, hAp, hM⟩ := id I
  have hn3 := hro.1
  have hp := hro.2.1
  have hp5 := hro.2.2.1
  have hn16 := lt3 hn3
  have hw := rok_w hro
  have hb5 := bt_lt hn3
  have hw5 : rt n p < 500 := by omega
  have hp0 : 0 < p := by omega
  have hp1 : 1 < p := by omega
  have hn0 : 0 < n := by omega
  have hBp : ∀ j, j < 64 → B j < p := fun j hj => by rw [← hAB j hj]; exact hAp j hj
  by_cases c1 : (0 ≤ (xs (i + 1)).toInt ∧ (xs (i + 1)).toInt < 4) ∧ (0 ≤ (xs (i + 2)).toInt ∧ (xs (i + 2)).toInt < 4)
  · obtain ⟨q1, h1⟩ := Int.eq_ofNat_of_zero_le (show 0 ≤ (xs (i + 1)).toInt by omega)
    have b1 : q1 < 4 := by omega
    obtain ⟨q2, h2⟩ := Int.eq_ofNat_of_zero_le (show 0 ≤ (xs (i + 2)).toInt by omega)
    have b2 : q2 < 4 := by omega
    have R1 : ∀ k, k < n → A (16 * q1 + k) = B (16 * q1 + k) := fun k hk => hAB _ (by omega)
    have R2 : ∀ k, k < n → A (16 * q2 + k) = B (16 * q2 + k) := fun k hk => hAB _ (by omega)
    exact g_tones C Zc X hL hi hk hnn h1 h2 ⟨by decide, by decide⟩ (m_L_tones_ok (cD := cD) (g := g) _ _ _ (m_X0_tones hp0 hp5 hn3 hA hw5 q1 q2 b1 b2)) (m_X1_tones hp0 hp5 hn3 hB hM hw5 q1 q2 b1 b2) (by decide) (fun _ => eqB _ (im_tones hn16.2 b2 hAB (fun k hk => congrFun (tn_cg R1) k))) (kk _ _ _ _ _ _ _ _ (LI_M (LI_A I (sv_lt hA (fun j hj => ml hp0 hp5)) (fun j hj => sv_lo hj)) (mk_lt hM (fun j hj => ml hp0 hp5))))
  · exact g_tones C Zc X hL hi hk hnn rfl rfl ⟨by decide, by decide⟩ (m_L_tones_nIOB (cD := cD) (g := g) _ _ (m_X0_tones_nIOB hl hn3 hp5 hb5 _ (iI_rg _) _ (iI_rg _) c1)) (m_X1_tones_no1 hn3 hp5 hb5 _ (iI_rg _) _ (iI_rg _) c1) (by decide) (fun h => absurd h (by decide)) (kk _ _ _ _ _ _ _ _ I)

set_option maxHeartbeats 4000000 in
set_option maxRecDepth 100000 in
theorem c_mean {φ : Fx} {l : Launch} {D : va_G} {cI cJ cD : ClassId} {b L hx hm r d o od i k nn : Nat} {xs : Nat → Int32} (C : xc φ l room_1 D vwCl [(cI, .int), (cJ, .long), (cD, .double)] 9 cL_law RL wsL_law) (Zc : xzc φ) (X : xsx φ b L xs) (hL : L ≤ 2048) (hi : i + 3 < L) (hk : k + 1 ≤ 1042) (hnn : nn + 6 ≤ 8434) (hl : l.stackTraces = false) {a n p th : Nat} {A B M : Nat → Nat} {f : Nat → Int64} {g : Nat → UInt64} (I : LI n p A B M) (kk : ∀ (n p th : Nat) (A B M : Nat → Nat) (f : Nat → Int64) (g : Nat → UInt64), LI n p A B M → xw φ (k + 1) (nn + 6) (wL cI cJ cD hx a hm r d o od n p th A B M f g) 1670 [(0, .ref b), (1, .ref hx), (2, .ref hm), (3, .ref o), (4, .ref od), (5, nV i)] []) : xw φ k nn (wL cI cJ cD hx a hm r d o od n p th A B M f g) 1579 [(0, .ref b), (1, .ref hx), (2, .ref hm), (3, .ref o), (4, .ref od), (5, nV i)] [] := by
  obtain ⟨hro, hA, hAB, hB, hAp, hM⟩ := id I
  have hn3 := hro.1
  have hp := hro.2.1
  have hp5 := hro.2.2.1
  have hn16 := lt3 hn3
  have hw := rok_w hro
  have hb5 := bt_lt hn3
  have hw5 : rt n p < 500 := by omega
  have hp0 : 0 < p := by omega
  have hp1 : 1 < p := by omega
  have hn0 : 0 < n := by omega
  have hBp : ∀ j, j < 64 → B j < p := fun j hj => by rw [← hAB j hj]; exact hAp j hj
  by_cases c1 : (0 ≤ (xs (i + 1)).toInt ∧ (xs (i + 1)).toInt < 4)
  · obtain ⟨q1, h1⟩ := Int.eq_ofNat_of_zero_le (show 0 ≤ (xs (i + 1)).toInt by omega)
    have b1 : q1 < 4 := by omega
    have R1 : ∀ k, k < n → A (16 * q1 + k) = B (16 * q1 + k) := fun k hk => hAB _ (by omega)
    exact g_mean C Zc X hL hi hk hnn h1 ⟨by decide, by decide⟩ (m_L_mean_ok (cJ := cJ) (f := f) _ _ (m_X0_mean hn3 hA q1 b1)) (m_X1_mean hn3 hB q1 b1) (by decide) (fun _ => eqD _ (by rw [sm_cg n R1]) (dq_e (by have := sm_le hB (r := q1) n; omega) hn3)) (kk _ _ _ _ _ _ _ _ (I))
  · exact g_mean C Zc X hL hi hk hnn rfl ⟨by decide, by decide⟩ (m_L_mean_nIOB (cJ := cJ) (f := f) _ (m_X0_mean_nIOB hl hn3 hp5 hb5 _ (iI_rg _) c1)) (m_X1_mean_no1 hn3 hp5 hb5 _ (iI_rg _) c1) (by decide) (fun h => absurd h (by decide)) (kk _ _ _ _ _ _ _ _ I)
