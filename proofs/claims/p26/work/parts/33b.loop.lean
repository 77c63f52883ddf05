set_option maxHeartbeats 4000000 in
set_option maxRecDepth 100000 in
/-- one round of the law -/
theorem law_round {φ : Fx} {l : Launch} {D : va_G} {cI cQ : ClassId} {sc h a o rr n p : Nat} {g A : Nat → Nat} (C : xc φ l room_1 D vwCl [(cI, .int), (cQ, .array .int)] 19 cL_law RL wsL_law) (Y : xyc sc φ) (hS : SI n p A) (k nn : Nat) (hk : k ≤ 2000) (hnn : nn ≤ 20000) {i : Nat} (hi : i < 14)
    (kk : ∀ (n p rr : Nat) (g A : Nat → Nat), SI n p A → xw φ (k + 89) (nn + 1318) (LV cI cQ h a o rr n p g A) 22 [(0, .ref sc), (1, .ref h), (2, .ref o), (3, nV (i + 1))] []) : xw φ k nn (LV cI cQ h a o rr n p g A) 22 [(0, .ref sc), (1, .ref h), (2, .ref o), (3, nV i)] [] :=
  law_A C Y hS k nn (by omega) (by omega) hi (fun x n p rr g A hS1 =>
    law_B C Y hS1 (k + 6 + 6) (nn + 100 + 100) (by omega) (by omega) hi (fun d0 A1 hS2 hd2 =>
      law_C C Y hS2 (k + 6 + 6) (nn + 100 + 100) (by omega) (by omega) hi hd2 (fun A2 ma pd hS3 hd3 hp3 hma =>
        law_D C Y hS3 (k + 6 + 6) (nn + 100 + 100) (by omega) (by omega) hi hd3 hp3 hma (fun A3 hS4 hd4 hp4 =>
          law_E C Y hS4 (k + 6 + 6 + 1) (nn + 100 + 100 + 16) (by omega) (by omega) hi hd4 hp4 hma (fun g1 A4 oo hS5 ho hne =>
            law_F C Y hS5 (k + 6 + 6 + 1 + 1 + 1) (nn + 100 + 100 + 16 + 16 + 16) (by omega) (by omega) hi hma ho hne (fun g2 A5 hS6 =>
              law_G C Y hS6 (k + 6 + 6 + 1 + 1 + 1 + 1) (nn + 100 + 100 + 16 + 16 + 16 + 16) (by omega) (by omega) hi (xw_wd (k' := k + 89) (n' := nn + 1318) (by omega) (by omega) (kk n p rr g2 A5 hS6))))))))
set_option maxHeartbeats 4000000 in
set_option maxRecDepth 100000 in
theorem law_loop {φ : Fx} {l : Launch} {D : va_G} {cI cQ : ClassId} {sc h a o : Nat} (C : xc φ l room_1 D vwCl [(cI, .int), (cQ, .array .int)] 19 cL_law RL wsL_law) (Y : xyc sc φ) (fin : ∀ (k nn : Nat) (w : va_W) (lv : List (Nat × Value)), k ≤ 1300 → nn ≤ 19000 → xw φ k nn w 1014 lv []) :
    ∀ (t i k nn n p rr : Nat) (g A : Nat → Nat), SI n p A → i + t = 14 → k ≤ 20 + 89 * i → nn ≤ 300 + 1318 * i → xw φ k nn (LV cI cQ h a o rr n p g A) 22 [(0, .ref sc), (1, .ref h), (2, .ref o), (3, nV i)] []
  | 0, i, k, nn, n, p, rr, g, A => fun hS hi hk hnn => by
    refine xw_iload_n (pc := 22) C 3 dL_law_22 rfl ?_
    refine xw_bipush_N (pc := 23) C 14 dL_law_23 (by decide) ?_
    exact xw_icmp_ge_N (pc := 25) (tgt := 1014) C dL_law_25 (by decide) (by omega) (by omega) (fun _ => fin k nn _ _ (by omega) (by omega)) (fun z => by exfalso; omega)
  | t + 1, i, k, nn, n, p, rr, g, A => fun hS hi hk hnn =>
    law_round C Y hS k nn (by omega) (by omega) (by omega) (fun n p rr g A hS2 => law_loop C Y fin t (i + 1) (k + 89) (nn + 1318) n p rr g A hS2 (by omega) (by omega) (by omega))
theorem zf_all : ∀ j, zf (fun _ => 0) 80 j = 0 := fun j => by unfold zf; split <;> rfl
set_option maxHeartbeats 4000000 in
set_option maxRecDepth 100000 in
/-- the law's body from its entry -/
theorem law_body {φ : Fx} {l : Launch} {D : va_G} {cI cQ : ClassId} {sc : Nat} (C : xc φ l room_1 D vwCl [(cI, .int), (cQ, .array .int)] 19 cL_law RL wsL_law) (Y : xyc sc φ) (Nn : xnw φ) (fin : ∀ (k nn : Nat) (w : va_W) (lv : List (Nat × Value)), k ≤ 1300 → nn ≤ 19000 → xw φ k nn w 1014 lv []) : xw φ 0 0 [] 0 [(0, .ref sc)] [] := by
  refine xw_new (pc := 0) (Cn := RX0) (T := TX0) (N := 7) (ci := 0) (fs := [.null, nV 0, nV 0, nV 0, nV 0, nV 0, nV 0]) C inlX0 tyX0 tyX0_ok (by decide +kernel) (by decide +kernel) (by decide +kernel) rfl (by decide +kernel) (Nat.le_of_ble_eq_true rfl) (Nat.le_of_ble_eq_true rfl) dL_law_0 (fun h => ?_)
  refine xw_wo (w' := w0X h) rfl ?_
  refine xw_dup (pc := 3) C dL_law_3 rfl ?_
  refine xw_IF (pc := 4) (na := 0) (As := []) (rest := [.ref h]) (wc := w0X h) (wr := []) C [0] [] [0] m_X0_init ggL_law_X0_init rfl rfl rfl (by decide +kernel) (by decide +kernel) (by decide +kernel) rfl rfl (by decide +kernel) ⟨(Nat.le_of_ble_eq_true rfl), (Nat.le_of_ble_eq_true rfl)⟩ rfl rfl rfl ⟨rfl, rfl⟩ (by decide) rfl rfl (Nat.le_of_ble_eq_true rfl) dL_law_4 ⟨(Nat.le_of_ble_eq_true rfl), (Nat.le_of_ble_eq_true rfl)⟩ (fun v9 w9 hp9 => ?_)
  obtain ⟨a, rfl, rfl⟩ := hp9
  refine xw_wo (w' := WX cI h a 8 17 (zf (fun _ => 0) 80)) rfl ?_
  refine xw_st (st' := [.ref h]) rfl ?_
  refine xw_astore_n (pc := 7) (lv' := [(0, .ref sc), (1, .ref h)]) C [1, 0] dL_law_7 rfl (by decide) rfl ?_
  refine xw_aload_n (pc := 8) C 1 dL_law_8 rfl ?_
  refine xw_aload_n (pc := 9) C 0 dL_law_9 rfl ?_
  refine xw_BSF (pc := 10) (na := 2) (As := [.ref h, .ref sc]) (rest := []) (wc := WX cI h a 8 17 (zf (fun _ => 0) 80)) (wr := []) C Y Nn [0, 1] [] [0, 1] (m_L_build zf_all) gL_law_L_build rfl rfl rfl rfl (by decide +kernel) ⟨(Nat.le_of_ble_eq_true rfl), (Nat.le_of_ble_eq_true rfl)⟩ rfl rfl rfl ⟨rfl, rfl⟩ (by decide) rfl rfl (Nat.le_of_ble_eq_true rfl) dL_law_10 ⟨(Nat.le_of_ble_eq_true rfl), (Nat.le_of_ble_eq_true rfl)⟩ (fun v9 w9 hp9 => ?_)
  obtain ⟨o, rr, n, p, g, A, rfl, hS, rfl⟩ := hp9
  refine xw_st (st' := [.ref o]) rfl ?_
  refine xw_wo (w' := LV cI cQ h a o rr n p g A) rfl ?_
  refine xw_astore_n (pc := 13) (lv' := [(0, .ref sc), (1, .ref h), (2, .ref o)]) C [1, 2, 0] dL_law_13 rfl (by decide) rfl ?_
  refine xw_aload_n (pc := 14) C 2 dL_law_14 rfl ?_
  refine xw_nonnull (pc := 15) (tgt := 20) C dL_law_15 (by decide) ?_
  refine xw_iconst_N (pc := 20) C 0 dL_law_20 rfl ?_
  refine xw_istore_n (pc := 21) (lv' := [(0, .ref sc), (1, .ref h), (2, .ref o), (3, nV 0)]) C [1, 2, 3, 0] dL_law_21 rfl (by decide) rfl ?_
  exact law_loop C Y fin 14 0 _ _ n p rr g A hS rfl (Nat.le_of_ble_eq_true rfl) (Nat.le_of_ble_eq_true rfl)
