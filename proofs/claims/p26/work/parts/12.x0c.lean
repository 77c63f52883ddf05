set_option maxHeartbeats 4000000 in
set_option maxRecDepth 100000 in
theorem m_X0_set {l : Launch} {D : va_G} {cI : ClassId} {h a n p b w wi ni : Nat} {A : Nat → Nat} (hp5 : p < 500) (hn : n = 4 ∨ n = 8 ∨ n = 16) (row q v : Nat) (hrw : row < 4) (hq : q < n) (hv : v < p) : CT l yX0_set wsX0_set (rmN 1 24) D vwCl [(cI, .int)] [.ref h, nV row, nV q, nV v] (wX cI h a n p b w wi ni A) (PD (some (nV (A (16 * row + q)))) (wX cI h a n p b w wi ni (va_up A (16 * row + q) v))) 0 0 := by
  refine ct_of (plainFor_of_name (by decide)) rfl (Nat.le_of_ble_eq_true rfl) (fun φ C rX => ?_)
  refine xw_le (lv' := [(0, .ref h), (1, nV row), (2, nV q), (3, nV v)]) rfl ?_
  have hn3 := lt3 hn
  refine xw_aload_n (pc := 0) C 0 dX0_set_0 rfl ?_
  refine xw_iload_n (pc := 1) C 1 dX0_set_1 rfl ?_
  refine xw_Vd (pc := 2) (q0 := 0) (na := 1) (rest := []) (st' := []) C (m_X0_requireRow row (by omega)) gX0_set_X0_requireRow rfl rfl rfl rfl (by decide +kernel) ⟨Nat.le_of_ble_eq_true rfl, Nat.le_of_ble_eq_true rfl⟩ rfl rfl rfl (Nat.le_of_ble_eq_true rfl) dX0_set_2 ⟨Nat.le_of_ble_eq_true rfl, Nat.le_of_ble_eq_true rfl⟩ rfl ?_
  refine xw_aload_n (pc := 5) C 0 dX0_set_5 rfl ?_
  refine xw_iload_n (pc := 6) C 2 dX0_set_6 rfl ?_
  refine xw_Vd (pc := 7) (q0 := 0) (na := 1) (rest := []) (st' := []) C (m_X0_requirePlace (by omega) q (by omega)) gX0_set_X0_requirePlace rfl rfl rfl rfl (by decide +kernel) ⟨Nat.le_of_ble_eq_true rfl, Nat.le_of_ble_eq_true rfl⟩ rfl rfl rfl (Nat.le_of_ble_eq_true rfl) dX0_set_7 ⟨Nat.le_of_ble_eq_true rfl, Nat.le_of_ble_eq_true rfl⟩ rfl ?_
  refine xw_aload_n (pc := 10) C 0 dX0_set_10 rfl ?_
  refine xw_iload_n (pc := 11) C 3 dX0_set_11 rfl ?_
  refine xw_Vd (pc := 12) (q0 := 0) (na := 1) (rest := []) (st' := []) C (m_X0_requireNumber hp5 v (by omega)) gX0_set_X0_requireNumber rfl rfl rfl rfl (by decide +kernel) ⟨Nat.le_of_ble_eq_true rfl, Nat.le_of_ble_eq_true rfl⟩ rfl rfl rfl (Nat.le_of_ble_eq_true rfl) dX0_set_12 ⟨Nat.le_of_ble_eq_true rfl, Nat.le_of_ble_eq_true rfl⟩ rfl ?_
  refine xw_aload_n (pc := 15) C 0 dX0_set_15 rfl ?_
  refine xw_iload_n (pc := 16) C 1 dX0_set_16 rfl ?_
  refine xw_iload_n (pc := 17) C 2 dX0_set_17 rfl ?_
  refine xw_Vd (pc := 18) (q0 := 0) (na := 2) (rest := []) (st' := [nV (A (16 * row + q))]) C (m_X0_read row q (by omega) (by omega)) gX0_set_X0_read rfl rfl rfl rfl (by decide +kernel) ⟨Nat.le_of_ble_eq_true rfl, Nat.le_of_ble_eq_true rfl⟩ rfl rfl rfl (Nat.le_of_ble_eq_true rfl) dX0_set_18 ⟨Nat.le_of_ble_eq_true rfl, Nat.le_of_ble_eq_true rfl⟩ rfl ?_
  refine xw_istore (pc := 21) (lv' := [(0, .ref h), (1, nV row), (2, nV q), (3, nV v), (4, nV (A (16 * row + q)))]) C [1, 2, 3, 4, 0] dX0_set_21 (by decide) rfl ?_
  refine xw_aload_n (pc := 23) C 0 dX0_set_23 rfl ?_
  refine xw_iload_n (pc := 24) C 1 dX0_set_24 rfl ?_
  refine xw_iload_n (pc := 25) C 2 dX0_set_25 rfl ?_
  refine xw_iload_n (pc := 26) C 3 dX0_set_26 rfl ?_
  refine xw_Vd (pc := 27) (q0 := 0) (na := 3) (rest := []) (st' := []) C (m_X0_write row q v (by omega) (by omega)) gX0_set_X0_write rfl rfl rfl rfl (by decide +kernel) ⟨Nat.le_of_ble_eq_true rfl, Nat.le_of_ble_eq_true rfl⟩ rfl rfl rfl (Nat.le_of_ble_eq_true rfl) dX0_set_27 ⟨Nat.le_of_ble_eq_true rfl, Nat.le_of_ble_eq_true rfl⟩ rfl ?_
  refine xw_iload (pc := 30) C 4 dX0_set_30 rfl ?_
  exact xw_iret (pc := 32) C rX (Nat.le_refl _) (Nat.le_refl _) dX0_set_32 (PD.i)

set_option maxHeartbeats 4000000 in
set_option maxRecDepth 100000 in
theorem m_X0_copy {l : Launch} {D : va_G} {cI : ClassId} {h a n p b w wi ni : Nat} {A : Nat → Nat} (hn : n = 4 ∨ n = 8 ∨ n = 16) (hA : ∀ j, A j < 500) (ra rb : Nat) (hra : ra < 4) (hrb : rb < 4) : CT l yX0_copy wsX0_copy (rmN 2 49) D vwCl [(cI, .int)] [.ref h, nV ra, nV rb] (wX cI h a n p b w wi ni A) (PD (some (nV (cc (fun j => decide (A (16 * rb + j) ≠ A (16 * ra + j))) n))) (wX cI h a n p b w wi ni (cp A ra rb n))) 0 0 := by
  refine ct_of (plainFor_of_name (by decide)) rfl (Nat.le_of_ble_eq_true rfl) (fun φ C rX => ?_)
  refine xw_le (lv' := [(0, .ref h), (1, nV ra), (2, nV rb)]) rfl ?_
  have hn3 := lt3 hn
  refine xw_aload_n (pc := 0) C 0 dX0_copy_0 rfl ?_
  refine xw_iload_n (pc := 1) C 1 dX0_copy_1 rfl ?_
  refine xw_Vd (pc := 2) (q0 := 0) (na := 1) (rest := []) (st' := []) C (m_X0_requireRow ra (by omega)) gX0_copy_X0_requireRow rfl rfl rfl rfl (by decide +kernel) ⟨Nat.le_of_ble_eq_true rfl, Nat.le_of_ble_eq_true rfl⟩ rfl rfl rfl (Nat.le_of_ble_eq_true rfl) dX0_copy_2 ⟨Nat.le_of_ble_eq_true rfl, Nat.le_of_ble_eq_true rfl⟩ rfl ?_
  refine xw_aload_n (pc := 5) C 0 dX0_copy_5 rfl ?_
  refine xw_iload_n (pc := 6) C 2 dX0_copy_6 rfl ?_
  refine xw_Vd (pc := 7) (q0 := 0) (na := 1) (rest := []) (st' := []) C (m_X0_requireRow rb (by omega)) gX0_copy_X0_requireRow rfl rfl rfl rfl (by decide +kernel) ⟨Nat.le_of_ble_eq_true rfl, Nat.le_of_ble_eq_true rfl⟩ rfl rfl rfl (Nat.le_of_ble_eq_true rfl) dX0_copy_7 ⟨Nat.le_of_ble_eq_true rfl, Nat.le_of_ble_eq_true rfl⟩ rfl ?_
  refine xw_aload_n (pc := 10) C 0 dX0_copy_10 rfl ?_
  refine xw_iload_n (pc := 11) C 1 dX0_copy_11 rfl ?_
  refine xw_iload_n (pc := 12) C 2 dX0_copy_12 rfl ?_
  refine xw_Vd (pc := 13) (q0 := 0) (na := 2) (rest := []) (st' := [nV (cc (fun j => decide (A (16 * rb + j) ≠ A (16 * ra + j))) n)]) C (m_X0_copyRow hn (hA) ra rb (by omega) (by omega)) gX0_copy_X0_copyRow rfl rfl rfl rfl (by decide +kernel) ⟨Nat.le_of_ble_eq_true rfl, Nat.le_of_ble_eq_true rfl⟩ rfl rfl rfl (Nat.le_of_ble_eq_true rfl) dX0_copy_13 ⟨Nat.le_of_ble_eq_true rfl, Nat.le_of_ble_eq_true rfl⟩ rfl ?_
  exact xw_iret (pc := 16) C rX (Nat.le_refl _) (Nat.le_refl _) dX0_copy_16 (PD.i)

set_option maxHeartbeats 4000000 in
set_option maxRecDepth 100000 in
theorem m_X0_turn_false {l : Launch} {D : va_G} {cI : ClassId} {h a n p b w wi ni : Nat} {A : Nat → Nat} (hp : 0 < p) (hp5 : p < 500) (hn : n = 4 ∨ n = 8 ∨ n = 16) (hA : ∀ j, A j < 500) (hw : w < 500) (hwi : wi < 500) (hni : ni < 500) (row : Nat) (hrw : row < 4) : CT l yX0_turn wsX0_turn (rmN 5 113) D vwCl [(cI, .int)] [.ref h, nV row, bV false] (wX cI h a n p b w wi ni A) (PD (some (nV ((tn p n A row w 1) 0))) (wX cI h a n p b w wi ni (ly A (tn p n A row w 1) row n))) 0 0 := by
  refine ct_of (plainFor_of_name (by decide)) rfl (Nat.le_of_ble_eq_true rfl) (fun φ C rX => ?_)
  refine xw_le (lv' := [(0, .ref h), (1, nV row), (2, bV false)]) rfl ?_
  have hn3 := lt3 hn
  refine xw_aload_n (pc := 0) C 0 dX0_turn_0 rfl ?_
  refine xw_iload_n (pc := 1) C 1 dX0_turn_1 rfl ?_
  refine xw_Vd (pc := 2) (q0 := 0) (na := 1) (rest := []) (st' := []) C (m_X0_requireRow row (by omega)) gX0_turn_X0_requireRow rfl rfl rfl rfl (by decide +kernel) ⟨Nat.le_of_ble_eq_true rfl, Nat.le_of_ble_eq_true rfl⟩ rfl rfl rfl (Nat.le_of_ble_eq_true rfl) dX0_turn_2 ⟨Nat.le_of_ble_eq_true rfl, Nat.le_of_ble_eq_true rfl⟩ rfl ?_
  refine xw_iload_n (pc := 5) C 2 dX0_turn_5 rfl ?_
  refine xw_if_eq_B (pc := 6) (tgt := 17) C dX0_turn_6 (by decide)  (fun c_1 => ?_) (fun c_1 => (by exact absurd c_1 (by decide)))
  refine xw_aload_n (pc := 17) C 0 dX0_turn_17 rfl ?_
  refine xw_iload_n (pc := 18) C 1 dX0_turn_18 rfl ?_
  refine xw_Vd (pc := 19) (q0 := 0) (na := 1) (rest := []) (st' := []) C (m_X0_scratchTones hp hp5 hn (hA) hw row (by omega)) gX0_turn_X0_scratchTones rfl rfl rfl rfl (by decide +kernel) ⟨Nat.le_of_ble_eq_true rfl, Nat.le_of_ble_eq_true rfl⟩ rfl rfl rfl (Nat.le_of_ble_eq_true rfl) dX0_turn_19 ⟨Nat.le_of_ble_eq_true rfl, Nat.le_of_ble_eq_true rfl⟩ rfl ?_
  refine xw_aload_n (pc := 22) C 0 dX0_turn_22 rfl ?_
  refine xw_iconst_N (pc := 23) C 4 dX0_turn_23 rfl ?_
  refine xw_iload_n (pc := 24) C 1 dX0_turn_24 rfl ?_
  refine xw_Vd (pc := 25) (q0 := 0) (na := 2) (rest := []) (st' := [nV (cc (fun j => decide ((sv A (tn p n A row w 1) n) (16 * row + j) ≠ (sv A (tn p n A row w 1) n) (16 * 4 + j))) n)]) C (m_X0_copyRow hn (sv_lt (g := (tn p n A row w 1)) hA (fun j _ => ml hp hp5)) 4 row (by omega) (by omega)) gX0_turn_X0_copyRow rfl rfl rfl rfl (by decide +kernel) ⟨Nat.le_of_ble_eq_true rfl, Nat.le_of_ble_eq_true rfl⟩ rfl rfl rfl (Nat.le_of_ble_eq_true rfl) dX0_turn_25 ⟨Nat.le_of_ble_eq_true rfl, Nat.le_of_ble_eq_true rfl⟩ rfl ?_
  refine xw_wo (w' := wX cI h a n p b w wi ni (ly A (tn p n A row w 1) row n)) rfl ?_
  refine xw_pop (pc := 28) C dX0_turn_28 rfl ?_
  refine xw_aload_n (pc := 29) C 0 dX0_turn_29 rfl ?_
  refine xw_iload_n (pc := 30) C 1 dX0_turn_30 rfl ?_
  refine xw_iconst_N (pc := 31) C 0 dX0_turn_31 rfl ?_
  refine xw_Vd (pc := 32) (q0 := 0) (na := 2) (rest := []) (st' := [nV ((ly A (tn p n A row w 1) row n) (16 * row + 0))]) C (m_X0_read row 0 (by omega) (by omega)) gX0_turn_X0_read rfl rfl rfl rfl (by decide +kernel) ⟨Nat.le_of_ble_eq_true rfl, Nat.le_of_ble_eq_true rfl⟩ rfl rfl rfl (Nat.le_of_ble_eq_true rfl) dX0_turn_32 ⟨Nat.le_of_ble_eq_true rfl, Nat.le_of_ble_eq_true rfl⟩ rfl ?_
  refine xw_st (st' := [nV ((tn p n A row w 1) 0)]) (by rw [ly_at (by omega)]) ?_
  exact xw_iret (pc := 35) C rX (Nat.le_refl _) (Nat.le_refl _) dX0_turn_35 (PD.i)

set_option maxHeartbeats 4000000 in
set_option maxRecDepth 100000 in
theorem m_X0_turn_true {l : Launch} {D : va_G} {cI : ClassId} {h a n p b w wi ni : Nat} {A : Nat → Nat} (hp : 0 < p) (hp5 : p < 500) (hn : n = 4 ∨ n = 8 ∨ n = 16) (hA : ∀ j, A j < 500) (hw : w < 500) (hwi : wi < 500) (hni : ni < 500) (row : Nat) (hrw : row < 4) : CT l yX0_turn wsX0_turn (rmN 5 113) D vwCl [(cI, .int)] [.ref h, nV row, bV true] (wX cI h a n p b w wi ni A) (PD (some (nV ((tn p n A row wi ni) 0))) (wX cI h a n p b w wi ni (ly A (tn p n A row wi ni) row n))) 0 0 := by
  refine ct_of (plainFor_of_name (by decide)) rfl (Nat.le_of_ble_eq_true rfl) (fun φ C rX => ?_)
  refine xw_le (lv' := [(0, .ref h), (1, nV row), (2, bV true)]) rfl ?_
  have hn3 := lt3 hn
  refine xw_aload_n (pc := 0) C 0 dX0_turn_0 rfl ?_
  refine xw_iload_n (pc := 1) C 1 dX0_turn_1 rfl ?_
  refine xw_Vd (pc := 2) (q0 := 0) (na := 1) (rest := []) (st' := []) C (m_X0_requireRow row (by omega)) gX0_turn_X0_requireRow rfl rfl rfl rfl (by decide +kernel) ⟨Nat.le_of_ble_eq_true rfl, Nat.le_of_ble_eq_true rfl⟩ rfl rfl rfl (Nat.le_of_ble_eq_true rfl) dX0_turn_2 ⟨Nat.le_of_ble_eq_true rfl, Nat.le_of_ble_eq_true rfl⟩ rfl ?_
  refine xw_iload_n (pc := 5) C 2 dX0_turn_5 rfl ?_
  refine xw_if_eq_B (pc := 6) (tgt := 17) C dX0_turn_6 (by decide)  (fun c_1 => (by exact absurd c_1 (by decide))) (fun c_1 => ?_)
  refine xw_aload_n (pc := 9) C 0 dX0_turn_9 rfl ?_
  refine xw_iload_n (pc := 10) C 1 dX0_turn_10 rfl ?_
  refine xw_Vd (pc := 11) (q0 := 0) (na := 1) (rest := []) (st' := []) C (m_X0_scratchTurnedBack hp hp5 hn hA hwi hni row (by omega)) gX0_turn_X0_scratchTurnedBack rfl rfl rfl rfl (by decide +kernel) ⟨Nat.le_of_ble_eq_true rfl, Nat.le_of_ble_eq_true rfl⟩ rfl rfl rfl (Nat.le_of_ble_eq_true rfl) dX0_turn_11 ⟨Nat.le_of_ble_eq_true rfl, Nat.le_of_ble_eq_true rfl⟩ rfl ?_
  refine xw_goto (pc := 14) (tgt := 22) C dX0_turn_14 (by decide) ?_
  refine xw_aload_n (pc := 22) C 0 dX0_turn_22 rfl ?_
  refine xw_iconst_N (pc := 23) C 4 dX0_turn_23 rfl ?_
  refine xw_iload_n (pc := 24) C 1 dX0_turn_24 rfl ?_
  refine xw_Vd (pc := 25) (q0 := 0) (na := 2) (rest := []) (st' := [nV (cc (fun j => decide ((sv A (tn p n A row wi ni) n) (16 * row + j) ≠ (sv A (tn p n A row wi ni) n) (16 * 4 + j))) n)]) C (m_X0_copyRow hn (sv_lt (g := (tn p n A row wi ni)) hA (fun j _ => ml hp hp5)) 4 row (by omega) (by omega)) gX0_turn_X0_copyRow rfl rfl rfl rfl (by decide +kernel) ⟨Nat.le_of_ble_eq_true rfl, Nat.le_of_ble_eq_true rfl⟩ rfl rfl rfl (Nat.le_of_ble_eq_true rfl) dX0_turn_25 ⟨Nat.le_of_ble_eq_true rfl, Nat.le_of_ble_eq_true rfl⟩ rfl ?_
  refine xw_wo (w' := wX cI h a n p b w wi ni (ly A (tn p n A row wi ni) row n)) rfl ?_
  refine xw_pop (pc := 28) C dX0_turn_28 rfl ?_
  refine xw_aload_n (pc := 29) C 0 dX0_turn_29 rfl ?_
  refine xw_iload_n (pc := 30) C 1 dX0_turn_30 rfl ?_
  refine xw_iconst_N (pc := 31) C 0 dX0_turn_31 rfl ?_
  refine xw_Vd (pc := 32) (q0 := 0) (na := 2) (rest := []) (st' := [nV ((ly A (tn p n A row wi ni) row n) (16 * row + 0))]) C (m_X0_read row 0 (by omega) (by omega)) gX0_turn_X0_read rfl rfl rfl rfl (by decide +kernel) ⟨Nat.le_of_ble_eq_true rfl, Nat.le_of_ble_eq_true rfl⟩ rfl rfl rfl (Nat.le_of_ble_eq_true rfl) dX0_turn_32 ⟨Nat.le_of_ble_eq_true rfl, Nat.le_of_ble_eq_true rfl⟩ rfl ?_
  refine xw_st (st' := [nV ((tn p n A row wi ni) 0)]) (by rw [ly_at (by omega)]) ?_
  exact xw_iret (pc := 35) C rX (Nat.le_refl _) (Nat.le_refl _) dX0_turn_35 (PD.i)

set_option maxHeartbeats 4000000 in
set_option maxRecDepth 100000 in
theorem m_X0_mirror {l : Launch} {D : va_G} {cI : ClassId} {h a n p b w wi ni : Nat} {A : Nat → Nat} (hn : n = 4 ∨ n = 8 ∨ n = 16) (hA : ∀ j, A j < 500) (hb : b = bt n) (row : Nat) (hrw : row < 4) : CT l yX0_mirror wsX0_mirror (rmN 2 49) D vwCl [(cI, .int)] [.ref h, nV row] (wX cI h a n p b w wi ni A) (PD (some (nV (cc (fun j => decide (A (16 * row + j) ≠ (fun m => A (16 * row + mi m (bt n))) j)) n))) (wX cI h a n p (bt n) w wi ni (ly A (fun m => A (16 * row + mi m (bt n))) row n))) 0 0 := by
  subst hb
  refine ct_of (plainFor_of_name (by decide)) rfl (Nat.le_of_ble_eq_true rfl) (fun φ C rX => ?_)
  have hin : ∀ w ∈ wsX00, w ∈ wsX0_mirror := by decide +kernel
  refine xw_le (lv' := [(0, .ref h), (1, nV row)]) rfl ?_
  have hn3 := lt3 hn
  refine xw_aload_n (pc := 0) C 0 dX0_mirror_0 rfl ?_
  refine xw_iload_n (pc := 1) C 1 dX0_mirror_1 rfl ?_
  refine xw_Vd (pc := 2) (q0 := 0) (na := 1) (rest := []) (st' := []) C (m_X0_requireRow row (by omega)) gX0_mirror_X0_requireRow rfl rfl rfl rfl (by decide +kernel) ⟨Nat.le_of_ble_eq_true rfl, Nat.le_of_ble_eq_true rfl⟩ rfl rfl rfl (Nat.le_of_ble_eq_true rfl) dX0_mirror_2 ⟨Nat.le_of_ble_eq_true rfl, Nat.le_of_ble_eq_true rfl⟩ rfl ?_
  refine xw_iconst_N (pc := 5) C 0 dX0_mirror_5 rfl ?_
  refine xw_istore_n (pc := 6) (lv' := [(0, .ref h), (1, nV row), (2, nV 0)]) C [1, 2, 0] dX0_mirror_6 rfl (by decide) rfl ?_
  have L7 : ∀ (fuel : Nat) (k : Nat), n < k + fuel → k ≤ n → xw φ 0 0 (wX cI h a n p (bt n) w wi ni (pf A n (fun m => mi m (bt n)) (fun k => A (16 * row + k)) k)) 7 [(0, .ref h), (1, nV row), (2, nV k)] [] := by
    intro fuel
    induction fuel with
    | zero =>
      intro k hk hkn
      omega
    | succ fuel ih7 =>
      intro k hk hkn
      refine xw_iload_n (pc := 7) C 2 dX0_mirror_7 rfl ?_
      refine xw_aload_n (pc := 8) C 0 dX0_mirror_8 rfl ?_
      refine xw_get (pc := 9) (T := TX0) (N := 7) (ref := "ToneButterflies") C hin 0 1 rfl rfl (by decide) (by decide +kernel) rfl rfl dX0_mirror_9 ?_
      refine xw_icmp_ge_N (pc := 12) (tgt := 37) C dX0_mirror_12 (by decide) (by omega) (by omega) (fun c_1 => ?_) (fun c_1 => ?_)
      ·
        refine xw_wo (w' := wX cI h a n p (bt n) w wi ni (sv A (fun m => A (16 * row + mi m (bt n))) n)) (by rw [show k = n from by omega, pf_n (fun m hm => (mi_p n (by omega) hn m (by omega) hm).1)]) ?_
        refine xw_aload_n (pc := 37) C 0 dX0_mirror_37 rfl ?_
        refine xw_iconst_N (pc := 38) C 4 dX0_mirror_38 rfl ?_
        refine xw_iload_n (pc := 39) C 1 dX0_mirror_39 rfl ?_
        refine xw_Vd (pc := 40) (q0 := 0) (na := 2) (rest := []) (st' := [nV (cc (fun j => decide ((sv A (fun m => A (16 * row + mi m (bt n))) n) (16 * row + j) ≠ (sv A (fun m => A (16 * row + mi m (bt n))) n) (16 * 4 + j))) n)]) C (m_X0_copyRow hn (sv_lt (g := (fun m => A (16 * row + mi m (bt n)))) hA (fun j _ => hA _)) 4 row (by omega) (by omega)) gX0_mirror_X0_copyRow rfl rfl rfl rfl (by decide +kernel) ⟨Nat.le_of_ble_eq_true rfl, Nat.le_of_ble_eq_true rfl⟩ rfl rfl rfl (Nat.le_of_ble_eq_true rfl) dX0_mirror_40 ⟨Nat.le_of_ble_eq_true rfl, Nat.le_of_ble_eq_true rfl⟩ rfl ?_
        refine xw_st (st' := [nV (cc (fun j => decide (A (16 * row + j) ≠ (fun m => A (16 * row + mi m (bt n))) j)) n)]) (by rw [show cc (fun j => decide (sv A (fun m => A (16 * row + mi m (bt n))) n (16 * row + j) ≠ sv A (fun m => A (16 * row + mi m (bt n))) n (16 * 4 + j))) n = _ from ly_cc (by omega) hrw]) ?_
        refine xw_wo (w' := wX cI h a n p (bt n) w wi ni (ly A (fun m => A (16 * row + mi m (bt n))) row n)) rfl ?_
        exact xw_iret (pc := 43) C rX (Nat.le_refl _) (Nat.le_refl _) dX0_mirror_43 (PD.i)
      ·
        have hm := mi_p n (by omega) hn k (by omega) (by omega)
        refine xw_aload_n (pc := 15) C 0 dX0_mirror_15 rfl ?_
        refine xw_iconst_N (pc := 16) C 4 dX0_mirror_16 rfl ?_
        refine xw_aload_n (pc := 17) C 0 dX0_mirror_17 rfl ?_
        refine xw_iload_n (pc := 18) C 2 dX0_mirror_18 rfl ?_
        refine xw_Vd (pc := 19) (q0 := 0) (na := 1) (rest := [nV 4, .ref h]) (st' := [nV (mi k (bt n)), nV 4, .ref h]) C (m_X0_mirrored (show bt n < 5 by unfold bt; split <;> (try split) <;> omega) k (by omega)) gX0_mirror_X0_mirrored rfl rfl rfl rfl (by decide +kernel) ⟨Nat.le_of_ble_eq_true rfl, Nat.le_of_ble_eq_true rfl⟩ rfl rfl rfl (Nat.le_of_ble_eq_true rfl) dX0_mirror_19 ⟨Nat.le_of_ble_eq_true rfl, Nat.le_of_ble_eq_true rfl⟩ rfl ?_
        refine xw_aload_n (pc := 22) C 0 dX0_mirror_22 rfl ?_
        refine xw_iload_n (pc := 23) C 1 dX0_mirror_23 rfl ?_
        refine xw_iload_n (pc := 24) C 2 dX0_mirror_24 rfl ?_
        refine xw_Vd (pc := 25) (q0 := 0) (na := 2) (rest := [nV (mi k (bt n)), nV 4, .ref h]) (st' := [nV ((pf A n (fun m => mi m (bt n)) (fun k => A (16 * row + k)) k) (16 * row + k)), nV (mi k (bt n)), nV 4, .ref h]) C (m_X0_read row k (by omega) (by omega)) gX0_mirror_X0_read rfl rfl rfl rfl (by decide +kernel) ⟨Nat.le_of_ble_eq_true rfl, Nat.le_of_ble_eq_true rfl⟩ rfl rfl rfl (Nat.le_of_ble_eq_true rfl) dX0_mirror_25 ⟨Nat.le_of_ble_eq_true rfl, Nat.le_of_ble_eq_true rfl⟩ rfl ?_
        refine xw_st (st' := [nV (A (16 * row + k)), nV (mi k (bt n)), nV 4, .ref h]) (by rw [pf_lo (by omega)]) ?_
        refine xw_Vd (pc := 28) (q0 := 0) (na := 3) (rest := []) (st' := []) C (m_X0_write 4 (mi k (bt n)) (A (16 * row + k)) (by omega) (by omega)) gX0_mirror_X0_write rfl rfl rfl rfl (by decide +kernel) ⟨Nat.le_of_ble_eq_true rfl, Nat.le_of_ble_eq_true rfl⟩ rfl rfl rfl (Nat.le_of_ble_eq_true rfl) dX0_mirror_28 ⟨Nat.le_of_ble_eq_true rfl, Nat.le_of_ble_eq_true rfl⟩ rfl ?_
        refine xw_wo (w' := wX cI h a n p (bt n) w wi ni (pf A n (fun m => mi m (bt n)) (fun k => A (16 * row + k)) (k + 1))) (by rw [pf_s rfl hm.1 hm.2 (fun m hm1 hm2 => by rw [← (mi_p n (by omega) hn m (by omega) hm1).2]; exact congrArg (fun z => mi z (bt n)) hm2)]) ?_
        refine xw_iinc_N (pc := 31) (b := k + 1) (lv' := [(0, .ref h), (1, nV row), (2, nV (k + 1))]) C 2 [1, 2, 0] dX0_mirror_31 rfl (by decide) rfl rfl ?_
        refine xw_goto (pc := 34) (tgt := 7) C dX0_mirror_34 (by decide) ?_
        exact ih7 (k + 1) (by omega) (by omega)
  refine xw_wo (w' := wX cI h a n p (bt n) w wi ni (pf A n (fun m => mi m (bt n)) (fun k => A (16 * row + k)) 0)) (by rw [pf_0]) ?_
  exact L7 (n + 1) 0 (by omega) (by omega)

set_option maxHeartbeats 4000000 in
set_option maxRecDepth 100000 in
theorem m_X0_stage {l : Launch} {D : va_G} {cI : ClassId} {h a n p b w wi ni : Nat} {A : Nat → Nat} (hp1 : 1 < p) (hp : 0 < p) (hp5 : p < 500) (hn : n = 4 ∨ n = 8 ∨ n = 16) (hA : ∀ j, A j < 500) (hw : w < 500) (hb : b = bt n) (row st : Nat) (hrw : row < 4) (hst : st < b) (hf : Nat) (hhf : hf = 2 ^ st) : CT l yX0_stage wsX0_stage (rmN 3 69) D vwCl [(cI, .int)] [.ref h, nV row, nV st] (wX cI h a n p b w wi ni A) (PD (some (nV (sg p n w A row hf 0))) (wX cI h a n p b w wi ni (mr A row (sg p n w A row hf) n))) 0 0 := by
  refine ct_of (plainFor_of_name (by decide)) rfl (Nat.le_of_ble_eq_true rfl) (fun φ C rX => ?_)
  have hin : ∀ w ∈ wsX00, w ∈ wsX0_stage := by decide +kernel
  refine xw_le (lv' := [(0, .ref h), (1, nV row), (2, nV st)]) rfl ?_
  have hn3 := lt3 hn
  have hbt : bt n ≤ 4 := by unfold bt; split <;> (try split) <;> omega
  have hh4 : (hf = 1 ∨ hf = 2 ∨ hf = 4 ∨ hf = 8) ∧ 2 * hf ≤ n ∧ n % (2 * hf) = 0 ∧ st < 4 := stH n hn st (hb ▸ hst) hf hhf
  refine xw_aload_n (pc := 0) C 0 dX0_stage_0 rfl ?_
  refine xw_iload_n (pc := 1) C 1 dX0_stage_1 rfl ?_
  refine xw_Vd (pc := 2) (q0 := 0) (na := 1) (rest := []) (st' := []) C (m_X0_requireRow row (by omega)) gX0_stage_X0_requireRow rfl rfl rfl rfl (by decide +kernel) ⟨Nat.le_of_ble_eq_true rfl, Nat.le_of_ble_eq_true rfl⟩ rfl rfl rfl (Nat.le_of_ble_eq_true rfl) dX0_stage_2 ⟨Nat.le_of_ble_eq_true rfl, Nat.le_of_ble_eq_true rfl⟩ rfl ?_
  refine xw_iload_n (pc := 5) C 2 dX0_stage_5 rfl ?_
  refine xw_if_lt_N (pc := 6) (tgt := 17) C dX0_stage_6 (by decide) (by omega) (fun c_1 => (by exfalso; omega)) (fun c_1 => ?_)
  refine xw_iload_n (pc := 9) C 2 dX0_stage_9 rfl ?_
  refine xw_aload_n (pc := 10) C 0 dX0_stage_10 rfl ?_
  refine xw_get (pc := 11) (T := TX0) (N := 7) (ref := "ToneButterflies") C hin 0 3 rfl rfl (by decide) (by decide +kernel) rfl rfl dX0_stage_11 ?_
  refine xw_icmp_lt_N (pc := 14) (tgt := 27) C dX0_stage_14 (by decide) (by omega) (by omega) (fun c_2 => ?_) (fun c_2 => (by exfalso; omega))
  refine xw_iconst_N (pc := 27) C 1 dX0_stage_27 rfl ?_
  refine xw_iload_n (pc := 28) C 2 dX0_stage_28 rfl ?_
  refine xw_ishl (pc := 29) (r := iI ((hf : Nat) : Int)) C dX0_stage_29 (by rw [shl_k st (by omega), ← hhf]) ?_
  refine xw_istore_n (pc := 30) (lv' := [(0, .ref h), (1, nV row), (2, nV st), (3, nV hf)]) C [1, 2, 3, 0] dX0_stage_30 rfl (by decide) rfl ?_
  refine xw_iconst_N (pc := 31) C 0 dX0_stage_31 rfl ?_
  refine xw_istore (pc := 32) (lv' := [(0, .ref h), (1, nV row), (2, nV st), (3, nV hf), (4, nV 0)]) C [1, 2, 3, 4, 0] dX0_stage_32 (by decide) rfl ?_
  have L34 : ∀ (fuel : Nat) (c bk : Nat), n < bk + fuel → bk = 2 * hf * c → bk ≤ n → xw φ 0 0 (wX cI h a n p b w wi ni (stg p n w A row hf bk 0)) 34 [(0, .ref h), (1, nV row), (2, nV st), (3, nV hf), (4, nV bk)] [] := by
    intro fuel
    induction fuel with
    | zero =>
      intro c bk hk hbk hbn
      omega
    | succ fuel ih34 =>
      intro c bk hk hbk hbn
      refine xw_iload (pc := 34) C 4 dX0_stage_34 rfl ?_
      refine xw_aload_n (pc := 36) C 0 dX0_stage_36 rfl ?_
      refine xw_get (pc := 37) (T := TX0) (N := 7) (ref := "ToneButterflies") C hin 0 1 rfl rfl (by decide) (by decide +kernel) rfl rfl dX0_stage_37 ?_
      refine xw_icmp_ge_N (pc := 40) (tgt := 109) C dX0_stage_40 (by decide) (by omega) (by omega) (fun c_3 => ?_) (fun c_3 => ?_)
      ·
        refine xw_wo (w' := wX cI h a n p b w wi ni (mr A row (sg p n w A row hf) n)) (by rw [show bk = n from by omega, stg_n]) ?_
        refine xw_aload_n (pc := 109) C 0 dX0_stage_109 rfl ?_
        refine xw_iload_n (pc := 110) C 1 dX0_stage_110 rfl ?_
        refine xw_iconst_N (pc := 111) C 0 dX0_stage_111 rfl ?_
        refine xw_Vd (pc := 112) (q0 := 0) (na := 2) (rest := []) (st' := [nV ((mr A row (sg p n w A row hf) n) (16 * row + 0))]) C (m_X0_read row 0 (by omega) (by omega)) gX0_stage_X0_read rfl rfl rfl rfl (by decide +kernel) ⟨Nat.le_of_ble_eq_true rfl, Nat.le_of_ble_eq_true rfl⟩ rfl rfl rfl (Nat.le_of_ble_eq_true rfl) dX0_stage_112 ⟨Nat.le_of_ble_eq_true rfl, Nat.le_of_ble_eq_true rfl⟩ rfl ?_
        refine xw_st (st' := [nV (sg p n w A row hf 0)]) (by rw [mr_in (by omega)]) ?_
        exact xw_iret (pc := 115) C rX (Nat.le_refl _) (Nat.le_refl _) dX0_stage_115 (PD.i)
      ·
        have hbn2 : bk + 2 * hf ≤ n := by
          obtain ⟨h1, h2, h3, h4⟩ := hh4
          rcases h1 with rfl | rfl | rfl | rfl <;> rcases hn with rfl | rfl | rfl <;> omega
        refine xw_iconst_N (pc := 43) C 0 dX0_stage_43 rfl ?_
        refine xw_istore (pc := 44) (lv' := [(0, .ref h), (1, nV row), (2, nV st), (3, nV hf), (4, nV bk), (5, nV 0)]) C [1, 2, 3, 4, 5, 0] dX0_stage_44 (by decide) rfl ?_
        have L46 : ∀ (fuel : Nat) (j : Nat), hf < j + fuel → j ≤ hf → xw φ 0 0 (wX cI h a n p b w wi ni (stg p n w A row hf bk j)) 46 [(0, .ref h), (1, nV row), (2, nV st), (3, nV hf), (4, nV bk), (5, nV j)] [] := by
          intro fuel
          induction fuel with
          | zero =>
            intro j hj hjh
            omega
          | succ fuel ih46 =>
            intro j hj hjh
            refine xw_iload (pc := 46) C 5 dX0_stage_46 rfl ?_
            refine xw_iload_n (pc := 48) C 3 dX0_stage_48 rfl ?_
            refine xw_icmp_ge_N (pc := 49) (tgt := 98) C dX0_stage_49 (by decide) (by omega) (by omega) (fun c_4 => ?_) (fun c_4 => ?_)
            ·
              refine xw_wo (w' := wX cI h a n p b w wi ni (stg p n w A row hf (bk + 2 * hf) 0)) (by rw [show j = hf from by omega, stg_o (by omega)]) ?_
              refine xw_iload (pc := 98) C 4 dX0_stage_98 rfl ?_
              refine xw_iconst_N (pc := 100) C 2 dX0_stage_100 rfl ?_
              refine xw_iload_n (pc := 101) C 3 dX0_stage_101 rfl ?_
              refine xw_imul_N (pc := 102) C dX0_stage_102 ?_
              refine xw_iadd_N (pc := 103) C dX0_stage_103 ?_
              refine xw_istore (pc := 104) (lv' := [(0, .ref h), (1, nV row), (2, nV st), (3, nV hf), (4, nV (bk + (2 * hf))), (5, nV j)]) C [1, 2, 3, 4, 0, 5] dX0_stage_104 (by decide) rfl ?_
              refine xw_goto (pc := 106) (tgt := 34) C dX0_stage_106 (by decide) ?_
              refine xw_lv (lv' := [(0, .ref h), (1, nV row), (2, nV st), (3, nV hf), (4, nV (bk + (2 * hf)))]) [0, 1, 2, 3, 4] rfl ?_
              exact ih34 (c + 1) _ (by omega) (by rw [hbk, Nat.mul_succ]) (by omega)
            ·
              have hdv := Nat.div_le_self n (2 * hf)
              have hmu := Nat.mul_le_mul (show j ≤ 8 by omega) (show n / (2 * hf) ≤ 16 by omega)
              refine xw_aload_n (pc := 52) C 0 dX0_stage_52 rfl ?_
              refine xw_aload_n (pc := 53) C 0 dX0_stage_53 rfl ?_
              refine xw_get (pc := 54) (T := TX0) (N := 7) (ref := "ToneButterflies") C hin 0 4 rfl rfl (by decide) (by decide +kernel) rfl rfl dX0_stage_54 ?_
              refine xw_iload (pc := 57) C 5 dX0_stage_57 rfl ?_
              refine xw_aload_n (pc := 59) C 0 dX0_stage_59 rfl ?_
              refine xw_get (pc := 60) (T := TX0) (N := 7) (ref := "ToneButterflies") C hin 0 1 rfl rfl (by decide) (by decide +kernel) rfl rfl dX0_stage_60 ?_
              refine xw_iload_n (pc := 63) C 2 dX0_stage_63 rfl ?_
              refine xw_iconst_N (pc := 64) C 1 dX0_stage_64 rfl ?_
              refine xw_iadd_N (pc := 65) C dX0_stage_65 ?_
              refine xw_ishr (pc := 66) (r := iI ((n / (2 * hf) : Nat) : Int)) C dX0_stage_66 (by rw [shr_k5 n (by omega) (st + 1) (by omega), Nat.pow_succ, ← hhf, Nat.mul_comm hf 2]) ?_
              refine xw_imul_N (pc := 67) C dX0_stage_67 ?_
              refine xw_Vd (pc := 68) (q0 := 0) (na := 2) (rest := []) (st' := [nV (w ^ (j * (n / (2 * hf))) % p)]) C (m_X0_powerOf hp1 hp5 w (j * (n / (2 * hf))) (by omega) (by omega)) gX0_stage_X0_powerOf rfl rfl rfl rfl (by decide +kernel) ⟨Nat.le_of_ble_eq_true rfl, Nat.le_of_ble_eq_true rfl⟩ rfl rfl rfl (Nat.le_of_ble_eq_true rfl) dX0_stage_68 ⟨Nat.le_of_ble_eq_true rfl, Nat.le_of_ble_eq_true rfl⟩ rfl ?_
              refine xw_istore (pc := 71) (lv' := [(0, .ref h), (1, nV row), (2, nV st), (3, nV hf), (4, nV bk), (5, nV j), (6, nV (w ^ (j * (n / (2 * hf))) % p))]) C [1, 2, 3, 4, 5, 6, 0] dX0_stage_71 (by decide) rfl ?_
              have htw := Nat.mod_lt (w ^ (j * (n / (2 * hf)))) hp
              refine xw_aload_n (pc := 73) C 0 dX0_stage_73 rfl ?_
              refine xw_iload_n (pc := 74) C 1 dX0_stage_74 rfl ?_
              refine xw_iload (pc := 75) C 4 dX0_stage_75 rfl ?_
              refine xw_iload (pc := 77) C 5 dX0_stage_77 rfl ?_
              refine xw_iadd_N (pc := 79) C dX0_stage_79 ?_
              refine xw_iload (pc := 80) C 4 dX0_stage_80 rfl ?_
              refine xw_iload (pc := 82) C 5 dX0_stage_82 rfl ?_
              refine xw_iadd_N (pc := 84) C dX0_stage_84 ?_
              refine xw_iload_n (pc := 85) C 3 dX0_stage_85 rfl ?_
              refine xw_iadd_N (pc := 86) C dX0_stage_86 ?_
              refine xw_iload (pc := 87) C 6 dX0_stage_87 rfl ?_
              refine xw_Vd (pc := 89) (q0 := 0) (na := 4) (rest := []) (st' := []) C (m_X0_butterfly hp hp5 (stg_lt hp hp5 hA) row (bk + j) ((bk + j) + hf) (w ^ (j * (n / (2 * hf))) % p) (by omega) (by omega) (by omega) (by omega)) gX0_stage_X0_butterfly rfl rfl rfl rfl (by decide +kernel) ⟨Nat.le_of_ble_eq_true rfl, Nat.le_of_ble_eq_true rfl⟩ rfl rfl rfl (Nat.le_of_ble_eq_true rfl) dX0_stage_89 ⟨Nat.le_of_ble_eq_true rfl, Nat.le_of_ble_eq_true rfl⟩ rfl ?_
              refine xw_wo (w' := wX cI h a n p b w wi ni (stg p n w A row hf bk (j + 1))) (by rw [stg_s hh4.1 hbk (by omega) hbn2]) ?_
              refine xw_iinc_N (pc := 92) (b := j + 1) (lv' := [(0, .ref h), (1, nV row), (2, nV st), (3, nV hf), (4, nV bk), (5, nV (j + 1)), (6, nV (w ^ (j * (n / (2 * hf))) % p))]) C 5 [1, 2, 3, 4, 5, 0, 6] dX0_stage_92 rfl (by decide) rfl rfl ?_
              refine xw_goto (pc := 95) (tgt := 46) C dX0_stage_95 (by decide) ?_
              refine xw_lv (lv' := [(0, .ref h), (1, nV row), (2, nV st), (3, nV hf), (4, nV bk), (5, nV (j + 1))]) [0, 1, 2, 3, 4, 5] rfl ?_
              exact ih46 (j + 1) (by omega) (by omega)
        exact L46 (hf + 1) 0 (by omega) (by omega)
  refine xw_wo (w' := wX cI h a n p b w wi ni (stg p n w A row hf 0 0)) (by rw [stg_0]) ?_
  exact L34 (n + 1) 0 0 (by omega) (by omega) (by omega)

set_option maxHeartbeats 4000000 in
set_option maxRecDepth 100000 in
theorem m_X0_fold {l : Launch} {D : va_G} {cI : ClassId} {h a n p b w wi ni : Nat} {A : Nat → Nat} (hp : 0 < p) (hp5 : p < 500) (hn : n = 4 ∨ n = 8 ∨ n = 16) (hA : ∀ j, A j < 500) (ra rb : Nat) (hra : ra < 4) (hrb : rb < 4) : CT l yX0_fold wsX0_fold (rmN 3 68) D vwCl [(cI, .int)] [.ref h, nV ra, nV rb] (wX cI h a n p b w wi ni A) (PD (some (nV (fo p n A ra rb 0 n))) (wX cI h a n p b w wi ni (ly A (fun k => fo p n A ra rb k n) ra n))) 0 0 := by
  refine ct_of (plainFor_of_name (by decide)) rfl (Nat.le_of_ble_eq_true rfl) (fun φ C rX => ?_)
  have hin : ∀ w ∈ wsX00, w ∈ wsX0_fold := by decide +kernel
  refine xw_le (lv' := [(0, .ref h), (1, nV ra), (2, nV rb)]) rfl ?_
  have hn3 := lt3 hn
  refine xw_aload_n (pc := 0) C 0 dX0_fold_0 rfl ?_
  refine xw_iload_n (pc := 1) C 1 dX0_fold_1 rfl ?_
  refine xw_Vd (pc := 2) (q0 := 0) (na := 1) (rest := []) (st' := []) C (m_X0_requireRow ra (by omega)) gX0_fold_X0_requireRow rfl rfl rfl rfl (by decide +kernel) ⟨Nat.le_of_ble_eq_true rfl, Nat.le_of_ble_eq_true rfl⟩ rfl rfl rfl (Nat.le_of_ble_eq_true rfl) dX0_fold_2 ⟨Nat.le_of_ble_eq_true rfl, Nat.le_of_ble_eq_true rfl⟩ rfl ?_
  refine xw_aload_n (pc := 5) C 0 dX0_fold_5 rfl ?_
  refine xw_iload_n (pc := 6) C 2 dX0_fold_6 rfl ?_
  refine xw_Vd (pc := 7) (q0 := 0) (na := 1) (rest := []) (st' := []) C (m_X0_requireRow rb (by omega)) gX0_fold_X0_requireRow rfl rfl rfl rfl (by decide +kernel) ⟨Nat.le_of_ble_eq_true rfl, Nat.le_of_ble_eq_true rfl⟩ rfl rfl rfl (Nat.le_of_ble_eq_true rfl) dX0_fold_7 ⟨Nat.le_of_ble_eq_true rfl, Nat.le_of_ble_eq_true rfl⟩ rfl ?_
  refine xw_iconst_N (pc := 10) C 0 dX0_fold_10 rfl ?_
  refine xw_istore_n (pc := 11) (lv' := [(0, .ref h), (1, nV ra), (2, nV rb), (3, nV 0)]) C [1, 2, 3, 0] dX0_fold_11 rfl (by decide) rfl ?_
  have L12 : ∀ (fuel : Nat) (k : Nat), n < k + fuel → k ≤ n → xw φ 0 0 (wX cI h a n p b w wi ni (sv A (fun k => fo p n A ra rb k n) k)) 12 [(0, .ref h), (1, nV ra), (2, nV rb), (3, nV k)] [] := by
    intro fuel
    induction fuel with
    | zero =>
      intro k hk hkn
      omega
    | succ fuel ih12 =>
      intro k hk hkn
      refine xw_iload_n (pc := 12) C 3 dX0_fold_12 rfl ?_
      refine xw_aload_n (pc := 13) C 0 dX0_fold_13 rfl ?_
      refine xw_get (pc := 14) (T := TX0) (N := 7) (ref := "ToneButterflies") C hin 0 1 rfl rfl (by decide) (by decide +kernel) rfl rfl dX0_fold_14 ?_
      refine xw_icmp_ge_N (pc := 17) (tgt := 39) C dX0_fold_17 (by decide) (by omega) (by omega) (fun c_1 => ?_) (fun c_1 => ?_)
      ·
        refine xw_wo (w' := wX cI h a n p b w wi ni (sv A (fun k => fo p n A ra rb k n) n)) (by rw [show k = n from by omega]) ?_
        refine xw_aload_n (pc := 39) C 0 dX0_fold_39 rfl ?_
        refine xw_iconst_N (pc := 40) C 4 dX0_fold_40 rfl ?_
        refine xw_iload_n (pc := 41) C 1 dX0_fold_41 rfl ?_
        refine xw_Vd (pc := 42) (q0 := 0) (na := 2) (rest := []) (st' := [nV (cc (fun j => decide ((sv A (fun k => fo p n A ra rb k n) n) (16 * ra + j) ≠ (sv A (fun k => fo p n A ra rb k n) n) (16 * 4 + j))) n)]) C (m_X0_copyRow hn (sv_lt (g := (fun k => fo p n A ra rb k n)) hA (fun j _ => Nat.lt_trans (fo_lt hp n) hp5)) 4 ra (by omega) (by omega)) gX0_fold_X0_copyRow rfl rfl rfl rfl (by decide +kernel) ⟨Nat.le_of_ble_eq_true rfl, Nat.le_of_ble_eq_true rfl⟩ rfl rfl rfl (Nat.le_of_ble_eq_true rfl) dX0_fold_42 ⟨Nat.le_of_ble_eq_true rfl, Nat.le_of_ble_eq_true rfl⟩ rfl ?_
        refine xw_wo (w' := wX cI h a n p b w wi ni (ly A (fun k => fo p n A ra rb k n) ra n)) rfl ?_
        refine xw_pop (pc := 45) C dX0_fold_45 rfl ?_
        refine xw_aload_n (pc := 46) C 0 dX0_fold_46 rfl ?_
        refine xw_iload_n (pc := 47) C 1 dX0_fold_47 rfl ?_
        refine xw_iconst_N (pc := 48) C 0 dX0_fold_48 rfl ?_
        refine xw_Vd (pc := 49) (q0 := 0) (na := 2) (rest := []) (st' := [nV ((ly A (fun k => fo p n A ra rb k n) ra n) (16 * ra + 0))]) C (m_X0_read ra 0 (by omega) (by omega)) gX0_fold_X0_read rfl rfl rfl rfl (by decide +kernel) ⟨Nat.le_of_ble_eq_true rfl, Nat.le_of_ble_eq_true rfl⟩ rfl rfl rfl (Nat.le_of_ble_eq_true rfl) dX0_fold_49 ⟨Nat.le_of_ble_eq_true rfl, Nat.le_of_ble_eq_true rfl⟩ rfl ?_
        refine xw_st (st' := [nV (fo p n A ra rb 0 n)]) (by rw [ly_at (by omega)]) ?_
        exact xw_iret (pc := 52) C rX (Nat.le_refl _) (Nat.le_refl _) dX0_fold_52 (PD.i)
      ·
        refine xw_aload_n (pc := 20) C 0 dX0_fold_20 rfl ?_
        refine xw_iconst_N (pc := 21) C 4 dX0_fold_21 rfl ?_
        refine xw_iload_n (pc := 22) C 3 dX0_fold_22 rfl ?_
        refine xw_aload_n (pc := 23) C 0 dX0_fold_23 rfl ?_
        refine xw_iload_n (pc := 24) C 1 dX0_fold_24 rfl ?_
        refine xw_iload_n (pc := 25) C 2 dX0_fold_25 rfl ?_
        refine xw_iload_n (pc := 26) C 3 dX0_fold_26 rfl ?_
        refine xw_Vd (pc := 27) (q0 := 0) (na := 3) (rest := [nV k, nV 4, .ref h]) (st' := [nV (fo p n (sv A (fun k => fo p n A ra rb k n) k) ra rb k n), nV k, nV 4, .ref h]) C (m_X0_foldedAt hp hp5 hn (sv_lt (g := (fun k => fo p n A ra rb k n)) hA (fun j _ => Nat.lt_trans (fo_lt hp n) hp5)) ra rb k (by omega) (by omega) (by omega)) gX0_fold_X0_foldedAt rfl rfl rfl rfl (by decide +kernel) ⟨Nat.le_of_ble_eq_true rfl, Nat.le_of_ble_eq_true rfl⟩ rfl rfl rfl (Nat.le_of_ble_eq_true rfl) dX0_fold_27 ⟨Nat.le_of_ble_eq_true rfl, Nat.le_of_ble_eq_true rfl⟩ rfl ?_
        refine xw_st (st' := [nV (fo p n A ra rb k n), nV k, nV 4, .ref h]) (by rw [fo_cg (B := A) (by omega) (fun k9 h9 => sv_lo (by omega)) (fun k9 h9 => sv_lo (by omega)) n (Nat.le_refl n)]) ?_
        refine xw_Vd (pc := 30) (q0 := 0) (na := 3) (rest := []) (st' := []) C (m_X0_write 4 k (fo p n A ra rb k n) (by omega) (by omega)) gX0_fold_X0_write rfl rfl rfl rfl (by decide +kernel) ⟨Nat.le_of_ble_eq_true rfl, Nat.le_of_ble_eq_true rfl⟩ rfl rfl rfl (Nat.le_of_ble_eq_true rfl) dX0_fold_30 ⟨Nat.le_of_ble_eq_true rfl, Nat.le_of_ble_eq_true rfl⟩ rfl ?_
        refine xw_wo (w' := wX cI h a n p b w wi ni (sv A (fun k => fo p n A ra rb k n) (k + 1))) (by rw [sv_s rfl]) ?_
        refine xw_iinc_N (pc := 33) (b := k + 1) (lv' := [(0, .ref h), (1, nV ra), (2, nV rb), (3, nV (k + 1))]) C 3 [1, 2, 3, 0] dX0_fold_33 rfl (by decide) rfl rfl ?_
        refine xw_goto (pc := 36) (tgt := 12) C dX0_fold_36 (by decide) ?_
        exact ih12 (k + 1) (by omega) (by omega)
  refine xw_wo (w' := wX cI h a n p b w wi ni (sv A (fun k => fo p n A ra rb k n) 0)) (by rw [sv_0]) ?_
  exact L12 (n + 1) 0 (by omega) (by omega)

set_option maxHeartbeats 4000000 in
set_option maxRecDepth 100000 in
theorem m_X0_join {l : Launch} {D : va_G} {cI : ClassId} {h a n p b w wi ni : Nat} {A : Nat → Nat} (hp : 0 < p) (hp5 : p < 500) (hn : n = 4 ∨ n = 8 ∨ n = 16) (hA : ∀ j, A j < 500) (hAp : ∀ j, j < 64 → A j < p) (ra rb : Nat) (hra : ra < 4) (hrb : rb < 4) (what : Nat) (hwh : what < 3) : CT l yX0_join wsX0_join (rmN 3 66) D vwCl [(cI, .int)] [.ref h, nV ra, nV rb, nV what] (wX cI h a n p b w wi ni A) (PD (some (nV (cc (fun k => decide (mr A ra (fun i => jn p (A (16 * ra + i)) (A (16 * rb + i)) what) n (16 * ra + k) ≠ 0)) n))) (wX cI h a n p b w wi ni (mr A ra (fun i => jn p (A (16 * ra + i)) (A (16 * rb + i)) what) n))) 0 0 := by
  refine ct_of (plainFor_of_name (by decide)) rfl (Nat.le_of_ble_eq_true rfl) (fun φ C rX => ?_)
  have hin : ∀ w ∈ wsX00, w ∈ wsX0_join := by decide +kernel
  refine xw_le (lv' := [(0, .ref h), (1, nV ra), (2, nV rb), (3, nV what)]) rfl ?_
  have hn3 := lt3 hn
  refine xw_aload_n (pc := 0) C 0 dX0_join_0 rfl ?_
  refine xw_iload_n (pc := 1) C 1 dX0_join_1 rfl ?_
  refine xw_Vd (pc := 2) (q0 := 0) (na := 1) (rest := []) (st' := []) C (m_X0_requireRow ra (by omega)) gX0_join_X0_requireRow rfl rfl rfl rfl (by decide +kernel) ⟨Nat.le_of_ble_eq_true rfl, Nat.le_of_ble_eq_true rfl⟩ rfl rfl rfl (Nat.le_of_ble_eq_true rfl) dX0_join_2 ⟨Nat.le_of_ble_eq_true rfl, Nat.le_of_ble_eq_true rfl⟩ rfl ?_
  refine xw_aload_n (pc := 5) C 0 dX0_join_5 rfl ?_
  refine xw_iload_n (pc := 6) C 2 dX0_join_6 rfl ?_
  refine xw_Vd (pc := 7) (q0 := 0) (na := 1) (rest := []) (st' := []) C (m_X0_requireRow rb (by omega)) gX0_join_X0_requireRow rfl rfl rfl rfl (by decide +kernel) ⟨Nat.le_of_ble_eq_true rfl, Nat.le_of_ble_eq_true rfl⟩ rfl rfl rfl (Nat.le_of_ble_eq_true rfl) dX0_join_7 ⟨Nat.le_of_ble_eq_true rfl, Nat.le_of_ble_eq_true rfl⟩ rfl ?_
  refine xw_iload_n (pc := 10) C 3 dX0_join_10 rfl ?_
  refine xw_if_lt_N (pc := 11) (tgt := 19) C dX0_join_11 (by decide) (by omega) (fun c_1 => (by exfalso; omega)) (fun c_1 => ?_)
  refine xw_iload_n (pc := 14) C 3 dX0_join_14 rfl ?_
  refine xw_iconst_N (pc := 15) C 3 dX0_join_15 rfl ?_
  refine xw_icmp_lt_N (pc := 16) (tgt := 29) C dX0_join_16 (by decide) (by omega) (by omega) (fun c_2 => ?_) (fun c_2 => (by exfalso; omega))
  refine xw_iconst_N (pc := 29) C 0 dX0_join_29 rfl ?_
  refine xw_istore (pc := 30) (lv' := [(0, .ref h), (1, nV ra), (2, nV rb), (3, nV what), (4, nV 0)]) C [1, 2, 3, 4, 0] dX0_join_30 (by decide) rfl ?_
  have L32 : ∀ (fuel : Nat) (k : Nat), n < k + fuel → k ≤ n → xw φ 0 0 (wX cI h a n p b w wi ni (mr A ra (fun i => jn p (A (16 * ra + i)) (A (16 * rb + i)) what) k)) 32 [(0, .ref h), (1, nV ra), (2, nV rb), (3, nV what), (4, nV k)] [] := by
    intro fuel
    induction fuel with
    | zero =>
      intro k hk hkn
      omega
    | succ fuel ih32 =>
      intro k hk hkn
      refine xw_iload (pc := 32) C 4 dX0_join_32 rfl ?_
      refine xw_aload_n (pc := 34) C 0 dX0_join_34 rfl ?_
      refine xw_get (pc := 35) (T := TX0) (N := 7) (ref := "ToneButterflies") C hin 0 1 rfl rfl (by decide) (by decide +kernel) rfl rfl dX0_join_35 ?_
      refine xw_icmp_ge_N (pc := 38) (tgt := 73) C dX0_join_38 (by decide) (by omega) (by omega) (fun c_3 => ?_) (fun c_3 => ?_)
      ·
        refine xw_wo (w' := wX cI h a n p b w wi ni (mr A ra (fun i => jn p (A (16 * ra + i)) (A (16 * rb + i)) what) n)) (by rw [show k = n from by omega]) ?_
        refine xw_aload_n (pc := 73) C 0 dX0_join_73 rfl ?_
        refine xw_iload_n (pc := 74) C 1 dX0_join_74 rfl ?_
        refine xw_Vd (pc := 75) (q0 := 0) (na := 1) (rest := []) (st' := [nV (cc (fun k => decide ((mr A ra (fun i => jn p (A (16 * ra + i)) (A (16 * rb + i)) what) n) (16 * ra + k) ≠ 0)) n)]) C (m_X0_nonZeros hn (mr_lt (g := (fun i => jn p (A (16 * ra + i)) (A (16 * rb + i)) what)) hA (fun j _ => Nat.lt_trans (jn_lt hp what) hp5)) ra (by omega)) gX0_join_X0_nonZeros rfl rfl rfl rfl (by decide +kernel) ⟨Nat.le_of_ble_eq_true rfl, Nat.le_of_ble_eq_true rfl⟩ rfl rfl rfl (Nat.le_of_ble_eq_true rfl) dX0_join_75 ⟨Nat.le_of_ble_eq_true rfl, Nat.le_of_ble_eq_true rfl⟩ rfl ?_
        exact xw_iret (pc := 78) C rX (Nat.le_refl _) (Nat.le_refl _) dX0_join_78 (PD.i)
      ·
        have hb1 := hA (16 * ra + k)
        have hb2 := hAp (16 * rb + k) (by omega)
        refine xw_aload_n (pc := 41) C 0 dX0_join_41 rfl ?_
        refine xw_iload_n (pc := 42) C 1 dX0_join_42 rfl ?_
        refine xw_iload (pc := 43) C 4 dX0_join_43 rfl ?_
        refine xw_aload_n (pc := 45) C 0 dX0_join_45 rfl ?_
        refine xw_aload_n (pc := 46) C 0 dX0_join_46 rfl ?_
        refine xw_iload_n (pc := 47) C 1 dX0_join_47 rfl ?_
        refine xw_iload (pc := 48) C 4 dX0_join_48 rfl ?_
        refine xw_Vd (pc := 50) (q0 := 0) (na := 2) (rest := [.ref h, nV k, nV ra, .ref h]) (st' := [nV ((mr A ra (fun i => jn p (A (16 * ra + i)) (A (16 * rb + i)) what) k) (16 * ra + k)), .ref h, nV k, nV ra, .ref h]) C (m_X0_read ra k (by omega) (by omega)) gX0_join_X0_read rfl rfl rfl rfl (by decide +kernel) ⟨Nat.le_of_ble_eq_true rfl, Nat.le_of_ble_eq_true rfl⟩ rfl rfl rfl (Nat.le_of_ble_eq_true rfl) dX0_join_50 ⟨Nat.le_of_ble_eq_true rfl, Nat.le_of_ble_eq_true rfl⟩ rfl ?_
        refine xw_st (st' := [nV (A (16 * ra + k)), .ref h, nV k, nV ra, .ref h]) (by rw [mr_at (by omega)]) ?_
        refine xw_aload_n (pc := 53) C 0 dX0_join_53 rfl ?_
        refine xw_iload_n (pc := 54) C 2 dX0_join_54 rfl ?_
        refine xw_iload (pc := 55) C 4 dX0_join_55 rfl ?_
        refine xw_Vd (pc := 57) (q0 := 0) (na := 2) (rest := [nV (A (16 * ra + k)), .ref h, nV k, nV ra, .ref h]) (st' := [nV ((mr A ra (fun i => jn p (A (16 * ra + i)) (A (16 * rb + i)) what) k) (16 * rb + k)), nV (A (16 * ra + k)), .ref h, nV k, nV ra, .ref h]) C (m_X0_read rb k (by omega) (by omega)) gX0_join_X0_read rfl rfl rfl rfl (by decide +kernel) ⟨Nat.le_of_ble_eq_true rfl, Nat.le_of_ble_eq_true rfl⟩ rfl rfl rfl (Nat.le_of_ble_eq_true rfl) dX0_join_57 ⟨Nat.le_of_ble_eq_true rfl, Nat.le_of_ble_eq_true rfl⟩ rfl ?_
        refine xw_st (st' := [nV (A (16 * rb + k)), nV (A (16 * ra + k)), .ref h, nV k, nV ra, .ref h]) (by rw [mr_at (by omega)]) ?_
        refine xw_iload_n (pc := 60) C 3 dX0_join_60 rfl ?_
        refine xw_Vd (pc := 61) (q0 := 0) (na := 3) (rest := [nV k, nV ra, .ref h]) (st' := [nV (jn p (A (16 * ra + k)) (A (16 * rb + k)) what), nV k, nV ra, .ref h]) C (m_X0_joined hp hp5 (A (16 * ra + k)) (A (16 * rb + k)) what (by omega) (by omega) (by omega)) gX0_join_X0_joined rfl rfl rfl rfl (by decide +kernel) ⟨Nat.le_of_ble_eq_true rfl, Nat.le_of_ble_eq_true rfl⟩ rfl rfl rfl (Nat.le_of_ble_eq_true rfl) dX0_join_61 ⟨Nat.le_of_ble_eq_true rfl, Nat.le_of_ble_eq_true rfl⟩ rfl ?_
        refine xw_Vd (pc := 64) (q0 := 0) (na := 3) (rest := []) (st' := []) C (m_X0_write ra k (jn p (A (16 * ra + k)) (A (16 * rb + k)) what) (by omega) (by omega)) gX0_join_X0_write rfl rfl rfl rfl (by decide +kernel) ⟨Nat.le_of_ble_eq_true rfl, Nat.le_of_ble_eq_true rfl⟩ rfl rfl rfl (Nat.le_of_ble_eq_true rfl) dX0_join_64 ⟨Nat.le_of_ble_eq_true rfl, Nat.le_of_ble_eq_true rfl⟩ rfl ?_
        refine xw_wo (w' := wX cI h a n p b w wi ni (mr A ra (fun i => jn p (A (16 * ra + i)) (A (16 * rb + i)) what) (k + 1))) (by rw [mr_s rfl]) ?_
        refine xw_iinc_N (pc := 67) (b := k + 1) (lv' := [(0, .ref h), (1, nV ra), (2, nV rb), (3, nV what), (4, nV (k + 1))]) C 4 [1, 2, 3, 4, 0] dX0_join_67 rfl (by decide) rfl rfl ?_
        refine xw_goto (pc := 70) (tgt := 32) C dX0_join_70 (by decide) ?_
        exact ih32 (k + 1) (by omega) (by omega)
  refine xw_wo (w' := wX cI h a n p b w wi ni (mr A ra (fun i => jn p (A (16 * ra + i)) (A (16 * rb + i)) what) 0)) (by rw [mr_0]) ?_
  exact L32 (n + 1) 0 (by omega) (by omega)

set_option maxHeartbeats 4000000 in
set_option maxRecDepth 100000 in
theorem m_X0_times {l : Launch} {D : va_G} {cI : ClassId} {h a n p b w wi ni : Nat} {A : Nat → Nat} (hp : 0 < p) (hp5 : p < 500) (hn : n = 4 ∨ n = 8 ∨ n = 16) (hA : ∀ j, A j < 500) (row : Nat) (hrw : row < 4) (f : Nat) (hf : f < p) : CT l yX0_times wsX0_times (rmN 2 46) D vwCl [(cI, .int)] [.ref h, nV row, nV f] (wX cI h a n p b w wi ni A) (PD (some (nV (cc (fun k => decide (mr A row (fun i => A (16 * row + i) * f % p) n (16 * row + k) ≠ 0)) n))) (wX cI h a n p b w wi ni (mr A row (fun i => A (16 * row + i) * f % p) n))) 0 0 := by
  refine ct_of (plainFor_of_name (by decide)) rfl (Nat.le_of_ble_eq_true rfl) (fun φ C rX => ?_)
  have hin : ∀ w ∈ wsX00, w ∈ wsX0_times := by decide +kernel
  refine xw_le (lv' := [(0, .ref h), (1, nV row), (2, nV f)]) rfl ?_
  have hn3 := lt3 hn
  refine xw_aload_n (pc := 0) C 0 dX0_times_0 rfl ?_
  refine xw_iload_n (pc := 1) C 1 dX0_times_1 rfl ?_
  refine xw_Vd (pc := 2) (q0 := 0) (na := 1) (rest := []) (st' := []) C (m_X0_requireRow row (by omega)) gX0_times_X0_requireRow rfl rfl rfl rfl (by decide +kernel) ⟨Nat.le_of_ble_eq_true rfl, Nat.le_of_ble_eq_true rfl⟩ rfl rfl rfl (Nat.le_of_ble_eq_true rfl) dX0_times_2 ⟨Nat.le_of_ble_eq_true rfl, Nat.le_of_ble_eq_true rfl⟩ rfl ?_
  refine xw_aload_n (pc := 5) C 0 dX0_times_5 rfl ?_
  refine xw_iload_n (pc := 6) C 2 dX0_times_6 rfl ?_
  refine xw_Vd (pc := 7) (q0 := 0) (na := 1) (rest := []) (st' := []) C (m_X0_requireNumber hp5 f (by omega)) gX0_times_X0_requireNumber rfl rfl rfl rfl (by decide +kernel) ⟨Nat.le_of_ble_eq_true rfl, Nat.le_of_ble_eq_true rfl⟩ rfl rfl rfl (Nat.le_of_ble_eq_true rfl) dX0_times_7 ⟨Nat.le_of_ble_eq_true rfl, Nat.le_of_ble_eq_true rfl⟩ rfl ?_
  refine xw_iconst_N (pc := 10) C 0 dX0_times_10 rfl ?_
  refine xw_istore_n (pc := 11) (lv' := [(0, .ref h), (1, nV row), (2, nV f), (3, nV 0)]) C [1, 2, 3, 0] dX0_times_11 rfl (by decide) rfl ?_
  have L12 : ∀ (fuel : Nat) (k : Nat), n < k + fuel → k ≤ n → xw φ 0 0 (wX cI h a n p b w wi ni (mr A row (fun i => A (16 * row + i) * f % p) k)) 12 [(0, .ref h), (1, nV row), (2, nV f), (3, nV k)] [] := by
    intro fuel
    induction fuel with
    | zero =>
      intro k hk hkn
      omega
    | succ fuel ih12 =>
      intro k hk hkn
      refine xw_iload_n (pc := 12) C 3 dX0_times_12 rfl ?_
      refine xw_aload_n (pc := 13) C 0 dX0_times_13 rfl ?_
      refine xw_get (pc := 14) (T := TX0) (N := 7) (ref := "ToneButterflies") C hin 0 1 rfl rfl (by decide) (by decide +kernel) rfl rfl dX0_times_14 ?_
      refine xw_icmp_ge_N (pc := 17) (tgt := 44) C dX0_times_17 (by decide) (by omega) (by omega) (fun c_1 => ?_) (fun c_1 => ?_)
      ·
        refine xw_wo (w' := wX cI h a n p b w wi ni (mr A row (fun i => A (16 * row + i) * f % p) n)) (by rw [show k = n from by omega]) ?_
        refine xw_aload_n (pc := 44) C 0 dX0_times_44 rfl ?_
        refine xw_iload_n (pc := 45) C 1 dX0_times_45 rfl ?_
        refine xw_Vd (pc := 46) (q0 := 0) (na := 1) (rest := []) (st' := [nV (cc (fun k => decide ((mr A row (fun i => A (16 * row + i) * f % p) n) (16 * row + k) ≠ 0)) n)]) C (m_X0_nonZeros hn (mr_lt (g := (fun i => A (16 * row + i) * f % p)) hA (fun j _ => ml hp hp5)) row (by omega)) gX0_times_X0_nonZeros rfl rfl rfl rfl (by decide +kernel) ⟨Nat.le_of_ble_eq_true rfl, Nat.le_of_ble_eq_true rfl⟩ rfl rfl rfl (Nat.le_of_ble_eq_true rfl) dX0_times_46 ⟨Nat.le_of_ble_eq_true rfl, Nat.le_of_ble_eq_true rfl⟩ rfl ?_
        exact xw_iret (pc := 49) C rX (Nat.le_refl _) (Nat.le_refl _) dX0_times_49 (PD.i)
      ·
        have hb1 := hA (16 * row + k)
        refine xw_aload_n (pc := 20) C 0 dX0_times_20 rfl ?_
        refine xw_iload_n (pc := 21) C 1 dX0_times_21 rfl ?_
        refine xw_iload_n (pc := 22) C 3 dX0_times_22 rfl ?_
        refine xw_aload_n (pc := 23) C 0 dX0_times_23 rfl ?_
        refine xw_aload_n (pc := 24) C 0 dX0_times_24 rfl ?_
        refine xw_iload_n (pc := 25) C 1 dX0_times_25 rfl ?_
        refine xw_iload_n (pc := 26) C 3 dX0_times_26 rfl ?_
        refine xw_Vd (pc := 27) (q0 := 0) (na := 2) (rest := [.ref h, nV k, nV row, .ref h]) (st' := [nV ((mr A row (fun i => A (16 * row + i) * f % p) k) (16 * row + k)), .ref h, nV k, nV row, .ref h]) C (m_X0_read row k (by omega) (by omega)) gX0_times_X0_read rfl rfl rfl rfl (by decide +kernel) ⟨Nat.le_of_ble_eq_true rfl, Nat.le_of_ble_eq_true rfl⟩ rfl rfl rfl (Nat.le_of_ble_eq_true rfl) dX0_times_27 ⟨Nat.le_of_ble_eq_true rfl, Nat.le_of_ble_eq_true rfl⟩ rfl ?_
        refine xw_st (st' := [nV (A (16 * row + k)), .ref h, nV k, nV row, .ref h]) (by rw [mr_at (by omega)]) ?_
        refine xw_iload_n (pc := 30) C 2 dX0_times_30 rfl ?_
        refine xw_imul_N (pc := 31) C dX0_times_31 ?_
        refine xw_Vd (pc := 32) (q0 := 0) (na := 1) (rest := [nV k, nV row, .ref h]) (st' := [nV (((A (16 * row + k)) * f) % p), nV k, nV row, .ref h]) C (m_X0_reduced hp hp5 (((A (16 * row + k)) * f : Nat) : Int) (((A (16 * row + k)) * f) % p) (Int.natCast_emod _ _).symm (rgN (mb0 hb1 (by omega)))) gX0_times_X0_reduced rfl rfl rfl rfl (by decide +kernel) ⟨Nat.le_of_ble_eq_true rfl, Nat.le_of_ble_eq_true rfl⟩ rfl rfl rfl (Nat.le_of_ble_eq_true rfl) dX0_times_32 ⟨Nat.le_of_ble_eq_true rfl, Nat.le_of_ble_eq_true rfl⟩ rfl ?_
        refine xw_Vd (pc := 35) (q0 := 0) (na := 3) (rest := []) (st' := []) C (m_X0_write row k (((A (16 * row + k)) * f) % p) (by omega) (by omega)) gX0_times_X0_write rfl rfl rfl rfl (by decide +kernel) ⟨Nat.le_of_ble_eq_true rfl, Nat.le_of_ble_eq_true rfl⟩ rfl rfl rfl (Nat.le_of_ble_eq_true rfl) dX0_times_35 ⟨Nat.le_of_ble_eq_true rfl, Nat.le_of_ble_eq_true rfl⟩ rfl ?_
        refine xw_wo (w' := wX cI h a n p b w wi ni (mr A row (fun i => A (16 * row + i) * f % p) (k + 1))) (by rw [mr_s rfl]) ?_
        refine xw_iinc_N (pc := 38) (b := k + 1) (lv' := [(0, .ref h), (1, nV row), (2, nV f), (3, nV (k + 1))]) C 3 [1, 2, 3, 0] dX0_times_38 rfl (by decide) rfl rfl ?_
        refine xw_goto (pc := 41) (tgt := 12) C dX0_times_41 (by decide) ?_
        exact ih12 (k + 1) (by omega) (by omega)
  refine xw_wo (w' := wX cI h a n p b w wi ni (mr A row (fun i => A (16 * row + i) * f % p) 0)) (by rw [mr_0]) ?_
  exact L12 (n + 1) 0 (by omega) (by omega)

set_option maxHeartbeats 4000000 in
set_option maxRecDepth 100000 in
theorem m_X0_move {l : Launch} {D : va_G} {cI : ClassId} {h a n p b w wi ni : Nat} {A : Nat → Nat} (hn : n = 4 ∨ n = 8 ∨ n = 16) (hA : ∀ j, A j < 500) (row : Nat) (hrw : row < 4) (q : Nat) (hq : q < n) : CT l yX0_move wsX0_move (rmN 2 49) D vwCl [(cI, .int)] [.ref h, nV row, nV q] (wX cI h a n p b w wi ni A) (PD (some (nV ((fun m => A (16 * row + (m + n - q) % n)) 0))) (wX cI h a n p b w wi ni (ly A (fun m => A (16 * row + (m + n - q) % n)) row n))) 0 0 := by
  refine ct_of (plainFor_of_name (by decide)) rfl (Nat.le_of_ble_eq_true rfl) (fun φ C rX => ?_)
  have hin : ∀ w ∈ wsX00, w ∈ wsX0_move := by decide +kernel
  refine xw_le (lv' := [(0, .ref h), (1, nV row), (2, nV q)]) rfl ?_
  have hn3 := lt3 hn
  refine xw_aload_n (pc := 0) C 0 dX0_move_0 rfl ?_
  refine xw_iload_n (pc := 1) C 1 dX0_move_1 rfl ?_
  refine xw_Vd (pc := 2) (q0 := 0) (na := 1) (rest := []) (st' := []) C (m_X0_requireRow row (by omega)) gX0_move_X0_requireRow rfl rfl rfl rfl (by decide +kernel) ⟨Nat.le_of_ble_eq_true rfl, Nat.le_of_ble_eq_true rfl⟩ rfl rfl rfl (Nat.le_of_ble_eq_true rfl) dX0_move_2 ⟨Nat.le_of_ble_eq_true rfl, Nat.le_of_ble_eq_true rfl⟩ rfl ?_
  refine xw_iload_n (pc := 5) C 2 dX0_move_5 rfl ?_
  refine xw_if_lt_N (pc := 6) (tgt := 17) C dX0_move_6 (by decide) (by omega) (fun c_1 => (by exfalso; omega)) (fun c_1 => ?_)
  refine xw_iload_n (pc := 9) C 2 dX0_move_9 rfl ?_
  refine xw_aload_n (pc := 10) C 0 dX0_move_10 rfl ?_
  refine xw_get (pc := 11) (T := TX0) (N := 7) (ref := "ToneButterflies") C hin 0 1 rfl rfl (by decide) (by decide +kernel) rfl rfl dX0_move_11 ?_
  refine xw_icmp_lt_N (pc := 14) (tgt := 27) C dX0_move_14 (by decide) (by omega) (by omega) (fun c_2 => ?_) (fun c_2 => (by exfalso; omega))
  refine xw_iconst_N (pc := 27) C 0 dX0_move_27 rfl ?_
  refine xw_istore_n (pc := 28) (lv' := [(0, .ref h), (1, nV row), (2, nV q), (3, nV 0)]) C [1, 2, 3, 0] dX0_move_28 rfl (by decide) rfl ?_
  have L29 : ∀ (fuel : Nat) (k : Nat), n < k + fuel → k ≤ n → xw φ 0 0 (wX cI h a n p b w wi ni (pf A n (fun m => (m + n - q) % n) (fun k => A (16 * row + k)) k)) 29 [(0, .ref h), (1, nV row), (2, nV q), (3, nV k)] [] := by
    intro fuel
    induction fuel with
    | zero =>
      intro k hk hkn
      omega
    | succ fuel ih29 =>
      intro k hk hkn
      refine xw_iload_n (pc := 29) C 3 dX0_move_29 rfl ?_
      refine xw_aload_n (pc := 30) C 0 dX0_move_30 rfl ?_
      refine xw_get (pc := 31) (T := TX0) (N := 7) (ref := "ToneButterflies") C hin 0 1 rfl rfl (by decide) (by decide +kernel) rfl rfl dX0_move_31 ?_
      refine xw_icmp_ge_N (pc := 34) (tgt := 61) C dX0_move_34 (by decide) (by omega) (by omega) (fun c_3 => ?_) (fun c_3 => ?_)
      ·
        refine xw_wo (w' := wX cI h a n p b w wi ni (sv A (fun m => A (16 * row + (m + n - q) % n)) n)) (by rw [show k = n from by omega, pf_n (fun m hm => Nat.mod_lt _ (by omega))]) ?_
        refine xw_aload_n (pc := 61) C 0 dX0_move_61 rfl ?_
        refine xw_iconst_N (pc := 62) C 4 dX0_move_62 rfl ?_
        refine xw_iload_n (pc := 63) C 1 dX0_move_63 rfl ?_
        refine xw_Vd (pc := 64) (q0 := 0) (na := 2) (rest := []) (st' := [nV (cc (fun j => decide ((sv A (fun m => A (16 * row + (m + n - q) % n)) n) (16 * row + j) ≠ (sv A (fun m => A (16 * row + (m + n - q) % n)) n) (16 * 4 + j))) n)]) C (m_X0_copyRow hn (sv_lt (g := (fun m => A (16 * row + (m + n - q) % n))) hA (fun j _ => hA _)) 4 row (by omega) (by omega)) gX0_move_X0_copyRow rfl rfl rfl rfl (by decide +kernel) ⟨Nat.le_of_ble_eq_true rfl, Nat.le_of_ble_eq_true rfl⟩ rfl rfl rfl (Nat.le_of_ble_eq_true rfl) dX0_move_64 ⟨Nat.le_of_ble_eq_true rfl, Nat.le_of_ble_eq_true rfl⟩ rfl ?_
        refine xw_wo (w' := wX cI h a n p b w wi ni (ly A (fun m => A (16 * row + (m + n - q) % n)) row n)) rfl ?_
        refine xw_pop (pc := 67) C dX0_move_67 rfl ?_
        refine xw_aload_n (pc := 68) C 0 dX0_move_68 rfl ?_
        refine xw_iload_n (pc := 69) C 1 dX0_move_69 rfl ?_
        refine xw_iconst_N (pc := 70) C 0 dX0_move_70 rfl ?_
        refine xw_Vd (pc := 71) (q0 := 0) (na := 2) (rest := []) (st' := [nV ((ly A (fun m => A (16 * row + (m + n - q) % n)) row n) (16 * row + 0))]) C (m_X0_read row 0 (by omega) (by omega)) gX0_move_X0_read rfl rfl rfl rfl (by decide +kernel) ⟨Nat.le_of_ble_eq_true rfl, Nat.le_of_ble_eq_true rfl⟩ rfl rfl rfl (Nat.le_of_ble_eq_true rfl) dX0_move_71 ⟨Nat.le_of_ble_eq_true rfl, Nat.le_of_ble_eq_true rfl⟩ rfl ?_
        refine xw_st (st' := [nV ((fun m => A (16 * row + (m + n - q) % n)) 0)]) (by rw [ly_at (by omega)]) ?_
        exact xw_iret (pc := 74) C rX (Nat.le_refl _) (Nat.le_refl _) dX0_move_74 (PD.i)
      ·
        have hm := Nat.mod_lt (k + q) (show n > 0 by omega)
        have hm2 := (mv_p hq (show k < n by omega)).1
        refine xw_aload_n (pc := 37) C 0 dX0_move_37 rfl ?_
        refine xw_iconst_N (pc := 38) C 4 dX0_move_38 rfl ?_
        refine xw_aload_n (pc := 39) C 0 dX0_move_39 rfl ?_
        refine xw_iload_n (pc := 40) C 3 dX0_move_40 rfl ?_
        refine xw_iload_n (pc := 41) C 2 dX0_move_41 rfl ?_
        refine xw_iadd_N (pc := 42) C dX0_move_42 ?_
        refine xw_Vd (pc := 43) (q0 := 0) (na := 1) (rest := [nV 4, .ref h]) (st' := [nV ((k + q) % n), nV 4, .ref h]) C (m_X0_wrapped hn (((k + q : Nat) : Int)) ((k + q) % n) ((Int.natCast_emod _ _).symm)) gX0_move_X0_wrapped rfl rfl rfl rfl (by decide +kernel) ⟨Nat.le_of_ble_eq_true rfl, Nat.le_of_ble_eq_true rfl⟩ rfl rfl rfl (Nat.le_of_ble_eq_true rfl) dX0_move_43 ⟨Nat.le_of_ble_eq_true rfl, Nat.le_of_ble_eq_true rfl⟩ rfl ?_
        refine xw_aload_n (pc := 46) C 0 dX0_move_46 rfl ?_
        refine xw_iload_n (pc := 47) C 1 dX0_move_47 rfl ?_
        refine xw_iload_n (pc := 48) C 3 dX0_move_48 rfl ?_
        refine xw_Vd (pc := 49) (q0 := 0) (na := 2) (rest := [nV ((k + q) % n), nV 4, .ref h]) (st' := [nV ((pf A n (fun m => (m + n - q) % n) (fun k => A (16 * row + k)) k) (16 * row + k)), nV ((k + q) % n), nV 4, .ref h]) C (m_X0_read row k (by omega) (by omega)) gX0_move_X0_read rfl rfl rfl rfl (by decide +kernel) ⟨Nat.le_of_ble_eq_true rfl, Nat.le_of_ble_eq_true rfl⟩ rfl rfl rfl (Nat.le_of_ble_eq_true rfl) dX0_move_49 ⟨Nat.le_of_ble_eq_true rfl, Nat.le_of_ble_eq_true rfl⟩ rfl ?_
        refine xw_st (st' := [nV (A (16 * row + k)), nV ((k + q) % n), nV 4, .ref h]) (by rw [pf_lo (by omega)]) ?_
        refine xw_Vd (pc := 52) (q0 := 0) (na := 3) (rest := []) (st' := []) C (m_X0_write 4 ((k + q) % n) (A (16 * row + k)) (by omega) (by omega)) gX0_move_X0_write rfl rfl rfl rfl (by decide +kernel) ⟨Nat.le_of_ble_eq_true rfl, Nat.le_of_ble_eq_true rfl⟩ rfl rfl rfl (Nat.le_of_ble_eq_true rfl) dX0_move_52 ⟨Nat.le_of_ble_eq_true rfl, Nat.le_of_ble_eq_true rfl⟩ rfl ?_
        refine xw_wo (w' := wX cI h a n p b w wi ni (pf A n (fun m => (m + n - q) % n) (fun k => A (16 * row + k)) (k + 1))) (by rw [pf_s rfl hm hm2 (fun m hm1 hm3 => by rw [← (mv_p hq hm1).2]; exact congrArg (fun z => (z + q) % n) hm3)]) ?_
        refine xw_iinc_N (pc := 55) (b := k + 1) (lv' := [(0, .ref h), (1, nV row), (2, nV q), (3, nV (k + 1))]) C 3 [1, 2, 3, 0] dX0_move_55 rfl (by decide) rfl rfl ?_
        refine xw_goto (pc := 58) (tgt := 29) C dX0_move_58 (by decide) ?_
        exact ih29 (k + 1) (by omega) (by omega)
  refine xw_wo (w' := wX cI h a n p b w wi ni (pf A n (fun m => (m + n - q) % n) (fun k => A (16 * row + k)) 0)) (by rw [pf_0]) ?_
  exact L29 (n + 1) 0 (by omega) (by omega)

set_option maxHeartbeats 4000000 in
set_option maxRecDepth 100000 in
theorem m_X0_at {l : Launch} {D : va_G} {cI : ClassId} {h a n p b w wi ni : Nat} {A : Nat → Nat} (hn : n = 4 ∨ n = 8 ∨ n = 16) (row : Nat) (hrw : row < 4) (q : Nat) (hq : q < n) : CT l yX0_at wsX0_at (rmN 1 23) D vwCl [(cI, .int)] [.ref h, nV row, nV q] (wX cI h a n p b w wi ni A) (PD (some (nV (A (16 * row + q)))) (wX cI h a n p b w wi ni A)) 0 0 := by
  refine ct_of (plainFor_of_name (by decide)) rfl (Nat.le_of_ble_eq_true rfl) (fun φ C rX => ?_)
  refine xw_le (lv' := [(0, .ref h), (1, nV row), (2, nV q)]) rfl ?_
  have hn3 := lt3 hn
  refine xw_aload_n (pc := 0) C 0 dX0_at_0 rfl ?_
  refine xw_iload_n (pc := 1) C 1 dX0_at_1 rfl ?_
  refine xw_Vd (pc := 2) (q0 := 0) (na := 1) (rest := []) (st' := []) C (m_X0_requireRow row (by omega)) gX0_at_X0_requireRow rfl rfl rfl rfl (by decide +kernel) ⟨Nat.le_of_ble_eq_true rfl, Nat.le_of_ble_eq_true rfl⟩ rfl rfl rfl (Nat.le_of_ble_eq_true rfl) dX0_at_2 ⟨Nat.le_of_ble_eq_true rfl, Nat.le_of_ble_eq_true rfl⟩ rfl ?_
  refine xw_aload_n (pc := 5) C 0 dX0_at_5 rfl ?_
  refine xw_iload_n (pc := 6) C 2 dX0_at_6 rfl ?_
  refine xw_Vd (pc := 7) (q0 := 0) (na := 1) (rest := []) (st' := []) C (m_X0_requirePlace (by omega) q (by omega)) gX0_at_X0_requirePlace rfl rfl rfl rfl (by decide +kernel) ⟨Nat.le_of_ble_eq_true rfl, Nat.le_of_ble_eq_true rfl⟩ rfl rfl rfl (Nat.le_of_ble_eq_true rfl) dX0_at_7 ⟨Nat.le_of_ble_eq_true rfl, Nat.le_of_ble_eq_true rfl⟩ rfl ?_
  refine xw_aload_n (pc := 10) C 0 dX0_at_10 rfl ?_
  refine xw_iload_n (pc := 11) C 1 dX0_at_11 rfl ?_
  refine xw_iload_n (pc := 12) C 2 dX0_at_12 rfl ?_
  refine xw_Vd (pc := 13) (q0 := 0) (na := 2) (rest := []) (st' := [nV (A (16 * row + q))]) C (m_X0_read row q (by omega) (by omega)) gX0_at_X0_read rfl rfl rfl rfl (by decide +kernel) ⟨Nat.le_of_ble_eq_true rfl, Nat.le_of_ble_eq_true rfl⟩ rfl rfl rfl (Nat.le_of_ble_eq_true rfl) dX0_at_13 ⟨Nat.le_of_ble_eq_true rfl, Nat.le_of_ble_eq_true rfl⟩ rfl ?_
  exact xw_iret (pc := 16) C rX (Nat.le_refl _) (Nat.le_refl _) dX0_at_16 (PD.i)

set_option maxHeartbeats 4000000 in
set_option maxRecDepth 100000 in
theorem m_X0_point {l : Launch} {D : va_G} {cI : ClassId} {h a n p b w wi ni : Nat} {A : Nat → Nat} (hp : 0 < p) (hp5 : p < 500) (hn : n = 4 ∨ n = 8 ∨ n = 16) (hA : ∀ j, A j < 500) (row : Nat) (hrw : row < 4) (x : Nat) (hx : x < p) : CT l yX0_point wsX0_point (rmN 3 67) D vwCl [(cI, .int)] [.ref h, nV row, nV x] (wX cI h a n p b w wi ni A) (PD (some (nV (pv p n A row x))) (wX cI h a n p b w wi ni A)) 0 0 := by
  refine ct_of (plainFor_of_name (by decide)) rfl (Nat.le_of_ble_eq_true rfl) (fun φ C rX => ?_)
  refine xw_le (lv' := [(0, .ref h), (1, nV row), (2, nV x)]) rfl ?_
  have hn3 := lt3 hn
  refine xw_aload_n (pc := 0) C 0 dX0_point_0 rfl ?_
  refine xw_iload_n (pc := 1) C 1 dX0_point_1 rfl ?_
  refine xw_Vd (pc := 2) (q0 := 0) (na := 1) (rest := []) (st' := []) C (m_X0_requireRow row (by omega)) gX0_point_X0_requireRow rfl rfl rfl rfl (by decide +kernel) ⟨Nat.le_of_ble_eq_true rfl, Nat.le_of_ble_eq_true rfl⟩ rfl rfl rfl (Nat.le_of_ble_eq_true rfl) dX0_point_2 ⟨Nat.le_of_ble_eq_true rfl, Nat.le_of_ble_eq_true rfl⟩ rfl ?_
  refine xw_aload_n (pc := 5) C 0 dX0_point_5 rfl ?_
  refine xw_iload_n (pc := 6) C 2 dX0_point_6 rfl ?_
  refine xw_Vd (pc := 7) (q0 := 0) (na := 1) (rest := []) (st' := []) C (m_X0_requireNumber hp5 x (by omega)) gX0_point_X0_requireNumber rfl rfl rfl rfl (by decide +kernel) ⟨Nat.le_of_ble_eq_true rfl, Nat.le_of_ble_eq_true rfl⟩ rfl rfl rfl (Nat.le_of_ble_eq_true rfl) dX0_point_7 ⟨Nat.le_of_ble_eq_true rfl, Nat.le_of_ble_eq_true rfl⟩ rfl ?_
  refine xw_aload_n (pc := 10) C 0 dX0_point_10 rfl ?_
  refine xw_iload_n (pc := 11) C 1 dX0_point_11 rfl ?_
  refine xw_iload_n (pc := 12) C 2 dX0_point_12 rfl ?_
  refine xw_Vd (pc := 13) (q0 := 0) (na := 2) (rest := []) (st' := [nV (pv p n A row x)]) C (m_X0_valueAt hp hp5 hn (hA) row x (by omega) (by omega)) gX0_point_X0_valueAt rfl rfl rfl rfl (by decide +kernel) ⟨Nat.le_of_ble_eq_true rfl, Nat.le_of_ble_eq_true rfl⟩ rfl rfl rfl (Nat.le_of_ble_eq_true rfl) dX0_point_13 ⟨Nat.le_of_ble_eq_true rfl, Nat.le_of_ble_eq_true rfl⟩ rfl ?_
  exact xw_iret (pc := 16) C rX (Nat.le_refl _) (Nat.le_refl _) dX0_point_16 (PD.i)

set_option maxHeartbeats 4000000 in
set_option maxRecDepth 100000 in
theorem m_X0_about {l : Launch} {D : va_G} {cI : ClassId} {h a n p b w wi ni : Nat} {A : Nat → Nat} (hp : 0 < p) (hp5 : p < 500) (hn : n = 4 ∨ n = 8 ∨ n = 16) (hA : ∀ j, A j < 500) (row : Nat) (hrw : row < 4) (what : Nat) (hwh : what < 5) : CT l yX0_about wsX0_about (rmN 4 91) D vwCl [(cI, .int)] [.ref h, nV row, nV what] (wX cI h a n p b w wi ni A) (PD (some (iV (tl p n A row what))) (wX cI h a n p b w wi ni A)) 0 0 := by
  refine ct_of (plainFor_of_name (by decide)) rfl (Nat.le_of_ble_eq_true rfl) (fun φ C rX => ?_)
  refine xw_le (lv' := [(0, .ref h), (1, nV row), (2, nV what)]) rfl ?_
  have hn3 := lt3 hn
  refine xw_aload_n (pc := 0) C 0 dX0_about_0 rfl ?_
  refine xw_iload_n (pc := 1) C 1 dX0_about_1 rfl ?_
  refine xw_Vd (pc := 2) (q0 := 0) (na := 1) (rest := []) (st' := []) C (m_X0_requireRow row (by omega)) gX0_about_X0_requireRow rfl rfl rfl rfl (by decide +kernel) ⟨Nat.le_of_ble_eq_true rfl, Nat.le_of_ble_eq_true rfl⟩ rfl rfl rfl (Nat.le_of_ble_eq_true rfl) dX0_about_2 ⟨Nat.le_of_ble_eq_true rfl, Nat.le_of_ble_eq_true rfl⟩ rfl ?_
  refine xw_iload_n (pc := 5) C 2 dX0_about_5 rfl ?_
  refine xw_if_lt_N (pc := 6) (tgt := 14) C dX0_about_6 (by decide) (by omega) (fun c_1 => (by exfalso; omega)) (fun c_1 => ?_)
  refine xw_iload_n (pc := 9) C 2 dX0_about_9 rfl ?_
  refine xw_iconst_N (pc := 10) C 5 dX0_about_10 rfl ?_
  refine xw_icmp_lt_N (pc := 11) (tgt := 24) C dX0_about_11 (by decide) (by omega) (by omega) (fun c_2 => ?_) (fun c_2 => (by exfalso; omega))
  refine xw_aload_n (pc := 24) C 0 dX0_about_24 rfl ?_
  refine xw_iload_n (pc := 25) C 1 dX0_about_25 rfl ?_
  refine xw_iload_n (pc := 26) C 2 dX0_about_26 rfl ?_
  refine xw_Vd (pc := 27) (q0 := 0) (na := 2) (rest := []) (st' := [iV (tl p n A row what)]) C (m_X0_told hp hp5 hn (hA) row what (by omega) (by omega)) gX0_about_X0_told rfl rfl rfl rfl (by decide +kernel) ⟨Nat.le_of_ble_eq_true rfl, Nat.le_of_ble_eq_true rfl⟩ rfl rfl rfl (Nat.le_of_ble_eq_true rfl) dX0_about_27 ⟨Nat.le_of_ble_eq_true rfl, Nat.le_of_ble_eq_true rfl⟩ rfl ?_
  exact xw_iret (pc := 30) C rX (Nat.le_refl _) (Nat.le_refl _) dX0_about_30 (PD.i)

set_option maxHeartbeats 4000000 in
set_option maxRecDepth 100000 in
theorem m_X0_count {l : Launch} {D : va_G} {cI : ClassId} {h a n p b w wi ni : Nat} {A : Nat → Nat} (what : Nat) (hwh : what < 6) : CT l yX0_count wsX0_count (rmN 1 21) D vwCl [(cI, .int)] [.ref h, nV what] (wX cI h a n p b w wi ni A) (PD (some (nV (ct n p b w wi ni what))) (wX cI h a n p b w wi ni A)) 0 0 := by
  refine ct_of (plainFor_of_name (by decide)) rfl (Nat.le_of_ble_eq_true rfl) (fun φ C rX => ?_)
  refine xw_le (lv' := [(0, .ref h), (1, nV what)]) rfl ?_
  refine xw_iload_n (pc := 0) C 1 dX0_count_0 rfl ?_
  refine xw_if_lt_N (pc := 1) (tgt := 10) C dX0_count_1 (by decide) (by omega) (fun c_1 => (by exfalso; omega)) (fun c_1 => ?_)
  refine xw_iload_n (pc := 4) C 1 dX0_count_4 rfl ?_
  refine xw_bipush_N (pc := 5) C 6 dX0_count_5 (by decide) ?_
  refine xw_icmp_lt_N (pc := 7) (tgt := 20) C dX0_count_7 (by decide) (by omega) (by omega) (fun c_2 => ?_) (fun c_2 => (by exfalso; omega))
  refine xw_aload_n (pc := 20) C 0 dX0_count_20 rfl ?_
  refine xw_iload_n (pc := 21) C 1 dX0_count_21 rfl ?_
  refine xw_Vd (pc := 22) (q0 := 0) (na := 1) (rest := []) (st' := [nV (ct n p b w wi ni what)]) C (m_X0_counted what (by omega)) gX0_count_X0_counted rfl rfl rfl rfl (by decide +kernel) ⟨Nat.le_of_ble_eq_true rfl, Nat.le_of_ble_eq_true rfl⟩ rfl rfl rfl (Nat.le_of_ble_eq_true rfl) dX0_count_22 ⟨Nat.le_of_ble_eq_true rfl, Nat.le_of_ble_eq_true rfl⟩ rfl ?_
  exact xw_iret (pc := 25) C rX (Nat.le_refl _) (Nat.le_refl _) dX0_count_25 (PD.i)

set_option maxHeartbeats 4000000 in
set_option maxRecDepth 100000 in
theorem m_X0_would {l : Launch} {D : va_G} {cI : ClassId} {h a n p b w wi ni : Nat} {A : Nat → Nat} (hp : 0 < p) (hp5 : p < 500) (hn : n = 4 ∨ n = 8 ∨ n = 16) (hA : ∀ j, A j < 500) (ra rb : Nat) (hra : ra < 4) (hrb : rb < 4) (q : Nat) (hq : q < n) : CT l yX0_would wsX0_would (rmN 3 68) D vwCl [(cI, .int)] [.ref h, nV ra, nV rb, nV q] (wX cI h a n p b w wi ni A) (PD (some (nV (fo p n A ra rb q n))) (wX cI h a n p b w wi ni A)) 0 0 := by
  refine ct_of (plainFor_of_name (by decide)) rfl (Nat.le_of_ble_eq_true rfl) (fun φ C rX => ?_)
  refine xw_le (lv' := [(0, .ref h), (1, nV ra), (2, nV rb), (3, nV q)]) rfl ?_
  have hn3 := lt3 hn
  refine xw_aload_n (pc := 0) C 0 dX0_would_0 rfl ?_
  refine xw_iload_n (pc := 1) C 1 dX0_would_1 rfl ?_
  refine xw_Vd (pc := 2) (q0 := 0) (na := 1) (rest := []) (st' := []) C (m_X0_requireRow ra (by omega)) gX0_would_X0_requireRow rfl rfl rfl rfl (by decide +kernel) ⟨Nat.le_of_ble_eq_true rfl, Nat.le_of_ble_eq_true rfl⟩ rfl rfl rfl (Nat.le_of_ble_eq_true rfl) dX0_would_2 ⟨Nat.le_of_ble_eq_true rfl, Nat.le_of_ble_eq_true rfl⟩ rfl ?_
  refine xw_aload_n (pc := 5) C 0 dX0_would_5 rfl ?_
  refine xw_iload_n (pc := 6) C 2 dX0_would_6 rfl ?_
  refine xw_Vd (pc := 7) (q0 := 0) (na := 1) (rest := []) (st' := []) C (m_X0_requireRow rb (by omega)) gX0_would_X0_requireRow rfl rfl rfl rfl (by decide +kernel) ⟨Nat.le_of_ble_eq_true rfl, Nat.le_of_ble_eq_true rfl⟩ rfl rfl rfl (Nat.le_of_ble_eq_true rfl) dX0_would_7 ⟨Nat.le_of_ble_eq_true rfl, Nat.le_of_ble_eq_true rfl⟩ rfl ?_
  refine xw_aload_n (pc := 10) C 0 dX0_would_10 rfl ?_
  refine xw_iload_n (pc := 11) C 3 dX0_would_11 rfl ?_
  refine xw_Vd (pc := 12) (q0 := 0) (na := 1) (rest := []) (st' := []) C (m_X0_requirePlace (by omega) q (by omega)) gX0_would_X0_requirePlace rfl rfl rfl rfl (by decide +kernel) ⟨Nat.le_of_ble_eq_true rfl, Nat.le_of_ble_eq_true rfl⟩ rfl rfl rfl (Nat.le_of_ble_eq_true rfl) dX0_would_12 ⟨Nat.le_of_ble_eq_true rfl, Nat.le_of_ble_eq_true rfl⟩ rfl ?_
  refine xw_aload_n (pc := 15) C 0 dX0_would_15 rfl ?_
  refine xw_iload_n (pc := 16) C 1 dX0_would_16 rfl ?_
  refine xw_iload_n (pc := 17) C 2 dX0_would_17 rfl ?_
  refine xw_iload_n (pc := 18) C 3 dX0_would_18 rfl ?_
  refine xw_Vd (pc := 19) (q0 := 0) (na := 3) (rest := []) (st' := [nV (fo p n A ra rb q n)]) C (m_X0_foldedAt hp hp5 hn (hA) ra rb q (by omega) (by omega) (by omega)) gX0_would_X0_foldedAt rfl rfl rfl rfl (by decide +kernel) ⟨Nat.le_of_ble_eq_true rfl, Nat.le_of_ble_eq_true rfl⟩ rfl rfl rfl (Nat.le_of_ble_eq_true rfl) dX0_would_19 ⟨Nat.le_of_ble_eq_true rfl, Nat.le_of_ble_eq_true rfl⟩ rfl ?_
  exact xw_iret (pc := 22) C rX (Nat.le_refl _) (Nat.le_refl _) dX0_would_22 (PD.i)

theorem amP {p n ra rb k best : Nat} {A : Nat → Nat} (hb : best = am (fun q => so p n A ra rb q n) k) (h : 0 < k → so p n A ra rb best n < so p n A ra rb k n) : k = am (fun q => so p n A ra rb q n) (k + 1) := by
  rw [am, ← hb]
  rcases Nat.eq_zero_or_pos k with z | z
  · subst z
    rw [show best = 0 from hb]; split <;> rfl
  · exact (if_pos (h z)).symm
set_option maxHeartbeats 4000000 in
set_option maxRecDepth 100000 in
theorem m_X0_comes {l : Launch} {D : va_G} {cI : ClassId} {h a n p b w wi ni : Nat} {A : Nat → Nat} (hn : n = 4 ∨ n = 8 ∨ n = 16) (hA : ∀ j, A j < 500) (ra rb : Nat) (hra : ra < 4) (hrb : rb < 4) : CT l yX0_comes wsX0_comes (rmN 2 47) D vwCl [(cI, .int)] [.ref h, nV ra, nV rb] (wX cI h a n p b w wi ni A) (PD (some (iV (cm n A ra rb))) (wX cI h a n p b w wi ni A)) 0 0 := by
  refine ct_of (plainFor_of_name (by decide)) rfl (Nat.le_of_ble_eq_true rfl) (fun φ C rX => ?_)
  have hin : ∀ w ∈ wsX00, w ∈ wsX0_comes := by decide +kernel
  refine xw_le (lv' := [(0, .ref h), (1, nV ra), (2, nV rb)]) rfl ?_
  have hn3 := lt3 hn
  refine xw_aload_n (pc := 0) C 0 dX0_comes_0 rfl ?_
  refine xw_iload_n (pc := 1) C 1 dX0_comes_1 rfl ?_
  refine xw_Vd (pc := 2) (q0 := 0) (na := 1) (rest := []) (st' := []) C (m_X0_requireRow ra (by omega)) gX0_comes_X0_requireRow rfl rfl rfl rfl (by decide +kernel) ⟨Nat.le_of_ble_eq_true rfl, Nat.le_of_ble_eq_true rfl⟩ rfl rfl rfl (Nat.le_of_ble_eq_true rfl) dX0_comes_2 ⟨Nat.le_of_ble_eq_true rfl, Nat.le_of_ble_eq_true rfl⟩ rfl ?_
  refine xw_aload_n (pc := 5) C 0 dX0_comes_5 rfl ?_
  refine xw_iload_n (pc := 6) C 2 dX0_comes_6 rfl ?_
  refine xw_Vd (pc := 7) (q0 := 0) (na := 1) (rest := []) (st' := []) C (m_X0_requireRow rb (by omega)) gX0_comes_X0_requireRow rfl rfl rfl rfl (by decide +kernel) ⟨Nat.le_of_ble_eq_true rfl, Nat.le_of_ble_eq_true rfl⟩ rfl rfl rfl (Nat.le_of_ble_eq_true rfl) dX0_comes_7 ⟨Nat.le_of_ble_eq_true rfl, Nat.le_of_ble_eq_true rfl⟩ rfl ?_
  refine xw_iconst_N (pc := 10) C 0 dX0_comes_10 rfl ?_
  refine xw_istore_n (pc := 11) (lv' := [(0, .ref h), (1, nV ra), (2, nV rb), (3, nV 0)]) C [1, 2, 3, 0] dX0_comes_11 rfl (by decide) rfl ?_
  have L12 : ∀ (fuel : Nat) (k : Nat), n < k + fuel → k ≤ n → fs (im n A ra rb) n 0 = fs (im n A ra rb) (n - k) k → xw φ 0 0 (wX cI h a n p b w wi ni A) 12 [(0, .ref h), (1, nV ra), (2, nV rb), (3, nV k)] [] := by
    intro fuel
    induction fuel with
    | zero =>
      intro k hk hkn hfs
      omega
    | succ fuel ih12 =>
      intro k hk hkn hfs
      refine xw_iload_n (pc := 12) C 3 dX0_comes_12 rfl ?_
      refine xw_aload_n (pc := 13) C 0 dX0_comes_13 rfl ?_
      refine xw_get (pc := 14) (T := TX0) (N := 7) (ref := "ToneButterflies") C hin 0 1 rfl rfl (by decide) (by decide +kernel) rfl rfl dX0_comes_14 ?_
      refine xw_icmp_ge_N (pc := 17) (tgt := 38) C dX0_comes_17 (by decide) (by omega) (by omega) (fun c_1 => ?_) (fun c_1 => ?_)
      ·
        refine xw_iconst (pc := 38) C dX0_comes_38 ?_
        exact xw_iret (pc := 39) C rX (Nat.le_refl _) (Nat.le_refl _) dX0_comes_39 (PD.e (by unfold cm; rw [hfs, show n - k = 0 by omega, fs, if_neg (by omega)]) rfl)
      ·
        refine xw_aload_n (pc := 20) C 0 dX0_comes_20 rfl ?_
        refine xw_iload_n (pc := 21) C 1 dX0_comes_21 rfl ?_
        refine xw_iload_n (pc := 22) C 3 dX0_comes_22 rfl ?_
        refine xw_iload_n (pc := 23) C 2 dX0_comes_23 rfl ?_
        refine xw_Vd (pc := 24) (q0 := 0) (na := 3) (rest := []) (st' := [bV (im n A ra rb k)]) C (m_X0_isWhenMoved hn (hA) ra k rb (by omega) (by omega) (by omega)) gX0_comes_X0_isWhenMoved rfl rfl rfl rfl (by decide +kernel) ⟨Nat.le_of_ble_eq_true rfl, Nat.le_of_ble_eq_true rfl⟩ rfl rfl rfl (Nat.le_of_ble_eq_true rfl) dX0_comes_24 ⟨Nat.le_of_ble_eq_true rfl, Nat.le_of_ble_eq_true rfl⟩ rfl ?_
        refine xw_if_eq_B (pc := 27) (tgt := 32) C dX0_comes_27 (by decide)  (fun c_2 => ?_) (fun c_2 => ?_)
        ·
          refine xw_iinc_N (pc := 32) (b := k + 1) (lv' := [(0, .ref h), (1, nV ra), (2, nV rb), (3, nV (k + 1))]) C 3 [1, 2, 3, 0] dX0_comes_32 rfl (by decide) rfl rfl ?_
          refine xw_goto (pc := 35) (tgt := 12) C dX0_comes_35 (by decide) ?_
          exact ih12 (k + 1) (by omega) (by omega) (by rw [hfs, show n - k = (n - (k + 1)) + 1 by omega, fs_f c_2])
        ·
          refine xw_iload_n (pc := 30) C 3 dX0_comes_30 rfl ?_
          exact xw_iret (pc := 31) C rX (Nat.le_refl _) (Nat.le_refl _) dX0_comes_31 (PD.e (by unfold cm; rw [hfs, show n - k = (n - (k + 1)) + 1 by omega, fs_t c_2, if_pos (show k < n by omega)]) rfl)
  exact L12 (n + 1) 0 (by omega) (by omega) rfl

set_option maxHeartbeats 4000000 in
set_option maxRecDepth 100000 in
theorem m_X0_tones {l : Launch} {D : va_G} {cI : ClassId} {h a n p b w wi ni : Nat} {A : Nat → Nat} (hp : 0 < p) (hp5 : p < 500) (hn : n = 4 ∨ n = 8 ∨ n = 16) (hA : ∀ j, A j < 500) (hw : w < 500) (ra rb : Nat) (hra : ra < 4) (hrb : rb < 4) : CT l yX0_tones wsX0_tones (rmN 5 113) D vwCl [(cI, .int)] [.ref h, nV ra, nV rb] (wX cI h a n p b w wi ni A) (PD (some (bV (im n (sv A (tn p n A ra w 1) n) 4 rb 0))) (wX cI h a n p b w wi ni (sv A (tn p n A ra w 1) n))) 0 0 := by
  refine ct_of (plainFor_of_name (by decide)) rfl (Nat.le_of_ble_eq_true rfl) (fun φ C rX => ?_)
  refine xw_le (lv' := [(0, .ref h), (1, nV ra), (2, nV rb)]) rfl ?_
  have hn3 := lt3 hn
  refine xw_aload_n (pc := 0) C 0 dX0_tones_0 rfl ?_
  refine xw_iload_n (pc := 1) C 1 dX0_tones_1 rfl ?_
  refine xw_Vd (pc := 2) (q0 := 0) (na := 1) (rest := []) (st' := []) C (m_X0_requireRow ra (by omega)) gX0_tones_X0_requireRow rfl rfl rfl rfl (by decide +kernel) ⟨Nat.le_of_ble_eq_true rfl, Nat.le_of_ble_eq_true rfl⟩ rfl rfl rfl (Nat.le_of_ble_eq_true rfl) dX0_tones_2 ⟨Nat.le_of_ble_eq_true rfl, Nat.le_of_ble_eq_true rfl⟩ rfl ?_
  refine xw_aload_n (pc := 5) C 0 dX0_tones_5 rfl ?_
  refine xw_iload_n (pc := 6) C 2 dX0_tones_6 rfl ?_
  refine xw_Vd (pc := 7) (q0 := 0) (na := 1) (rest := []) (st' := []) C (m_X0_requireRow rb (by omega)) gX0_tones_X0_requireRow rfl rfl rfl rfl (by decide +kernel) ⟨Nat.le_of_ble_eq_true rfl, Nat.le_of_ble_eq_true rfl⟩ rfl rfl rfl (Nat.le_of_ble_eq_true rfl) dX0_tones_7 ⟨Nat.le_of_ble_eq_true rfl, Nat.le_of_ble_eq_true rfl⟩ rfl ?_
  refine xw_aload_n (pc := 10) C 0 dX0_tones_10 rfl ?_
  refine xw_iload_n (pc := 11) C 1 dX0_tones_11 rfl ?_
  refine xw_Vd (pc := 12) (q0 := 0) (na := 1) (rest := []) (st' := []) C (m_X0_scratchTones hp hp5 hn (hA) hw ra (by omega)) gX0_tones_X0_scratchTones rfl rfl rfl rfl (by decide +kernel) ⟨Nat.le_of_ble_eq_true rfl, Nat.le_of_ble_eq_true rfl⟩ rfl rfl rfl (Nat.le_of_ble_eq_true rfl) dX0_tones_12 ⟨Nat.le_of_ble_eq_true rfl, Nat.le_of_ble_eq_true rfl⟩ rfl ?_
  refine xw_aload_n (pc := 15) C 0 dX0_tones_15 rfl ?_
  refine xw_iconst_N (pc := 16) C 4 dX0_tones_16 rfl ?_
  refine xw_iconst_N (pc := 17) C 0 dX0_tones_17 rfl ?_
  refine xw_iload_n (pc := 18) C 2 dX0_tones_18 rfl ?_
  refine xw_Vd (pc := 19) (q0 := 0) (na := 3) (rest := []) (st' := [bV (im n (sv A (tn p n A ra w 1) n) 4 rb 0)]) C (m_X0_isWhenMoved hn (sv_lt (g := tn p n A ra w 1) hA (fun j _ => ml hp hp5)) 4 0 rb (by omega) (by omega) (by omega)) gX0_tones_X0_isWhenMoved rfl rfl rfl rfl (by decide +kernel) ⟨Nat.le_of_ble_eq_true rfl, Nat.le_of_ble_eq_true rfl⟩ rfl rfl rfl (Nat.le_of_ble_eq_true rfl) dX0_tones_19 ⟨Nat.le_of_ble_eq_true rfl, Nat.le_of_ble_eq_true rfl⟩ rfl ?_
  exact xw_bret (pc := 22) C rX (Nat.le_refl _) (Nat.le_refl _) dX0_tones_22 (PD.i)
