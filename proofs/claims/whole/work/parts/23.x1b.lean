set_option maxHeartbeats 4000000 in
set_option maxRecDepth 100000 in
theorem m_X1_set {l : Launch} {D : va_G} {cI : ClassId} {h r d th n p w b : Nat} {B M : Nat → Nat} (hn : n = 4 ∨ n = 8 ∨ n = 16) (hp5 : p < 500) (row q v : Nat) (hrw : row < 4) (hq : q < n) (hv : v < p) : CT l yX1_set wsX1_set (rmN 2 43) D vwCl [(cI, .int)] [.ref h, nV row, nV q, nV v] (wM cI h r d th n p w b B M) (PD (some (nV (B (16 * row + q)))) (wM cI h r d 0 n p w b (va_up B (16 * row + q) v) M)) 0 0 := by
  refine ct_of (plainFor_of_name (by decide)) rfl (Nat.le_of_ble_eq_true rfl) (fun φ C rX => ?_)
  have hin : ∀ w ∈ wsX10, w ∈ wsX1_set := by decide +kernel
  refine xw_le (lv' := [(0, .ref h), (1, nV row), (2, nV q), (3, nV v)]) rfl ?_
  have hn3 := lt3 hn
  refine xw_aload_n (pc := 0) C 0 dX1_set_0 rfl ?_
  refine xw_iconst_N (pc := 1) C 0 dX1_set_1 rfl ?_
  refine xw_put (pc := 2) (T := TX1) (N := 7) (ref := "ToneButterfliesModel") (w' := wM cI h r d 0 n p w b B M) C hin tyX1 tyX1_ok nmX1 0 0 rfl rfl (by decide) (by decide +kernel) rfl rfl rfl rfl (Nat.le_of_ble_eq_true rfl) rfl dX1_set_2 ?_
  refine xw_iload_n (pc := 5) C 1 dX1_set_5 rfl ?_
  refine xw_Sd (pc := 6) (na := 1) (rest := []) (st' := [bV (decide (((0 : Nat) : Int) ≤ (((row : Nat) : Int)) ∧ (((row : Nat) : Int)) ≤ ((3 : Nat) : Int)))]) C (m_X1_isRow (((row : Nat) : Int)) (by omega)) gX1_set_X1_isRow rfl rfl rfl rfl (by decide +kernel) ⟨Nat.le_of_ble_eq_true rfl, Nat.le_of_ble_eq_true rfl⟩ rfl (Nat.le_of_ble_eq_true rfl) dX1_set_6 ⟨Nat.le_of_ble_eq_true rfl, Nat.le_of_ble_eq_true rfl⟩ rfl ?_
  refine xw_if_eq_B (pc := 9) (tgt := 20) C dX1_set_9 (by decide)  (fun c_1 => (by have q9 := of_decide_eq_false c_1; exfalso; omega)) (fun c_1 => ?_)
  have q_c_1 := of_decide_eq_true c_1
  refine xw_aload_n (pc := 12) C 0 dX1_set_12 rfl ?_
  refine xw_iload_n (pc := 13) C 2 dX1_set_13 rfl ?_
  refine xw_Vd (pc := 14) (q0 := 0) (na := 1) (rest := []) (st' := [bV (decide (((0 : Nat) : Int) ≤ (((q : Nat) : Int)) ∧ (((q : Nat) : Int)) ≤ ((n : Nat) : Int) - ((1 : Nat) : Int)))]) C (m_X1_isPlace (by omega) (((q : Nat) : Int)) (by omega)) gX1_set_X1_isPlace rfl rfl rfl rfl (by decide +kernel) ⟨Nat.le_of_ble_eq_true rfl, Nat.le_of_ble_eq_true rfl⟩ rfl rfl rfl (Nat.le_of_ble_eq_true rfl) dX1_set_14 ⟨Nat.le_of_ble_eq_true rfl, Nat.le_of_ble_eq_true rfl⟩ rfl ?_
  refine xw_if_ne_B (pc := 17) (tgt := 26) C dX1_set_17 (by decide)  (fun c_2 => ?_) (fun c_2 => (by have q9 := of_decide_eq_false c_2; exfalso; omega))
  have q_c_2 := of_decide_eq_true c_2
  refine xw_iload_n (pc := 26) C 3 dX1_set_26 rfl ?_
  refine xw_iconst_N (pc := 27) C 0 dX1_set_27 rfl ?_
  refine xw_aload_n (pc := 28) C 0 dX1_set_28 rfl ?_
  refine xw_get (pc := 29) (T := TX1) (N := 7) (ref := "ToneButterfliesModel") C hin 0 2 rfl rfl (by decide) (by decide +kernel) rfl rfl dX1_set_29 ?_
  refine xw_iconst_N (pc := 32) C 1 dX1_set_32 rfl ?_
  refine xw_isub (pc := 33) C dX1_set_33 ?_
  refine xw_Sd (pc := 34) (na := 3) (rest := []) (st' := [bV (decide ((((0 : Nat) : Int)) ≤ (((v : Nat) : Int)) ∧ (((v : Nat) : Int)) ≤ ((((p : Nat) : Int)) - (((1 : Nat) : Int)))))]) C (m_X1_isIn (((v : Nat) : Int)) (((0 : Nat) : Int)) ((((p : Nat) : Int)) - (((1 : Nat) : Int))) (by omega) (by omega) (by omega)) gX1_set_X1_isIn rfl rfl rfl rfl (by decide +kernel) ⟨Nat.le_of_ble_eq_true rfl, Nat.le_of_ble_eq_true rfl⟩ rfl (Nat.le_of_ble_eq_true rfl) dX1_set_34 ⟨Nat.le_of_ble_eq_true rfl, Nat.le_of_ble_eq_true rfl⟩ rfl ?_
  refine xw_if_ne_B (pc := 37) (tgt := 46) C dX1_set_37 (by decide)  (fun c_3 => ?_) (fun c_3 => (by have q9 := of_decide_eq_false c_3; exfalso; omega))
  have q_c_3 := of_decide_eq_true c_3
  refine xw_aload_n (pc := 46) C 0 dX1_set_46 rfl ?_
  refine xw_iload_n (pc := 47) C 1 dX1_set_47 rfl ?_
  refine xw_iload_n (pc := 48) C 2 dX1_set_48 rfl ?_
  refine xw_Vd (pc := 49) (q0 := 0) (na := 2) (rest := []) (st' := [nV (B (16 * row + q))]) C (m_X1_its row q (by omega) (by omega)) gX1_set_X1_its rfl rfl rfl rfl (by decide +kernel) ⟨Nat.le_of_ble_eq_true rfl, Nat.le_of_ble_eq_true rfl⟩ rfl rfl rfl (Nat.le_of_ble_eq_true rfl) dX1_set_49 ⟨Nat.le_of_ble_eq_true rfl, Nat.le_of_ble_eq_true rfl⟩ rfl ?_
  refine xw_istore (pc := 52) (lv' := [(0, .ref h), (1, nV row), (2, nV q), (3, nV v), (4, nV (B (16 * row + q)))]) C [1, 2, 3, 4, 0] dX1_set_52 (by decide) rfl ?_
  refine xw_aload_n (pc := 54) C 0 dX1_set_54 rfl ?_
  refine xw_get (pc := 55) (T := TX1) (N := 7) (ref := "ToneButterfliesModel") C hin 0 5 rfl rfl (by decide) (by decide +kernel) rfl rfl dX1_set_55 ?_
  refine xw_bipush_N (pc := 58) C 16 dX1_set_58 (by decide) ?_
  refine xw_iload_n (pc := 60) C 1 dX1_set_60 rfl ?_
  refine xw_imul_N (pc := 61) C dX1_set_61 ?_
  refine xw_iload_n (pc := 62) C 2 dX1_set_62 rfl ?_
  refine xw_iadd_N (pc := 63) C dX1_set_63 ?_
  refine xw_iload_n (pc := 64) C 3 dX1_set_64 rfl ?_
  refine xw_iast (pc := 65) (w' := wM cI h r d 0 n p w b (va_up B ((16 * row) + q) v) M) C 1 0 ((16 * row) + q) v rfl rfl (rfl) rfl (by omega) (by decide) rfl dX1_set_65 ?_
  refine xw_iload (pc := 66) C 4 dX1_set_66 rfl ?_
  exact xw_iret (pc := 68) C rX (Nat.le_refl _) (Nat.le_refl _) dX1_set_68 (PD.i)

theorem cpm {M B : Nat → Nat} {f n : Nat} : va_cpy B M (16 * f) 0 n = mk M (fun i => B (16 * f + i)) n := by
  funext j; unfold va_cpy mk
  by_cases h : j < n
  · rw [if_pos (by omega), if_pos h]; rfl
  · rw [if_neg (by omega), if_neg h]
theorem mk_cc {M B g : Nat → Nat} {r n : Nat} : cc (fun j => decide (B (16 * r + j) ≠ mk M g n j)) n = cc (fun j => decide (B (16 * r + j) ≠ g j)) n :=
  cc_cg n (fun j hj => by show decide (B (16 * r + j) ≠ mk M g n j) = _; rw [mk_in hj])
set_option maxHeartbeats 4000000 in
set_option maxRecDepth 100000 in
theorem m_X1_copy {l : Launch} {D : va_G} {cI : ClassId} {h r d th n p w b : Nat} {B M : Nat → Nat} (hn : n = 4 ∨ n = 8 ∨ n = 16) (hB : ∀ j, B j < 500) (hM : ∀ j, M j < 500) (ra rb : Nat) (hra : ra < 4) (hrb : rb < 4) : CT l yX1_copy wsX1_copy (rmN 2 45) D vwCl [(cI, .int)] [.ref h, nV ra, nV rb] (wM cI h r d th n p w b B M) (PD (some (nV (cc (fun j => decide (B (16 * rb + j) ≠ B (16 * ra + j))) n))) (wM cI h r d 0 n p w b (mr B rb (fun i => B (16 * ra + i)) n) (mk M (fun i => B (16 * ra + i)) n))) 0 0 := by
  refine ct_of (plainFor_of_name (by decide)) rfl (Nat.le_of_ble_eq_true rfl) (fun φ C rX => ?_)
  have hin : ∀ w ∈ wsX10, w ∈ wsX1_copy := by decide +kernel
  refine xw_le (lv' := [(0, .ref h), (1, nV ra), (2, nV rb)]) rfl ?_
  have hn3 := lt3 hn
  refine xw_aload_n (pc := 0) C 0 dX1_copy_0 rfl ?_
  refine xw_iconst_N (pc := 1) C 0 dX1_copy_1 rfl ?_
  refine xw_put (pc := 2) (T := TX1) (N := 7) (ref := "ToneButterfliesModel") (w' := wM cI h r d 0 n p w b B M) C hin tyX1 tyX1_ok nmX1 0 0 rfl rfl (by decide) (by decide +kernel) rfl rfl rfl rfl (Nat.le_of_ble_eq_true rfl) rfl dX1_copy_2 ?_
  refine xw_iload_n (pc := 5) C 1 dX1_copy_5 rfl ?_
  refine xw_Sd (pc := 6) (na := 1) (rest := []) (st' := [bV (decide (((0 : Nat) : Int) ≤ (((ra : Nat) : Int)) ∧ (((ra : Nat) : Int)) ≤ ((3 : Nat) : Int)))]) C (m_X1_isRow (((ra : Nat) : Int)) (by omega)) gX1_copy_X1_isRow rfl rfl rfl rfl (by decide +kernel) ⟨Nat.le_of_ble_eq_true rfl, Nat.le_of_ble_eq_true rfl⟩ rfl (Nat.le_of_ble_eq_true rfl) dX1_copy_6 ⟨Nat.le_of_ble_eq_true rfl, Nat.le_of_ble_eq_true rfl⟩ rfl ?_
  refine xw_if_eq_B (pc := 9) (tgt := 19) C dX1_copy_9 (by decide)  (fun c_1 => (by have q9 := of_decide_eq_false c_1; exfalso; omega)) (fun c_1 => ?_)
  have q_c_1 := of_decide_eq_true c_1
  refine xw_iload_n (pc := 12) C 2 dX1_copy_12 rfl ?_
  refine xw_Sd (pc := 13) (na := 1) (rest := []) (st' := [bV (decide (((0 : Nat) : Int) ≤ (((rb : Nat) : Int)) ∧ (((rb : Nat) : Int)) ≤ ((3 : Nat) : Int)))]) C (m_X1_isRow (((rb : Nat) : Int)) (by omega)) gX1_copy_X1_isRow rfl rfl rfl rfl (by decide +kernel) ⟨Nat.le_of_ble_eq_true rfl, Nat.le_of_ble_eq_true rfl⟩ rfl (Nat.le_of_ble_eq_true rfl) dX1_copy_13 ⟨Nat.le_of_ble_eq_true rfl, Nat.le_of_ble_eq_true rfl⟩ rfl ?_
  refine xw_if_ne_B (pc := 16) (tgt := 25) C dX1_copy_16 (by decide)  (fun c_2 => ?_) (fun c_2 => (by have q9 := of_decide_eq_false c_2; exfalso; omega))
  have q_c_2 := of_decide_eq_true c_2
  refine xw_aload_n (pc := 25) C 0 dX1_copy_25 rfl ?_
  refine xw_get (pc := 26) (T := TX1) (N := 7) (ref := "ToneButterfliesModel") C hin 0 5 rfl rfl (by decide) (by decide +kernel) rfl rfl dX1_copy_26 ?_
  refine xw_bipush_N (pc := 29) C 16 dX1_copy_29 (by decide) ?_
  refine xw_iload_n (pc := 31) C 1 dX1_copy_31 rfl ?_
  refine xw_imul_N (pc := 32) C dX1_copy_32 ?_
  refine xw_aload_n (pc := 33) C 0 dX1_copy_33 rfl ?_
  refine xw_get (pc := 34) (T := TX1) (N := 7) (ref := "ToneButterfliesModel") C hin 0 6 rfl rfl (by decide) (by decide +kernel) rfl rfl dX1_copy_34 ?_
  refine xw_iconst_N (pc := 37) C 0 dX1_copy_37 rfl ?_
  refine xw_aload_n (pc := 38) C 0 dX1_copy_38 rfl ?_
  refine xw_get (pc := 39) (T := TX1) (N := 7) (ref := "ToneButterfliesModel") C hin 0 1 rfl rfl (by decide) (by decide +kernel) rfl rfl dX1_copy_39 ?_
  refine xw_copy (pc := 42) (w' := wM cI h r d 0 n p w b B (va_cpy B M (16 * ra) 0 n)) C 1 2 0 (by decide +kernel) (by decide +kernel) (by decide +kernel) (by decide +kernel) rfl rfl rfl (by omega) (by omega) (by decide) (by decide) (Nat.le_of_ble_eq_true rfl) (Nat.le_of_ble_eq_true rfl) rfl dX1_copy_42 ?_
  refine xw_wo (w' := wM cI h r d 0 n p w b B (mk M (fun i => B (16 * ra + i)) n)) (by rw [cpm]) ?_
  refine xw_aload_n (pc := 45) C 0 dX1_copy_45 rfl ?_
  refine xw_iload_n (pc := 46) C 2 dX1_copy_46 rfl ?_
  refine xw_Vd (pc := 47) (q0 := 0) (na := 1) (rest := []) (st' := [nV (cc (fun j => decide (B (16 * rb + j) ≠ (mk M (fun i => B (16 * ra + i)) n) j)) n)]) C (m_X1_changes hn (hB) (mk_lt (g := (fun i => B (16 * ra + i))) hM (fun j _ => hB _)) rb (by omega)) gX1_copy_X1_changes rfl rfl rfl rfl (by decide +kernel) ⟨Nat.le_of_ble_eq_true rfl, Nat.le_of_ble_eq_true rfl⟩ rfl rfl rfl (Nat.le_of_ble_eq_true rfl) dX1_copy_47 ⟨Nat.le_of_ble_eq_true rfl, Nat.le_of_ble_eq_true rfl⟩ rfl ?_
  refine xw_st (st' := [nV (cc (fun j => decide (B (16 * rb + j) ≠ B (16 * ra + j))) n)]) (by rw [mk_cc (g := (fun i => B (16 * ra + i)))]) ?_
  refine xw_istore_n (pc := 50) (lv' := [(0, .ref h), (1, nV ra), (2, nV rb), (3, nV (cc (fun j => decide (B (16 * rb + j) ≠ B (16 * ra + j))) n))]) C [1, 2, 3, 0] dX1_copy_50 rfl (by decide) rfl ?_
  refine xw_aload_n (pc := 51) C 0 dX1_copy_51 rfl ?_
  refine xw_iload_n (pc := 52) C 2 dX1_copy_52 rfl ?_
  refine xw_Vd (pc := 53) (q0 := 0) (na := 1) (rest := []) (st' := []) C (m_X1_lay hn rb (by omega)) gX1_copy_X1_lay rfl rfl rfl rfl (by decide +kernel) ⟨Nat.le_of_ble_eq_true rfl, Nat.le_of_ble_eq_true rfl⟩ rfl rfl rfl (Nat.le_of_ble_eq_true rfl) dX1_copy_53 ⟨Nat.le_of_ble_eq_true rfl, Nat.le_of_ble_eq_true rfl⟩ rfl ?_
  refine xw_wo (w' := wM cI h r d 0 n p w b (mr B rb (fun i => B (16 * ra + i)) n) (mk M (fun i => B (16 * ra + i)) n)) (by rw [mr_mk]) ?_
  refine xw_iload_n (pc := 56) C 3 dX1_copy_56 rfl ?_
  exact xw_iret (pc := 57) C rX (Nat.le_refl _) (Nat.le_refl _) dX1_copy_57 (PD.i)

set_option maxHeartbeats 4000000 in
set_option maxRecDepth 100000 in
theorem m_X1_turn_false {l : Launch} {D : va_G} {cI : ClassId} {h r d th n p w b : Nat} {B M : Nat → Nat} (hro : rok n p) (hB : ∀ j, B j < 500) (hM : ∀ j, M j < 500) (hw1 : 1 ≤ w) (hw : w < p) (row : Nat) (hrw : row < 4) : CT l yX1_turn wsX1_turn (rmN 3 71) D vwCl [(cI, .int)] [.ref h, nV row, bV false] (wM cI h r d th n p w b B M) (PD (some (nV ((tn p n B row w 1) 0))) (wM cI h r d 0 n p w b (mr B row (tn p n B row w 1) n) (mk M (tn p n B row w 1) n))) 0 0 := by
  refine ct_of (plainFor_of_name (by decide)) rfl (Nat.le_of_ble_eq_true rfl) (fun φ C rX => ?_)
  have hin : ∀ w ∈ wsX10, w ∈ wsX1_turn := by decide +kernel
  refine xw_le (lv' := [(0, .ref h), (1, nV row), (2, bV false)]) rfl ?_
  obtain ⟨hn, hp4, hp5, hprm, hdv⟩ := id hro
  have hp : 0 < p := by omega
  have hp1 : 1 < p := by omega
  have hn3 := lt3 hn
  have hnp := rok_lt hro
  refine xw_aload_n (pc := 0) C 0 dX1_turn_0 rfl ?_
  refine xw_iconst_N (pc := 1) C 0 dX1_turn_1 rfl ?_
  refine xw_put (pc := 2) (T := TX1) (N := 7) (ref := "ToneButterfliesModel") (w' := wM cI h r d 0 n p w b B M) C hin tyX1 tyX1_ok nmX1 0 0 rfl rfl (by decide) (by decide +kernel) rfl rfl rfl rfl (Nat.le_of_ble_eq_true rfl) rfl dX1_turn_2 ?_
  refine xw_iload_n (pc := 5) C 1 dX1_turn_5 rfl ?_
  refine xw_Sd (pc := 6) (na := 1) (rest := []) (st' := [bV (decide (((0 : Nat) : Int) ≤ (((row : Nat) : Int)) ∧ (((row : Nat) : Int)) ≤ ((3 : Nat) : Int)))]) C (m_X1_isRow (((row : Nat) : Int)) (by omega)) gX1_turn_X1_isRow rfl rfl rfl rfl (by decide +kernel) ⟨Nat.le_of_ble_eq_true rfl, Nat.le_of_ble_eq_true rfl⟩ rfl (Nat.le_of_ble_eq_true rfl) dX1_turn_6 ⟨Nat.le_of_ble_eq_true rfl, Nat.le_of_ble_eq_true rfl⟩ rfl ?_
  refine xw_if_ne_B (pc := 9) (tgt := 18) C dX1_turn_9 (by decide)  (fun c_1 => ?_) (fun c_1 => (by have q9 := of_decide_eq_false c_1; exfalso; omega))
  have q_c_1 := of_decide_eq_true c_1
  refine xw_aload_n (pc := 18) C 0 dX1_turn_18 rfl ?_
  refine xw_iload_n (pc := 19) C 1 dX1_turn_19 rfl ?_
  refine xw_iload_n (pc := 20) C 2 dX1_turn_20 rfl ?_
  refine xw_if_eq_B (pc := 21) (tgt := 35) C dX1_turn_21 (by decide)  (fun c_2 => ?_) (fun c_2 => (by exact absurd c_2 (by decide)))
  refine xw_aload_n (pc := 35) C 0 dX1_turn_35 rfl ?_
  refine xw_get (pc := 36) (T := TX1) (N := 7) (ref := "ToneButterfliesModel") C hin 0 3 rfl rfl (by decide) (by decide +kernel) rfl rfl dX1_turn_36 ?_
  refine xw_iload_n (pc := 39) C 2 dX1_turn_39 rfl ?_
  refine xw_if_eq_B (pc := 40) (tgt := 54) C dX1_turn_40 (by decide)  (fun c_3 => ?_) (fun c_3 => (by exact absurd c_3 (by decide)))
  refine xw_iconst_N (pc := 54) C 1 dX1_turn_54 rfl ?_
  refine xw_Vd (pc := 55) (q0 := 0) (na := 3) (rest := []) (st' := []) C (m_X1_makeTones hp hp5 hn (hB) row w 1 (by omega) (by omega) (by omega)) gX1_turn_X1_makeTones rfl rfl rfl rfl (by decide +kernel) ⟨Nat.le_of_ble_eq_true rfl, Nat.le_of_ble_eq_true rfl⟩ rfl rfl rfl (Nat.le_of_ble_eq_true rfl) dX1_turn_55 ⟨Nat.le_of_ble_eq_true rfl, Nat.le_of_ble_eq_true rfl⟩ rfl ?_
  refine xw_aload_n (pc := 58) C 0 dX1_turn_58 rfl ?_
  refine xw_iload_n (pc := 59) C 1 dX1_turn_59 rfl ?_
  refine xw_Vd (pc := 60) (q0 := 0) (na := 1) (rest := []) (st' := []) C (m_X1_lay hn row (by omega)) gX1_turn_X1_lay rfl rfl rfl rfl (by decide +kernel) ⟨Nat.le_of_ble_eq_true rfl, Nat.le_of_ble_eq_true rfl⟩ rfl rfl rfl (Nat.le_of_ble_eq_true rfl) dX1_turn_60 ⟨Nat.le_of_ble_eq_true rfl, Nat.le_of_ble_eq_true rfl⟩ rfl ?_
  refine xw_wo (w' := wM cI h r d 0 n p w b (mr B row (tn p n B row w 1) n) (mk M (tn p n B row w 1) n)) (by rw [mr_mk]) ?_
  refine xw_aload_n (pc := 63) C 0 dX1_turn_63 rfl ?_
  refine xw_get (pc := 64) (T := TX1) (N := 7) (ref := "ToneButterfliesModel") C hin 0 6 rfl rfl (by decide) (by decide +kernel) rfl rfl dX1_turn_64 ?_
  refine xw_iconst_N (pc := 67) C 0 dX1_turn_67 rfl ?_
  refine xw_iald (pc := 68) C 2 0 0 rfl rfl (rfl) (by omega) (by decide) dX1_turn_68 ?_
  refine xw_st (st' := [nV ((tn p n B row w 1) 0)]) (by rw [mk_in (by omega)]) ?_
  exact xw_iret (pc := 69) C rX (Nat.le_refl _) (Nat.le_refl _) dX1_turn_69 (PD.i)

set_option maxHeartbeats 4000000 in
set_option maxRecDepth 100000 in
theorem m_X1_turn_true {l : Launch} {D : va_G} {cI : ClassId} {h r d th n p w b : Nat} {B M : Nat → Nat} (hro : rok n p) (hB : ∀ j, B j < 500) (hM : ∀ j, M j < 500) (hw1 : 1 ≤ w) (hw : w < p) (row : Nat) (hrw : row < 4) : CT l yX1_turn wsX1_turn (rmN 3 71) D vwCl [(cI, .int)] [.ref h, nV row, bV true] (wM cI h r d th n p w b B M) (PD (some (nV ((tn p n B row (w ^ (p - 2) % p) (n ^ (p - 2) % p)) 0))) (wM cI h r d 0 n p w b (mr B row (tn p n B row (w ^ (p - 2) % p) (n ^ (p - 2) % p)) n) (mk M (tn p n B row (w ^ (p - 2) % p) (n ^ (p - 2) % p)) n))) 0 0 := by
  refine ct_of (plainFor_of_name (by decide)) rfl (Nat.le_of_ble_eq_true rfl) (fun φ C rX => ?_)
  have hin : ∀ w ∈ wsX10, w ∈ wsX1_turn := by decide +kernel
  refine xw_le (lv' := [(0, .ref h), (1, nV row), (2, bV true)]) rfl ?_
  obtain ⟨hn, hp4, hp5, hprm, hdv⟩ := id hro
  have hp : 0 < p := by omega
  have hp1 : 1 < p := by omega
  have hn3 := lt3 hn
  have hnp := rok_lt hro
  refine xw_aload_n (pc := 0) C 0 dX1_turn_0 rfl ?_
  refine xw_iconst_N (pc := 1) C 0 dX1_turn_1 rfl ?_
  refine xw_put (pc := 2) (T := TX1) (N := 7) (ref := "ToneButterfliesModel") (w' := wM cI h r d 0 n p w b B M) C hin tyX1 tyX1_ok nmX1 0 0 rfl rfl (by decide) (by decide +kernel) rfl rfl rfl rfl (Nat.le_of_ble_eq_true rfl) rfl dX1_turn_2 ?_
  refine xw_iload_n (pc := 5) C 1 dX1_turn_5 rfl ?_
  refine xw_Sd (pc := 6) (na := 1) (rest := []) (st' := [bV (decide (((0 : Nat) : Int) ≤ (((row : Nat) : Int)) ∧ (((row : Nat) : Int)) ≤ ((3 : Nat) : Int)))]) C (m_X1_isRow (((row : Nat) : Int)) (by omega)) gX1_turn_X1_isRow rfl rfl rfl rfl (by decide +kernel) ⟨Nat.le_of_ble_eq_true rfl, Nat.le_of_ble_eq_true rfl⟩ rfl (Nat.le_of_ble_eq_true rfl) dX1_turn_6 ⟨Nat.le_of_ble_eq_true rfl, Nat.le_of_ble_eq_true rfl⟩ rfl ?_
  refine xw_if_ne_B (pc := 9) (tgt := 18) C dX1_turn_9 (by decide)  (fun c_1 => ?_) (fun c_1 => (by have q9 := of_decide_eq_false c_1; exfalso; omega))
  have q_c_1 := of_decide_eq_true c_1
  refine xw_aload_n (pc := 18) C 0 dX1_turn_18 rfl ?_
  refine xw_iload_n (pc := 19) C 1 dX1_turn_19 rfl ?_
  refine xw_iload_n (pc := 20) C 2 dX1_turn_20 rfl ?_
  refine xw_if_eq_B (pc := 21) (tgt := 35) C dX1_turn_21 (by decide)  (fun c_2 => (by exact absurd c_2 (by decide))) (fun c_2 => ?_)
  refine xw_aload_n (pc := 24) C 0 dX1_turn_24 rfl ?_
  refine xw_aload_n (pc := 25) C 0 dX1_turn_25 rfl ?_
  refine xw_get (pc := 26) (T := TX1) (N := 7) (ref := "ToneButterfliesModel") C hin 0 3 rfl rfl (by decide) (by decide +kernel) rfl rfl dX1_turn_26 ?_
  refine xw_Vd (pc := 29) (q0 := 0) (na := 1) (rest := [nV row, .ref h]) (st' := [nV (w ^ (p - 2) % p), nV row, .ref h]) C (m_X1_inverseOf hp hp5 w (by omega) (ck_of hp5 hp4 hprm hw1 hw)) gX1_turn_X1_inverseOf rfl rfl rfl rfl (by decide +kernel) ⟨Nat.le_of_ble_eq_true rfl, Nat.le_of_ble_eq_true rfl⟩ rfl rfl rfl (Nat.le_of_ble_eq_true rfl) dX1_turn_29 ⟨Nat.le_of_ble_eq_true rfl, Nat.le_of_ble_eq_true rfl⟩ rfl ?_
  refine xw_goto (pc := 32) (tgt := 39) C dX1_turn_32 (by decide) ?_
  refine xw_iload_n (pc := 39) C 2 dX1_turn_39 rfl ?_
  refine xw_if_eq_B (pc := 40) (tgt := 54) C dX1_turn_40 (by decide)  (fun c_3 => (by exact absurd c_3 (by decide))) (fun c_3 => ?_)
  refine xw_aload_n (pc := 43) C 0 dX1_turn_43 rfl ?_
  refine xw_aload_n (pc := 44) C 0 dX1_turn_44 rfl ?_
  refine xw_get (pc := 45) (T := TX1) (N := 7) (ref := "ToneButterfliesModel") C hin 0 1 rfl rfl (by decide) (by decide +kernel) rfl rfl dX1_turn_45 ?_
  refine xw_Vd (pc := 48) (q0 := 0) (na := 1) (rest := [nV (w ^ (p - 2) % p), nV row, .ref h]) (st' := [nV (n ^ (p - 2) % p), nV (w ^ (p - 2) % p), nV row, .ref h]) C (m_X1_inverseOf hp hp5 n (by omega) (ck_of hp5 hp4 hprm (by omega) hnp)) gX1_turn_X1_inverseOf rfl rfl rfl rfl (by decide +kernel) ⟨Nat.le_of_ble_eq_true rfl, Nat.le_of_ble_eq_true rfl⟩ rfl rfl rfl (Nat.le_of_ble_eq_true rfl) dX1_turn_48 ⟨Nat.le_of_ble_eq_true rfl, Nat.le_of_ble_eq_true rfl⟩ rfl ?_
  refine xw_goto (pc := 51) (tgt := 55) C dX1_turn_51 (by decide) ?_
  refine xw_Vd (pc := 55) (q0 := 0) (na := 3) (rest := []) (st' := []) C (m_X1_makeTones hp hp5 hn (hB) row (w ^ (p - 2) % p) (n ^ (p - 2) % p) (by omega) (ml hp hp5) (ml hp hp5)) gX1_turn_X1_makeTones rfl rfl rfl rfl (by decide +kernel) ⟨Nat.le_of_ble_eq_true rfl, Nat.le_of_ble_eq_true rfl⟩ rfl rfl rfl (Nat.le_of_ble_eq_true rfl) dX1_turn_55 ⟨Nat.le_of_ble_eq_true rfl, Nat.le_of_ble_eq_true rfl⟩ rfl ?_
  refine xw_aload_n (pc := 58) C 0 dX1_turn_58 rfl ?_
  refine xw_iload_n (pc := 59) C 1 dX1_turn_59 rfl ?_
  refine xw_Vd (pc := 60) (q0 := 0) (na := 1) (rest := []) (st' := []) C (m_X1_lay hn row (by omega)) gX1_turn_X1_lay rfl rfl rfl rfl (by decide +kernel) ⟨Nat.le_of_ble_eq_true rfl, Nat.le_of_ble_eq_true rfl⟩ rfl rfl rfl (Nat.le_of_ble_eq_true rfl) dX1_turn_60 ⟨Nat.le_of_ble_eq_true rfl, Nat.le_of_ble_eq_true rfl⟩ rfl ?_
  refine xw_wo (w' := wM cI h r d 0 n p w b (mr B row (tn p n B row (w ^ (p - 2) % p) (n ^ (p - 2) % p)) n) (mk M (tn p n B row (w ^ (p - 2) % p) (n ^ (p - 2) % p)) n)) (by rw [mr_mk]) ?_
  refine xw_aload_n (pc := 63) C 0 dX1_turn_63 rfl ?_
  refine xw_get (pc := 64) (T := TX1) (N := 7) (ref := "ToneButterfliesModel") C hin 0 6 rfl rfl (by decide) (by decide +kernel) rfl rfl dX1_turn_64 ?_
  refine xw_iconst_N (pc := 67) C 0 dX1_turn_67 rfl ?_
  refine xw_iald (pc := 68) C 2 0 0 rfl rfl (rfl) (by omega) (by decide) dX1_turn_68 ?_
  refine xw_st (st' := [nV ((tn p n B row (w ^ (p - 2) % p) (n ^ (p - 2) % p)) 0)]) (by rw [mk_in (by omega)]) ?_
  exact xw_iret (pc := 69) C rX (Nat.le_refl _) (Nat.le_refl _) dX1_turn_69 (PD.i)

set_option maxHeartbeats 4000000 in
set_option maxRecDepth 100000 in
theorem m_X1_mirror {l : Launch} {D : va_G} {cI : ClassId} {h r d th n p w b : Nat} {B M : Nat → Nat} (hn : n = 4 ∨ n = 8 ∨ n = 16) (hB : ∀ j, B j < 500) (hM : ∀ j, M j < 500) (row : Nat) (hrw : row < 4) : CT l yX1_mirror wsX1_mirror (rmN 2 45) D vwCl [(cI, .int)] [.ref h, nV row] (wM cI h r d th n p w (bt n) B M) (PD (some (nV (cc (fun j => decide (B (16 * row + j) ≠ (fun m => B (16 * row + mi m (bt n))) j)) n))) (wM cI h r d 0 n p w (bt n) (mr B row (fun m => B (16 * row + mi m (bt n))) n) (mk M (fun m => B (16 * row + mi m (bt n))) n))) 0 0 := by
  refine ct_of (plainFor_of_name (by decide)) rfl (Nat.le_of_ble_eq_true rfl) (fun φ C rX => ?_)
  have hin : ∀ w ∈ wsX10, w ∈ wsX1_mirror := by decide +kernel
  refine xw_le (lv' := [(0, .ref h), (1, nV row)]) rfl ?_
  have hn3 := lt3 hn
  refine xw_aload_n (pc := 0) C 0 dX1_mirror_0 rfl ?_
  refine xw_iconst_N (pc := 1) C 0 dX1_mirror_1 rfl ?_
  refine xw_put (pc := 2) (T := TX1) (N := 7) (ref := "ToneButterfliesModel") (w' := wM cI h r d 0 n p w (bt n) B M) C hin tyX1 tyX1_ok nmX1 0 0 rfl rfl (by decide) (by decide +kernel) rfl rfl rfl rfl (Nat.le_of_ble_eq_true rfl) rfl dX1_mirror_2 ?_
  refine xw_iload_n (pc := 5) C 1 dX1_mirror_5 rfl ?_
  refine xw_Sd (pc := 6) (na := 1) (rest := []) (st' := [bV (decide (((0 : Nat) : Int) ≤ (((row : Nat) : Int)) ∧ (((row : Nat) : Int)) ≤ ((3 : Nat) : Int)))]) C (m_X1_isRow (((row : Nat) : Int)) (by omega)) gX1_mirror_X1_isRow rfl rfl rfl rfl (by decide +kernel) ⟨Nat.le_of_ble_eq_true rfl, Nat.le_of_ble_eq_true rfl⟩ rfl (Nat.le_of_ble_eq_true rfl) dX1_mirror_6 ⟨Nat.le_of_ble_eq_true rfl, Nat.le_of_ble_eq_true rfl⟩ rfl ?_
  refine xw_if_ne_B (pc := 9) (tgt := 18) C dX1_mirror_9 (by decide)  (fun c_1 => ?_) (fun c_1 => (by have q9 := of_decide_eq_false c_1; exfalso; omega))
  have q_c_1 := of_decide_eq_true c_1
  refine xw_iconst_N (pc := 18) C 0 dX1_mirror_18 rfl ?_
  refine xw_istore_n (pc := 19) (lv' := [(0, .ref h), (1, nV row), (2, nV 0)]) C [1, 2, 0] dX1_mirror_19 rfl (by decide) rfl ?_
  have L20 : ∀ (fuel : Nat) (k : Nat), n < k + fuel → k ≤ n → xw φ 0 0 (wM cI h r d 0 n p w (bt n) B (mo M n (fun m => mi m (bt n)) (fun k => B (16 * row + k)) k)) 20 [(0, .ref h), (1, nV row), (2, nV k)] [] := by
    intro fuel
    induction fuel with
    | zero =>
      intro k hk hkn
      omega
    | succ fuel ih20 =>
      intro k hk hkn
      refine xw_iload_n (pc := 20) C 2 dX1_mirror_20 rfl ?_
      refine xw_aload_n (pc := 21) C 0 dX1_mirror_21 rfl ?_
      refine xw_get (pc := 22) (T := TX1) (N := 7) (ref := "ToneButterfliesModel") C hin 0 1 rfl rfl (by decide) (by decide +kernel) rfl rfl dX1_mirror_22 ?_
      refine xw_icmp_ge_N (pc := 25) (tgt := 50) C dX1_mirror_25 (by decide) (by omega) (by omega) (fun c_2 => ?_) (fun c_2 => ?_)
      ·
        refine xw_wo (w' := wM cI h r d 0 n p w (bt n) B (mk M (fun m => B (16 * row + mi m (bt n))) n)) (by rw [show k = n from by omega, mo_n (fun m hm => (mi_p n (by omega) hn m (by omega) hm).1)]) ?_
        refine xw_aload_n (pc := 50) C 0 dX1_mirror_50 rfl ?_
        refine xw_iload_n (pc := 51) C 1 dX1_mirror_51 rfl ?_
        refine xw_Vd (pc := 52) (q0 := 0) (na := 1) (rest := []) (st' := [nV (cc (fun j => decide (B (16 * row + j) ≠ (mk M (fun m => B (16 * row + mi m (bt n))) n) j)) n)]) C (m_X1_changes hn (hB) (mk_lt (g := (fun m => B (16 * row + mi m (bt n)))) hM (fun j _ => hB _)) row (by omega)) gX1_mirror_X1_changes rfl rfl rfl rfl (by decide +kernel) ⟨Nat.le_of_ble_eq_true rfl, Nat.le_of_ble_eq_true rfl⟩ rfl rfl rfl (Nat.le_of_ble_eq_true rfl) dX1_mirror_52 ⟨Nat.le_of_ble_eq_true rfl, Nat.le_of_ble_eq_true rfl⟩ rfl ?_
        refine xw_st (st' := [nV (cc (fun j => decide (B (16 * row + j) ≠ (fun m => B (16 * row + mi m (bt n))) j)) n)]) (by rw [mk_cc (g := (fun m => B (16 * row + mi m (bt n))))]) ?_
        refine xw_istore_n (pc := 55) (lv' := [(0, .ref h), (1, nV row), (2, nV (cc (fun j => decide (B (16 * row + j) ≠ (fun m => B (16 * row + mi m (bt n))) j)) n))]) C [1, 2, 0] dX1_mirror_55 rfl (by decide) rfl ?_
        refine xw_aload_n (pc := 56) C 0 dX1_mirror_56 rfl ?_
        refine xw_iload_n (pc := 57) C 1 dX1_mirror_57 rfl ?_
        refine xw_Vd (pc := 58) (q0 := 0) (na := 1) (rest := []) (st' := []) C (m_X1_lay hn row (by omega)) gX1_mirror_X1_lay rfl rfl rfl rfl (by decide +kernel) ⟨Nat.le_of_ble_eq_true rfl, Nat.le_of_ble_eq_true rfl⟩ rfl rfl rfl (Nat.le_of_ble_eq_true rfl) dX1_mirror_58 ⟨Nat.le_of_ble_eq_true rfl, Nat.le_of_ble_eq_true rfl⟩ rfl ?_
        refine xw_wo (w' := wM cI h r d 0 n p w (bt n) (mr B row (fun m => B (16 * row + mi m (bt n))) n) (mk M (fun m => B (16 * row + mi m (bt n))) n)) (by rw [mr_mk]) ?_
        refine xw_iload_n (pc := 61) C 2 dX1_mirror_61 rfl ?_
        exact xw_iret (pc := 62) C rX (Nat.le_refl _) (Nat.le_refl _) dX1_mirror_62 (PD.i)
      ·
        have hm := mi_p n (by omega) hn k (by omega) (by omega)
        refine xw_aload_n (pc := 28) C 0 dX1_mirror_28 rfl ?_
        refine xw_get (pc := 29) (T := TX1) (N := 7) (ref := "ToneButterfliesModel") C hin 0 6 rfl rfl (by decide) (by decide +kernel) rfl rfl dX1_mirror_29 ?_
        refine xw_aload_n (pc := 32) C 0 dX1_mirror_32 rfl ?_
        refine xw_iload_n (pc := 33) C 2 dX1_mirror_33 rfl ?_
        refine xw_Vd (pc := 34) (q0 := 0) (na := 1) (rest := [.ref d]) (st' := [nV (mi k (bt n)), .ref d]) C (m_X1_mirrored (show bt n < 5 by unfold bt; split <;> (try split) <;> omega) k (by omega)) gX1_mirror_X1_mirrored rfl rfl rfl rfl (by decide +kernel) ⟨Nat.le_of_ble_eq_true rfl, Nat.le_of_ble_eq_true rfl⟩ rfl rfl rfl (Nat.le_of_ble_eq_true rfl) dX1_mirror_34 ⟨Nat.le_of_ble_eq_true rfl, Nat.le_of_ble_eq_true rfl⟩ rfl ?_
        refine xw_aload_n (pc := 37) C 0 dX1_mirror_37 rfl ?_
        refine xw_iload_n (pc := 38) C 1 dX1_mirror_38 rfl ?_
        refine xw_iload_n (pc := 39) C 2 dX1_mirror_39 rfl ?_
        refine xw_Vd (pc := 40) (q0 := 0) (na := 2) (rest := [nV (mi k (bt n)), .ref d]) (st' := [nV (B (16 * row + k)), nV (mi k (bt n)), .ref d]) C (m_X1_its row k (by omega) (by omega)) gX1_mirror_X1_its rfl rfl rfl rfl (by decide +kernel) ⟨Nat.le_of_ble_eq_true rfl, Nat.le_of_ble_eq_true rfl⟩ rfl rfl rfl (Nat.le_of_ble_eq_true rfl) dX1_mirror_40 ⟨Nat.le_of_ble_eq_true rfl, Nat.le_of_ble_eq_true rfl⟩ rfl ?_
        refine xw_iast (pc := 43) (w' := wM cI h r d 0 n p w (bt n) B (va_up (mo M n (fun m => mi m (bt n)) (fun k => B (16 * row + k)) k) (mi k (bt n)) (B (16 * row + k)))) C 2 0 (mi k (bt n)) (B (16 * row + k)) rfl rfl (rfl) rfl (by omega) (by decide) rfl dX1_mirror_43 ?_
        refine xw_wo (w' := wM cI h r d 0 n p w (bt n) B (mo M n (fun m => mi m (bt n)) (fun k => B (16 * row + k)) (k + 1))) (by rw [mo_s rfl hm.1 hm.2 (fun m hm1 hm2 => by rw [← (mi_p n (by omega) hn m (by omega) hm1).2]; exact congrArg (fun z => mi z (bt n)) hm2)]) ?_
        refine xw_iinc_N (pc := 44) (b := k + 1) (lv' := [(0, .ref h), (1, nV row), (2, nV (k + 1))]) C 2 [1, 2, 0] dX1_mirror_44 rfl (by decide) rfl rfl ?_
        refine xw_goto (pc := 47) (tgt := 20) C dX1_mirror_47 (by decide) ?_
        exact ih20 (k + 1) (by omega) (by omega)
  refine xw_wo (w' := wM cI h r d 0 n p w (bt n) B (mo M n (fun m => mi m (bt n)) (fun k => B (16 * row + k)) 0)) (by rw [mo_0]) ?_
  exact L20 (n + 1) 0 (by omega) (by omega)

set_option maxHeartbeats 4000000 in
set_option maxRecDepth 100000 in
theorem m_X1_stage {l : Launch} {D : va_G} {cI : ClassId} {h r d th n p w b : Nat} {B M : Nat → Nat} (hp1 : 1 < p) (hp : 0 < p) (hp5 : p < 500) (hn : n = 4 ∨ n = 8 ∨ n = 16) (hB : ∀ j, B j < 500) (hw : w < 500) (hb : b = bt n) (row st : Nat) (hrw : row < 4) (hst : st < b) (hf : Nat) (hhf : hf = 2 ^ st) : CT l yX1_stage wsX1_stage (rmN 2 47) D vwCl [(cI, .int)] [.ref h, nV row, nV st] (wM cI h r d th n p w b B M) (PD (some (nV ((sg p n w B row hf) 0))) (wM cI h r d 0 n p w b (mr B row (sg p n w B row hf) n) (mk M (sg p n w B row hf) n))) 0 0 := by
  refine ct_of (plainFor_of_name (by decide)) rfl (Nat.le_of_ble_eq_true rfl) (fun φ C rX => ?_)
  have hin : ∀ w ∈ wsX10, w ∈ wsX1_stage := by decide +kernel
  refine xw_le (lv' := [(0, .ref h), (1, nV row), (2, nV st)]) rfl ?_
  have hn3 := lt3 hn
  have hbt : bt n ≤ 4 := by unfold bt; split <;> (try split) <;> omega
  have hh4 : (hf = 1 ∨ hf = 2 ∨ hf = 4 ∨ hf = 8) ∧ 2 * hf ≤ n ∧ n % (2 * hf) = 0 ∧ st < 4 := stH n hn st (hb ▸ hst) hf hhf
  refine xw_aload_n (pc := 0) C 0 dX1_stage_0 rfl ?_
  refine xw_iconst_N (pc := 1) C 0 dX1_stage_1 rfl ?_
  refine xw_put (pc := 2) (T := TX1) (N := 7) (ref := "ToneButterfliesModel") (w' := wM cI h r d 0 n p w b B M) C hin tyX1 tyX1_ok nmX1 0 0 rfl rfl (by decide) (by decide +kernel) rfl rfl rfl rfl (Nat.le_of_ble_eq_true rfl) rfl dX1_stage_2 ?_
  refine xw_iload_n (pc := 5) C 1 dX1_stage_5 rfl ?_
  refine xw_Sd (pc := 6) (na := 1) (rest := []) (st' := [bV (decide (((0 : Nat) : Int) ≤ (((row : Nat) : Int)) ∧ (((row : Nat) : Int)) ≤ ((3 : Nat) : Int)))]) C (m_X1_isRow (((row : Nat) : Int)) (by omega)) gX1_stage_X1_isRow rfl rfl rfl rfl (by decide +kernel) ⟨Nat.le_of_ble_eq_true rfl, Nat.le_of_ble_eq_true rfl⟩ rfl (Nat.le_of_ble_eq_true rfl) dX1_stage_6 ⟨Nat.le_of_ble_eq_true rfl, Nat.le_of_ble_eq_true rfl⟩ rfl ?_
  refine xw_if_eq_B (pc := 9) (tgt := 26) C dX1_stage_9 (by decide)  (fun c_1 => (by have q9 := of_decide_eq_false c_1; exfalso; omega)) (fun c_1 => ?_)
  have q_c_1 := of_decide_eq_true c_1
  refine xw_iload_n (pc := 12) C 2 dX1_stage_12 rfl ?_
  refine xw_iconst_N (pc := 13) C 0 dX1_stage_13 rfl ?_
  refine xw_aload_n (pc := 14) C 0 dX1_stage_14 rfl ?_
  refine xw_get (pc := 15) (T := TX1) (N := 7) (ref := "ToneButterfliesModel") C hin 0 4 rfl rfl (by decide) (by decide +kernel) rfl rfl dX1_stage_15 ?_
  refine xw_iconst_N (pc := 18) C 1 dX1_stage_18 rfl ?_
  refine xw_isub (pc := 19) C dX1_stage_19 ?_
  refine xw_Sd (pc := 20) (na := 3) (rest := []) (st' := [bV (decide ((((0 : Nat) : Int)) ≤ (((st : Nat) : Int)) ∧ (((st : Nat) : Int)) ≤ ((((b : Nat) : Int)) - (((1 : Nat) : Int)))))]) C (m_X1_isIn (((st : Nat) : Int)) (((0 : Nat) : Int)) ((((b : Nat) : Int)) - (((1 : Nat) : Int))) (by omega) (by omega) (by omega)) gX1_stage_X1_isIn rfl rfl rfl rfl (by decide +kernel) ⟨Nat.le_of_ble_eq_true rfl, Nat.le_of_ble_eq_true rfl⟩ rfl (Nat.le_of_ble_eq_true rfl) dX1_stage_20 ⟨Nat.le_of_ble_eq_true rfl, Nat.le_of_ble_eq_true rfl⟩ rfl ?_
  refine xw_if_ne_B (pc := 23) (tgt := 32) C dX1_stage_23 (by decide)  (fun c_2 => ?_) (fun c_2 => (by have q9 := of_decide_eq_false c_2; exfalso; omega))
  have q_c_2 := of_decide_eq_true c_2
  refine xw_iconst_N (pc := 32) C 1 dX1_stage_32 rfl ?_
  refine xw_iload_n (pc := 33) C 2 dX1_stage_33 rfl ?_
  refine xw_ishl (pc := 34) (r := iI ((hf : Nat) : Int)) C dX1_stage_34 (by rw [shl_k st (by omega), ← hhf]) ?_
  refine xw_istore_n (pc := 35) (lv' := [(0, .ref h), (1, nV row), (2, nV st), (3, nV hf)]) C [1, 2, 3, 0] dX1_stage_35 rfl (by decide) rfl ?_
  refine xw_iconst_N (pc := 36) C 0 dX1_stage_36 rfl ?_
  refine xw_istore (pc := 37) (lv' := [(0, .ref h), (1, nV row), (2, nV st), (3, nV hf), (4, nV 0)]) C [1, 2, 3, 4, 0] dX1_stage_37 (by decide) rfl ?_
  have L39 : ∀ (fuel : Nat) (k : Nat), n < k + fuel → k ≤ n → xw φ 0 0 (wM cI h r d 0 n p w b B (mk M (sg p n w B row hf) k)) 39 [(0, .ref h), (1, nV row), (2, nV st), (3, nV hf), (4, nV k)] [] := by
    intro fuel
    induction fuel with
    | zero =>
      intro k hk hkn
      omega
    | succ fuel ih39 =>
      intro k hk hkn
      refine xw_iload (pc := 39) C 4 dX1_stage_39 rfl ?_
      refine xw_aload_n (pc := 41) C 0 dX1_stage_41 rfl ?_
      refine xw_get (pc := 42) (T := TX1) (N := 7) (ref := "ToneButterfliesModel") C hin 0 1 rfl rfl (by decide) (by decide +kernel) rfl rfl dX1_stage_42 ?_
      refine xw_icmp_ge_N (pc := 45) (tgt := 172) C dX1_stage_45 (by decide) (by omega) (by omega) (fun c_3 => ?_) (fun c_3 => ?_)
      ·
        refine xw_wo (w' := wM cI h r d 0 n p w b B (mk M (sg p n w B row hf) n)) (by rw [show k = n from by omega]) ?_
        refine xw_aload_n (pc := 172) C 0 dX1_stage_172 rfl ?_
        refine xw_iload_n (pc := 173) C 1 dX1_stage_173 rfl ?_
        refine xw_Vd (pc := 174) (q0 := 0) (na := 1) (rest := []) (st' := []) C (m_X1_lay hn row (by omega)) gX1_stage_X1_lay rfl rfl rfl rfl (by decide +kernel) ⟨Nat.le_of_ble_eq_true rfl, Nat.le_of_ble_eq_true rfl⟩ rfl rfl rfl (Nat.le_of_ble_eq_true rfl) dX1_stage_174 ⟨Nat.le_of_ble_eq_true rfl, Nat.le_of_ble_eq_true rfl⟩ rfl ?_
        refine xw_wo (w' := wM cI h r d 0 n p w b (mr B row (sg p n w B row hf) n) (mk M (sg p n w B row hf) n)) (by rw [mr_mk]) ?_
        refine xw_aload_n (pc := 177) C 0 dX1_stage_177 rfl ?_
        refine xw_get (pc := 178) (T := TX1) (N := 7) (ref := "ToneButterfliesModel") C hin 0 6 rfl rfl (by decide) (by decide +kernel) rfl rfl dX1_stage_178 ?_
        refine xw_iconst_N (pc := 181) C 0 dX1_stage_181 rfl ?_
        refine xw_iald (pc := 182) C 2 0 0 rfl rfl (rfl) (by omega) (by decide) dX1_stage_182 ?_
        refine xw_st (st' := [nV ((sg p n w B row hf) 0)]) (by rw [mk_in (by omega)]) ?_
        exact xw_iret (pc := 183) C rX (Nat.le_refl _) (Nat.le_refl _) dX1_stage_183 (PD.i)
      ·
        have hkm := Nat.mod_lt k (show hf > 0 by omega)
        have hkd := Nat.div_le_self k hf
        have hdv := Nat.div_le_self n (2 * hf)
        have hmu := Nat.mul_le_mul (show k % hf ≤ 8 by omega) (show n / (2 * hf) ≤ 16 by omega)
        have hmu2 := Nat.mul_le_mul (show k % hf ≤ 8 by omega) (show n ≤ 16 by omega)
        refine xw_iload (pc := 48) C 4 dX1_stage_48 rfl ?_
        refine xw_iload_n (pc := 50) C 3 dX1_stage_50 rfl ?_
        refine xw_irem_N (pc := 51) C dX1_stage_51 (by omega) (by omega) ?_
        refine xw_istore (pc := 52) (lv' := [(0, .ref h), (1, nV row), (2, nV st), (3, nV hf), (4, nV k), (5, nV (k % hf))]) C [1, 2, 3, 4, 5, 0] dX1_stage_52 (by decide) rfl ?_
        refine xw_iload (pc := 54) C 4 dX1_stage_54 rfl ?_
        refine xw_iload_n (pc := 56) C 3 dX1_stage_56 rfl ?_
        refine xw_idiv_N (pc := 57) C dX1_stage_57 (by omega) (by omega) ?_
        refine xw_iconst_N (pc := 58) C 2 dX1_stage_58 rfl ?_
        refine xw_irem_N (pc := 59) C dX1_stage_59 (by omega) (by omega) ?_
        refine xw_if_ne_N (pc := 60) (tgt := 67) C dX1_stage_60 (by decide) (by omega) (fun c_4 => ?_) (fun c_4 => ?_)
        ·
          have hlow := c_4
          have hge : ¬ k < hf := by
            obtain ⟨h1, h2, h3, h4⟩ := hh4
            rcases h1 with rfl | rfl | rfl | rfl <;> omega
          refine xw_iconst_N (pc := 67) C 0 dX1_stage_67 rfl ?_
          refine xw_istore (pc := 68) (lv' := [(0, .ref h), (1, nV row), (2, nV st), (3, nV hf), (4, nV k), (5, nV (k % hf)), (6, nV 0)]) C [1, 2, 3, 4, 5, 6, 0] dX1_stage_68 (by decide) rfl ?_
          refine xw_aload_n (pc := 70) C 0 dX1_stage_70 rfl ?_
          refine xw_iload_n (pc := 71) C 1 dX1_stage_71 rfl ?_
          refine xw_iload (pc := 72) C 6 dX1_stage_72 rfl ?_
          refine xw_if_eq_N (pc := 74) (tgt := 82) C dX1_stage_74 (by decide) (by omega) (fun c_5 => ?_) (fun c_5 => (by exact absurd rfl c_5))
          refine xw_iload (pc := 82) C 4 dX1_stage_82 rfl ?_
          refine xw_iload_n (pc := 84) C 3 dX1_stage_84 rfl ?_
          refine xw_isub_N (pc := 85) C dX1_stage_85 (Nat.le_of_not_lt hge) ?_
          refine xw_Vd (pc := 86) (q0 := 0) (na := 2) (rest := []) (st' := [nV (B (16 * row + (k - hf)))]) C (m_X1_its row (k - hf) (by omega) (by omega)) gX1_stage_X1_its rfl rfl rfl rfl (by decide +kernel) ⟨Nat.le_of_ble_eq_true rfl, Nat.le_of_ble_eq_true rfl⟩ rfl rfl rfl (Nat.le_of_ble_eq_true rfl) dX1_stage_86 ⟨Nat.le_of_ble_eq_true rfl, Nat.le_of_ble_eq_true rfl⟩ rfl ?_
          have hb1 := hB ((16 * row + (k - hf)))
          refine xw_istore (pc := 89) (lv' := [(0, .ref h), (1, nV row), (2, nV st), (3, nV hf), (4, nV k), (5, nV (k % hf)), (6, nV 0), (7, nV (B (16 * row + (k - hf))))]) C [1, 2, 3, 4, 5, 6, 7, 0] dX1_stage_89 (by decide) rfl ?_
          refine xw_aload_n (pc := 91) C 0 dX1_stage_91 rfl ?_
          refine xw_aload_n (pc := 92) C 0 dX1_stage_92 rfl ?_
          refine xw_iload_n (pc := 93) C 1 dX1_stage_93 rfl ?_
          refine xw_iload (pc := 94) C 6 dX1_stage_94 rfl ?_
          refine xw_if_eq_N (pc := 96) (tgt := 106) C dX1_stage_96 (by decide) (by omega) (fun c_6 => ?_) (fun c_6 => (by exact absurd rfl c_6))
          refine xw_iload (pc := 106) C 4 dX1_stage_106 rfl ?_
          refine xw_Vd (pc := 108) (q0 := 0) (na := 2) (rest := [.ref h]) (st' := [nV (B (16 * row + k)), .ref h]) C (m_X1_its row k (by omega) (by omega)) gX1_stage_X1_its rfl rfl rfl rfl (by decide +kernel) ⟨Nat.le_of_ble_eq_true rfl, Nat.le_of_ble_eq_true rfl⟩ rfl rfl rfl (Nat.le_of_ble_eq_true rfl) dX1_stage_108 ⟨Nat.le_of_ble_eq_true rfl, Nat.le_of_ble_eq_true rfl⟩ rfl ?_
          have hb3 := hB ((16 * row + k))
          refine xw_aload_n (pc := 111) C 0 dX1_stage_111 rfl ?_
          refine xw_aload_n (pc := 112) C 0 dX1_stage_112 rfl ?_
          refine xw_get (pc := 113) (T := TX1) (N := 7) (ref := "ToneButterfliesModel") C hin 0 3 rfl rfl (by decide) (by decide +kernel) rfl rfl dX1_stage_113 ?_
          refine xw_iload (pc := 116) C 5 dX1_stage_116 rfl ?_
          refine xw_aload_n (pc := 118) C 0 dX1_stage_118 rfl ?_
          refine xw_get (pc := 119) (T := TX1) (N := 7) (ref := "ToneButterfliesModel") C hin 0 1 rfl rfl (by decide) (by decide +kernel) rfl rfl dX1_stage_119 ?_
          refine xw_imul_N (pc := 122) C dX1_stage_122 ?_
          refine xw_iconst_N (pc := 123) C 2 dX1_stage_123 rfl ?_
          refine xw_iload_n (pc := 124) C 3 dX1_stage_124 rfl ?_
          refine xw_imul_N (pc := 125) C dX1_stage_125 ?_
          refine xw_idiv_N (pc := 126) C dX1_stage_126 (by omega) (by omega) ?_
          refine xw_st (st' := [nV (k % hf * (n / (2 * hf))), nV w, .ref h, nV (B (16 * row + k)), .ref h]) (by rw [st_ex hh4.2.2.1]) ?_
          refine xw_Vd (pc := 127) (q0 := 0) (na := 2) (rest := [nV (B (16 * row + k)), .ref h]) (st' := [nV (w ^ (k % hf * (n / (2 * hf))) % p), nV (B (16 * row + k)), .ref h]) C (m_X1_power hp1 hp5 w (k % hf * (n / (2 * hf))) (by omega) (by omega)) gX1_stage_X1_power rfl rfl rfl rfl (by decide +kernel) ⟨Nat.le_of_ble_eq_true rfl, Nat.le_of_ble_eq_true rfl⟩ rfl rfl rfl (Nat.le_of_ble_eq_true rfl) dX1_stage_127 ⟨Nat.le_of_ble_eq_true rfl, Nat.le_of_ble_eq_true rfl⟩ rfl ?_
          have htw := Nat.mod_lt (w ^ (k % hf * (n / (2 * hf)))) hp
          refine xw_Vd (pc := 130) (q0 := 0) (na := 2) (rest := []) (st' := [nV ((B (16 * row + k)) * (w ^ (k % hf * (n / (2 * hf))) % p) % p)]) C (m_X1_by hp hp5 (B (16 * row + k)) (w ^ (k % hf * (n / (2 * hf))) % p) (by omega) (by omega)) gX1_stage_X1_by rfl rfl rfl rfl (by decide +kernel) ⟨Nat.le_of_ble_eq_true rfl, Nat.le_of_ble_eq_true rfl⟩ rfl rfl rfl (Nat.le_of_ble_eq_true rfl) dX1_stage_130 ⟨Nat.le_of_ble_eq_true rfl, Nat.le_of_ble_eq_true rfl⟩ rfl ?_
          have hb2 := Nat.mod_lt ((B (16 * row + k)) * (w ^ (k % hf * (n / (2 * hf))) % p)) hp
          refine xw_istore (pc := 133) (lv' := [(0, .ref h), (1, nV row), (2, nV st), (3, nV hf), (4, nV k), (5, nV (k % hf)), (6, nV 0), (7, nV (B (16 * row + (k - hf)))), (8, nV ((B (16 * row + k)) * (w ^ (k % hf * (n / (2 * hf))) % p) % p))]) C [1, 2, 3, 4, 5, 6, 7, 8, 0] dX1_stage_133 (by decide) rfl ?_
          refine xw_aload_n (pc := 135) C 0 dX1_stage_135 rfl ?_
          refine xw_get (pc := 136) (T := TX1) (N := 7) (ref := "ToneButterfliesModel") C hin 0 6 rfl rfl (by decide) (by decide +kernel) rfl rfl dX1_stage_136 ?_
          refine xw_iload (pc := 139) C 4 dX1_stage_139 rfl ?_
          refine xw_iload (pc := 141) C 6 dX1_stage_141 rfl ?_
          refine xw_if_eq_N (pc := 143) (tgt := 157) C dX1_stage_143 (by decide) (by omega) (fun c_7 => ?_) (fun c_7 => (by exact absurd rfl c_7))
          refine xw_aload_n (pc := 157) C 0 dX1_stage_157 rfl ?_
          refine xw_iload (pc := 158) C 7 dX1_stage_158 rfl ?_
          refine xw_iload (pc := 160) C 8 dX1_stage_160 rfl ?_
          refine xw_Vd (pc := 162) (q0 := 0) (na := 2) (rest := [nV k, .ref d]) (st' := [nV ((B (16 * row + (k - hf)) + p - ((B (16 * row + k)) * (w ^ (k % hf * (n / (2 * hf))) % p) % p)) % p), nV k, .ref d]) C (m_X1_minus hp hp5 (B (16 * row + (k - hf))) ((B (16 * row + k)) * (w ^ (k % hf * (n / (2 * hf))) % p) % p) (by omega) (by omega)) gX1_stage_X1_minus rfl rfl rfl rfl (by decide +kernel) ⟨Nat.le_of_ble_eq_true rfl, Nat.le_of_ble_eq_true rfl⟩ rfl rfl rfl (Nat.le_of_ble_eq_true rfl) dX1_stage_162 ⟨Nat.le_of_ble_eq_true rfl, Nat.le_of_ble_eq_true rfl⟩ rfl ?_
          refine xw_iast (pc := 165) (w' := wM cI h r d 0 n p w b B (va_up (mk M (sg p n w B row hf) k) k ((B (16 * row + (k - hf)) + p - ((B (16 * row + k)) * (w ^ (k % hf * (n / (2 * hf))) % p) % p)) % p))) C 2 0 k ((B (16 * row + (k - hf)) + p - ((B (16 * row + k)) * (w ^ (k % hf * (n / (2 * hf))) % p) % p)) % p) rfl rfl (rfl) rfl (by omega) (by decide) rfl dX1_stage_165 ?_
          refine xw_wo (w' := wM cI h r d 0 n p w b B (mk M (sg p n w B row hf) (k + 1))) (by rw [mk_s (g := sg p n w B row hf) (k := k) (by unfold sg; rw [if_neg hlow])]) ?_
          refine xw_iinc_N (pc := 166) (b := k + 1) (lv' := [(0, .ref h), (1, nV row), (2, nV st), (3, nV hf), (4, nV (k + 1)), (5, nV (k % hf)), (6, nV 0), (7, nV (B (16 * row + (k - hf)))), (8, nV ((B (16 * row + k)) * (w ^ (k % hf * (n / (2 * hf))) % p) % p))]) C 4 [1, 2, 3, 4, 0, 5, 6, 7, 8] dX1_stage_166 rfl (by decide) rfl rfl ?_
          refine xw_goto (pc := 169) (tgt := 39) C dX1_stage_169 (by decide) ?_
          refine xw_lv (lv' := [(0, .ref h), (1, nV row), (2, nV st), (3, nV hf), (4, nV (k + 1))]) [0, 1, 2, 3, 4] rfl ?_
          exact ih39 (k + 1) (by omega) (by omega)
        ·
          have hlow := c_4
          have hkh : k + hf < n := by
            obtain ⟨h1, h2, h3, h4⟩ := hh4
            rcases h1 with rfl | rfl | rfl | rfl <;> rcases hn with rfl | rfl | rfl <;> omega
          refine xw_iconst_N (pc := 63) C 1 dX1_stage_63 rfl ?_
          refine xw_goto (pc := 64) (tgt := 68) C dX1_stage_64 (by decide) ?_
          refine xw_istore (pc := 68) (lv' := [(0, .ref h), (1, nV row), (2, nV st), (3, nV hf), (4, nV k), (5, nV (k % hf)), (6, nV 1)]) C [1, 2, 3, 4, 5, 6, 0] dX1_stage_68 (by decide) rfl ?_
          refine xw_aload_n (pc := 70) C 0 dX1_stage_70 rfl ?_
          refine xw_iload_n (pc := 71) C 1 dX1_stage_71 rfl ?_
          refine xw_iload (pc := 72) C 6 dX1_stage_72 rfl ?_
          refine xw_if_eq_N (pc := 74) (tgt := 82) C dX1_stage_74 (by decide) (by omega) (fun c_8 => (by exact absurd c_8 (by decide))) (fun c_8 => ?_)
          refine xw_iload (pc := 77) C 4 dX1_stage_77 rfl ?_
          refine xw_goto (pc := 79) (tgt := 86) C dX1_stage_79 (by decide) ?_
          refine xw_Vd (pc := 86) (q0 := 0) (na := 2) (rest := []) (st' := [nV (B (16 * row + k))]) C (m_X1_its row k (by omega) (by omega)) gX1_stage_X1_its rfl rfl rfl rfl (by decide +kernel) ⟨Nat.le_of_ble_eq_true rfl, Nat.le_of_ble_eq_true rfl⟩ rfl rfl rfl (Nat.le_of_ble_eq_true rfl) dX1_stage_86 ⟨Nat.le_of_ble_eq_true rfl, Nat.le_of_ble_eq_true rfl⟩ rfl ?_
          have hb1 := hB ((16 * row + k))
          refine xw_istore (pc := 89) (lv' := [(0, .ref h), (1, nV row), (2, nV st), (3, nV hf), (4, nV k), (5, nV (k % hf)), (6, nV 1), (7, nV (B (16 * row + k)))]) C [1, 2, 3, 4, 5, 6, 7, 0] dX1_stage_89 (by decide) rfl ?_
          refine xw_aload_n (pc := 91) C 0 dX1_stage_91 rfl ?_
          refine xw_aload_n (pc := 92) C 0 dX1_stage_92 rfl ?_
          refine xw_iload_n (pc := 93) C 1 dX1_stage_93 rfl ?_
          refine xw_iload (pc := 94) C 6 dX1_stage_94 rfl ?_
          refine xw_if_eq_N (pc := 96) (tgt := 106) C dX1_stage_96 (by decide) (by omega) (fun c_9 => (by exact absurd c_9 (by decide))) (fun c_9 => ?_)
          refine xw_iload (pc := 99) C 4 dX1_stage_99 rfl ?_
          refine xw_iload_n (pc := 101) C 3 dX1_stage_101 rfl ?_
          refine xw_iadd_N (pc := 102) C dX1_stage_102 ?_
          refine xw_goto (pc := 103) (tgt := 108) C dX1_stage_103 (by decide) ?_
          refine xw_Vd (pc := 108) (q0 := 0) (na := 2) (rest := [.ref h]) (st' := [nV (B (16 * row + (k + hf))), .ref h]) C (m_X1_its row (k + hf) (by omega) (by omega)) gX1_stage_X1_its rfl rfl rfl rfl (by decide +kernel) ⟨Nat.le_of_ble_eq_true rfl, Nat.le_of_ble_eq_true rfl⟩ rfl rfl rfl (Nat.le_of_ble_eq_true rfl) dX1_stage_108 ⟨Nat.le_of_ble_eq_true rfl, Nat.le_of_ble_eq_true rfl⟩ rfl ?_
          have hb3 := hB ((16 * row + (k + hf)))
          refine xw_aload_n (pc := 111) C 0 dX1_stage_111 rfl ?_
          refine xw_aload_n (pc := 112) C 0 dX1_stage_112 rfl ?_
          refine xw_get (pc := 113) (T := TX1) (N := 7) (ref := "ToneButterfliesModel") C hin 0 3 rfl rfl (by decide) (by decide +kernel) rfl rfl dX1_stage_113 ?_
          refine xw_iload (pc := 116) C 5 dX1_stage_116 rfl ?_
          refine xw_aload_n (pc := 118) C 0 dX1_stage_118 rfl ?_
          refine xw_get (pc := 119) (T := TX1) (N := 7) (ref := "ToneButterfliesModel") C hin 0 1 rfl rfl (by decide) (by decide +kernel) rfl rfl dX1_stage_119 ?_
          refine xw_imul_N (pc := 122) C dX1_stage_122 ?_
          refine xw_iconst_N (pc := 123) C 2 dX1_stage_123 rfl ?_
          refine xw_iload_n (pc := 124) C 3 dX1_stage_124 rfl ?_
          refine xw_imul_N (pc := 125) C dX1_stage_125 ?_
          refine xw_idiv_N (pc := 126) C dX1_stage_126 (by omega) (by omega) ?_
          refine xw_st (st' := [nV (k % hf * (n / (2 * hf))), nV w, .ref h, nV (B (16 * row + (k + hf))), .ref h]) (by rw [st_ex hh4.2.2.1]) ?_
          refine xw_Vd (pc := 127) (q0 := 0) (na := 2) (rest := [nV (B (16 * row + (k + hf))), .ref h]) (st' := [nV (w ^ (k % hf * (n / (2 * hf))) % p), nV (B (16 * row + (k + hf))), .ref h]) C (m_X1_power hp1 hp5 w (k % hf * (n / (2 * hf))) (by omega) (by omega)) gX1_stage_X1_power rfl rfl rfl rfl (by decide +kernel) ⟨Nat.le_of_ble_eq_true rfl, Nat.le_of_ble_eq_true rfl⟩ rfl rfl rfl (Nat.le_of_ble_eq_true rfl) dX1_stage_127 ⟨Nat.le_of_ble_eq_true rfl, Nat.le_of_ble_eq_true rfl⟩ rfl ?_
          have htw := Nat.mod_lt (w ^ (k % hf * (n / (2 * hf)))) hp
          refine xw_Vd (pc := 130) (q0 := 0) (na := 2) (rest := []) (st' := [nV ((B (16 * row + (k + hf))) * (w ^ (k % hf * (n / (2 * hf))) % p) % p)]) C (m_X1_by hp hp5 (B (16 * row + (k + hf))) (w ^ (k % hf * (n / (2 * hf))) % p) (by omega) (by omega)) gX1_stage_X1_by rfl rfl rfl rfl (by decide +kernel) ⟨Nat.le_of_ble_eq_true rfl, Nat.le_of_ble_eq_true rfl⟩ rfl rfl rfl (Nat.le_of_ble_eq_true rfl) dX1_stage_130 ⟨Nat.le_of_ble_eq_true rfl, Nat.le_of_ble_eq_true rfl⟩ rfl ?_
          have hb2 := Nat.mod_lt ((B (16 * row + (k + hf))) * (w ^ (k % hf * (n / (2 * hf))) % p)) hp
          refine xw_istore (pc := 133) (lv' := [(0, .ref h), (1, nV row), (2, nV st), (3, nV hf), (4, nV k), (5, nV (k % hf)), (6, nV 1), (7, nV (B (16 * row + k))), (8, nV ((B (16 * row + (k + hf))) * (w ^ (k % hf * (n / (2 * hf))) % p) % p))]) C [1, 2, 3, 4, 5, 6, 7, 8, 0] dX1_stage_133 (by decide) rfl ?_
          refine xw_aload_n (pc := 135) C 0 dX1_stage_135 rfl ?_
          refine xw_get (pc := 136) (T := TX1) (N := 7) (ref := "ToneButterfliesModel") C hin 0 6 rfl rfl (by decide) (by decide +kernel) rfl rfl dX1_stage_136 ?_
          refine xw_iload (pc := 139) C 4 dX1_stage_139 rfl ?_
          refine xw_iload (pc := 141) C 6 dX1_stage_141 rfl ?_
          refine xw_if_eq_N (pc := 143) (tgt := 157) C dX1_stage_143 (by decide) (by omega) (fun c_10 => (by exact absurd c_10 (by decide))) (fun c_10 => ?_)
          refine xw_aload_n (pc := 146) C 0 dX1_stage_146 rfl ?_
          refine xw_iload (pc := 147) C 7 dX1_stage_147 rfl ?_
          refine xw_iload (pc := 149) C 8 dX1_stage_149 rfl ?_
          refine xw_Vd (pc := 151) (q0 := 0) (na := 2) (rest := [nV k, .ref d]) (st' := [nV ((B (16 * row + k) + ((B (16 * row + (k + hf))) * (w ^ (k % hf * (n / (2 * hf))) % p) % p)) % p), nV k, .ref d]) C (m_X1_plus hp hp5 (B (16 * row + k)) ((B (16 * row + (k + hf))) * (w ^ (k % hf * (n / (2 * hf))) % p) % p) (by omega)) gX1_stage_X1_plus rfl rfl rfl rfl (by decide +kernel) ⟨Nat.le_of_ble_eq_true rfl, Nat.le_of_ble_eq_true rfl⟩ rfl rfl rfl (Nat.le_of_ble_eq_true rfl) dX1_stage_151 ⟨Nat.le_of_ble_eq_true rfl, Nat.le_of_ble_eq_true rfl⟩ rfl ?_
          refine xw_goto (pc := 154) (tgt := 165) C dX1_stage_154 (by decide) ?_
          refine xw_iast (pc := 165) (w' := wM cI h r d 0 n p w b B (va_up (mk M (sg p n w B row hf) k) k ((B (16 * row + k) + ((B (16 * row + (k + hf))) * (w ^ (k % hf * (n / (2 * hf))) % p) % p)) % p))) C 2 0 k ((B (16 * row + k) + ((B (16 * row + (k + hf))) * (w ^ (k % hf * (n / (2 * hf))) % p) % p)) % p) rfl rfl (rfl) rfl (by omega) (by decide) rfl dX1_stage_165 ?_
          refine xw_wo (w' := wM cI h r d 0 n p w b B (mk M (sg p n w B row hf) (k + 1))) (by rw [mk_s (g := sg p n w B row hf) (k := k) (by unfold sg; rw [if_pos hlow])]) ?_
          refine xw_iinc_N (pc := 166) (b := k + 1) (lv' := [(0, .ref h), (1, nV row), (2, nV st), (3, nV hf), (4, nV (k + 1)), (5, nV (k % hf)), (6, nV 1), (7, nV (B (16 * row + k))), (8, nV ((B (16 * row + (k + hf))) * (w ^ (k % hf * (n / (2 * hf))) % p) % p))]) C 4 [1, 2, 3, 4, 0, 5, 6, 7, 8] dX1_stage_166 rfl (by decide) rfl rfl ?_
          refine xw_goto (pc := 169) (tgt := 39) C dX1_stage_169 (by decide) ?_
          refine xw_lv (lv' := [(0, .ref h), (1, nV row), (2, nV st), (3, nV hf), (4, nV (k + 1))]) [0, 1, 2, 3, 4] rfl ?_
          exact ih39 (k + 1) (by omega) (by omega)
  refine xw_wo (w' := wM cI h r d 0 n p w b B (mk M (sg p n w B row hf) 0)) (by rw [mk_0]) ?_
  exact L39 (n + 1) 0 (by omega) (by omega)

set_option maxHeartbeats 4000000 in
set_option maxRecDepth 100000 in
theorem m_X1_fold {l : Launch} {D : va_G} {cI : ClassId} {h r d th n p w b : Nat} {B M : Nat → Nat} (hp : 0 < p) (hp5 : p < 500) (hn : n = 4 ∨ n = 8 ∨ n = 16) (hB : ∀ j, B j < 500) (ra rb : Nat) (hra : ra < 4) (hrb : rb < 4) : CT l yX1_fold wsX1_fold (rmN 2 47) D vwCl [(cI, .int)] [.ref h, nV ra, nV rb] (wM cI h r d th n p w b B M) (PD (some (nV (fo p n B ra rb 0 n))) (wM cI h r d 0 n p w b (mr B ra (fun k => fo p n B ra rb k n) n) (mk M (fun k => fo p n B ra rb k n) n))) 0 0 := by
  refine ct_of (plainFor_of_name (by decide)) rfl (Nat.le_of_ble_eq_true rfl) (fun φ C rX => ?_)
  have hin : ∀ w ∈ wsX10, w ∈ wsX1_fold := by decide +kernel
  refine xw_le (lv' := [(0, .ref h), (1, nV ra), (2, nV rb)]) rfl ?_
  have hn3 := lt3 hn
  refine xw_aload_n (pc := 0) C 0 dX1_fold_0 rfl ?_
  refine xw_iconst_N (pc := 1) C 0 dX1_fold_1 rfl ?_
  refine xw_put (pc := 2) (T := TX1) (N := 7) (ref := "ToneButterfliesModel") (w' := wM cI h r d 0 n p w b B M) C hin tyX1 tyX1_ok nmX1 0 0 rfl rfl (by decide) (by decide +kernel) rfl rfl rfl rfl (Nat.le_of_ble_eq_true rfl) rfl dX1_fold_2 ?_
  refine xw_iload_n (pc := 5) C 1 dX1_fold_5 rfl ?_
  refine xw_Sd (pc := 6) (na := 1) (rest := []) (st' := [bV (decide (((0 : Nat) : Int) ≤ (((ra : Nat) : Int)) ∧ (((ra : Nat) : Int)) ≤ ((3 : Nat) : Int)))]) C (m_X1_isRow (((ra : Nat) : Int)) (by omega)) gX1_fold_X1_isRow rfl rfl rfl rfl (by decide +kernel) ⟨Nat.le_of_ble_eq_true rfl, Nat.le_of_ble_eq_true rfl⟩ rfl (Nat.le_of_ble_eq_true rfl) dX1_fold_6 ⟨Nat.le_of_ble_eq_true rfl, Nat.le_of_ble_eq_true rfl⟩ rfl ?_
  refine xw_if_eq_B (pc := 9) (tgt := 19) C dX1_fold_9 (by decide)  (fun c_1 => (by have q9 := of_decide_eq_false c_1; exfalso; omega)) (fun c_1 => ?_)
  have q_c_1 := of_decide_eq_true c_1
  refine xw_iload_n (pc := 12) C 2 dX1_fold_12 rfl ?_
  refine xw_Sd (pc := 13) (na := 1) (rest := []) (st' := [bV (decide (((0 : Nat) : Int) ≤ (((rb : Nat) : Int)) ∧ (((rb : Nat) : Int)) ≤ ((3 : Nat) : Int)))]) C (m_X1_isRow (((rb : Nat) : Int)) (by omega)) gX1_fold_X1_isRow rfl rfl rfl rfl (by decide +kernel) ⟨Nat.le_of_ble_eq_true rfl, Nat.le_of_ble_eq_true rfl⟩ rfl (Nat.le_of_ble_eq_true rfl) dX1_fold_13 ⟨Nat.le_of_ble_eq_true rfl, Nat.le_of_ble_eq_true rfl⟩ rfl ?_
  refine xw_if_ne_B (pc := 16) (tgt := 25) C dX1_fold_16 (by decide)  (fun c_2 => ?_) (fun c_2 => (by have q9 := of_decide_eq_false c_2; exfalso; omega))
  have q_c_2 := of_decide_eq_true c_2
  refine xw_iconst_N (pc := 25) C 0 dX1_fold_25 rfl ?_
  refine xw_istore_n (pc := 26) (lv' := [(0, .ref h), (1, nV ra), (2, nV rb), (3, nV 0)]) C [1, 2, 3, 0] dX1_fold_26 rfl (by decide) rfl ?_
  have L27 : ∀ (fuel : Nat) (k : Nat), n < k + fuel → k ≤ n → xw φ 0 0 (wM cI h r d 0 n p w b B (mk M (fun k => fo p n B ra rb k n) k)) 27 [(0, .ref h), (1, nV ra), (2, nV rb), (3, nV k)] [] := by
    intro fuel
    induction fuel with
    | zero =>
      intro k hk hkn
      omega
    | succ fuel ih27 =>
      intro k hk hkn
      refine xw_iload_n (pc := 27) C 3 dX1_fold_27 rfl ?_
      refine xw_aload_n (pc := 28) C 0 dX1_fold_28 rfl ?_
      refine xw_get (pc := 29) (T := TX1) (N := 7) (ref := "ToneButterfliesModel") C hin 0 1 rfl rfl (by decide) (by decide +kernel) rfl rfl dX1_fold_29 ?_
      refine xw_icmp_ge_N (pc := 32) (tgt := 54) C dX1_fold_32 (by decide) (by omega) (by omega) (fun c_3 => ?_) (fun c_3 => ?_)
      ·
        refine xw_wo (w' := wM cI h r d 0 n p w b B (mk M (fun k => fo p n B ra rb k n) n)) (by rw [show k = n from by omega]) ?_
        refine xw_aload_n (pc := 54) C 0 dX1_fold_54 rfl ?_
        refine xw_iload_n (pc := 55) C 1 dX1_fold_55 rfl ?_
        refine xw_Vd (pc := 56) (q0 := 0) (na := 1) (rest := []) (st' := []) C (m_X1_lay hn ra (by omega)) gX1_fold_X1_lay rfl rfl rfl rfl (by decide +kernel) ⟨Nat.le_of_ble_eq_true rfl, Nat.le_of_ble_eq_true rfl⟩ rfl rfl rfl (Nat.le_of_ble_eq_true rfl) dX1_fold_56 ⟨Nat.le_of_ble_eq_true rfl, Nat.le_of_ble_eq_true rfl⟩ rfl ?_
        refine xw_wo (w' := wM cI h r d 0 n p w b (mr B ra (fun k => fo p n B ra rb k n) n) (mk M (fun k => fo p n B ra rb k n) n)) (by rw [mr_mk]) ?_
        refine xw_aload_n (pc := 59) C 0 dX1_fold_59 rfl ?_
        refine xw_get (pc := 60) (T := TX1) (N := 7) (ref := "ToneButterfliesModel") C hin 0 6 rfl rfl (by decide) (by decide +kernel) rfl rfl dX1_fold_60 ?_
        refine xw_iconst_N (pc := 63) C 0 dX1_fold_63 rfl ?_
        refine xw_iald (pc := 64) C 2 0 0 rfl rfl (rfl) (by omega) (by decide) dX1_fold_64 ?_
        refine xw_st (st' := [nV (fo p n B ra rb 0 n)]) (by rw [mk_in (by omega)]) ?_
        exact xw_iret (pc := 65) C rX (Nat.le_refl _) (Nat.le_refl _) dX1_fold_65 (PD.i)
      ·
        refine xw_aload_n (pc := 35) C 0 dX1_fold_35 rfl ?_
        refine xw_get (pc := 36) (T := TX1) (N := 7) (ref := "ToneButterfliesModel") C hin 0 6 rfl rfl (by decide) (by decide +kernel) rfl rfl dX1_fold_36 ?_
        refine xw_iload_n (pc := 39) C 3 dX1_fold_39 rfl ?_
        refine xw_aload_n (pc := 40) C 0 dX1_fold_40 rfl ?_
        refine xw_iload_n (pc := 41) C 1 dX1_fold_41 rfl ?_
        refine xw_iload_n (pc := 42) C 2 dX1_fold_42 rfl ?_
        refine xw_iload_n (pc := 43) C 3 dX1_fold_43 rfl ?_
        refine xw_Vd (pc := 44) (q0 := 0) (na := 3) (rest := [nV k, .ref d]) (st' := [nV (fo p n B ra rb k n), nV k, .ref d]) C (m_X1_folded hp hp5 hn (hB) ra rb k (by omega) (by omega) (by omega)) gX1_fold_X1_folded rfl rfl rfl rfl (by decide +kernel) ⟨Nat.le_of_ble_eq_true rfl, Nat.le_of_ble_eq_true rfl⟩ rfl rfl rfl (Nat.le_of_ble_eq_true rfl) dX1_fold_44 ⟨Nat.le_of_ble_eq_true rfl, Nat.le_of_ble_eq_true rfl⟩ rfl ?_
        refine xw_iast (pc := 47) (w' := wM cI h r d 0 n p w b B (va_up (mk M (fun k => fo p n B ra rb k n) k) k (fo p n B ra rb k n))) C 2 0 k (fo p n B ra rb k n) rfl rfl (rfl) rfl (by omega) (by decide) rfl dX1_fold_47 ?_
        refine xw_wo (w' := wM cI h r d 0 n p w b B (mk M (fun k => fo p n B ra rb k n) (k + 1))) (by rw [mk_s rfl]) ?_
        refine xw_iinc_N (pc := 48) (b := k + 1) (lv' := [(0, .ref h), (1, nV ra), (2, nV rb), (3, nV (k + 1))]) C 3 [1, 2, 3, 0] dX1_fold_48 rfl (by decide) rfl rfl ?_
        refine xw_goto (pc := 51) (tgt := 27) C dX1_fold_51 (by decide) ?_
        exact ih27 (k + 1) (by omega) (by omega)
  refine xw_wo (w' := wM cI h r d 0 n p w b B (mk M (fun k => fo p n B ra rb k n) 0)) (by rw [mk_0]) ?_
  exact L27 (n + 1) 0 (by omega) (by omega)

set_option maxHeartbeats 4000000 in
set_option maxRecDepth 100000 in
theorem m_X1_join {l : Launch} {D : va_G} {cI : ClassId} {h r d th n p w b : Nat} {B M : Nat → Nat} (hp : 0 < p) (hp5 : p < 500) (hn : n = 4 ∨ n = 8 ∨ n = 16) (hB : ∀ j, B j < 500) (hBp : ∀ j, j < 64 → B j < p) (ra rb : Nat) (hra : ra < 4) (hrb : rb < 4) (what : Nat) (hwh : what < 3) : CT l yX1_join wsX1_join (rmN 2 45) D vwCl [(cI, .int)] [.ref h, nV ra, nV rb, nV what] (wM cI h r d th n p w b B M) (PD (some (nV (cc (fun k => decide (mr B ra (fun i => jn p (B (16 * ra + i)) (B (16 * rb + i)) what) n (16 * ra + k) ≠ 0)) n))) (wM cI h r d 0 n p w b (mr B ra (fun i => jn p (B (16 * ra + i)) (B (16 * rb + i)) what) n) (mk M (fun i => jn p (B (16 * ra + i)) (B (16 * rb + i)) what) n))) 0 0 := by
  refine ct_of (plainFor_of_name (by decide)) rfl (Nat.le_of_ble_eq_true rfl) (fun φ C rX => ?_)
  have hin : ∀ w ∈ wsX10, w ∈ wsX1_join := by decide +kernel
  refine xw_le (lv' := [(0, .ref h), (1, nV ra), (2, nV rb), (3, nV what)]) rfl ?_
  have hn3 := lt3 hn
  refine xw_aload_n (pc := 0) C 0 dX1_join_0 rfl ?_
  refine xw_iconst_N (pc := 1) C 0 dX1_join_1 rfl ?_
  refine xw_put (pc := 2) (T := TX1) (N := 7) (ref := "ToneButterfliesModel") (w' := wM cI h r d 0 n p w b B M) C hin tyX1 tyX1_ok nmX1 0 0 rfl rfl (by decide) (by decide +kernel) rfl rfl rfl rfl (Nat.le_of_ble_eq_true rfl) rfl dX1_join_2 ?_
  refine xw_iload_n (pc := 5) C 1 dX1_join_5 rfl ?_
  refine xw_Sd (pc := 6) (na := 1) (rest := []) (st' := [bV (decide (((0 : Nat) : Int) ≤ (((ra : Nat) : Int)) ∧ (((ra : Nat) : Int)) ≤ ((3 : Nat) : Int)))]) C (m_X1_isRow (((ra : Nat) : Int)) (by omega)) gX1_join_X1_isRow rfl rfl rfl rfl (by decide +kernel) ⟨Nat.le_of_ble_eq_true rfl, Nat.le_of_ble_eq_true rfl⟩ rfl (Nat.le_of_ble_eq_true rfl) dX1_join_6 ⟨Nat.le_of_ble_eq_true rfl, Nat.le_of_ble_eq_true rfl⟩ rfl ?_
  refine xw_if_eq_B (pc := 9) (tgt := 28) C dX1_join_9 (by decide)  (fun c_1 => (by have q9 := of_decide_eq_false c_1; exfalso; omega)) (fun c_1 => ?_)
  have q_c_1 := of_decide_eq_true c_1
  refine xw_iload_n (pc := 12) C 2 dX1_join_12 rfl ?_
  refine xw_Sd (pc := 13) (na := 1) (rest := []) (st' := [bV (decide (((0 : Nat) : Int) ≤ (((rb : Nat) : Int)) ∧ (((rb : Nat) : Int)) ≤ ((3 : Nat) : Int)))]) C (m_X1_isRow (((rb : Nat) : Int)) (by omega)) gX1_join_X1_isRow rfl rfl rfl rfl (by decide +kernel) ⟨Nat.le_of_ble_eq_true rfl, Nat.le_of_ble_eq_true rfl⟩ rfl (Nat.le_of_ble_eq_true rfl) dX1_join_13 ⟨Nat.le_of_ble_eq_true rfl, Nat.le_of_ble_eq_true rfl⟩ rfl ?_
  refine xw_if_eq_B (pc := 16) (tgt := 28) C dX1_join_16 (by decide)  (fun c_2 => (by have q9 := of_decide_eq_false c_2; exfalso; omega)) (fun c_2 => ?_)
  have q_c_2 := of_decide_eq_true c_2
  refine xw_iload_n (pc := 19) C 3 dX1_join_19 rfl ?_
  refine xw_iconst_N (pc := 20) C 0 dX1_join_20 rfl ?_
  refine xw_iconst_N (pc := 21) C 2 dX1_join_21 rfl ?_
  refine xw_Sd (pc := 22) (na := 3) (rest := []) (st' := [bV (decide ((((0 : Nat) : Int)) ≤ (((what : Nat) : Int)) ∧ (((what : Nat) : Int)) ≤ (((2 : Nat) : Int))))]) C (m_X1_isIn (((what : Nat) : Int)) (((0 : Nat) : Int)) (((2 : Nat) : Int)) (by omega) (by omega) (by omega)) gX1_join_X1_isIn rfl rfl rfl rfl (by decide +kernel) ⟨Nat.le_of_ble_eq_true rfl, Nat.le_of_ble_eq_true rfl⟩ rfl (Nat.le_of_ble_eq_true rfl) dX1_join_22 ⟨Nat.le_of_ble_eq_true rfl, Nat.le_of_ble_eq_true rfl⟩ rfl ?_
  refine xw_if_ne_B (pc := 25) (tgt := 34) C dX1_join_25 (by decide)  (fun c_3 => ?_) (fun c_3 => (by have q9 := of_decide_eq_false c_3; exfalso; omega))
  have q_c_3 := of_decide_eq_true c_3
  refine xw_iconst_N (pc := 34) C 0 dX1_join_34 rfl ?_
  refine xw_istore (pc := 35) (lv' := [(0, .ref h), (1, nV ra), (2, nV rb), (3, nV what), (4, nV 0)]) C [1, 2, 3, 4, 0] dX1_join_35 (by decide) rfl ?_
  have L37 : ∀ (fuel : Nat) (k : Nat), n < k + fuel → k ≤ n → xw φ 0 0 (wM cI h r d 0 n p w b B (mk M (fun i => jn p (B (16 * ra + i)) (B (16 * rb + i)) what) k)) 37 [(0, .ref h), (1, nV ra), (2, nV rb), (3, nV what), (4, nV k)] [] := by
    intro fuel
    induction fuel with
    | zero =>
      intro k hk hkn
      omega
    | succ fuel ih37 =>
      intro k hk hkn
      refine xw_iload (pc := 37) C 4 dX1_join_37 rfl ?_
      refine xw_aload_n (pc := 39) C 0 dX1_join_39 rfl ?_
      refine xw_get (pc := 40) (T := TX1) (N := 7) (ref := "ToneButterfliesModel") C hin 0 1 rfl rfl (by decide) (by decide +kernel) rfl rfl dX1_join_40 ?_
      refine xw_icmp_ge_N (pc := 43) (tgt := 128) C dX1_join_43 (by decide) (by omega) (by omega) (fun c_4 => ?_) (fun c_4 => ?_)
      ·
        refine xw_wo (w' := wM cI h r d 0 n p w b B (mk M (fun i => jn p (B (16 * ra + i)) (B (16 * rb + i)) what) n)) (by rw [show k = n from by omega]) ?_
        refine xw_aload_n (pc := 128) C 0 dX1_join_128 rfl ?_
        refine xw_iload_n (pc := 129) C 1 dX1_join_129 rfl ?_
        refine xw_Vd (pc := 130) (q0 := 0) (na := 1) (rest := []) (st' := []) C (m_X1_lay hn ra (by omega)) gX1_join_X1_lay rfl rfl rfl rfl (by decide +kernel) ⟨Nat.le_of_ble_eq_true rfl, Nat.le_of_ble_eq_true rfl⟩ rfl rfl rfl (Nat.le_of_ble_eq_true rfl) dX1_join_130 ⟨Nat.le_of_ble_eq_true rfl, Nat.le_of_ble_eq_true rfl⟩ rfl ?_
        refine xw_wo (w' := wM cI h r d 0 n p w b (mr B ra (fun i => jn p (B (16 * ra + i)) (B (16 * rb + i)) what) n) (mk M (fun i => jn p (B (16 * ra + i)) (B (16 * rb + i)) what) n)) (by rw [mr_mk]) ?_
        refine xw_aload_n (pc := 133) C 0 dX1_join_133 rfl ?_
        refine xw_iload_n (pc := 134) C 1 dX1_join_134 rfl ?_
        refine xw_Vd (pc := 135) (q0 := 0) (na := 1) (rest := []) (st' := [nV (cc (fun k => decide ((mr B ra (fun i => jn p (B (16 * ra + i)) (B (16 * rb + i)) what) n) (16 * ra + k) ≠ 0)) n)]) C (m_X1_others hn (mr_lt (g := (fun i => jn p (B (16 * ra + i)) (B (16 * rb + i)) what)) hB (fun j _ => Nat.lt_trans (jn_lt hp what) hp5)) ra (by omega)) gX1_join_X1_others rfl rfl rfl rfl (by decide +kernel) ⟨Nat.le_of_ble_eq_true rfl, Nat.le_of_ble_eq_true rfl⟩ rfl rfl rfl (Nat.le_of_ble_eq_true rfl) dX1_join_135 ⟨Nat.le_of_ble_eq_true rfl, Nat.le_of_ble_eq_true rfl⟩ rfl ?_
        exact xw_iret (pc := 138) C rX (Nat.le_refl _) (Nat.le_refl _) dX1_join_138 (PD.i)
      ·
        have hb1 := hB (16 * ra + k)
        have hb2 := hBp (16 * rb + k) (by omega)
        refine xw_aload_n (pc := 46) C 0 dX1_join_46 rfl ?_
        refine xw_get (pc := 47) (T := TX1) (N := 7) (ref := "ToneButterfliesModel") C hin 0 6 rfl rfl (by decide) (by decide +kernel) rfl rfl dX1_join_47 ?_
        refine xw_iload (pc := 50) C 4 dX1_join_50 rfl ?_
        refine xw_iload_n (pc := 52) C 3 dX1_join_52 rfl ?_
        refine xw_if_ne_N (pc := 53) (tgt := 77) C dX1_join_53 (by decide) (by omega) (fun c_5 => ?_) (fun c_5 => ?_)
        ·
          refine xw_iload_n (pc := 77) C 3 dX1_join_77 rfl ?_
          refine xw_iconst_N (pc := 78) C 1 dX1_join_78 rfl ?_
          refine xw_icmp_ne_N (pc := 79) (tgt := 103) C dX1_join_79 (by decide) (by omega) (by omega) (fun c_6 => ?_) (fun c_6 => ?_)
          ·
            have hwe : what = 2 := by omega
            refine xw_aload_n (pc := 103) C 0 dX1_join_103 rfl ?_
            refine xw_aload_n (pc := 104) C 0 dX1_join_104 rfl ?_
            refine xw_iload_n (pc := 105) C 1 dX1_join_105 rfl ?_
            refine xw_iload (pc := 106) C 4 dX1_join_106 rfl ?_
            refine xw_Vd (pc := 108) (q0 := 0) (na := 2) (rest := [.ref h, nV k, .ref d]) (st' := [nV (B (16 * ra + k)), .ref h, nV k, .ref d]) C (m_X1_its ra k (by omega) (by omega)) gX1_join_X1_its rfl rfl rfl rfl (by decide +kernel) ⟨Nat.le_of_ble_eq_true rfl, Nat.le_of_ble_eq_true rfl⟩ rfl rfl rfl (Nat.le_of_ble_eq_true rfl) dX1_join_108 ⟨Nat.le_of_ble_eq_true rfl, Nat.le_of_ble_eq_true rfl⟩ rfl ?_
            refine xw_aload_n (pc := 111) C 0 dX1_join_111 rfl ?_
            refine xw_iload_n (pc := 112) C 2 dX1_join_112 rfl ?_
            refine xw_iload (pc := 113) C 4 dX1_join_113 rfl ?_
            refine xw_Vd (pc := 115) (q0 := 0) (na := 2) (rest := [nV (B (16 * ra + k)), .ref h, nV k, .ref d]) (st' := [nV (B (16 * rb + k)), nV (B (16 * ra + k)), .ref h, nV k, .ref d]) C (m_X1_its rb k (by omega) (by omega)) gX1_join_X1_its rfl rfl rfl rfl (by decide +kernel) ⟨Nat.le_of_ble_eq_true rfl, Nat.le_of_ble_eq_true rfl⟩ rfl rfl rfl (Nat.le_of_ble_eq_true rfl) dX1_join_115 ⟨Nat.le_of_ble_eq_true rfl, Nat.le_of_ble_eq_true rfl⟩ rfl ?_
            refine xw_Vd (pc := 118) (q0 := 0) (na := 2) (rest := [nV k, .ref d]) (st' := [nV ((B (16 * ra + k)) * (B (16 * rb + k)) % p), nV k, .ref d]) C (m_X1_by hp hp5 (B (16 * ra + k)) (B (16 * rb + k)) (by omega) (by omega)) gX1_join_X1_by rfl rfl rfl rfl (by decide +kernel) ⟨Nat.le_of_ble_eq_true rfl, Nat.le_of_ble_eq_true rfl⟩ rfl rfl rfl (Nat.le_of_ble_eq_true rfl) dX1_join_118 ⟨Nat.le_of_ble_eq_true rfl, Nat.le_of_ble_eq_true rfl⟩ rfl ?_
            refine xw_iast (pc := 121) (w' := wM cI h r d 0 n p w b B (va_up (mk M (fun i => jn p (B (16 * ra + i)) (B (16 * rb + i)) what) k) k ((B (16 * ra + k)) * (B (16 * rb + k)) % p))) C 2 0 k ((B (16 * ra + k)) * (B (16 * rb + k)) % p) rfl rfl (rfl) rfl (by omega) (by decide) rfl dX1_join_121 ?_
            refine xw_wo (w' := wM cI h r d 0 n p w b B (mk M (fun i => jn p (B (16 * ra + i)) (B (16 * rb + i)) what) (k + 1))) (by rw [mk_s (g := (fun i => jn p (B (16 * ra + i)) (B (16 * rb + i)) what)) (k := k) (by show _ = jn p (B (16 * ra + k)) (B (16 * rb + k)) what; rw [hwe]; rfl)]) ?_
            refine xw_iinc_N (pc := 122) (b := k + 1) (lv' := [(0, .ref h), (1, nV ra), (2, nV rb), (3, nV what), (4, nV (k + 1))]) C 4 [1, 2, 3, 4, 0] dX1_join_122 rfl (by decide) rfl rfl ?_
            refine xw_goto (pc := 125) (tgt := 37) C dX1_join_125 (by decide) ?_
            exact ih37 (k + 1) (by omega) (by omega)
          ·
            have hwe : what = 1 := by omega
            refine xw_aload_n (pc := 82) C 0 dX1_join_82 rfl ?_
            refine xw_aload_n (pc := 83) C 0 dX1_join_83 rfl ?_
            refine xw_iload_n (pc := 84) C 1 dX1_join_84 rfl ?_
            refine xw_iload (pc := 85) C 4 dX1_join_85 rfl ?_
            refine xw_Vd (pc := 87) (q0 := 0) (na := 2) (rest := [.ref h, nV k, .ref d]) (st' := [nV (B (16 * ra + k)), .ref h, nV k, .ref d]) C (m_X1_its ra k (by omega) (by omega)) gX1_join_X1_its rfl rfl rfl rfl (by decide +kernel) ⟨Nat.le_of_ble_eq_true rfl, Nat.le_of_ble_eq_true rfl⟩ rfl rfl rfl (Nat.le_of_ble_eq_true rfl) dX1_join_87 ⟨Nat.le_of_ble_eq_true rfl, Nat.le_of_ble_eq_true rfl⟩ rfl ?_
            refine xw_aload_n (pc := 90) C 0 dX1_join_90 rfl ?_
            refine xw_iload_n (pc := 91) C 2 dX1_join_91 rfl ?_
            refine xw_iload (pc := 92) C 4 dX1_join_92 rfl ?_
            refine xw_Vd (pc := 94) (q0 := 0) (na := 2) (rest := [nV (B (16 * ra + k)), .ref h, nV k, .ref d]) (st' := [nV (B (16 * rb + k)), nV (B (16 * ra + k)), .ref h, nV k, .ref d]) C (m_X1_its rb k (by omega) (by omega)) gX1_join_X1_its rfl rfl rfl rfl (by decide +kernel) ⟨Nat.le_of_ble_eq_true rfl, Nat.le_of_ble_eq_true rfl⟩ rfl rfl rfl (Nat.le_of_ble_eq_true rfl) dX1_join_94 ⟨Nat.le_of_ble_eq_true rfl, Nat.le_of_ble_eq_true rfl⟩ rfl ?_
            refine xw_Vd (pc := 97) (q0 := 0) (na := 2) (rest := [nV k, .ref d]) (st' := [nV ((B (16 * ra + k) + p - (B (16 * rb + k))) % p), nV k, .ref d]) C (m_X1_minus hp hp5 (B (16 * ra + k)) (B (16 * rb + k)) (by omega) (by omega)) gX1_join_X1_minus rfl rfl rfl rfl (by decide +kernel) ⟨Nat.le_of_ble_eq_true rfl, Nat.le_of_ble_eq_true rfl⟩ rfl rfl rfl (Nat.le_of_ble_eq_true rfl) dX1_join_97 ⟨Nat.le_of_ble_eq_true rfl, Nat.le_of_ble_eq_true rfl⟩ rfl ?_
            refine xw_goto (pc := 100) (tgt := 121) C dX1_join_100 (by decide) ?_
            refine xw_iast (pc := 121) (w' := wM cI h r d 0 n p w b B (va_up (mk M (fun i => jn p (B (16 * ra + i)) (B (16 * rb + i)) what) k) k ((B (16 * ra + k) + p - (B (16 * rb + k))) % p))) C 2 0 k ((B (16 * ra + k) + p - (B (16 * rb + k))) % p) rfl rfl (rfl) rfl (by omega) (by decide) rfl dX1_join_121 ?_
            refine xw_wo (w' := wM cI h r d 0 n p w b B (mk M (fun i => jn p (B (16 * ra + i)) (B (16 * rb + i)) what) (k + 1))) (by rw [mk_s (g := (fun i => jn p (B (16 * ra + i)) (B (16 * rb + i)) what)) (k := k) (by show _ = jn p (B (16 * ra + k)) (B (16 * rb + k)) what; rw [hwe]; rfl)]) ?_
            refine xw_iinc_N (pc := 122) (b := k + 1) (lv' := [(0, .ref h), (1, nV ra), (2, nV rb), (3, nV what), (4, nV (k + 1))]) C 4 [1, 2, 3, 4, 0] dX1_join_122 rfl (by decide) rfl rfl ?_
            refine xw_goto (pc := 125) (tgt := 37) C dX1_join_125 (by decide) ?_
            exact ih37 (k + 1) (by omega) (by omega)
        ·
          have hwe : what = 0 := by omega
          refine xw_aload_n (pc := 56) C 0 dX1_join_56 rfl ?_
          refine xw_aload_n (pc := 57) C 0 dX1_join_57 rfl ?_
          refine xw_iload_n (pc := 58) C 1 dX1_join_58 rfl ?_
          refine xw_iload (pc := 59) C 4 dX1_join_59 rfl ?_
          refine xw_Vd (pc := 61) (q0 := 0) (na := 2) (rest := [.ref h, nV k, .ref d]) (st' := [nV (B (16 * ra + k)), .ref h, nV k, .ref d]) C (m_X1_its ra k (by omega) (by omega)) gX1_join_X1_its rfl rfl rfl rfl (by decide +kernel) ⟨Nat.le_of_ble_eq_true rfl, Nat.le_of_ble_eq_true rfl⟩ rfl rfl rfl (Nat.le_of_ble_eq_true rfl) dX1_join_61 ⟨Nat.le_of_ble_eq_true rfl, Nat.le_of_ble_eq_true rfl⟩ rfl ?_
          refine xw_aload_n (pc := 64) C 0 dX1_join_64 rfl ?_
          refine xw_iload_n (pc := 65) C 2 dX1_join_65 rfl ?_
          refine xw_iload (pc := 66) C 4 dX1_join_66 rfl ?_
          refine xw_Vd (pc := 68) (q0 := 0) (na := 2) (rest := [nV (B (16 * ra + k)), .ref h, nV k, .ref d]) (st' := [nV (B (16 * rb + k)), nV (B (16 * ra + k)), .ref h, nV k, .ref d]) C (m_X1_its rb k (by omega) (by omega)) gX1_join_X1_its rfl rfl rfl rfl (by decide +kernel) ⟨Nat.le_of_ble_eq_true rfl, Nat.le_of_ble_eq_true rfl⟩ rfl rfl rfl (Nat.le_of_ble_eq_true rfl) dX1_join_68 ⟨Nat.le_of_ble_eq_true rfl, Nat.le_of_ble_eq_true rfl⟩ rfl ?_
          refine xw_Vd (pc := 71) (q0 := 0) (na := 2) (rest := [nV k, .ref d]) (st' := [nV ((B (16 * ra + k) + (B (16 * rb + k))) % p), nV k, .ref d]) C (m_X1_plus hp hp5 (B (16 * ra + k)) (B (16 * rb + k)) (by omega)) gX1_join_X1_plus rfl rfl rfl rfl (by decide +kernel) ⟨Nat.le_of_ble_eq_true rfl, Nat.le_of_ble_eq_true rfl⟩ rfl rfl rfl (Nat.le_of_ble_eq_true rfl) dX1_join_71 ⟨Nat.le_of_ble_eq_true rfl, Nat.le_of_ble_eq_true rfl⟩ rfl ?_
          refine xw_goto (pc := 74) (tgt := 121) C dX1_join_74 (by decide) ?_
          refine xw_iast (pc := 121) (w' := wM cI h r d 0 n p w b B (va_up (mk M (fun i => jn p (B (16 * ra + i)) (B (16 * rb + i)) what) k) k ((B (16 * ra + k) + (B (16 * rb + k))) % p))) C 2 0 k ((B (16 * ra + k) + (B (16 * rb + k))) % p) rfl rfl (rfl) rfl (by omega) (by decide) rfl dX1_join_121 ?_
          refine xw_wo (w' := wM cI h r d 0 n p w b B (mk M (fun i => jn p (B (16 * ra + i)) (B (16 * rb + i)) what) (k + 1))) (by rw [mk_s (g := (fun i => jn p (B (16 * ra + i)) (B (16 * rb + i)) what)) (k := k) (by show _ = jn p (B (16 * ra + k)) (B (16 * rb + k)) what; rw [hwe]; rfl)]) ?_
          refine xw_iinc_N (pc := 122) (b := k + 1) (lv' := [(0, .ref h), (1, nV ra), (2, nV rb), (3, nV what), (4, nV (k + 1))]) C 4 [1, 2, 3, 4, 0] dX1_join_122 rfl (by decide) rfl rfl ?_
          refine xw_goto (pc := 125) (tgt := 37) C dX1_join_125 (by decide) ?_
          exact ih37 (k + 1) (by omega) (by omega)
  refine xw_wo (w' := wM cI h r d 0 n p w b B (mk M (fun i => jn p (B (16 * ra + i)) (B (16 * rb + i)) what) 0)) (by rw [mk_0]) ?_
  exact L37 (n + 1) 0 (by omega) (by omega)

set_option maxHeartbeats 4000000 in
set_option maxRecDepth 100000 in
theorem m_X1_move {l : Launch} {D : va_G} {cI : ClassId} {h r d th n p w b : Nat} {B M : Nat → Nat} (hn : n = 4 ∨ n = 8 ∨ n = 16) (row : Nat) (hrw : row < 4) (q : Nat) (hq : q < n) : CT l yX1_move wsX1_move (rmN 2 43) D vwCl [(cI, .int)] [.ref h, nV row, nV q] (wM cI h r d th n p w b B M) (PD (some (nV ((fun m => B (16 * row + (m + n - q) % n)) 0))) (wM cI h r d 0 n p w b (mr B row (fun m => B (16 * row + (m + n - q) % n)) n) (mk M (fun m => B (16 * row + (m + n - q) % n)) n))) 0 0 := by
  refine ct_of (plainFor_of_name (by decide)) rfl (Nat.le_of_ble_eq_true rfl) (fun φ C rX => ?_)
  have hin : ∀ w ∈ wsX10, w ∈ wsX1_move := by decide +kernel
  refine xw_le (lv' := [(0, .ref h), (1, nV row), (2, nV q)]) rfl ?_
  have hn3 := lt3 hn
  refine xw_aload_n (pc := 0) C 0 dX1_move_0 rfl ?_
  refine xw_iconst_N (pc := 1) C 0 dX1_move_1 rfl ?_
  refine xw_put (pc := 2) (T := TX1) (N := 7) (ref := "ToneButterfliesModel") (w' := wM cI h r d 0 n p w b B M) C hin tyX1 tyX1_ok nmX1 0 0 rfl rfl (by decide) (by decide +kernel) rfl rfl rfl rfl (Nat.le_of_ble_eq_true rfl) rfl dX1_move_2 ?_
  refine xw_iload_n (pc := 5) C 1 dX1_move_5 rfl ?_
  refine xw_Sd (pc := 6) (na := 1) (rest := []) (st' := [bV (decide (((0 : Nat) : Int) ≤ (((row : Nat) : Int)) ∧ (((row : Nat) : Int)) ≤ ((3 : Nat) : Int)))]) C (m_X1_isRow (((row : Nat) : Int)) (by omega)) gX1_move_X1_isRow rfl rfl rfl rfl (by decide +kernel) ⟨Nat.le_of_ble_eq_true rfl, Nat.le_of_ble_eq_true rfl⟩ rfl (Nat.le_of_ble_eq_true rfl) dX1_move_6 ⟨Nat.le_of_ble_eq_true rfl, Nat.le_of_ble_eq_true rfl⟩ rfl ?_
  refine xw_if_ne_B (pc := 9) (tgt := 18) C dX1_move_9 (by decide)  (fun c_1 => ?_) (fun c_1 => (by have q9 := of_decide_eq_false c_1; exfalso; omega))
  have q_c_1 := of_decide_eq_true c_1
  refine xw_aload_n (pc := 18) C 0 dX1_move_18 rfl ?_
  refine xw_iload_n (pc := 19) C 2 dX1_move_19 rfl ?_
  refine xw_Vd (pc := 20) (q0 := 0) (na := 1) (rest := []) (st' := [bV (decide (((0 : Nat) : Int) ≤ (((q : Nat) : Int)) ∧ (((q : Nat) : Int)) ≤ ((n : Nat) : Int) - ((1 : Nat) : Int)))]) C (m_X1_isPlace (by omega) (((q : Nat) : Int)) (by omega)) gX1_move_X1_isPlace rfl rfl rfl rfl (by decide +kernel) ⟨Nat.le_of_ble_eq_true rfl, Nat.le_of_ble_eq_true rfl⟩ rfl rfl rfl (Nat.le_of_ble_eq_true rfl) dX1_move_20 ⟨Nat.le_of_ble_eq_true rfl, Nat.le_of_ble_eq_true rfl⟩ rfl ?_
  refine xw_if_ne_B (pc := 23) (tgt := 32) C dX1_move_23 (by decide)  (fun c_2 => ?_) (fun c_2 => (by have q9 := of_decide_eq_false c_2; exfalso; omega))
  have q_c_2 := of_decide_eq_true c_2
  refine xw_iconst_N (pc := 32) C 0 dX1_move_32 rfl ?_
  refine xw_istore_n (pc := 33) (lv' := [(0, .ref h), (1, nV row), (2, nV q), (3, nV 0)]) C [1, 2, 3, 0] dX1_move_33 rfl (by decide) rfl ?_
  have L34 : ∀ (fuel : Nat) (k : Nat), n < k + fuel → k ≤ n → xw φ 0 0 (wM cI h r d 0 n p w b B (mo M n (fun m => (m + n - q) % n) (fun k => B (16 * row + k)) k)) 34 [(0, .ref h), (1, nV row), (2, nV q), (3, nV k)] [] := by
    intro fuel
    induction fuel with
    | zero =>
      intro k hk hkn
      omega
    | succ fuel ih34 =>
      intro k hk hkn
      refine xw_iload_n (pc := 34) C 3 dX1_move_34 rfl ?_
      refine xw_aload_n (pc := 35) C 0 dX1_move_35 rfl ?_
      refine xw_get (pc := 36) (T := TX1) (N := 7) (ref := "ToneButterfliesModel") C hin 0 1 rfl rfl (by decide) (by decide +kernel) rfl rfl dX1_move_36 ?_
      refine xw_icmp_ge_N (pc := 39) (tgt := 67) C dX1_move_39 (by decide) (by omega) (by omega) (fun c_3 => ?_) (fun c_3 => ?_)
      ·
        refine xw_wo (w' := wM cI h r d 0 n p w b B (mk M (fun m => B (16 * row + (m + n - q) % n)) n)) (by rw [show k = n from by omega, mo_n (fun m hm => Nat.mod_lt _ (by omega))]) ?_
        refine xw_aload_n (pc := 67) C 0 dX1_move_67 rfl ?_
        refine xw_iload_n (pc := 68) C 1 dX1_move_68 rfl ?_
        refine xw_Vd (pc := 69) (q0 := 0) (na := 1) (rest := []) (st' := []) C (m_X1_lay hn row (by omega)) gX1_move_X1_lay rfl rfl rfl rfl (by decide +kernel) ⟨Nat.le_of_ble_eq_true rfl, Nat.le_of_ble_eq_true rfl⟩ rfl rfl rfl (Nat.le_of_ble_eq_true rfl) dX1_move_69 ⟨Nat.le_of_ble_eq_true rfl, Nat.le_of_ble_eq_true rfl⟩ rfl ?_
        refine xw_wo (w' := wM cI h r d 0 n p w b (mr B row (fun m => B (16 * row + (m + n - q) % n)) n) (mk M (fun m => B (16 * row + (m + n - q) % n)) n)) (by rw [mr_mk]) ?_
        refine xw_aload_n (pc := 72) C 0 dX1_move_72 rfl ?_
        refine xw_get (pc := 73) (T := TX1) (N := 7) (ref := "ToneButterfliesModel") C hin 0 6 rfl rfl (by decide) (by decide +kernel) rfl rfl dX1_move_73 ?_
        refine xw_iconst_N (pc := 76) C 0 dX1_move_76 rfl ?_
        refine xw_iald (pc := 77) C 2 0 0 rfl rfl (rfl) (by omega) (by decide) dX1_move_77 ?_
        refine xw_st (st' := [nV ((fun m => B (16 * row + (m + n - q) % n)) 0)]) (by rw [mk_in (by omega)]) ?_
        exact xw_iret (pc := 78) C rX (Nat.le_refl _) (Nat.le_refl _) dX1_move_78 (PD.i)
      ·
        have hm := Nat.mod_lt (k + q) (show n > 0 by omega)
        have hm2 := (mv_p hq (show k < n by omega)).1
        refine xw_aload_n (pc := 42) C 0 dX1_move_42 rfl ?_
        refine xw_get (pc := 43) (T := TX1) (N := 7) (ref := "ToneButterfliesModel") C hin 0 6 rfl rfl (by decide) (by decide +kernel) rfl rfl dX1_move_43 ?_
        refine xw_iload_n (pc := 46) C 3 dX1_move_46 rfl ?_
        refine xw_iload_n (pc := 47) C 2 dX1_move_47 rfl ?_
        refine xw_iadd_N (pc := 48) C dX1_move_48 ?_
        refine xw_aload_n (pc := 49) C 0 dX1_move_49 rfl ?_
        refine xw_get (pc := 50) (T := TX1) (N := 7) (ref := "ToneButterfliesModel") C hin 0 1 rfl rfl (by decide) (by decide +kernel) rfl rfl dX1_move_50 ?_
        refine xw_irem_N (pc := 53) C dX1_move_53 (by omega) (by omega) ?_
        refine xw_aload_n (pc := 54) C 0 dX1_move_54 rfl ?_
        refine xw_iload_n (pc := 55) C 1 dX1_move_55 rfl ?_
        refine xw_iload_n (pc := 56) C 3 dX1_move_56 rfl ?_
        refine xw_Vd (pc := 57) (q0 := 0) (na := 2) (rest := [nV ((k + q) % n), .ref d]) (st' := [nV (B (16 * row + k)), nV ((k + q) % n), .ref d]) C (m_X1_its row k (by omega) (by omega)) gX1_move_X1_its rfl rfl rfl rfl (by decide +kernel) ⟨Nat.le_of_ble_eq_true rfl, Nat.le_of_ble_eq_true rfl⟩ rfl rfl rfl (Nat.le_of_ble_eq_true rfl) dX1_move_57 ⟨Nat.le_of_ble_eq_true rfl, Nat.le_of_ble_eq_true rfl⟩ rfl ?_
        refine xw_iast (pc := 60) (w' := wM cI h r d 0 n p w b B (va_up (mo M n (fun m => (m + n - q) % n) (fun k => B (16 * row + k)) k) ((k + q) % n) (B (16 * row + k)))) C 2 0 ((k + q) % n) (B (16 * row + k)) rfl rfl (rfl) rfl (by omega) (by decide) rfl dX1_move_60 ?_
        refine xw_wo (w' := wM cI h r d 0 n p w b B (mo M n (fun m => (m + n - q) % n) (fun k => B (16 * row + k)) (k + 1))) (by rw [mo_s rfl hm hm2 (fun m hm1 hm3 => by rw [← (mv_p hq hm1).2]; exact congrArg (fun z => (z + q) % n) hm3)]) ?_
        refine xw_iinc_N (pc := 61) (b := k + 1) (lv' := [(0, .ref h), (1, nV row), (2, nV q), (3, nV (k + 1))]) C 3 [1, 2, 3, 0] dX1_move_61 rfl (by decide) rfl rfl ?_
        refine xw_goto (pc := 64) (tgt := 34) C dX1_move_64 (by decide) ?_
        exact ih34 (k + 1) (by omega) (by omega)
  refine xw_wo (w' := wM cI h r d 0 n p w b B (mo M n (fun m => (m + n - q) % n) (fun k => B (16 * row + k)) 0)) (by rw [mo_0]) ?_
  exact L34 (n + 1) 0 (by omega) (by omega)

set_option maxHeartbeats 4000000 in
set_option maxRecDepth 100000 in
theorem m_X1_times {l : Launch} {D : va_G} {cI : ClassId} {h r d th n p w b : Nat} {B M : Nat → Nat} (hp : 0 < p) (hp5 : p < 500) (hn : n = 4 ∨ n = 8 ∨ n = 16) (hB : ∀ j, B j < 500) (row : Nat) (hrw : row < 4) (f : Nat) (hf : f < p) : CT l yX1_times wsX1_times (rmN 2 45) D vwCl [(cI, .int)] [.ref h, nV row, nV f] (wM cI h r d th n p w b B M) (PD (some (nV (cc (fun k => decide (mr B row (fun i => B (16 * row + i) * f % p) n (16 * row + k) ≠ 0)) n))) (wM cI h r d 0 n p w b (mr B row (fun i => B (16 * row + i) * f % p) n) (mk M (fun i => B (16 * row + i) * f % p) n))) 0 0 := by
  refine ct_of (plainFor_of_name (by decide)) rfl (Nat.le_of_ble_eq_true rfl) (fun φ C rX => ?_)
  have hin : ∀ w ∈ wsX10, w ∈ wsX1_times := by decide +kernel
  refine xw_le (lv' := [(0, .ref h), (1, nV row), (2, nV f)]) rfl ?_
  have hn3 := lt3 hn
  refine xw_aload_n (pc := 0) C 0 dX1_times_0 rfl ?_
  refine xw_iconst_N (pc := 1) C 0 dX1_times_1 rfl ?_
  refine xw_put (pc := 2) (T := TX1) (N := 7) (ref := "ToneButterfliesModel") (w' := wM cI h r d 0 n p w b B M) C hin tyX1 tyX1_ok nmX1 0 0 rfl rfl (by decide) (by decide +kernel) rfl rfl rfl rfl (Nat.le_of_ble_eq_true rfl) rfl dX1_times_2 ?_
  refine xw_iload_n (pc := 5) C 1 dX1_times_5 rfl ?_
  refine xw_Sd (pc := 6) (na := 1) (rest := []) (st' := [bV (decide (((0 : Nat) : Int) ≤ (((row : Nat) : Int)) ∧ (((row : Nat) : Int)) ≤ ((3 : Nat) : Int)))]) C (m_X1_isRow (((row : Nat) : Int)) (by omega)) gX1_times_X1_isRow rfl rfl rfl rfl (by decide +kernel) ⟨Nat.le_of_ble_eq_true rfl, Nat.le_of_ble_eq_true rfl⟩ rfl (Nat.le_of_ble_eq_true rfl) dX1_times_6 ⟨Nat.le_of_ble_eq_true rfl, Nat.le_of_ble_eq_true rfl⟩ rfl ?_
  refine xw_if_ne_B (pc := 9) (tgt := 18) C dX1_times_9 (by decide)  (fun c_1 => ?_) (fun c_1 => (by have q9 := of_decide_eq_false c_1; exfalso; omega))
  have q_c_1 := of_decide_eq_true c_1
  refine xw_iload_n (pc := 18) C 2 dX1_times_18 rfl ?_
  refine xw_iconst_N (pc := 19) C 0 dX1_times_19 rfl ?_
  refine xw_aload_n (pc := 20) C 0 dX1_times_20 rfl ?_
  refine xw_get (pc := 21) (T := TX1) (N := 7) (ref := "ToneButterfliesModel") C hin 0 2 rfl rfl (by decide) (by decide +kernel) rfl rfl dX1_times_21 ?_
  refine xw_iconst_N (pc := 24) C 1 dX1_times_24 rfl ?_
  refine xw_isub (pc := 25) C dX1_times_25 ?_
  refine xw_Sd (pc := 26) (na := 3) (rest := []) (st' := [bV (decide ((((0 : Nat) : Int)) ≤ (((f : Nat) : Int)) ∧ (((f : Nat) : Int)) ≤ ((((p : Nat) : Int)) - (((1 : Nat) : Int)))))]) C (m_X1_isIn (((f : Nat) : Int)) (((0 : Nat) : Int)) ((((p : Nat) : Int)) - (((1 : Nat) : Int))) (by omega) (by omega) (by omega)) gX1_times_X1_isIn rfl rfl rfl rfl (by decide +kernel) ⟨Nat.le_of_ble_eq_true rfl, Nat.le_of_ble_eq_true rfl⟩ rfl (Nat.le_of_ble_eq_true rfl) dX1_times_26 ⟨Nat.le_of_ble_eq_true rfl, Nat.le_of_ble_eq_true rfl⟩ rfl ?_
  refine xw_if_ne_B (pc := 29) (tgt := 38) C dX1_times_29 (by decide)  (fun c_2 => ?_) (fun c_2 => (by have q9 := of_decide_eq_false c_2; exfalso; omega))
  have q_c_2 := of_decide_eq_true c_2
  refine xw_iconst_N (pc := 38) C 0 dX1_times_38 rfl ?_
  refine xw_istore_n (pc := 39) (lv' := [(0, .ref h), (1, nV row), (2, nV f), (3, nV 0)]) C [1, 2, 3, 0] dX1_times_39 rfl (by decide) rfl ?_
  have L40 : ∀ (fuel : Nat) (k : Nat), n < k + fuel → k ≤ n → xw φ 0 0 (wM cI h r d 0 n p w b B (mk M (fun i => B (16 * row + i) * f % p) k)) 40 [(0, .ref h), (1, nV row), (2, nV f), (3, nV k)] [] := by
    intro fuel
    induction fuel with
    | zero =>
      intro k hk hkn
      omega
    | succ fuel ih40 =>
      intro k hk hkn
      refine xw_iload_n (pc := 40) C 3 dX1_times_40 rfl ?_
      refine xw_aload_n (pc := 41) C 0 dX1_times_41 rfl ?_
      refine xw_get (pc := 42) (T := TX1) (N := 7) (ref := "ToneButterfliesModel") C hin 0 1 rfl rfl (by decide) (by decide +kernel) rfl rfl dX1_times_42 ?_
      refine xw_icmp_ge_N (pc := 45) (tgt := 71) C dX1_times_45 (by decide) (by omega) (by omega) (fun c_3 => ?_) (fun c_3 => ?_)
      ·
        refine xw_wo (w' := wM cI h r d 0 n p w b B (mk M (fun i => B (16 * row + i) * f % p) n)) (by rw [show k = n from by omega]) ?_
        refine xw_aload_n (pc := 71) C 0 dX1_times_71 rfl ?_
        refine xw_iload_n (pc := 72) C 1 dX1_times_72 rfl ?_
        refine xw_Vd (pc := 73) (q0 := 0) (na := 1) (rest := []) (st' := []) C (m_X1_lay hn row (by omega)) gX1_times_X1_lay rfl rfl rfl rfl (by decide +kernel) ⟨Nat.le_of_ble_eq_true rfl, Nat.le_of_ble_eq_true rfl⟩ rfl rfl rfl (Nat.le_of_ble_eq_true rfl) dX1_times_73 ⟨Nat.le_of_ble_eq_true rfl, Nat.le_of_ble_eq_true rfl⟩ rfl ?_
        refine xw_wo (w' := wM cI h r d 0 n p w b (mr B row (fun i => B (16 * row + i) * f % p) n) (mk M (fun i => B (16 * row + i) * f % p) n)) (by rw [mr_mk]) ?_
        refine xw_aload_n (pc := 76) C 0 dX1_times_76 rfl ?_
        refine xw_iload_n (pc := 77) C 1 dX1_times_77 rfl ?_
        refine xw_Vd (pc := 78) (q0 := 0) (na := 1) (rest := []) (st' := [nV (cc (fun k => decide ((mr B row (fun i => B (16 * row + i) * f % p) n) (16 * row + k) ≠ 0)) n)]) C (m_X1_others hn (mr_lt (g := (fun i => B (16 * row + i) * f % p)) hB (fun j _ => ml hp hp5)) row (by omega)) gX1_times_X1_others rfl rfl rfl rfl (by decide +kernel) ⟨Nat.le_of_ble_eq_true rfl, Nat.le_of_ble_eq_true rfl⟩ rfl rfl rfl (Nat.le_of_ble_eq_true rfl) dX1_times_78 ⟨Nat.le_of_ble_eq_true rfl, Nat.le_of_ble_eq_true rfl⟩ rfl ?_
        exact xw_iret (pc := 81) C rX (Nat.le_refl _) (Nat.le_refl _) dX1_times_81 (PD.i)
      ·
        have hb1 := hB (16 * row + k)
        refine xw_aload_n (pc := 48) C 0 dX1_times_48 rfl ?_
        refine xw_get (pc := 49) (T := TX1) (N := 7) (ref := "ToneButterfliesModel") C hin 0 6 rfl rfl (by decide) (by decide +kernel) rfl rfl dX1_times_49 ?_
        refine xw_iload_n (pc := 52) C 3 dX1_times_52 rfl ?_
        refine xw_aload_n (pc := 53) C 0 dX1_times_53 rfl ?_
        refine xw_aload_n (pc := 54) C 0 dX1_times_54 rfl ?_
        refine xw_iload_n (pc := 55) C 1 dX1_times_55 rfl ?_
        refine xw_iload_n (pc := 56) C 3 dX1_times_56 rfl ?_
        refine xw_Vd (pc := 57) (q0 := 0) (na := 2) (rest := [.ref h, nV k, .ref d]) (st' := [nV (B (16 * row + k)), .ref h, nV k, .ref d]) C (m_X1_its row k (by omega) (by omega)) gX1_times_X1_its rfl rfl rfl rfl (by decide +kernel) ⟨Nat.le_of_ble_eq_true rfl, Nat.le_of_ble_eq_true rfl⟩ rfl rfl rfl (Nat.le_of_ble_eq_true rfl) dX1_times_57 ⟨Nat.le_of_ble_eq_true rfl, Nat.le_of_ble_eq_true rfl⟩ rfl ?_
        refine xw_iload_n (pc := 60) C 2 dX1_times_60 rfl ?_
        refine xw_Vd (pc := 61) (q0 := 0) (na := 2) (rest := [nV k, .ref d]) (st' := [nV ((B (16 * row + k)) * f % p), nV k, .ref d]) C (m_X1_by hp hp5 (B (16 * row + k)) f (by omega) (by omega)) gX1_times_X1_by rfl rfl rfl rfl (by decide +kernel) ⟨Nat.le_of_ble_eq_true rfl, Nat.le_of_ble_eq_true rfl⟩ rfl rfl rfl (Nat.le_of_ble_eq_true rfl) dX1_times_61 ⟨Nat.le_of_ble_eq_true rfl, Nat.le_of_ble_eq_true rfl⟩ rfl ?_
        refine xw_iast (pc := 64) (w' := wM cI h r d 0 n p w b B (va_up (mk M (fun i => B (16 * row + i) * f % p) k) k ((B (16 * row + k)) * f % p))) C 2 0 k ((B (16 * row + k)) * f % p) rfl rfl (rfl) rfl (by omega) (by decide) rfl dX1_times_64 ?_
        refine xw_wo (w' := wM cI h r d 0 n p w b B (mk M (fun i => B (16 * row + i) * f % p) (k + 1))) (by rw [mk_s rfl]) ?_
        refine xw_iinc_N (pc := 65) (b := k + 1) (lv' := [(0, .ref h), (1, nV row), (2, nV f), (3, nV (k + 1))]) C 3 [1, 2, 3, 0] dX1_times_65 rfl (by decide) rfl rfl ?_
        refine xw_goto (pc := 68) (tgt := 40) C dX1_times_68 (by decide) ?_
        exact ih40 (k + 1) (by omega) (by omega)
  refine xw_wo (w' := wM cI h r d 0 n p w b B (mk M (fun i => B (16 * row + i) * f % p) 0)) (by rw [mk_0]) ?_
  exact L40 (n + 1) 0 (by omega) (by omega)

set_option maxHeartbeats 4000000 in
set_option maxRecDepth 100000 in
theorem m_X1_at {l : Launch} {D : va_G} {cI : ClassId} {h r d th n p w b : Nat} {B M : Nat → Nat} (hn : n = 4 ∨ n = 8 ∨ n = 16) (row : Nat) (hrw : row < 4) (q : Nat) (hq : q < n) : CT l yX1_at wsX1_at (rmN 2 43) D vwCl [(cI, .int)] [.ref h, nV row, nV q] (wM cI h r d th n p w b B M) (PD (some (nV (B (16 * row + q)))) (wM cI h r d 0 n p w b B M)) 0 0 := by
  refine ct_of (plainFor_of_name (by decide)) rfl (Nat.le_of_ble_eq_true rfl) (fun φ C rX => ?_)
  have hin : ∀ w ∈ wsX10, w ∈ wsX1_at := by decide +kernel
  refine xw_le (lv' := [(0, .ref h), (1, nV row), (2, nV q)]) rfl ?_
  have hn3 := lt3 hn
  refine xw_aload_n (pc := 0) C 0 dX1_at_0 rfl ?_
  refine xw_iconst_N (pc := 1) C 0 dX1_at_1 rfl ?_
  refine xw_put (pc := 2) (T := TX1) (N := 7) (ref := "ToneButterfliesModel") (w' := wM cI h r d 0 n p w b B M) C hin tyX1 tyX1_ok nmX1 0 0 rfl rfl (by decide) (by decide +kernel) rfl rfl rfl rfl (Nat.le_of_ble_eq_true rfl) rfl dX1_at_2 ?_
  refine xw_iload_n (pc := 5) C 1 dX1_at_5 rfl ?_
  refine xw_Sd (pc := 6) (na := 1) (rest := []) (st' := [bV (decide (((0 : Nat) : Int) ≤ (((row : Nat) : Int)) ∧ (((row : Nat) : Int)) ≤ ((3 : Nat) : Int)))]) C (m_X1_isRow (((row : Nat) : Int)) (by omega)) gX1_at_X1_isRow rfl rfl rfl rfl (by decide +kernel) ⟨Nat.le_of_ble_eq_true rfl, Nat.le_of_ble_eq_true rfl⟩ rfl (Nat.le_of_ble_eq_true rfl) dX1_at_6 ⟨Nat.le_of_ble_eq_true rfl, Nat.le_of_ble_eq_true rfl⟩ rfl ?_
  refine xw_if_eq_B (pc := 9) (tgt := 29) C dX1_at_9 (by decide)  (fun c_1 => (by have q9 := of_decide_eq_false c_1; exfalso; omega)) (fun c_1 => ?_)
  have q_c_1 := of_decide_eq_true c_1
  refine xw_aload_n (pc := 12) C 0 dX1_at_12 rfl ?_
  refine xw_iload_n (pc := 13) C 2 dX1_at_13 rfl ?_
  refine xw_Vd (pc := 14) (q0 := 0) (na := 1) (rest := []) (st' := [bV (decide (((0 : Nat) : Int) ≤ (((q : Nat) : Int)) ∧ (((q : Nat) : Int)) ≤ ((n : Nat) : Int) - ((1 : Nat) : Int)))]) C (m_X1_isPlace (by omega) (((q : Nat) : Int)) (by omega)) gX1_at_X1_isPlace rfl rfl rfl rfl (by decide +kernel) ⟨Nat.le_of_ble_eq_true rfl, Nat.le_of_ble_eq_true rfl⟩ rfl rfl rfl (Nat.le_of_ble_eq_true rfl) dX1_at_14 ⟨Nat.le_of_ble_eq_true rfl, Nat.le_of_ble_eq_true rfl⟩ rfl ?_
  refine xw_if_eq_B (pc := 17) (tgt := 29) C dX1_at_17 (by decide)  (fun c_2 => (by have q9 := of_decide_eq_false c_2; exfalso; omega)) (fun c_2 => ?_)
  have q_c_2 := of_decide_eq_true c_2
  refine xw_aload_n (pc := 20) C 0 dX1_at_20 rfl ?_
  refine xw_iload_n (pc := 21) C 1 dX1_at_21 rfl ?_
  refine xw_iload_n (pc := 22) C 2 dX1_at_22 rfl ?_
  refine xw_Vd (pc := 23) (q0 := 0) (na := 2) (rest := []) (st' := [nV (B (16 * row + q))]) C (m_X1_its row q (by omega) (by omega)) gX1_at_X1_its rfl rfl rfl rfl (by decide +kernel) ⟨Nat.le_of_ble_eq_true rfl, Nat.le_of_ble_eq_true rfl⟩ rfl rfl rfl (Nat.le_of_ble_eq_true rfl) dX1_at_23 ⟨Nat.le_of_ble_eq_true rfl, Nat.le_of_ble_eq_true rfl⟩ rfl ?_
  refine xw_goto (pc := 26) (tgt := 34) C dX1_at_26 (by decide) ?_
  exact xw_iret (pc := 34) C rX (Nat.le_refl _) (Nat.le_refl _) dX1_at_34 (PD.i)

set_option maxHeartbeats 4000000 in
set_option maxRecDepth 100000 in
theorem m_X1_point {l : Launch} {D : va_G} {cI : ClassId} {h r d th n p w b : Nat} {B M : Nat → Nat} (hp : 0 < p) (hp5 : p < 500) (hn : n = 4 ∨ n = 8 ∨ n = 16) (hB : ∀ j, B j < 500) (row : Nat) (hrw : row < 4) (x : Nat) (hx : x < p) : CT l yX1_point wsX1_point (rmN 2 46) D vwCl [(cI, .int)] [.ref h, nV row, nV x] (wM cI h r d th n p w b B M) (PD (some (nV (pv p n B row x))) (wM cI h r d 0 n p w b B M)) 0 0 := by
  refine ct_of (plainFor_of_name (by decide)) rfl (Nat.le_of_ble_eq_true rfl) (fun φ C rX => ?_)
  have hin : ∀ w ∈ wsX10, w ∈ wsX1_point := by decide +kernel
  refine xw_le (lv' := [(0, .ref h), (1, nV row), (2, nV x)]) rfl ?_
  have hn3 := lt3 hn
  refine xw_aload_n (pc := 0) C 0 dX1_point_0 rfl ?_
  refine xw_iconst_N (pc := 1) C 0 dX1_point_1 rfl ?_
  refine xw_put (pc := 2) (T := TX1) (N := 7) (ref := "ToneButterfliesModel") (w' := wM cI h r d 0 n p w b B M) C hin tyX1 tyX1_ok nmX1 0 0 rfl rfl (by decide) (by decide +kernel) rfl rfl rfl rfl (Nat.le_of_ble_eq_true rfl) rfl dX1_point_2 ?_
  refine xw_iload_n (pc := 5) C 1 dX1_point_5 rfl ?_
  refine xw_Sd (pc := 6) (na := 1) (rest := []) (st' := [bV (decide (((0 : Nat) : Int) ≤ (((row : Nat) : Int)) ∧ (((row : Nat) : Int)) ≤ ((3 : Nat) : Int)))]) C (m_X1_isRow (((row : Nat) : Int)) (by omega)) gX1_point_X1_isRow rfl rfl rfl rfl (by decide +kernel) ⟨Nat.le_of_ble_eq_true rfl, Nat.le_of_ble_eq_true rfl⟩ rfl (Nat.le_of_ble_eq_true rfl) dX1_point_6 ⟨Nat.le_of_ble_eq_true rfl, Nat.le_of_ble_eq_true rfl⟩ rfl ?_
  refine xw_if_ne_B (pc := 9) (tgt := 18) C dX1_point_9 (by decide)  (fun c_1 => ?_) (fun c_1 => (by have q9 := of_decide_eq_false c_1; exfalso; omega))
  have q_c_1 := of_decide_eq_true c_1
  refine xw_iload_n (pc := 18) C 2 dX1_point_18 rfl ?_
  refine xw_iconst_N (pc := 19) C 0 dX1_point_19 rfl ?_
  refine xw_aload_n (pc := 20) C 0 dX1_point_20 rfl ?_
  refine xw_get (pc := 21) (T := TX1) (N := 7) (ref := "ToneButterfliesModel") C hin 0 2 rfl rfl (by decide) (by decide +kernel) rfl rfl dX1_point_21 ?_
  refine xw_iconst_N (pc := 24) C 1 dX1_point_24 rfl ?_
  refine xw_isub (pc := 25) C dX1_point_25 ?_
  refine xw_Sd (pc := 26) (na := 3) (rest := []) (st' := [bV (decide ((((0 : Nat) : Int)) ≤ (((x : Nat) : Int)) ∧ (((x : Nat) : Int)) ≤ ((((p : Nat) : Int)) - (((1 : Nat) : Int)))))]) C (m_X1_isIn (((x : Nat) : Int)) (((0 : Nat) : Int)) ((((p : Nat) : Int)) - (((1 : Nat) : Int))) (by omega) (by omega) (by omega)) gX1_point_X1_isIn rfl rfl rfl rfl (by decide +kernel) ⟨Nat.le_of_ble_eq_true rfl, Nat.le_of_ble_eq_true rfl⟩ rfl (Nat.le_of_ble_eq_true rfl) dX1_point_26 ⟨Nat.le_of_ble_eq_true rfl, Nat.le_of_ble_eq_true rfl⟩ rfl ?_
  refine xw_if_eq_B (pc := 29) (tgt := 41) C dX1_point_29 (by decide)  (fun c_2 => (by have q9 := of_decide_eq_false c_2; exfalso; omega)) (fun c_2 => ?_)
  have q_c_2 := of_decide_eq_true c_2
  refine xw_aload_n (pc := 32) C 0 dX1_point_32 rfl ?_
  refine xw_iload_n (pc := 33) C 1 dX1_point_33 rfl ?_
  refine xw_iload_n (pc := 34) C 2 dX1_point_34 rfl ?_
  refine xw_Vd (pc := 35) (q0 := 0) (na := 2) (rest := []) (st' := [nV (pv p n B row x)]) C (m_X1_pointOf hp hp5 hn (hB) row x (by omega) (by omega)) gX1_point_X1_pointOf rfl rfl rfl rfl (by decide +kernel) ⟨Nat.le_of_ble_eq_true rfl, Nat.le_of_ble_eq_true rfl⟩ rfl rfl rfl (Nat.le_of_ble_eq_true rfl) dX1_point_35 ⟨Nat.le_of_ble_eq_true rfl, Nat.le_of_ble_eq_true rfl⟩ rfl ?_
  refine xw_goto (pc := 38) (tgt := 46) C dX1_point_38 (by decide) ?_
  exact xw_iret (pc := 46) C rX (Nat.le_refl _) (Nat.le_refl _) dX1_point_46 (PD.i)

theorem im_n {n : Nat} {A : Nat → Nat} {r : Nat} (hn : 0 < n) : im n A r r n = true := im_t (fun k hk => by rw [Nat.add_mod_right, Nat.mod_eq_of_lt hk])
def sd (A : Nat → Nat) (r n : Nat) : Nat → Nat
  | 0 => 0
  | j + 1 => sd A r n j + A (16 * r + (n - 1 - j))
theorem hr_1 {p n : Nat} {A : Nat → Nat} {r : Nat} : ∀ j, hr p n A r 1 j = sd A r n j % p
  | 0 => by rw [hr, sd, Nat.zero_mod]
  | j + 1 => by rw [hr, sd, hr_1 j, Nat.mul_one, Nat.mod_add_mod]
theorem sd_sm {n : Nat} {A : Nat → Nat} {r : Nat} : ∀ j, j ≤ n → sd A r n j + sm A r (n - j) = sm A r n
  | 0, _ => by rw [sd, Nat.zero_add, Nat.sub_zero]
  | j + 1, h => by
    have h1 := sd_sm (n := n) (A := A) (r := r) j (by omega)
    rw [show n - j = (n - (j + 1)) + 1 by omega, sm] at h1
    rw [sd, show n - 1 - j = n - (j + 1) by omega]
    omega
theorem pv_1 {p n : Nat} {A : Nat → Nat} {r : Nat} (hp : 0 < p) : pv p n A r 1 = sm A r n % p := by
  unfold pv
  have h := sd_sm (A := A) (r := r) n (Nat.le_refl n)
  rw [Nat.sub_self, sm, Nat.add_zero] at h
  rw [hr_1, h]
set_option maxHeartbeats 4000000 in
set_option maxRecDepth 100000 in
theorem m_X1_aboutTold {l : Launch} {D : va_G} {cI : ClassId} {h r d th n p w b : Nat} {B M : Nat → Nat} (hp : 0 < p) (hp5 : p < 500) (hn : n = 4 ∨ n = 8 ∨ n = 16) (hB : ∀ j, B j < 500) (row what : Nat) (hrw : row < 4) (hwh : what < 5) : CT l yX1_aboutTold wsX1_aboutTold (rmN 2 46) D vwCl [(cI, .int)] [.ref h, nV row, nV what] (wM cI h r d th n p w b B M) (PD (some (iV (tl p n B row what))) (wM cI h r d th n p w b B M)) 0 0 := by
  refine ct_of (plainFor_of_name (by decide)) rfl (Nat.le_of_ble_eq_true rfl) (fun φ C rX => ?_)
  have hin : ∀ w ∈ wsX10, w ∈ wsX1_aboutTold := by decide +kernel
  refine xw_le (lv' := [(0, .ref h), (1, nV row), (2, nV what)]) rfl ?_
  have hn3 := lt3 hn
  refine xw_iload_n (pc := 0) C 2 dX1_aboutTold_0 rfl ?_
  rcases (show what = 0 ∨ what = 1 ∨ what = 2 ∨ what = 3 ∨ what = 4 by omega) with rfl | rfl | rfl | rfl | rfl
  ·
    refine xw_tabN (pc := 1) (tgt := 32) (a := 0) C dX1_aboutTold_1 (by decide) (by decide) (by decide) rfl (by decide) ?_
    refine xw_aload_n (pc := 32) C 0 dX1_aboutTold_32 rfl ?_
    refine xw_iload_n (pc := 33) C 1 dX1_aboutTold_33 rfl ?_
    refine xw_iconst_N (pc := 34) C 1 dX1_aboutTold_34 rfl ?_
    refine xw_Vd (pc := 35) (q0 := 0) (na := 2) (rest := []) (st' := [nV (pv p n B row 1)]) C (m_X1_pointOf hp hp5 hn (hB) row 1 (by omega) (by omega)) gX1_aboutTold_X1_pointOf rfl rfl rfl rfl (by decide +kernel) ⟨Nat.le_of_ble_eq_true rfl, Nat.le_of_ble_eq_true rfl⟩ rfl rfl rfl (Nat.le_of_ble_eq_true rfl) dX1_aboutTold_35 ⟨Nat.le_of_ble_eq_true rfl, Nat.le_of_ble_eq_true rfl⟩ rfl ?_
    refine xw_st (st' := [nV (sm B row n % p)]) (by rw [pv_1 hp]) ?_
    exact xw_iret (pc := 38) C rX (Nat.le_refl _) (Nat.le_refl _) dX1_aboutTold_38 (PD.i)
  ·
    refine xw_tabN (pc := 1) (tgt := 39) (a := 1) C dX1_aboutTold_1 (by decide) (by decide) (by decide) rfl (by decide) ?_
    refine xw_aload_n (pc := 39) C 0 dX1_aboutTold_39 rfl ?_
    refine xw_iload_n (pc := 40) C 1 dX1_aboutTold_40 rfl ?_
    refine xw_Vd (pc := 41) (q0 := 0) (na := 1) (rest := []) (st' := [nV (cc (fun k => decide (B (16 * row + k) ≠ 0)) n)]) C (m_X1_others hn (hB) row (by omega)) gX1_aboutTold_X1_others rfl rfl rfl rfl (by decide +kernel) ⟨Nat.le_of_ble_eq_true rfl, Nat.le_of_ble_eq_true rfl⟩ rfl rfl rfl (Nat.le_of_ble_eq_true rfl) dX1_aboutTold_41 ⟨Nat.le_of_ble_eq_true rfl, Nat.le_of_ble_eq_true rfl⟩ rfl ?_
    exact xw_iret (pc := 44) C rX (Nat.le_refl _) (Nat.le_refl _) dX1_aboutTold_44 (PD.i)
  ·
    refine xw_tabN (pc := 1) (tgt := 45) (a := 2) C dX1_aboutTold_1 (by decide) (by decide) (by decide) rfl (by decide) ?_
    refine xw_aload_n (pc := 45) C 0 dX1_aboutTold_45 rfl ?_
    refine xw_get (pc := 46) (T := TX1) (N := 7) (ref := "ToneButterfliesModel") C hin 0 1 rfl rfl (by decide) (by decide +kernel) rfl rfl dX1_aboutTold_46 ?_
    refine xw_iconst_N (pc := 49) C 1 dX1_aboutTold_49 rfl ?_
    refine xw_isub (pc := 50) C dX1_aboutTold_50 ?_
    refine xw_istore_n (pc := 51) (lv' := [(0, .ref h), (1, nV row), (2, nV 2), (3, iV ((((n : Nat) : Int)) - (((1 : Nat) : Int))))]) C [1, 2, 3, 0] dX1_aboutTold_51 rfl (by decide) rfl ?_
    have L52 : ∀ (fuel : Nat) (j : Nat) (q : Int), j < fuel → j ≤ n → q = (j : Int) - 1 → ln B row n = ln B row j → xw φ 0 0 (wM cI h r d th n p w b B M) 52 [(0, .ref h), (1, nV row), (3, iV q)] [] := by
      intro fuel
      induction fuel with
      | zero =>
        intro j q hk hjn hq hln
        omega
      | succ fuel ih52 =>
        intro j q hk hjn hq hln
        refine xw_iload_n (pc := 52) C 2 dX1_aboutTold_52 rfl ?_
        refine xw_if_lt (pc := 53) (tgt := 71) C dX1_aboutTold_53 (by decide) (by omega) (fun c_1 => ?_) (fun c_1 => ?_)
        ·
          obtain rfl : j = 0 := by omega
          refine xw_iload_n (pc := 71) C 2 dX1_aboutTold_71 rfl ?_
          exact xw_iret (pc := 72) C rX (Nat.le_refl _) (Nat.le_refl _) dX1_aboutTold_72 (PD.e (by rw [show q = -1 by omega]; exact congrArg (fun z => some (iV z)) (hln.trans rfl).symm) rfl)
        ·
          obtain ⟨i, rfl⟩ : ∃ i : Nat, j = i + 1 := ⟨j - 1, by omega⟩
          obtain rfl : q = (i : Int) := by omega
          have hb1 := hB (16 * row + i)
          refine xw_aload_n (pc := 56) C 0 dX1_aboutTold_56 rfl ?_
          refine xw_iload_n (pc := 57) C 1 dX1_aboutTold_57 rfl ?_
          refine xw_iload_n (pc := 58) C 2 dX1_aboutTold_58 rfl ?_
          refine xw_Vd (pc := 59) (q0 := 0) (na := 2) (rest := []) (st' := [nV (B (16 * row + i))]) C (m_X1_its row i (by omega) (by omega)) gX1_aboutTold_X1_its rfl rfl rfl rfl (by decide +kernel) ⟨Nat.le_of_ble_eq_true rfl, Nat.le_of_ble_eq_true rfl⟩ rfl rfl rfl (Nat.le_of_ble_eq_true rfl) dX1_aboutTold_59 ⟨Nat.le_of_ble_eq_true rfl, Nat.le_of_ble_eq_true rfl⟩ rfl ?_
          refine xw_if_ne_N (pc := 62) (tgt := 71) C dX1_aboutTold_62 (by decide) (by omega) (fun c_2 => ?_) (fun c_2 => ?_)
          ·
            refine xw_iload_n (pc := 71) C 2 dX1_aboutTold_71 rfl ?_
            exact xw_iret (pc := 72) C rX (Nat.le_refl _) (Nat.le_refl _) dX1_aboutTold_72 (PD.e (by show _ = some (iV (ln B row n)); rw [hln, ln, if_neg c_2]) rfl)
          ·
            refine xw_iinc (pc := 65) (lv' := [(0, .ref h), (1, nV row), (3, iV ((((i : Nat) : Int)) + (-1)))]) C 2 [1, 2, 0] dX1_aboutTold_65 rfl (by decide) rfl ?_
            refine xw_goto (pc := 68) (tgt := 52) C dX1_aboutTold_68 (by decide) ?_
            exact ih52 i _ (by omega) (by omega) (by omega) (by rw [hln, ln, if_pos c_2])
    refine xw_lv (lv' := [(0, .ref h), (1, nV row), (3, iV ((((n : Nat) : Int)) - (((1 : Nat) : Int))))]) [0, 1, 3] rfl ?_
    exact L52 (n + 1) n _ (by omega) (by omega) (by omega) rfl
  ·
    refine xw_tabN (pc := 1) (tgt := 73) (a := 3) C dX1_aboutTold_1 (by decide) (by decide) (by decide) rfl (by decide) ?_
    refine xw_iconst_N (pc := 73) C 1 dX1_aboutTold_73 rfl ?_
    refine xw_istore_n (pc := 74) (lv' := [(0, .ref h), (1, nV row), (2, nV 3), (3, nV 1)]) C [1, 2, 3, 0] dX1_aboutTold_74 rfl (by decide) rfl ?_
    have L75 : ∀ (fuel : Nat) (k : Nat), n < k + fuel → 1 ≤ k → k ≤ n → pe n B row = fs (im n B row row) (n - k) k → xw φ 0 0 (wM cI h r d th n p w b B M) 75 [(0, .ref h), (1, nV row), (3, nV k)] [] := by
      intro fuel
      induction fuel with
      | zero =>
        intro k hk hk1 hkn hfs
        omega
      | succ fuel ih75 =>
        intro k hk hk1 hkn hfs
        refine xw_aload_n (pc := 75) C 0 dX1_aboutTold_75 rfl ?_
        refine xw_iload_n (pc := 76) C 1 dX1_aboutTold_76 rfl ?_
        refine xw_iload_n (pc := 77) C 1 dX1_aboutTold_77 rfl ?_
        refine xw_iload_n (pc := 78) C 2 dX1_aboutTold_78 rfl ?_
        refine xw_Vd (pc := 79) (q0 := 0) (na := 3) (rest := []) (st' := [bV (im n B row row k)]) C (m_X1_isMoved hn (hB) row row k (by omega) (by omega) (by omega)) gX1_aboutTold_X1_isMoved rfl rfl rfl rfl (by decide +kernel) ⟨Nat.le_of_ble_eq_true rfl, Nat.le_of_ble_eq_true rfl⟩ rfl rfl rfl (Nat.le_of_ble_eq_true rfl) dX1_aboutTold_79 ⟨Nat.le_of_ble_eq_true rfl, Nat.le_of_ble_eq_true rfl⟩ rfl ?_
        refine xw_if_ne_B (pc := 82) (tgt := 91) C dX1_aboutTold_82 (by decide)  (fun c_3 => ?_) (fun c_3 => ?_)
        ·
          refine xw_iload_n (pc := 91) C 2 dX1_aboutTold_91 rfl ?_
          exact xw_iret (pc := 92) C rX (Nat.le_refl _) (Nat.le_refl _) dX1_aboutTold_92 (PD.e (by show _ = some (nV (pe n B row)); rcases Nat.eq_or_lt_of_le hkn with z | z; rw [hfs, show n - k = 0 by omega, fs]; rw [hfs, show n - k = (n - (k + 1)) + 1 by omega, fs_t c_3]) rfl)
        ·
          have hkn2 : k ≠ n := fun z => by rw [z, im_n (show 0 < n by omega)] at c_3; exact absurd c_3 (by decide)
          refine xw_iinc_N (pc := 85) (b := k + 1) (lv' := [(0, .ref h), (1, nV row), (3, nV (k + 1))]) C 2 [1, 2, 0] dX1_aboutTold_85 rfl (by decide) rfl rfl ?_
          refine xw_goto (pc := 88) (tgt := 75) C dX1_aboutTold_88 (by decide) ?_
          exact ih75 (k + 1) (by omega) (by omega) (by omega) (by rw [hfs, show n - k = (n - (k + 1)) + 1 by omega, fs_f c_3])
    refine xw_lv (lv' := [(0, .ref h), (1, nV row), (3, nV 1)]) [0, 1, 3] rfl ?_
    exact L75 (n + 1) 1 (by omega) (by omega) (by omega) rfl
  ·
    refine xw_tabO (pc := 1) (tgt := 93) (a := 4) C dX1_aboutTold_1 (by decide) (by decide) (by decide) ?_
    refine xw_iconst_N (pc := 93) C 0 dX1_aboutTold_93 rfl ?_
    refine xw_istore_n (pc := 94) (lv' := [(0, .ref h), (1, nV row), (2, nV 4), (3, nV 0)]) C [1, 2, 3, 0] dX1_aboutTold_94 rfl (by decide) rfl ?_
    refine xw_iconst_N (pc := 95) C 0 dX1_aboutTold_95 rfl ?_
    refine xw_istore (pc := 96) (lv' := [(0, .ref h), (1, nV row), (2, nV 4), (3, nV 0), (4, nV 0)]) C [1, 2, 3, 4, 0] dX1_aboutTold_96 (by decide) rfl ?_
    have L98 : ∀ (fuel : Nat) (k acc : Nat), n < k + fuel → k ≤ n → acc = gr B row k → acc < 500 → xw φ 0 0 (wM cI h r d th n p w b B M) 98 [(0, .ref h), (1, nV row), (3, nV acc), (4, nV k)] [] := by
      intro fuel
      induction fuel with
      | zero =>
        intro k acc hk hkn hacc hac
        omega
      | succ fuel ih98 =>
        intro k acc hk hkn hacc hac
        refine xw_iload (pc := 98) C 3 dX1_aboutTold_98 rfl ?_
        refine xw_aload_n (pc := 100) C 0 dX1_aboutTold_100 rfl ?_
        refine xw_get (pc := 101) (T := TX1) (N := 7) (ref := "ToneButterfliesModel") C hin 0 1 rfl rfl (by decide) (by decide +kernel) rfl rfl dX1_aboutTold_101 ?_
        refine xw_icmp_ge_N (pc := 104) (tgt := 125) C dX1_aboutTold_104 (by decide) (by omega) (by omega) (fun c_4 => ?_) (fun c_4 => ?_)
        ·
          refine xw_iload_n (pc := 125) C 2 dX1_aboutTold_125 rfl ?_
          exact xw_iret (pc := 126) C rX (Nat.le_refl _) (Nat.le_refl _) dX1_aboutTold_126 (PD.e (by show _ = some (nV (gr B row n)); rw [hacc, show k = n by omega]) rfl)
        ·
          refine xw_iload_n (pc := 107) C 2 dX1_aboutTold_107 rfl ?_
          refine xw_aload_n (pc := 108) C 0 dX1_aboutTold_108 rfl ?_
          refine xw_iload_n (pc := 109) C 1 dX1_aboutTold_109 rfl ?_
          refine xw_iload (pc := 110) C 3 dX1_aboutTold_110 rfl ?_
          refine xw_Vd (pc := 112) (q0 := 0) (na := 2) (rest := [nV acc]) (st' := [nV (B (16 * row + k)), nV acc]) C (m_X1_its row k (by omega) (by omega)) gX1_aboutTold_X1_its rfl rfl rfl rfl (by decide +kernel) ⟨Nat.le_of_ble_eq_true rfl, Nat.le_of_ble_eq_true rfl⟩ rfl rfl rfl (Nat.le_of_ble_eq_true rfl) dX1_aboutTold_112 ⟨Nat.le_of_ble_eq_true rfl, Nat.le_of_ble_eq_true rfl⟩ rfl ?_
          have hb1 := hB (16 * row + k)
          refine xw_max (pc := 115) C (by decide +kernel) (by decide +kernel) (by decide +kernel) (by decide +kernel) (Nat.le_of_ble_eq_true rfl) (Nat.le_of_ble_eq_true rfl) (Nat.le_of_ble_eq_true rfl) (Nat.le_of_ble_eq_true rfl) (by omega) (by omega) dX1_aboutTold_115 ?_
          refine xw_istore_n (pc := 118) (lv' := [(0, .ref h), (1, nV row), (3, nV (if acc < B (16 * row + k) then B (16 * row + k) else acc)), (4, nV k)]) C [1, 2, 0, 3] dX1_aboutTold_118 rfl (by decide) rfl ?_
          refine xw_iinc_N (pc := 119) (b := k + 1) (lv' := [(0, .ref h), (1, nV row), (3, nV (if acc < B (16 * row + k) then B (16 * row + k) else acc)), (4, nV (k + 1))]) C 3 [1, 2, 3, 0] dX1_aboutTold_119 rfl (by decide) rfl rfl ?_
          refine xw_goto (pc := 122) (tgt := 98) C dX1_aboutTold_122 (by decide) ?_
          exact ih98 (k + 1) _ (by omega) (by omega) (by rw [gr, ← hacc]) (by split <;> omega)
    refine xw_lv (lv' := [(0, .ref h), (1, nV row), (3, nV 0), (4, nV 0)]) [0, 1, 3, 4] rfl ?_
    exact L98 (n + 1) 0 0 (by omega) (by omega) rfl (by omega)

set_option maxHeartbeats 4000000 in
set_option maxRecDepth 100000 in
theorem m_X1_about {l : Launch} {D : va_G} {cI : ClassId} {h r d th n p w b : Nat} {B M : Nat → Nat} (hp : 0 < p) (hp5 : p < 500) (hn : n = 4 ∨ n = 8 ∨ n = 16) (hB : ∀ j, B j < 500) (row : Nat) (hrw : row < 4) (what : Nat) (hwh : what < 5) : CT l yX1_about wsX1_about (rmN 3 70) D vwCl [(cI, .int)] [.ref h, nV row, nV what] (wM cI h r d th n p w b B M) (PD (some (iV (tl p n B row what))) (wM cI h r d 0 n p w b B M)) 0 0 := by
  refine ct_of (plainFor_of_name (by decide)) rfl (Nat.le_of_ble_eq_true rfl) (fun φ C rX => ?_)
  have hin : ∀ w ∈ wsX10, w ∈ wsX1_about := by decide +kernel
  refine xw_le (lv' := [(0, .ref h), (1, nV row), (2, nV what)]) rfl ?_
  have hn3 := lt3 hn
  refine xw_aload_n (pc := 0) C 0 dX1_about_0 rfl ?_
  refine xw_iconst_N (pc := 1) C 0 dX1_about_1 rfl ?_
  refine xw_put (pc := 2) (T := TX1) (N := 7) (ref := "ToneButterfliesModel") (w' := wM cI h r d 0 n p w b B M) C hin tyX1 tyX1_ok nmX1 0 0 rfl rfl (by decide) (by decide +kernel) rfl rfl rfl rfl (Nat.le_of_ble_eq_true rfl) rfl dX1_about_2 ?_
  refine xw_iload_n (pc := 5) C 1 dX1_about_5 rfl ?_
  refine xw_Sd (pc := 6) (na := 1) (rest := []) (st' := [bV (decide (((0 : Nat) : Int) ≤ (((row : Nat) : Int)) ∧ (((row : Nat) : Int)) ≤ ((3 : Nat) : Int)))]) C (m_X1_isRow (((row : Nat) : Int)) (by omega)) gX1_about_X1_isRow rfl rfl rfl rfl (by decide +kernel) ⟨Nat.le_of_ble_eq_true rfl, Nat.le_of_ble_eq_true rfl⟩ rfl (Nat.le_of_ble_eq_true rfl) dX1_about_6 ⟨Nat.le_of_ble_eq_true rfl, Nat.le_of_ble_eq_true rfl⟩ rfl ?_
  refine xw_if_eq_B (pc := 9) (tgt := 30) C dX1_about_9 (by decide)  (fun c_1 => (by have q9 := of_decide_eq_false c_1; exfalso; omega)) (fun c_1 => ?_)
  have q_c_1 := of_decide_eq_true c_1
  refine xw_iload_n (pc := 12) C 2 dX1_about_12 rfl ?_
  refine xw_iconst_N (pc := 13) C 0 dX1_about_13 rfl ?_
  refine xw_iconst_N (pc := 14) C 4 dX1_about_14 rfl ?_
  refine xw_Sd (pc := 15) (na := 3) (rest := []) (st' := [bV (decide ((((0 : Nat) : Int)) ≤ (((what : Nat) : Int)) ∧ (((what : Nat) : Int)) ≤ (((4 : Nat) : Int))))]) C (m_X1_isIn (((what : Nat) : Int)) (((0 : Nat) : Int)) (((4 : Nat) : Int)) (by omega) (by omega) (by omega)) gX1_about_X1_isIn rfl rfl rfl rfl (by decide +kernel) ⟨Nat.le_of_ble_eq_true rfl, Nat.le_of_ble_eq_true rfl⟩ rfl (Nat.le_of_ble_eq_true rfl) dX1_about_15 ⟨Nat.le_of_ble_eq_true rfl, Nat.le_of_ble_eq_true rfl⟩ rfl ?_
  refine xw_if_eq_B (pc := 18) (tgt := 30) C dX1_about_18 (by decide)  (fun c_2 => (by have q9 := of_decide_eq_false c_2; exfalso; omega)) (fun c_2 => ?_)
  have q_c_2 := of_decide_eq_true c_2
  refine xw_aload_n (pc := 21) C 0 dX1_about_21 rfl ?_
  refine xw_iload_n (pc := 22) C 1 dX1_about_22 rfl ?_
  refine xw_iload_n (pc := 23) C 2 dX1_about_23 rfl ?_
  refine xw_Vd (pc := 24) (q0 := 0) (na := 2) (rest := []) (st' := [iV (tl p n B row what)]) C (m_X1_aboutTold hp hp5 hn (hB) row what (by omega) (by omega)) gX1_about_X1_aboutTold rfl rfl rfl rfl (by decide +kernel) ⟨Nat.le_of_ble_eq_true rfl, Nat.le_of_ble_eq_true rfl⟩ rfl rfl rfl (Nat.le_of_ble_eq_true rfl) dX1_about_24 ⟨Nat.le_of_ble_eq_true rfl, Nat.le_of_ble_eq_true rfl⟩ rfl ?_
  refine xw_goto (pc := 27) (tgt := 35) C dX1_about_27 (by decide) ?_
  exact xw_iret (pc := 35) C rX (Nat.le_refl _) (Nat.le_refl _) dX1_about_35 (PD.i)

set_option maxHeartbeats 4000000 in
set_option maxRecDepth 100000 in
theorem m_X1_counted {l : Launch} {D : va_G} {cI : ClassId} {h r d th n p w b : Nat} {B M : Nat → Nat} (hro : rok n p) (hw1 : 1 ≤ w) (hw : w < p) (what : Nat) (hwh : what < 6) : CT l yX1_counted wsX1_counted (rmN 1 28) D vwCl [(cI, .int)] [.ref h, nV what] (wM cI h r d th n p w b B M) (PD (some (nV ((ct n p b w (w ^ (p - 2) % p) (n ^ (p - 2) % p) what)))) (wM cI h r d th n p w b B M)) 0 0 := by
  refine ct_of (plainFor_of_name (by decide)) rfl (Nat.le_of_ble_eq_true rfl) (fun φ C rX => ?_)
  have hin : ∀ w ∈ wsX10, w ∈ wsX1_counted := by decide +kernel
  refine xw_le (lv' := [(0, .ref h), (1, nV what)]) rfl ?_
  obtain ⟨hn, hp4, hp5, hprm, hdv⟩ := id hro
  have hp : 0 < p := by omega
  have hp1 : 1 < p := by omega
  have hn3 := lt3 hn
  have hnp := rok_lt hro
  refine xw_iload_n (pc := 0) C 1 dX1_counted_0 rfl ?_
  rcases (show what = 0 ∨ what = 1 ∨ what = 2 ∨ what = 3 ∨ what = 4 ∨ what = 5 by omega) with rfl | rfl | rfl | rfl | rfl | rfl
  ·
    refine xw_tabN (pc := 1) (tgt := 36) (a := 0) C dX1_counted_1 (by decide) (by decide) (by decide) rfl (by decide) ?_
    refine xw_aload_n (pc := 36) C 0 dX1_counted_36 rfl ?_
    refine xw_get (pc := 37) (T := TX1) (N := 7) (ref := "ToneButterfliesModel") C hin 0 1 rfl rfl (by decide) (by decide +kernel) rfl rfl dX1_counted_37 ?_
    exact xw_iret (pc := 40) C rX (Nat.le_refl _) (Nat.le_refl _) dX1_counted_40 (PD.i)
  ·
    refine xw_tabN (pc := 1) (tgt := 41) (a := 1) C dX1_counted_1 (by decide) (by decide) (by decide) rfl (by decide) ?_
    refine xw_aload_n (pc := 41) C 0 dX1_counted_41 rfl ?_
    refine xw_get (pc := 42) (T := TX1) (N := 7) (ref := "ToneButterfliesModel") C hin 0 2 rfl rfl (by decide) (by decide +kernel) rfl rfl dX1_counted_42 ?_
    exact xw_iret (pc := 45) C rX (Nat.le_refl _) (Nat.le_refl _) dX1_counted_45 (PD.i)
  ·
    refine xw_tabN (pc := 1) (tgt := 46) (a := 2) C dX1_counted_1 (by decide) (by decide) (by decide) rfl (by decide) ?_
    refine xw_aload_n (pc := 46) C 0 dX1_counted_46 rfl ?_
    refine xw_get (pc := 47) (T := TX1) (N := 7) (ref := "ToneButterfliesModel") C hin 0 3 rfl rfl (by decide) (by decide +kernel) rfl rfl dX1_counted_47 ?_
    exact xw_iret (pc := 50) C rX (Nat.le_refl _) (Nat.le_refl _) dX1_counted_50 (PD.i)
  ·
    refine xw_tabN (pc := 1) (tgt := 51) (a := 3) C dX1_counted_1 (by decide) (by decide) (by decide) rfl (by decide) ?_
    refine xw_aload_n (pc := 51) C 0 dX1_counted_51 rfl ?_
    refine xw_aload_n (pc := 52) C 0 dX1_counted_52 rfl ?_
    refine xw_get (pc := 53) (T := TX1) (N := 7) (ref := "ToneButterfliesModel") C hin 0 3 rfl rfl (by decide) (by decide +kernel) rfl rfl dX1_counted_53 ?_
    refine xw_Vd (pc := 56) (q0 := 0) (na := 1) (rest := []) (st' := [nV (w ^ (p - 2) % p)]) C (m_X1_inverseOf hp hp5 w (by omega) (ck_of hp5 hp4 hprm hw1 hw)) gX1_counted_X1_inverseOf rfl rfl rfl rfl (by decide +kernel) ⟨Nat.le_of_ble_eq_true rfl, Nat.le_of_ble_eq_true rfl⟩ rfl rfl rfl (Nat.le_of_ble_eq_true rfl) dX1_counted_56 ⟨Nat.le_of_ble_eq_true rfl, Nat.le_of_ble_eq_true rfl⟩ rfl ?_
    exact xw_iret (pc := 59) C rX (Nat.le_refl _) (Nat.le_refl _) dX1_counted_59 (PD.i)
  ·
    refine xw_tabN (pc := 1) (tgt := 60) (a := 4) C dX1_counted_1 (by decide) (by decide) (by decide) rfl (by decide) ?_
    refine xw_aload_n (pc := 60) C 0 dX1_counted_60 rfl ?_
    refine xw_aload_n (pc := 61) C 0 dX1_counted_61 rfl ?_
    refine xw_get (pc := 62) (T := TX1) (N := 7) (ref := "ToneButterfliesModel") C hin 0 1 rfl rfl (by decide) (by decide +kernel) rfl rfl dX1_counted_62 ?_
    refine xw_Vd (pc := 65) (q0 := 0) (na := 1) (rest := []) (st' := [nV (n ^ (p - 2) % p)]) C (m_X1_inverseOf hp hp5 n (by omega) (ck_of hp5 hp4 hprm (by omega) hnp)) gX1_counted_X1_inverseOf rfl rfl rfl rfl (by decide +kernel) ⟨Nat.le_of_ble_eq_true rfl, Nat.le_of_ble_eq_true rfl⟩ rfl rfl rfl (Nat.le_of_ble_eq_true rfl) dX1_counted_65 ⟨Nat.le_of_ble_eq_true rfl, Nat.le_of_ble_eq_true rfl⟩ rfl ?_
    exact xw_iret (pc := 68) C rX (Nat.le_refl _) (Nat.le_refl _) dX1_counted_68 (PD.i)
  ·
    refine xw_tabO (pc := 1) (tgt := 69) (a := 5) C dX1_counted_1 (by decide) (by decide) (by decide) ?_
    refine xw_aload_n (pc := 69) C 0 dX1_counted_69 rfl ?_
    refine xw_get (pc := 70) (T := TX1) (N := 7) (ref := "ToneButterfliesModel") C hin 0 4 rfl rfl (by decide) (by decide +kernel) rfl rfl dX1_counted_70 ?_
    exact xw_iret (pc := 73) C rX (Nat.le_refl _) (Nat.le_refl _) dX1_counted_73 (PD.i)

set_option maxHeartbeats 4000000 in
set_option maxRecDepth 100000 in
theorem m_X1_count {l : Launch} {D : va_G} {cI : ClassId} {h r d th n p w b : Nat} {B M : Nat → Nat} (hro : rok n p) (hw1 : 1 ≤ w) (hw : w < p) (what : Nat) (hwh : what < 6) : CT l yX1_count wsX1_count (rmN 2 49) D vwCl [(cI, .int)] [.ref h, nV what] (wM cI h r d th n p w b B M) (PD (some (nV ((ct n p b w (w ^ (p - 2) % p) (n ^ (p - 2) % p) what)))) (wM cI h r d 0 n p w b B M)) 0 0 := by
  refine ct_of (plainFor_of_name (by decide)) rfl (Nat.le_of_ble_eq_true rfl) (fun φ C rX => ?_)
  have hin : ∀ w ∈ wsX10, w ∈ wsX1_count := by decide +kernel
  refine xw_le (lv' := [(0, .ref h), (1, nV what)]) rfl ?_
  obtain ⟨hn, hp4, hp5, hprm, hdv⟩ := id hro
  have hp : 0 < p := by omega
  have hp1 : 1 < p := by omega
  have hn3 := lt3 hn
  have hnp := rok_lt hro
  refine xw_aload_n (pc := 0) C 0 dX1_count_0 rfl ?_
  refine xw_iconst_N (pc := 1) C 0 dX1_count_1 rfl ?_
  refine xw_put (pc := 2) (T := TX1) (N := 7) (ref := "ToneButterfliesModel") (w' := wM cI h r d 0 n p w b B M) C hin tyX1 tyX1_ok nmX1 0 0 rfl rfl (by decide) (by decide +kernel) rfl rfl rfl rfl (Nat.le_of_ble_eq_true rfl) rfl dX1_count_2 ?_
  refine xw_iload_n (pc := 5) C 1 dX1_count_5 rfl ?_
  refine xw_iconst_N (pc := 6) C 0 dX1_count_6 rfl ?_
  refine xw_iconst_N (pc := 7) C 5 dX1_count_7 rfl ?_
  refine xw_Sd (pc := 8) (na := 3) (rest := []) (st' := [bV (decide ((((0 : Nat) : Int)) ≤ (((what : Nat) : Int)) ∧ (((what : Nat) : Int)) ≤ (((5 : Nat) : Int))))]) C (m_X1_isIn (((what : Nat) : Int)) (((0 : Nat) : Int)) (((5 : Nat) : Int)) (by omega) (by omega) (by omega)) gX1_count_X1_isIn rfl rfl rfl rfl (by decide +kernel) ⟨Nat.le_of_ble_eq_true rfl, Nat.le_of_ble_eq_true rfl⟩ rfl (Nat.le_of_ble_eq_true rfl) dX1_count_8 ⟨Nat.le_of_ble_eq_true rfl, Nat.le_of_ble_eq_true rfl⟩ rfl ?_
  refine xw_if_eq_B (pc := 11) (tgt := 22) C dX1_count_11 (by decide)  (fun c_1 => (by have q9 := of_decide_eq_false c_1; exfalso; omega)) (fun c_1 => ?_)
  have q_c_1 := of_decide_eq_true c_1
  refine xw_aload_n (pc := 14) C 0 dX1_count_14 rfl ?_
  refine xw_iload_n (pc := 15) C 1 dX1_count_15 rfl ?_
  refine xw_Vd (pc := 16) (q0 := 0) (na := 1) (rest := []) (st' := [nV (ct n p b w (w ^ (p - 2) % p) (n ^ (p - 2) % p) what)]) C (m_X1_counted hro hw1 hw what (by omega)) gX1_count_X1_counted rfl rfl rfl rfl (by decide +kernel) ⟨Nat.le_of_ble_eq_true rfl, Nat.le_of_ble_eq_true rfl⟩ rfl rfl rfl (Nat.le_of_ble_eq_true rfl) dX1_count_16 ⟨Nat.le_of_ble_eq_true rfl, Nat.le_of_ble_eq_true rfl⟩ rfl ?_
  refine xw_goto (pc := 19) (tgt := 27) C dX1_count_19 (by decide) ?_
  exact xw_iret (pc := 27) C rX (Nat.le_refl _) (Nat.le_refl _) dX1_count_27 (PD.i)

set_option maxHeartbeats 4000000 in
set_option maxRecDepth 100000 in
theorem m_X1_would {l : Launch} {D : va_G} {cI : ClassId} {h r d th n p w b : Nat} {B M : Nat → Nat} (hp : 0 < p) (hp5 : p < 500) (hn : n = 4 ∨ n = 8 ∨ n = 16) (hB : ∀ j, B j < 500) (ra rb : Nat) (hra : ra < 4) (hrb : rb < 4) (q : Nat) (hq : q < n) : CT l yX1_would wsX1_would (rmN 2 47) D vwCl [(cI, .int)] [.ref h, nV ra, nV rb, nV q] (wM cI h r d th n p w b B M) (PD (some (nV (fo p n B ra rb q n))) (wM cI h r d 0 n p w b B M)) 0 0 := by
  refine ct_of (plainFor_of_name (by decide)) rfl (Nat.le_of_ble_eq_true rfl) (fun φ C rX => ?_)
  have hin : ∀ w ∈ wsX10, w ∈ wsX1_would := by decide +kernel
  refine xw_le (lv' := [(0, .ref h), (1, nV ra), (2, nV rb), (3, nV q)]) rfl ?_
  have hn3 := lt3 hn
  refine xw_aload_n (pc := 0) C 0 dX1_would_0 rfl ?_
  refine xw_iconst_N (pc := 1) C 0 dX1_would_1 rfl ?_
  refine xw_put (pc := 2) (T := TX1) (N := 7) (ref := "ToneButterfliesModel") (w' := wM cI h r d 0 n p w b B M) C hin tyX1 tyX1_ok nmX1 0 0 rfl rfl (by decide) (by decide +kernel) rfl rfl rfl rfl (Nat.le_of_ble_eq_true rfl) rfl dX1_would_2 ?_
  refine xw_iload_n (pc := 5) C 1 dX1_would_5 rfl ?_
  refine xw_Sd (pc := 6) (na := 1) (rest := []) (st' := [bV (decide (((0 : Nat) : Int) ≤ (((ra : Nat) : Int)) ∧ (((ra : Nat) : Int)) ≤ ((3 : Nat) : Int)))]) C (m_X1_isRow (((ra : Nat) : Int)) (by omega)) gX1_would_X1_isRow rfl rfl rfl rfl (by decide +kernel) ⟨Nat.le_of_ble_eq_true rfl, Nat.le_of_ble_eq_true rfl⟩ rfl (Nat.le_of_ble_eq_true rfl) dX1_would_6 ⟨Nat.le_of_ble_eq_true rfl, Nat.le_of_ble_eq_true rfl⟩ rfl ?_
  refine xw_if_eq_B (pc := 9) (tgt := 37) C dX1_would_9 (by decide)  (fun c_1 => (by have q9 := of_decide_eq_false c_1; exfalso; omega)) (fun c_1 => ?_)
  have q_c_1 := of_decide_eq_true c_1
  refine xw_iload_n (pc := 12) C 2 dX1_would_12 rfl ?_
  refine xw_Sd (pc := 13) (na := 1) (rest := []) (st' := [bV (decide (((0 : Nat) : Int) ≤ (((rb : Nat) : Int)) ∧ (((rb : Nat) : Int)) ≤ ((3 : Nat) : Int)))]) C (m_X1_isRow (((rb : Nat) : Int)) (by omega)) gX1_would_X1_isRow rfl rfl rfl rfl (by decide +kernel) ⟨Nat.le_of_ble_eq_true rfl, Nat.le_of_ble_eq_true rfl⟩ rfl (Nat.le_of_ble_eq_true rfl) dX1_would_13 ⟨Nat.le_of_ble_eq_true rfl, Nat.le_of_ble_eq_true rfl⟩ rfl ?_
  refine xw_if_eq_B (pc := 16) (tgt := 37) C dX1_would_16 (by decide)  (fun c_2 => (by have q9 := of_decide_eq_false c_2; exfalso; omega)) (fun c_2 => ?_)
  have q_c_2 := of_decide_eq_true c_2
  refine xw_aload_n (pc := 19) C 0 dX1_would_19 rfl ?_
  refine xw_iload_n (pc := 20) C 3 dX1_would_20 rfl ?_
  refine xw_Vd (pc := 21) (q0 := 0) (na := 1) (rest := []) (st' := [bV (decide (((0 : Nat) : Int) ≤ (((q : Nat) : Int)) ∧ (((q : Nat) : Int)) ≤ ((n : Nat) : Int) - ((1 : Nat) : Int)))]) C (m_X1_isPlace (by omega) (((q : Nat) : Int)) (by omega)) gX1_would_X1_isPlace rfl rfl rfl rfl (by decide +kernel) ⟨Nat.le_of_ble_eq_true rfl, Nat.le_of_ble_eq_true rfl⟩ rfl rfl rfl (Nat.le_of_ble_eq_true rfl) dX1_would_21 ⟨Nat.le_of_ble_eq_true rfl, Nat.le_of_ble_eq_true rfl⟩ rfl ?_
  refine xw_if_eq_B (pc := 24) (tgt := 37) C dX1_would_24 (by decide)  (fun c_3 => (by have q9 := of_decide_eq_false c_3; exfalso; omega)) (fun c_3 => ?_)
  have q_c_3 := of_decide_eq_true c_3
  refine xw_aload_n (pc := 27) C 0 dX1_would_27 rfl ?_
  refine xw_iload_n (pc := 28) C 1 dX1_would_28 rfl ?_
  refine xw_iload_n (pc := 29) C 2 dX1_would_29 rfl ?_
  refine xw_iload_n (pc := 30) C 3 dX1_would_30 rfl ?_
  refine xw_Vd (pc := 31) (q0 := 0) (na := 3) (rest := []) (st' := [nV (fo p n B ra rb q n)]) C (m_X1_folded hp hp5 hn (hB) ra rb q (by omega) (by omega) (by omega)) gX1_would_X1_folded rfl rfl rfl rfl (by decide +kernel) ⟨Nat.le_of_ble_eq_true rfl, Nat.le_of_ble_eq_true rfl⟩ rfl rfl rfl (Nat.le_of_ble_eq_true rfl) dX1_would_31 ⟨Nat.le_of_ble_eq_true rfl, Nat.le_of_ble_eq_true rfl⟩ rfl ?_
  refine xw_goto (pc := 34) (tgt := 42) C dX1_would_34 (by decide) ?_
  exact xw_iret (pc := 42) C rX (Nat.le_refl _) (Nat.le_refl _) dX1_would_42 (PD.i)

set_option maxHeartbeats 4000000 in
set_option maxRecDepth 100000 in
theorem m_X1_comesBy {l : Launch} {D : va_G} {cI : ClassId} {h r d th n p w b : Nat} {B M : Nat → Nat} (hn : n = 4 ∨ n = 8 ∨ n = 16) (hB : ∀ j, B j < 500) (ra rb : Nat) (hra : ra < 4) (hrb : rb < 4) : CT l yX1_comesBy wsX1_comesBy (rmN 2 46) D vwCl [(cI, .int)] [.ref h, nV ra, nV rb] (wM cI h r d th n p w b B M) (PD (some (iV (cm n B ra rb))) (wM cI h r d th n p w b B M)) 0 0 := by
  refine ct_of (plainFor_of_name (by decide)) rfl (Nat.le_of_ble_eq_true rfl) (fun φ C rX => ?_)
  have hin : ∀ w ∈ wsX10, w ∈ wsX1_comesBy := by decide +kernel
  refine xw_le (lv' := [(0, .ref h), (1, nV ra), (2, nV rb)]) rfl ?_
  have hn3 := lt3 hn
  refine xw_iconst_N (pc := 0) C 0 dX1_comesBy_0 rfl ?_
  refine xw_istore_n (pc := 1) (lv' := [(0, .ref h), (1, nV ra), (2, nV rb), (3, nV 0)]) C [1, 2, 3, 0] dX1_comesBy_1 rfl (by decide) rfl ?_
  have L2 : ∀ (fuel : Nat) (k : Nat), n < k + fuel → k ≤ n → fs (im n B ra rb) n 0 = fs (im n B ra rb) (n - k) k → xw φ 0 0 (wM cI h r d th n p w b B M) 2 [(0, .ref h), (1, nV ra), (2, nV rb), (3, nV k)] [] := by
    intro fuel
    induction fuel with
    | zero =>
      intro k hk hkn hfs
      omega
    | succ fuel ih2 =>
      intro k hk hkn hfs
      refine xw_iload_n (pc := 2) C 3 dX1_comesBy_2 rfl ?_
      refine xw_aload_n (pc := 3) C 0 dX1_comesBy_3 rfl ?_
      refine xw_get (pc := 4) (T := TX1) (N := 7) (ref := "ToneButterfliesModel") C hin 0 1 rfl rfl (by decide) (by decide +kernel) rfl rfl dX1_comesBy_4 ?_
      refine xw_icmp_ge_N (pc := 7) (tgt := 28) C dX1_comesBy_7 (by decide) (by omega) (by omega) (fun c_1 => ?_) (fun c_1 => ?_)
      ·
        refine xw_iconst (pc := 28) C dX1_comesBy_28 ?_
        exact xw_iret (pc := 29) C rX (Nat.le_refl _) (Nat.le_refl _) dX1_comesBy_29 (PD.e (by unfold cm; rw [hfs, show n - k = 0 by omega, fs, if_neg (by omega)]) rfl)
      ·
        refine xw_aload_n (pc := 10) C 0 dX1_comesBy_10 rfl ?_
        refine xw_iload_n (pc := 11) C 1 dX1_comesBy_11 rfl ?_
        refine xw_iload_n (pc := 12) C 2 dX1_comesBy_12 rfl ?_
        refine xw_iload_n (pc := 13) C 3 dX1_comesBy_13 rfl ?_
        refine xw_Vd (pc := 14) (q0 := 0) (na := 3) (rest := []) (st' := [bV (im n B ra rb k)]) C (m_X1_isMoved hn (hB) ra rb k (by omega) (by omega) (by omega)) gX1_comesBy_X1_isMoved rfl rfl rfl rfl (by decide +kernel) ⟨Nat.le_of_ble_eq_true rfl, Nat.le_of_ble_eq_true rfl⟩ rfl rfl rfl (Nat.le_of_ble_eq_true rfl) dX1_comesBy_14 ⟨Nat.le_of_ble_eq_true rfl, Nat.le_of_ble_eq_true rfl⟩ rfl ?_
        refine xw_if_eq_B (pc := 17) (tgt := 22) C dX1_comesBy_17 (by decide)  (fun c_2 => ?_) (fun c_2 => ?_)
        ·
          refine xw_iinc_N (pc := 22) (b := k + 1) (lv' := [(0, .ref h), (1, nV ra), (2, nV rb), (3, nV (k + 1))]) C 3 [1, 2, 3, 0] dX1_comesBy_22 rfl (by decide) rfl rfl ?_
          refine xw_goto (pc := 25) (tgt := 2) C dX1_comesBy_25 (by decide) ?_
          exact ih2 (k + 1) (by omega) (by omega) (by rw [hfs, show n - k = (n - (k + 1)) + 1 by omega, fs_f c_2])
        ·
          refine xw_iload_n (pc := 20) C 3 dX1_comesBy_20 rfl ?_
          exact xw_iret (pc := 21) C rX (Nat.le_refl _) (Nat.le_refl _) dX1_comesBy_21 (PD.e (by unfold cm; rw [hfs, show n - k = (n - (k + 1)) + 1 by omega, fs_t c_2, if_pos (show k < n by omega)]) rfl)
  exact L2 (n + 1) 0 (by omega) (by omega) rfl

set_option maxHeartbeats 4000000 in
set_option maxRecDepth 100000 in
theorem m_X1_comes {l : Launch} {D : va_G} {cI : ClassId} {h r d th n p w b : Nat} {B M : Nat → Nat} (hn : n = 4 ∨ n = 8 ∨ n = 16) (hB : ∀ j, B j < 500) (ra rb : Nat) (hra : ra < 4) (hrb : rb < 4) : CT l yX1_comes wsX1_comes (rmN 3 69) D vwCl [(cI, .int)] [.ref h, nV ra, nV rb] (wM cI h r d th n p w b B M) (PD (some (iV (cm n B ra rb))) (wM cI h r d 0 n p w b B M)) 0 0 := by
  refine ct_of (plainFor_of_name (by decide)) rfl (Nat.le_of_ble_eq_true rfl) (fun φ C rX => ?_)
  have hin : ∀ w ∈ wsX10, w ∈ wsX1_comes := by decide +kernel
  refine xw_le (lv' := [(0, .ref h), (1, nV ra), (2, nV rb)]) rfl ?_
  have hn3 := lt3 hn
  refine xw_aload_n (pc := 0) C 0 dX1_comes_0 rfl ?_
  refine xw_iconst_N (pc := 1) C 0 dX1_comes_1 rfl ?_
  refine xw_put (pc := 2) (T := TX1) (N := 7) (ref := "ToneButterfliesModel") (w' := wM cI h r d 0 n p w b B M) C hin tyX1 tyX1_ok nmX1 0 0 rfl rfl (by decide) (by decide +kernel) rfl rfl rfl rfl (Nat.le_of_ble_eq_true rfl) rfl dX1_comes_2 ?_
  refine xw_iload_n (pc := 5) C 1 dX1_comes_5 rfl ?_
  refine xw_Sd (pc := 6) (na := 1) (rest := []) (st' := [bV (decide (((0 : Nat) : Int) ≤ (((ra : Nat) : Int)) ∧ (((ra : Nat) : Int)) ≤ ((3 : Nat) : Int)))]) C (m_X1_isRow (((ra : Nat) : Int)) (by omega)) gX1_comes_X1_isRow rfl rfl rfl rfl (by decide +kernel) ⟨Nat.le_of_ble_eq_true rfl, Nat.le_of_ble_eq_true rfl⟩ rfl (Nat.le_of_ble_eq_true rfl) dX1_comes_6 ⟨Nat.le_of_ble_eq_true rfl, Nat.le_of_ble_eq_true rfl⟩ rfl ?_
  refine xw_if_eq_B (pc := 9) (tgt := 28) C dX1_comes_9 (by decide)  (fun c_1 => (by have q9 := of_decide_eq_false c_1; exfalso; omega)) (fun c_1 => ?_)
  have q_c_1 := of_decide_eq_true c_1
  refine xw_iload_n (pc := 12) C 2 dX1_comes_12 rfl ?_
  refine xw_Sd (pc := 13) (na := 1) (rest := []) (st' := [bV (decide (((0 : Nat) : Int) ≤ (((rb : Nat) : Int)) ∧ (((rb : Nat) : Int)) ≤ ((3 : Nat) : Int)))]) C (m_X1_isRow (((rb : Nat) : Int)) (by omega)) gX1_comes_X1_isRow rfl rfl rfl rfl (by decide +kernel) ⟨Nat.le_of_ble_eq_true rfl, Nat.le_of_ble_eq_true rfl⟩ rfl (Nat.le_of_ble_eq_true rfl) dX1_comes_13 ⟨Nat.le_of_ble_eq_true rfl, Nat.le_of_ble_eq_true rfl⟩ rfl ?_
  refine xw_if_eq_B (pc := 16) (tgt := 28) C dX1_comes_16 (by decide)  (fun c_2 => (by have q9 := of_decide_eq_false c_2; exfalso; omega)) (fun c_2 => ?_)
  have q_c_2 := of_decide_eq_true c_2
  refine xw_aload_n (pc := 19) C 0 dX1_comes_19 rfl ?_
  refine xw_iload_n (pc := 20) C 1 dX1_comes_20 rfl ?_
  refine xw_iload_n (pc := 21) C 2 dX1_comes_21 rfl ?_
  refine xw_Vd (pc := 22) (q0 := 0) (na := 2) (rest := []) (st' := [iV (cm n B ra rb)]) C (m_X1_comesBy hn hB ra rb (by omega) (by omega)) gX1_comes_X1_comesBy rfl rfl rfl rfl (by decide +kernel) ⟨Nat.le_of_ble_eq_true rfl, Nat.le_of_ble_eq_true rfl⟩ rfl rfl rfl (Nat.le_of_ble_eq_true rfl) dX1_comes_22 ⟨Nat.le_of_ble_eq_true rfl, Nat.le_of_ble_eq_true rfl⟩ rfl ?_
  refine xw_goto (pc := 25) (tgt := 33) C dX1_comes_25 (by decide) ?_
  exact xw_iret (pc := 33) C rX (Nat.le_refl _) (Nat.le_refl _) dX1_comes_33 (PD.i)

set_option maxHeartbeats 4000000 in
set_option maxRecDepth 100000 in
theorem m_X1_advise {l : Launch} {D : va_G} {cI : ClassId} {h r d th n p w b : Nat} {B M : Nat → Nat} (hp : 0 < p) (hp5 : p < 500) (hn : n = 4 ∨ n = 8 ∨ n = 16) (hB : ∀ j, B j < 500) (ra rb : Nat) (hra : ra < 4) (hrb : rb < 4) : CT l yX1_advise wsX1_advise (rmN 2 47) D vwCl [(cI, .int)] [.ref h, nV ra, nV rb] (wM cI h r d th n p w b B M) (PD (some (nV (am (fun q => so p n B ra rb q n) n))) (wM cI h r d 0 n p w b B M)) 0 0 := by
  refine ct_of (plainFor_of_name (by decide)) rfl (Nat.le_of_ble_eq_true rfl) (fun φ C rX => ?_)
  have hin : ∀ w ∈ wsX10, w ∈ wsX1_advise := by decide +kernel
  refine xw_le (lv' := [(0, .ref h), (1, nV ra), (2, nV rb)]) rfl ?_
  have hn3 := lt3 hn
  refine xw_aload_n (pc := 0) C 0 dX1_advise_0 rfl ?_
  refine xw_iconst_N (pc := 1) C 0 dX1_advise_1 rfl ?_
  refine xw_put (pc := 2) (T := TX1) (N := 7) (ref := "ToneButterfliesModel") (w' := wM cI h r d 0 n p w b B M) C hin tyX1 tyX1_ok nmX1 0 0 rfl rfl (by decide) (by decide +kernel) rfl rfl rfl rfl (Nat.le_of_ble_eq_true rfl) rfl dX1_advise_2 ?_
  refine xw_iload_n (pc := 5) C 1 dX1_advise_5 rfl ?_
  refine xw_Sd (pc := 6) (na := 1) (rest := []) (st' := [bV (decide (((0 : Nat) : Int) ≤ (((ra : Nat) : Int)) ∧ (((ra : Nat) : Int)) ≤ ((3 : Nat) : Int)))]) C (m_X1_isRow (((ra : Nat) : Int)) (by omega)) gX1_advise_X1_isRow rfl rfl rfl rfl (by decide +kernel) ⟨Nat.le_of_ble_eq_true rfl, Nat.le_of_ble_eq_true rfl⟩ rfl (Nat.le_of_ble_eq_true rfl) dX1_advise_6 ⟨Nat.le_of_ble_eq_true rfl, Nat.le_of_ble_eq_true rfl⟩ rfl ?_
  refine xw_if_eq_B (pc := 9) (tgt := 19) C dX1_advise_9 (by decide)  (fun c_1 => (by have q9 := of_decide_eq_false c_1; exfalso; omega)) (fun c_1 => ?_)
  have q_c_1 := of_decide_eq_true c_1
  refine xw_iload_n (pc := 12) C 2 dX1_advise_12 rfl ?_
  refine xw_Sd (pc := 13) (na := 1) (rest := []) (st' := [bV (decide (((0 : Nat) : Int) ≤ (((rb : Nat) : Int)) ∧ (((rb : Nat) : Int)) ≤ ((3 : Nat) : Int)))]) C (m_X1_isRow (((rb : Nat) : Int)) (by omega)) gX1_advise_X1_isRow rfl rfl rfl rfl (by decide +kernel) ⟨Nat.le_of_ble_eq_true rfl, Nat.le_of_ble_eq_true rfl⟩ rfl (Nat.le_of_ble_eq_true rfl) dX1_advise_13 ⟨Nat.le_of_ble_eq_true rfl, Nat.le_of_ble_eq_true rfl⟩ rfl ?_
  refine xw_if_ne_B (pc := 16) (tgt := 25) C dX1_advise_16 (by decide)  (fun c_2 => ?_) (fun c_2 => (by have q9 := of_decide_eq_false c_2; exfalso; omega))
  have q_c_2 := of_decide_eq_true c_2
  refine xw_iconst_N (pc := 25) C 0 dX1_advise_25 rfl ?_
  refine xw_istore_n (pc := 26) (lv' := [(0, .ref h), (1, nV ra), (2, nV rb), (3, nV 0)]) C [1, 2, 3, 0] dX1_advise_26 rfl (by decide) rfl ?_
  refine xw_iconst_N (pc := 27) C 1 dX1_advise_27 rfl ?_
  refine xw_istore (pc := 28) (lv' := [(0, .ref h), (1, nV ra), (2, nV rb), (3, nV 0), (4, nV 1)]) C [1, 2, 3, 4, 0] dX1_advise_28 (by decide) rfl ?_
  have L30 : ∀ (fuel : Nat) (k best : Nat), n < k + fuel → 1 ≤ k → k ≤ n → best = am (fun q => so p n B ra rb q n) k → best < n → xw φ 0 0 (wM cI h r d 0 n p w b B M) 30 [(0, .ref h), (1, nV ra), (2, nV rb), (3, nV best), (4, nV k)] [] := by
    intro fuel
    induction fuel with
    | zero =>
      intro k best hk hk1 hkn hb9 hbn
      omega
    | succ fuel ih30 =>
      intro k best hk hk1 hkn hb9 hbn
      refine xw_iload (pc := 30) C 4 dX1_advise_30 rfl ?_
      refine xw_aload_n (pc := 32) C 0 dX1_advise_32 rfl ?_
      refine xw_get (pc := 33) (T := TX1) (N := 7) (ref := "ToneButterfliesModel") C hin 0 1 rfl rfl (by decide) (by decide +kernel) rfl rfl dX1_advise_33 ?_
      refine xw_icmp_ge_N (pc := 36) (tgt := 66) C dX1_advise_36 (by decide) (by omega) (by omega) (fun c_3 => ?_) (fun c_3 => ?_)
      ·
        refine xw_iload_n (pc := 66) C 3 dX1_advise_66 rfl ?_
        exact xw_iret (pc := 67) C rX (Nat.le_refl _) (Nat.le_refl _) dX1_advise_67 (PD.e (by rw [hb9, show k = n by omega]) rfl)
      ·
        refine xw_aload_n (pc := 39) C 0 dX1_advise_39 rfl ?_
        refine xw_iload_n (pc := 40) C 1 dX1_advise_40 rfl ?_
        refine xw_iload_n (pc := 41) C 2 dX1_advise_41 rfl ?_
        refine xw_iload (pc := 42) C 4 dX1_advise_42 rfl ?_
        refine xw_Vd (pc := 44) (q0 := 0) (na := 3) (rest := []) (st' := [nV (so p n B ra rb k n)]) C (m_X1_together hp hp5 hn (hB) ra rb k (by omega) (by omega) (by omega)) gX1_advise_X1_together rfl rfl rfl rfl (by decide +kernel) ⟨Nat.le_of_ble_eq_true rfl, Nat.le_of_ble_eq_true rfl⟩ rfl rfl rfl (Nat.le_of_ble_eq_true rfl) dX1_advise_44 ⟨Nat.le_of_ble_eq_true rfl, Nat.le_of_ble_eq_true rfl⟩ rfl ?_
        refine xw_aload_n (pc := 47) C 0 dX1_advise_47 rfl ?_
        refine xw_iload_n (pc := 48) C 1 dX1_advise_48 rfl ?_
        refine xw_iload_n (pc := 49) C 2 dX1_advise_49 rfl ?_
        refine xw_iload_n (pc := 50) C 3 dX1_advise_50 rfl ?_
        refine xw_Vd (pc := 51) (q0 := 0) (na := 3) (rest := [nV (so p n B ra rb k n)]) (st' := [nV (so p n B ra rb best n), nV (so p n B ra rb k n)]) C (m_X1_together hp hp5 hn (hB) ra rb best (by omega) (by omega) (by omega)) gX1_advise_X1_together rfl rfl rfl rfl (by decide +kernel) ⟨Nat.le_of_ble_eq_true rfl, Nat.le_of_ble_eq_true rfl⟩ rfl rfl rfl (Nat.le_of_ble_eq_true rfl) dX1_advise_51 ⟨Nat.le_of_ble_eq_true rfl, Nat.le_of_ble_eq_true rfl⟩ rfl ?_
        have hb5 : so p n B ra rb k n < 500 := Nat.lt_trans (so_lt hp n) hp5
        have hb6 : so p n B ra rb best n < 500 := Nat.lt_trans (so_lt hp n) hp5
        refine xw_icmp_le_N (pc := 54) (tgt := 60) C dX1_advise_54 (by decide) (by omega) (by omega) (fun c_4 => ?_) (fun c_4 => ?_)
        ·
          refine xw_iinc_N (pc := 60) (b := k + 1) (lv' := [(0, .ref h), (1, nV ra), (2, nV rb), (3, nV best), (4, nV (k + 1))]) C 4 [1, 2, 3, 4, 0] dX1_advise_60 rfl (by decide) rfl rfl ?_
          refine xw_goto (pc := 63) (tgt := 30) C dX1_advise_63 (by decide) ?_
          exact ih30 (k + 1) _ (by omega) (by omega) (by omega) (by rw [am, ← hb9, if_neg (show ¬ so p n B ra rb best n < so p n B ra rb k n by omega)]) hbn
        ·
          refine xw_iload (pc := 57) C 4 dX1_advise_57 rfl ?_
          refine xw_istore_n (pc := 59) (lv' := [(0, .ref h), (1, nV ra), (2, nV rb), (3, nV k), (4, nV k)]) C [1, 2, 3, 0, 4] dX1_advise_59 rfl (by decide) rfl ?_
          refine xw_iinc_N (pc := 60) (b := k + 1) (lv' := [(0, .ref h), (1, nV ra), (2, nV rb), (3, nV k), (4, nV (k + 1))]) C 4 [1, 2, 3, 4, 0] dX1_advise_60 rfl (by decide) rfl rfl ?_
          refine xw_goto (pc := 63) (tgt := 30) C dX1_advise_63 (by decide) ?_
          exact ih30 (k + 1) _ (by omega) (by omega) (by omega) (by rw [am, ← hb9, if_pos (show so p n B ra rb best n < so p n B ra rb k n by omega)]) (by omega)
  exact L30 (n + 1) 1 0 (by omega) (by omega) (by omega) (by rw [am, am, if_neg (Nat.lt_irrefl _)]) (by omega)

set_option maxHeartbeats 4000000 in
set_option maxRecDepth 100000 in
theorem m_X1_areTones {l : Launch} {D : va_G} {cI : ClassId} {h r d th n p w b : Nat} {B M : Nat → Nat} (hp : 0 < p) (hp5 : p < 500) (hn : n = 4 ∨ n = 8 ∨ n = 16) (hB : ∀ j, B j < 500) (hM : ∀ j, M j < 500) (hw : w < 500) (ra rb : Nat) (hra : ra < 4) (hrb : rb < 4) : CT l yX1_areTones wsX1_areTones (rmN 3 71) D vwCl [(cI, .int)] [.ref h, nV ra, nV rb] (wM cI h r d th n p w b B M) (PD (some (bV (decide (cc (fun j => decide (B (16 * rb + j) ≠ tn p n B ra w 1 j)) n = 0)))) (wM cI h r d th n p w b B (mk M (tn p n B ra w 1) n))) 0 0 := by
  refine ct_of (plainFor_of_name (by decide)) rfl (Nat.le_of_ble_eq_true rfl) (fun φ C rX => ?_)
  have hin : ∀ w ∈ wsX10, w ∈ wsX1_areTones := by decide +kernel
  refine xw_le (lv' := [(0, .ref h), (1, nV ra), (2, nV rb)]) rfl ?_
  have hn3 := lt3 hn
  refine xw_aload_n (pc := 0) C 0 dX1_areTones_0 rfl ?_
  refine xw_iload_n (pc := 1) C 1 dX1_areTones_1 rfl ?_
  refine xw_aload_n (pc := 2) C 0 dX1_areTones_2 rfl ?_
  refine xw_get (pc := 3) (T := TX1) (N := 7) (ref := "ToneButterfliesModel") C hin 0 3 rfl rfl (by decide) (by decide +kernel) rfl rfl dX1_areTones_3 ?_
  refine xw_iconst_N (pc := 6) C 1 dX1_areTones_6 rfl ?_
  refine xw_Vd (pc := 7) (q0 := 0) (na := 3) (rest := []) (st' := []) C (m_X1_makeTones hp hp5 hn (hB) ra w 1 (by omega) (by omega) (by omega)) gX1_areTones_X1_makeTones rfl rfl rfl rfl (by decide +kernel) ⟨Nat.le_of_ble_eq_true rfl, Nat.le_of_ble_eq_true rfl⟩ rfl rfl rfl (Nat.le_of_ble_eq_true rfl) dX1_areTones_7 ⟨Nat.le_of_ble_eq_true rfl, Nat.le_of_ble_eq_true rfl⟩ rfl ?_
  refine xw_aload_n (pc := 10) C 0 dX1_areTones_10 rfl ?_
  refine xw_iload_n (pc := 11) C 2 dX1_areTones_11 rfl ?_
  refine xw_Vd (pc := 12) (q0 := 0) (na := 1) (rest := []) (st' := [nV (cc (fun j => decide (B (16 * rb + j) ≠ (mk M (tn p n B ra w 1) n) j)) n)]) C (m_X1_changes hn (hB) (mk_lt (g := tn p n B ra w 1) hM (fun j _ => ml hp hp5)) rb (by omega)) gX1_areTones_X1_changes rfl rfl rfl rfl (by decide +kernel) ⟨Nat.le_of_ble_eq_true rfl, Nat.le_of_ble_eq_true rfl⟩ rfl rfl rfl (Nat.le_of_ble_eq_true rfl) dX1_areTones_12 ⟨Nat.le_of_ble_eq_true rfl, Nat.le_of_ble_eq_true rfl⟩ rfl ?_
  refine xw_st (st' := [nV (cc (fun j => decide (B (16 * rb + j) ≠ tn p n B ra w 1 j)) n)]) (by rw [mk_cc (g := tn p n B ra w 1)]) ?_
  have hcl := cc_le (fun j => decide (B (16 * rb + j) ≠ tn p n B ra w 1 j)) n
  refine xw_if_ne_N (pc := 15) (tgt := 22) C dX1_areTones_15 (by decide) (by omega) (fun c_1 => ?_) (fun c_1 => ?_)
  ·
    refine xw_iconst_N (pc := 22) C 0 dX1_areTones_22 rfl ?_
    refine xw_st (st' := [bV false]) rfl ?_
    exact xw_bret (pc := 23) C rX (Nat.le_refl _) (Nat.le_refl _) dX1_areTones_23 (PD.e (by rw [decide_eq_false c_1]) rfl)
  ·
    refine xw_iconst_N (pc := 18) C 1 dX1_areTones_18 rfl ?_
    refine xw_goto (pc := 19) (tgt := 23) C dX1_areTones_19 (by decide) ?_
    refine xw_st (st' := [bV true]) rfl ?_
    exact xw_bret (pc := 23) C rX (Nat.le_refl _) (Nat.le_refl _) dX1_areTones_23 (PD.e (by rw [decide_eq_true c_1]) rfl)

set_option maxHeartbeats 4000000 in
set_option maxRecDepth 100000 in
theorem m_X1_tones {l : Launch} {D : va_G} {cI : ClassId} {h r d th n p w b : Nat} {B M : Nat → Nat} (hp : 0 < p) (hp5 : p < 500) (hn : n = 4 ∨ n = 8 ∨ n = 16) (hB : ∀ j, B j < 500) (hM : ∀ j, M j < 500) (hw : w < 500) (ra rb : Nat) (hra : ra < 4) (hrb : rb < 4) : CT l yX1_tones wsX1_tones (rmN 4 93) D vwCl [(cI, .int)] [.ref h, nV ra, nV rb] (wM cI h r d th n p w b B M) (PD (some (bV (decide (cc (fun j => decide (B (16 * rb + j) ≠ tn p n B ra w 1 j)) n = 0)))) (wM cI h r d 0 n p w b B (mk M (tn p n B ra w 1) n))) 0 0 := by
  refine ct_of (plainFor_of_name (by decide)) rfl (Nat.le_of_ble_eq_true rfl) (fun φ C rX => ?_)
  have hin : ∀ w ∈ wsX10, w ∈ wsX1_tones := by decide +kernel
  refine xw_le (lv' := [(0, .ref h), (1, nV ra), (2, nV rb)]) rfl ?_
  have hn3 := lt3 hn
  refine xw_aload_n (pc := 0) C 0 dX1_tones_0 rfl ?_
  refine xw_iload_n (pc := 1) C 1 dX1_tones_1 rfl ?_
  refine xw_Sd (pc := 2) (na := 1) (rest := [.ref h]) (st' := [bV (decide (((0 : Nat) : Int) ≤ (((ra : Nat) : Int)) ∧ (((ra : Nat) : Int)) ≤ ((3 : Nat) : Int))), .ref h]) C (m_X1_isRow (((ra : Nat) : Int)) (by omega)) gX1_tones_X1_isRow rfl rfl rfl rfl (by decide +kernel) ⟨Nat.le_of_ble_eq_true rfl, Nat.le_of_ble_eq_true rfl⟩ rfl (Nat.le_of_ble_eq_true rfl) dX1_tones_2 ⟨Nat.le_of_ble_eq_true rfl, Nat.le_of_ble_eq_true rfl⟩ rfl ?_
  refine xw_if_eq_B (pc := 5) (tgt := 19) C dX1_tones_5 (by decide)  (fun c_1 => (by have q9 := of_decide_eq_false c_1; exfalso; omega)) (fun c_1 => ?_)
  have q_c_1 := of_decide_eq_true c_1
  refine xw_iload_n (pc := 8) C 2 dX1_tones_8 rfl ?_
  refine xw_Sd (pc := 9) (na := 1) (rest := [.ref h]) (st' := [bV (decide (((0 : Nat) : Int) ≤ (((rb : Nat) : Int)) ∧ (((rb : Nat) : Int)) ≤ ((3 : Nat) : Int))), .ref h]) C (m_X1_isRow (((rb : Nat) : Int)) (by omega)) gX1_tones_X1_isRow rfl rfl rfl rfl (by decide +kernel) ⟨Nat.le_of_ble_eq_true rfl, Nat.le_of_ble_eq_true rfl⟩ rfl (Nat.le_of_ble_eq_true rfl) dX1_tones_9 ⟨Nat.le_of_ble_eq_true rfl, Nat.le_of_ble_eq_true rfl⟩ rfl ?_
  refine xw_if_eq_B (pc := 12) (tgt := 19) C dX1_tones_12 (by decide)  (fun c_2 => (by have q9 := of_decide_eq_false c_2; exfalso; omega)) (fun c_2 => ?_)
  have q_c_2 := of_decide_eq_true c_2
  refine xw_iconst_N (pc := 15) C 0 dX1_tones_15 rfl ?_
  refine xw_goto (pc := 16) (tgt := 20) C dX1_tones_16 (by decide) ?_
  refine xw_put (pc := 20) (T := TX1) (N := 7) (ref := "ToneButterfliesModel") (w' := wM cI h r d 0 n p w b B M) C hin tyX1 tyX1_ok nmX1 0 0 rfl rfl (by decide) (by decide +kernel) rfl rfl rfl rfl (Nat.le_of_ble_eq_true rfl) rfl dX1_tones_20 ?_
  refine xw_aload_n (pc := 23) C 0 dX1_tones_23 rfl ?_
  refine xw_get (pc := 24) (T := TX1) (N := 7) (ref := "ToneButterfliesModel") C hin 0 0 rfl rfl (by decide) (by decide +kernel) rfl rfl dX1_tones_24 ?_
  refine xw_if_ne_N (pc := 27) (tgt := 43) C dX1_tones_27 (by decide) (by omega) (fun c_3 => (by exact absurd rfl c_3)) (fun c_3 => ?_)
  refine xw_aload_n (pc := 30) C 0 dX1_tones_30 rfl ?_
  refine xw_iload_n (pc := 31) C 1 dX1_tones_31 rfl ?_
  refine xw_iload_n (pc := 32) C 2 dX1_tones_32 rfl ?_
  refine xw_Vd (pc := 33) (q0 := 0) (na := 2) (rest := []) (st' := [bV (decide (cc (fun j => decide (B (16 * rb + j) ≠ tn p n B ra w 1 j)) n = 0))]) C (m_X1_areTones hp hp5 hn hB hM hw ra rb (by omega) (by omega)) gX1_tones_X1_areTones rfl rfl rfl rfl (by decide +kernel) ⟨Nat.le_of_ble_eq_true rfl, Nat.le_of_ble_eq_true rfl⟩ rfl rfl rfl (Nat.le_of_ble_eq_true rfl) dX1_tones_33 ⟨Nat.le_of_ble_eq_true rfl, Nat.le_of_ble_eq_true rfl⟩ rfl ?_
  refine xw_if_eq_B (pc := 36) (tgt := 43) C dX1_tones_36 (by decide)  (fun c_4 => ?_) (fun c_4 => ?_)
  ·
    have q_c_4 := of_decide_eq_false c_4
    refine xw_iconst_N (pc := 43) C 0 dX1_tones_43 rfl ?_
    refine xw_st (st' := [bV false]) rfl ?_
    exact xw_bret (pc := 44) C rX (Nat.le_refl _) (Nat.le_refl _) dX1_tones_44 (PD.e (by rw [c_4]) rfl)
  ·
    have q_c_4 := of_decide_eq_true c_4
    refine xw_iconst_N (pc := 39) C 1 dX1_tones_39 rfl ?_
    refine xw_goto (pc := 40) (tgt := 44) C dX1_tones_40 (by decide) ?_
    refine xw_st (st' := [bV true]) rfl ?_
    exact xw_bret (pc := 44) C rX (Nat.le_refl _) (Nat.le_refl _) dX1_tones_44 (PD.e (by rw [c_4]) rfl)

set_option maxHeartbeats 4000000 in
set_option maxRecDepth 100000 in
theorem m_X1_mean {l : Launch} {D : va_G} {cI : ClassId} {h r d th n p w b : Nat} {B M : Nat → Nat} (hn : n = 4 ∨ n = 8 ∨ n = 16) (hB : ∀ j, B j < 500) (row : Nat) (hrw : row < 4) : CT l yX1_mean wsX1_mean (rmN 2 42) D vwCl [(cI, .int)] [.ref h, nV row] (wM cI h r d th n p w b B M) (PD (some (.double (dq (sm B row n) n))) (wM cI h r d 0 n p w b B M)) 0 0 := by
  refine ct_of (plainFor_of_name (by decide)) rfl (Nat.le_of_ble_eq_true rfl) (fun φ C rX => ?_)
  have hin : ∀ w ∈ wsX10, w ∈ wsX1_mean := by decide +kernel
  refine xw_le (lv' := [(0, .ref h), (1, nV row)]) rfl ?_
  have hn3 := lt3 hn
  refine xw_aload_n (pc := 0) C 0 dX1_mean_0 rfl ?_
  refine xw_iload_n (pc := 1) C 1 dX1_mean_1 rfl ?_
  refine xw_Sd (pc := 2) (na := 1) (rest := [.ref h]) (st' := [bV (decide (((0 : Nat) : Int) ≤ (((row : Nat) : Int)) ∧ (((row : Nat) : Int)) ≤ ((3 : Nat) : Int))), .ref h]) C (m_X1_isRow (((row : Nat) : Int)) (by omega)) gX1_mean_X1_isRow rfl rfl rfl rfl (by decide +kernel) ⟨Nat.le_of_ble_eq_true rfl, Nat.le_of_ble_eq_true rfl⟩ rfl (Nat.le_of_ble_eq_true rfl) dX1_mean_2 ⟨Nat.le_of_ble_eq_true rfl, Nat.le_of_ble_eq_true rfl⟩ rfl ?_
  refine xw_if_eq_B (pc := 5) (tgt := 12) C dX1_mean_5 (by decide)  (fun c_1 => (by have q9 := of_decide_eq_false c_1; exfalso; omega)) (fun c_1 => ?_)
  have q_c_1 := of_decide_eq_true c_1
  refine xw_iconst_N (pc := 8) C 0 dX1_mean_8 rfl ?_
  refine xw_goto (pc := 9) (tgt := 13) C dX1_mean_9 (by decide) ?_
  refine xw_put (pc := 13) (T := TX1) (N := 7) (ref := "ToneButterfliesModel") (w' := wM cI h r d 0 n p w b B M) C hin tyX1 tyX1_ok nmX1 0 0 rfl rfl (by decide) (by decide +kernel) rfl rfl rfl rfl (Nat.le_of_ble_eq_true rfl) rfl dX1_mean_13 ?_
  refine xw_iconst_N (pc := 16) C 0 dX1_mean_16 rfl ?_
  refine xw_istore_n (pc := 17) (lv' := [(0, .ref h), (1, nV row), (2, nV 0)]) C [1, 2, 0] dX1_mean_17 rfl (by decide) rfl ?_
  refine xw_iconst_N (pc := 18) C 0 dX1_mean_18 rfl ?_
  refine xw_istore_n (pc := 19) (lv' := [(0, .ref h), (1, nV row), (2, nV 0), (3, nV 0)]) C [1, 2, 3, 0] dX1_mean_19 rfl (by decide) rfl ?_
  have L20 : ∀ (fuel : Nat) (k acc : Nat), n < k + fuel → k ≤ n → acc = sm B row k → xw φ 0 0 (wM cI h r d 0 n p w b B M) 20 [(0, .ref h), (1, nV row), (2, nV acc), (3, nV k)] [] := by
    intro fuel
    induction fuel with
    | zero =>
      intro k acc hk hkn hacc
      omega
    | succ fuel ih20 =>
      intro k acc hk hkn hacc
      refine xw_iload_n (pc := 20) C 3 dX1_mean_20 rfl ?_
      refine xw_aload_n (pc := 21) C 0 dX1_mean_21 rfl ?_
      refine xw_get (pc := 22) (T := TX1) (N := 7) (ref := "ToneButterfliesModel") C hin 0 1 rfl rfl (by decide) (by decide +kernel) rfl rfl dX1_mean_22 ?_
      refine xw_icmp_ge_N (pc := 25) (tgt := 50) C dX1_mean_25 (by decide) (by omega) (by omega) (fun c_2 => ?_) (fun c_2 => ?_)
      ·
        have hsm := sm_le (r := row) hB n
        rw [show acc = sm B row n from by rw [hacc, show k = n by omega]]
        refine xw_iload_n (pc := 50) C 2 dX1_mean_50 rfl ?_
        refine xw_i2d (pc := 51) C dX1_mean_51 ?_
        refine xw_aload_n (pc := 52) C 0 dX1_mean_52 rfl ?_
        refine xw_get (pc := 53) (T := TX1) (N := 7) (ref := "ToneButterfliesModel") C hin 0 1 rfl rfl (by decide) (by decide +kernel) rfl rfl dX1_mean_53 ?_
        refine xw_i2d (pc := 56) C dX1_mean_56 ?_
        refine xw_ddiv (pc := 57) C dX1_mean_57 (dq_n (s := sm B row n) (by omega) hn) ?_
        exact xw_dret (pc := 58) C rX (Nat.le_refl _) (Nat.le_refl _) dX1_mean_58 (PD.i)
      ·
        refine xw_aload_n (pc := 28) C 0 dX1_mean_28 rfl ?_
        refine xw_get (pc := 29) (T := TX1) (N := 7) (ref := "ToneButterfliesModel") C hin 0 0 rfl rfl (by decide) (by decide +kernel) rfl rfl dX1_mean_29 ?_
        refine xw_if_ne_N (pc := 32) (tgt := 50) C dX1_mean_32 (by decide) (by omega) (fun c_3 => (by exact absurd rfl c_3)) (fun c_3 => ?_)
        refine xw_iload_n (pc := 35) C 2 dX1_mean_35 rfl ?_
        refine xw_aload_n (pc := 36) C 0 dX1_mean_36 rfl ?_
        refine xw_iload_n (pc := 37) C 1 dX1_mean_37 rfl ?_
        refine xw_iload_n (pc := 38) C 3 dX1_mean_38 rfl ?_
        refine xw_Vd (pc := 39) (q0 := 0) (na := 2) (rest := [nV acc]) (st' := [nV (B (16 * row + k)), nV acc]) C (m_X1_its row k (by omega) (by omega)) gX1_mean_X1_its rfl rfl rfl rfl (by decide +kernel) ⟨Nat.le_of_ble_eq_true rfl, Nat.le_of_ble_eq_true rfl⟩ rfl rfl rfl (Nat.le_of_ble_eq_true rfl) dX1_mean_39 ⟨Nat.le_of_ble_eq_true rfl, Nat.le_of_ble_eq_true rfl⟩ rfl ?_
        refine xw_iadd_N (pc := 42) C dX1_mean_42 ?_
        refine xw_istore_n (pc := 43) (lv' := [(0, .ref h), (1, nV row), (2, nV (acc + (B (16 * row + k)))), (3, nV k)]) C [1, 2, 0, 3] dX1_mean_43 rfl (by decide) rfl ?_
        refine xw_iinc_N (pc := 44) (b := k + 1) (lv' := [(0, .ref h), (1, nV row), (2, nV (acc + (B (16 * row + k)))), (3, nV (k + 1))]) C 3 [1, 2, 3, 0] dX1_mean_44 rfl (by decide) rfl rfl ?_
        refine xw_goto (pc := 47) (tgt := 20) C dX1_mean_47 (by decide) ?_
        exact ih20 (k + 1) _ (by omega) (by omega) (by rw [sm, ← hacc])
  exact L20 (n + 1) 0 0 (by omega) (by omega) rfl
