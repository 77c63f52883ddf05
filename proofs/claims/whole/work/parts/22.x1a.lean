set_option maxHeartbeats 4000000 in
set_option maxRecDepth 100000 in
theorem m_X1_thrown {l : Launch} {D : va_G} {cI : ClassId} {h r d th n p w b : Nat} {B M : Nat → Nat} : CT l yX1_thrown wsX1_thrown (rmN 0 0) D vwCl [(cI, .int)] [.ref h] (wM cI h r d th n p w b B M) (PD (some (nV th)) (wM cI h r d th n p w b B M)) 0 0 := by
  refine ct_of (plainFor_of_name (by decide)) rfl (Nat.le_of_ble_eq_true rfl) (fun φ C rX => ?_)
  have hin : ∀ w ∈ wsX10, w ∈ wsX1_thrown := by decide +kernel
  refine xw_le (lv' := [(0, .ref h)]) rfl ?_
  refine xw_aload_n (pc := 0) C 0 dX1_thrown_0 rfl ?_
  refine xw_get (pc := 1) (T := TX1) (N := 7) (ref := "ToneButterfliesModel") C hin 0 0 rfl rfl (by decide) (by decide +kernel) rfl rfl dX1_thrown_1 ?_
  exact xw_iret (pc := 4) C rX (Nat.le_refl _) (Nat.le_refl _) dX1_thrown_4 (PD.i)

set_option maxHeartbeats 4000000 in
set_option maxRecDepth 100000 in
theorem m_X1_no {l : Launch} {D : va_G} {cI : ClassId} {h r d th n p w b : Nat} {B M : Nat → Nat} (k : Nat) : CT l yX1_no wsX1_no (rmN 0 0) D vwCl [(cI, .int)] [.ref h, nV k] (wM cI h r d th n p w b B M) (PD (some (nV 0)) (wM cI h r d k n p w b B M)) 0 0 := by
  refine ct_of (plainFor_of_name (by decide)) rfl (Nat.le_of_ble_eq_true rfl) (fun φ C rX => ?_)
  have hin : ∀ w ∈ wsX10, w ∈ wsX1_no := by decide +kernel
  refine xw_le (lv' := [(0, .ref h), (1, nV k)]) rfl ?_
  refine xw_aload_n (pc := 0) C 0 dX1_no_0 rfl ?_
  refine xw_iload_n (pc := 1) C 1 dX1_no_1 rfl ?_
  refine xw_put (pc := 2) (T := TX1) (N := 7) (ref := "ToneButterfliesModel") (w' := wM cI h r d k n p w b B M) C hin tyX1 tyX1_ok nmX1 0 0 rfl rfl (by decide) (by decide +kernel) rfl rfl rfl rfl (Nat.le_of_ble_eq_true rfl) rfl dX1_no_2 ?_
  refine xw_iconst_N (pc := 5) C 0 dX1_no_5 rfl ?_
  exact xw_iret (pc := 6) C rX (Nat.le_refl _) (Nat.le_refl _) dX1_no_6 (PD.i)

set_option maxHeartbeats 4000000 in
set_option maxRecDepth 100000 in
theorem m_X1_isIn {l : Launch} {D : va_G} {tys : List (ClassId × FieldType)} {w0 : va_W} (z lo hi : Int) (hz : -2147483648 ≤ z ∧ z < 2147483648) (hlo : -2147483648 ≤ lo ∧ lo < 2147483648) (hhi : -2147483648 ≤ hi ∧ hi < 2147483648) : CT l yX1_isIn wsX1_isIn (rmN 0 0) D vwCl tys [iV z, iV lo, iV hi] w0 (PD (some (bV (decide (lo ≤ z ∧ z ≤ hi)))) w0) 0 0 := by
  refine ct_of (plainFor_of_name (by decide)) rfl (Nat.le_of_ble_eq_true rfl) (fun φ C rX => ?_)
  refine xw_le (lv' := [(0, iV z), (1, iV lo), (2, iV hi)]) rfl ?_
  refine xw_iload_n (pc := 0) C 0 dX1_isIn_0 rfl ?_
  refine xw_iload_n (pc := 1) C 1 dX1_isIn_1 rfl ?_
  refine xw_icmp_lt (pc := 2) (tgt := 14) C dX1_isIn_2 (by decide) (by omega) (by omega) (fun c_1 => ?_) (fun c_1 => ?_)
  ·
    refine xw_iconst_N (pc := 14) C 0 dX1_isIn_14 rfl ?_
    refine xw_st (st' := [bV false]) rfl ?_
    exact xw_bret (pc := 15) C rX (Nat.le_refl _) (Nat.le_refl _) dX1_isIn_15 (PD.e (by first | rw [decide_eq_true (by omega)] | rw [decide_eq_false (by omega)]) rfl)
  ·
    refine xw_iload_n (pc := 5) C 0 dX1_isIn_5 rfl ?_
    refine xw_iload_n (pc := 6) C 2 dX1_isIn_6 rfl ?_
    refine xw_icmp_gt (pc := 7) (tgt := 14) C dX1_isIn_7 (by decide) (by omega) (by omega) (fun c_2 => ?_) (fun c_2 => ?_)
    ·
      refine xw_iconst_N (pc := 14) C 0 dX1_isIn_14 rfl ?_
      refine xw_st (st' := [bV false]) rfl ?_
      exact xw_bret (pc := 15) C rX (Nat.le_refl _) (Nat.le_refl _) dX1_isIn_15 (PD.e (by first | rw [decide_eq_true (by omega)] | rw [decide_eq_false (by omega)]) rfl)
    ·
      refine xw_iconst_N (pc := 10) C 1 dX1_isIn_10 rfl ?_
      refine xw_goto (pc := 11) (tgt := 15) C dX1_isIn_11 (by decide) ?_
      refine xw_st (st' := [bV true]) rfl ?_
      exact xw_bret (pc := 15) C rX (Nat.le_refl _) (Nat.le_refl _) dX1_isIn_15 (PD.e (by first | rw [decide_eq_true (by omega)] | rw [decide_eq_false (by omega)]) rfl)

set_option maxHeartbeats 4000000 in
set_option maxRecDepth 100000 in
theorem m_X1_isRow {l : Launch} {D : va_G} {tys : List (ClassId × FieldType)} {w0 : va_W} (z : Int) (hz : -2147483648 ≤ z ∧ z < 2147483648) : CT l yX1_isRow wsX1_isRow (rmN 1 22) D vwCl tys [iV z] w0 (PD (some (bV (decide (((0 : Nat) : Int) ≤ z ∧ z ≤ ((3 : Nat) : Int))))) w0) 0 0 := by
  refine ct_of (plainFor_of_name (by decide)) rfl (Nat.le_of_ble_eq_true rfl) (fun φ C rX => ?_)
  refine xw_le (lv' := [(0, iV z)]) rfl ?_
  refine xw_iload_n (pc := 0) C 0 dX1_isRow_0 rfl ?_
  refine xw_iconst_N (pc := 1) C 0 dX1_isRow_1 rfl ?_
  refine xw_iconst_N (pc := 2) C 3 dX1_isRow_2 rfl ?_
  refine xw_Sd (pc := 3) (na := 3) (rest := []) (st' := [bV (decide ((((0 : Nat) : Int)) ≤ z ∧ z ≤ (((3 : Nat) : Int))))]) C (m_X1_isIn z (((0 : Nat) : Int)) (((3 : Nat) : Int)) (by omega) (by omega) (by omega)) gX1_isRow_X1_isIn rfl rfl rfl rfl (by decide +kernel) ⟨Nat.le_of_ble_eq_true rfl, Nat.le_of_ble_eq_true rfl⟩ rfl (Nat.le_of_ble_eq_true rfl) dX1_isRow_3 ⟨Nat.le_of_ble_eq_true rfl, Nat.le_of_ble_eq_true rfl⟩ rfl ?_
  exact xw_bret (pc := 6) C rX (Nat.le_refl _) (Nat.le_refl _) dX1_isRow_6 (PD.i)

set_option maxHeartbeats 4000000 in
set_option maxRecDepth 100000 in
theorem m_X1_isPlace {l : Launch} {D : va_G} {cI : ClassId} {h r d th n p w b : Nat} {B M : Nat → Nat} (hn : n ≤ 16) (z : Int) (hz : -2147483648 ≤ z ∧ z < 2147483648) : CT l yX1_isPlace wsX1_isPlace (rmN 1 22) D vwCl [(cI, .int)] [.ref h, iV z] (wM cI h r d th n p w b B M) (PD (some (bV (decide (((0 : Nat) : Int) ≤ z ∧ z ≤ ((n : Nat) : Int) - ((1 : Nat) : Int))))) (wM cI h r d th n p w b B M)) 0 0 := by
  refine ct_of (plainFor_of_name (by decide)) rfl (Nat.le_of_ble_eq_true rfl) (fun φ C rX => ?_)
  have hin : ∀ w ∈ wsX10, w ∈ wsX1_isPlace := by decide +kernel
  refine xw_le (lv' := [(0, .ref h), (1, iV z)]) rfl ?_
  refine xw_iload_n (pc := 0) C 1 dX1_isPlace_0 rfl ?_
  refine xw_iconst_N (pc := 1) C 0 dX1_isPlace_1 rfl ?_
  refine xw_aload_n (pc := 2) C 0 dX1_isPlace_2 rfl ?_
  refine xw_get (pc := 3) (T := TX1) (N := 7) (ref := "ToneButterfliesModel") C hin 0 1 rfl rfl (by decide) (by decide +kernel) rfl rfl dX1_isPlace_3 ?_
  refine xw_iconst_N (pc := 6) C 1 dX1_isPlace_6 rfl ?_
  refine xw_isub (pc := 7) C dX1_isPlace_7 ?_
  refine xw_Sd (pc := 8) (na := 3) (rest := []) (st' := [bV (decide ((((0 : Nat) : Int)) ≤ z ∧ z ≤ ((((n : Nat) : Int)) - (((1 : Nat) : Int)))))]) C (m_X1_isIn z (((0 : Nat) : Int)) ((((n : Nat) : Int)) - (((1 : Nat) : Int))) (by omega) (by omega) (by omega)) gX1_isPlace_X1_isIn rfl rfl rfl rfl (by decide +kernel) ⟨Nat.le_of_ble_eq_true rfl, Nat.le_of_ble_eq_true rfl⟩ rfl (Nat.le_of_ble_eq_true rfl) dX1_isPlace_8 ⟨Nat.le_of_ble_eq_true rfl, Nat.le_of_ble_eq_true rfl⟩ rfl ?_
  exact xw_bret (pc := 11) C rX (Nat.le_refl _) (Nat.le_refl _) dX1_isPlace_11 (PD.i)

set_option maxHeartbeats 4000000 in
set_option maxRecDepth 100000 in
theorem m_X1_isUnit {l : Launch} {D : va_G} {cI : ClassId} {h r d th n p w b : Nat} {B M : Nat → Nat} (hp5 : p < 500) (z : Int) (hz : -2147483648 ≤ z ∧ z < 2147483648) : CT l yX1_isUnit wsX1_isUnit (rmN 1 22) D vwCl [(cI, .int)] [.ref h, iV z] (wM cI h r d th n p w b B M) (PD (some (bV (decide (((1 : Nat) : Int) ≤ z ∧ z ≤ ((p : Nat) : Int) - ((1 : Nat) : Int))))) (wM cI h r d th n p w b B M)) 0 0 := by
  refine ct_of (plainFor_of_name (by decide)) rfl (Nat.le_of_ble_eq_true rfl) (fun φ C rX => ?_)
  have hin : ∀ w ∈ wsX10, w ∈ wsX1_isUnit := by decide +kernel
  refine xw_le (lv' := [(0, .ref h), (1, iV z)]) rfl ?_
  refine xw_iload_n (pc := 0) C 1 dX1_isUnit_0 rfl ?_
  refine xw_iconst_N (pc := 1) C 1 dX1_isUnit_1 rfl ?_
  refine xw_aload_n (pc := 2) C 0 dX1_isUnit_2 rfl ?_
  refine xw_get (pc := 3) (T := TX1) (N := 7) (ref := "ToneButterfliesModel") C hin 0 2 rfl rfl (by decide) (by decide +kernel) rfl rfl dX1_isUnit_3 ?_
  refine xw_iconst_N (pc := 6) C 1 dX1_isUnit_6 rfl ?_
  refine xw_isub (pc := 7) C dX1_isUnit_7 ?_
  refine xw_Sd (pc := 8) (na := 3) (rest := []) (st' := [bV (decide ((((1 : Nat) : Int)) ≤ z ∧ z ≤ ((((p : Nat) : Int)) - (((1 : Nat) : Int)))))]) C (m_X1_isIn z (((1 : Nat) : Int)) ((((p : Nat) : Int)) - (((1 : Nat) : Int))) (by omega) (by omega) (by omega)) gX1_isUnit_X1_isIn rfl rfl rfl rfl (by decide +kernel) ⟨Nat.le_of_ble_eq_true rfl, Nat.le_of_ble_eq_true rfl⟩ rfl (Nat.le_of_ble_eq_true rfl) dX1_isUnit_8 ⟨Nat.le_of_ble_eq_true rfl, Nat.le_of_ble_eq_true rfl⟩ rfl ?_
  exact xw_bret (pc := 11) C rX (Nat.le_refl _) (Nat.le_refl _) dX1_isUnit_11 (PD.i)

set_option maxHeartbeats 4000000 in
set_option maxRecDepth 100000 in
theorem m_X1_its {l : Launch} {D : va_G} {cI : ClassId} {h r d th n p w b : Nat} {B M : Nat → Nat} (row q : Nat) (hrw : row < 4) (hq : q < 16) : CT l yX1_its wsX1_its (rmN 0 0) D vwCl [(cI, .int)] [.ref h, nV row, nV q] (wM cI h r d th n p w b B M) (PD (some (nV (B (16 * row + q)))) (wM cI h r d th n p w b B M)) 0 0 := by
  refine ct_of (plainFor_of_name (by decide)) rfl (Nat.le_of_ble_eq_true rfl) (fun φ C rX => ?_)
  have hin : ∀ w ∈ wsX10, w ∈ wsX1_its := by decide +kernel
  refine xw_le (lv' := [(0, .ref h), (1, nV row), (2, nV q)]) rfl ?_
  refine xw_aload_n (pc := 0) C 0 dX1_its_0 rfl ?_
  refine xw_get (pc := 1) (T := TX1) (N := 7) (ref := "ToneButterfliesModel") C hin 0 5 rfl rfl (by decide) (by decide +kernel) rfl rfl dX1_its_1 ?_
  refine xw_bipush_N (pc := 4) C 16 dX1_its_4 (by decide) ?_
  refine xw_iload_n (pc := 6) C 1 dX1_its_6 rfl ?_
  refine xw_imul_N (pc := 7) C dX1_its_7 ?_
  refine xw_iload_n (pc := 8) C 2 dX1_its_8 rfl ?_
  refine xw_iadd_N (pc := 9) C dX1_its_9 ?_
  refine xw_iald (pc := 10) C 1 0 ((16 * row) + q) rfl rfl (rfl) (by omega) (by decide) dX1_its_10 ?_
  exact xw_iret (pc := 11) C rX (Nat.le_refl _) (Nat.le_refl _) dX1_its_11 (PD.i)

set_option maxHeartbeats 4000000 in
set_option maxRecDepth 100000 in
theorem m_X1_plus {l : Launch} {D : va_G} {cI : ClassId} {h r d th n p w b : Nat} {B M : Nat → Nat} (hp : 0 < p) (hp5 : p < 500) (x y : Nat) (hxy : x + y < 2147483648) : CT l yX1_plus wsX1_plus (rmN 0 0) D vwCl [(cI, .int)] [.ref h, nV x, nV y] (wM cI h r d th n p w b B M) (PD (some (nV ((x + y) % p))) (wM cI h r d th n p w b B M)) 0 0 := by
  refine ct_of (plainFor_of_name (by decide)) rfl (Nat.le_of_ble_eq_true rfl) (fun φ C rX => ?_)
  have hin : ∀ w ∈ wsX10, w ∈ wsX1_plus := by decide +kernel
  refine xw_le (lv' := [(0, .ref h), (1, nV x), (2, nV y)]) rfl ?_
  refine xw_iload_n (pc := 0) C 1 dX1_plus_0 rfl ?_
  refine xw_iload_n (pc := 1) C 2 dX1_plus_1 rfl ?_
  refine xw_iadd_N (pc := 2) C dX1_plus_2 ?_
  refine xw_aload_n (pc := 3) C 0 dX1_plus_3 rfl ?_
  refine xw_get (pc := 4) (T := TX1) (N := 7) (ref := "ToneButterfliesModel") C hin 0 2 rfl rfl (by decide) (by decide +kernel) rfl rfl dX1_plus_4 ?_
  refine xw_irem_N (pc := 7) C dX1_plus_7 (by omega) (by omega) ?_
  exact xw_iret (pc := 8) C rX (Nat.le_refl _) (Nat.le_refl _) dX1_plus_8 (PD.i)

set_option maxHeartbeats 4000000 in
set_option maxRecDepth 100000 in
theorem m_X1_minus {l : Launch} {D : va_G} {cI : ClassId} {h r d th n p w b : Nat} {B M : Nat → Nat} (hp : 0 < p) (hp5 : p < 500) (x y : Nat) (hx : x < 500) (hy : y ≤ p) : CT l yX1_minus wsX1_minus (rmN 0 0) D vwCl [(cI, .int)] [.ref h, nV x, nV y] (wM cI h r d th n p w b B M) (PD (some (nV ((x + p - y) % p))) (wM cI h r d th n p w b B M)) 0 0 := by
  refine ct_of (plainFor_of_name (by decide)) rfl (Nat.le_of_ble_eq_true rfl) (fun φ C rX => ?_)
  have hin : ∀ w ∈ wsX10, w ∈ wsX1_minus := by decide +kernel
  refine xw_le (lv' := [(0, .ref h), (1, nV x), (2, nV y)]) rfl ?_
  refine xw_iload_n (pc := 0) C 1 dX1_minus_0 rfl ?_
  refine xw_iload_n (pc := 1) C 2 dX1_minus_1 rfl ?_
  refine xw_isub (pc := 2) C dX1_minus_2 ?_
  refine xw_aload_n (pc := 3) C 0 dX1_minus_3 rfl ?_
  refine xw_get (pc := 4) (T := TX1) (N := 7) (ref := "ToneButterfliesModel") C hin 0 2 rfl rfl (by decide) (by decide +kernel) rfl rfl dX1_minus_4 ?_
  refine xw_iadd (pc := 7) C dX1_minus_7 ?_
  refine xw_aload_n (pc := 8) C 0 dX1_minus_8 rfl ?_
  refine xw_get (pc := 9) (T := TX1) (N := 7) (ref := "ToneButterfliesModel") C hin 0 2 rfl rfl (by decide) (by decide +kernel) rfl rfl dX1_minus_9 ?_
  refine xw_irem (pc := 12) C dX1_minus_12 (by omega) (by omega) ?_
  exact xw_iret (pc := 13) C rX (Nat.le_refl _) (Nat.le_refl _) dX1_minus_13 (PD.e (by rw [tmE hy]) rfl)

set_option maxHeartbeats 4000000 in
set_option maxRecDepth 100000 in
theorem m_X1_by {l : Launch} {D : va_G} {cI : ClassId} {h r d th n p w b : Nat} {B M : Nat → Nat} (hp : 0 < p) (hp5 : p < 500) (x y : Nat) (hx : x < 500) (hy : y < 500) : CT l yX1_by wsX1_by (rmN 0 0) D vwCl [(cI, .int)] [.ref h, nV x, nV y] (wM cI h r d th n p w b B M) (PD (some (nV (x * y % p))) (wM cI h r d th n p w b B M)) 0 0 := by
  refine ct_of (plainFor_of_name (by decide)) rfl (Nat.le_of_ble_eq_true rfl) (fun φ C rX => ?_)
  have hin : ∀ w ∈ wsX10, w ∈ wsX1_by := by decide +kernel
  refine xw_le (lv' := [(0, .ref h), (1, nV x), (2, nV y)]) rfl ?_
  refine xw_iload_n (pc := 0) C 1 dX1_by_0 rfl ?_
  refine xw_iload_n (pc := 1) C 2 dX1_by_1 rfl ?_
  refine xw_imul_N (pc := 2) C dX1_by_2 ?_
  refine xw_aload_n (pc := 3) C 0 dX1_by_3 rfl ?_
  refine xw_get (pc := 4) (T := TX1) (N := 7) (ref := "ToneButterfliesModel") C hin 0 2 rfl rfl (by decide) (by decide +kernel) rfl rfl dX1_by_4 ?_
  refine xw_irem_N (pc := 7) C dX1_by_7 (mb0 hx hy) (by omega) ?_
  exact xw_iret (pc := 8) C rX (Nat.le_refl _) (Nat.le_refl _) dX1_by_8 (PD.i)

set_option maxHeartbeats 4000000 in
set_option maxRecDepth 100000 in
theorem m_X1_power {l : Launch} {D : va_G} {cI : ClassId} {h r d th n p w b : Nat} {B M : Nat → Nat} (hp1 : 1 < p) (hp5 : p < 500) (base ex : Nat) (hb : base < 500) (hex : ex < 2147483648) : CT l yX1_power wsX1_power (rmN 1 22) D vwCl [(cI, .int)] [.ref h, nV base, nV ex] (wM cI h r d th n p w b B M) (PD (some (nV (base ^ ex % p))) (wM cI h r d th n p w b B M)) 0 0 := by
  refine ct_of (plainFor_of_name (by decide)) rfl (Nat.le_of_ble_eq_true rfl) (fun φ C rX => ?_)
  refine xw_le (lv' := [(0, .ref h), (1, nV base), (2, nV ex)]) rfl ?_
  have hp : 0 < p := by omega
  refine xw_iconst_N (pc := 0) C 1 dX1_power_0 rfl ?_
  refine xw_istore_n (pc := 1) (lv' := [(0, .ref h), (1, nV base), (2, nV ex), (3, nV 1)]) C [1, 2, 3, 0] dX1_power_1 rfl (by decide) rfl ?_
  refine xw_iload_n (pc := 2) C 1 dX1_power_2 rfl ?_
  refine xw_istore (pc := 3) (lv' := [(0, .ref h), (1, nV base), (2, nV ex), (3, nV 1), (4, nV base)]) C [1, 2, 3, 4, 0] dX1_power_3 (by decide) rfl ?_
  refine xw_iload_n (pc := 5) C 2 dX1_power_5 rfl ?_
  refine xw_istore (pc := 6) (lv' := [(0, .ref h), (1, nV base), (2, nV ex), (3, nV 1), (4, nV base), (5, nV ex)]) C [1, 2, 3, 4, 5, 0] dX1_power_6 (by decide) rfl ?_
  have L8 : ∀ (fuel : Nat) (m acc sq : Nat), m < fuel → m < 2147483648 → acc < p → sq < 500 → acc * sq ^ m % p = base ^ ex % p → xw φ 0 0 (wM cI h r d th n p w b B M) 8 [(0, .ref h), (1, nV base), (2, nV ex), (3, nV acc), (4, nV sq), (5, nV m)] [] := by
    intro fuel
    induction fuel with
    | zero =>
      intro m acc sq hk hm hacc hsq hinv
      omega
    | succ fuel ih8 =>
      intro m acc sq hk hm hacc hsq hinv
      refine xw_iload (pc := 8) C 5 dX1_power_8 rfl ?_
      refine xw_if_le_N (pc := 10) (tgt := 48) C dX1_power_10 (by decide) (by omega) (fun c_1 => ?_) (fun c_1 => ?_)
      ·
        obtain rfl : m = 0 := by omega
        refine xw_iload_n (pc := 48) C 3 dX1_power_48 rfl ?_
        exact xw_iret (pc := 49) C rX (Nat.le_refl _) (Nat.le_refl _) dX1_power_49 (PD.e (by rw [← hinv, Nat.pow_zero, Nat.mul_one, Nat.mod_eq_of_lt hacc]) rfl)
      ·
        refine xw_iload (pc := 13) C 5 dX1_power_13 rfl ?_
        refine xw_iconst_N (pc := 15) C 2 dX1_power_15 rfl ?_
        refine xw_irem_N (pc := 16) C dX1_power_16 (by omega) (by omega) ?_
        refine xw_iconst_N (pc := 17) C 1 dX1_power_17 rfl ?_
        refine xw_icmp_ne_N (pc := 18) (tgt := 29) C dX1_power_18 (by decide) (by omega) (by omega) (fun c_2 => ?_) (fun c_2 => ?_)
        ·
          refine xw_aload_n (pc := 29) C 0 dX1_power_29 rfl ?_
          refine xw_iload (pc := 30) C 4 dX1_power_30 rfl ?_
          refine xw_iload (pc := 32) C 4 dX1_power_32 rfl ?_
          refine xw_Vd (pc := 34) (q0 := 0) (na := 2) (rest := []) (st' := [nV (sq * sq % p)]) C (m_X1_by hp hp5 sq sq (by omega) (by omega)) gX1_power_X1_by rfl rfl rfl rfl (by decide +kernel) ⟨Nat.le_of_ble_eq_true rfl, Nat.le_of_ble_eq_true rfl⟩ rfl rfl rfl (Nat.le_of_ble_eq_true rfl) dX1_power_34 ⟨Nat.le_of_ble_eq_true rfl, Nat.le_of_ble_eq_true rfl⟩ rfl ?_
          refine xw_istore (pc := 37) (lv' := [(0, .ref h), (1, nV base), (2, nV ex), (3, nV acc), (4, nV (sq * sq % p)), (5, nV m)]) C [1, 2, 3, 4, 0, 5] dX1_power_37 (by decide) rfl ?_
          refine xw_iload (pc := 39) C 5 dX1_power_39 rfl ?_
          refine xw_iconst_N (pc := 41) C 2 dX1_power_41 rfl ?_
          refine xw_idiv_N (pc := 42) C dX1_power_42 (by omega) (by omega) ?_
          refine xw_istore (pc := 43) (lv' := [(0, .ref h), (1, nV base), (2, nV ex), (3, nV acc), (4, nV (sq * sq % p)), (5, nV (m / 2))]) C [1, 2, 3, 4, 5, 0] dX1_power_43 (by decide) rfl ?_
          refine xw_goto (pc := 45) (tgt := 8) C dX1_power_45 (by decide) ?_
          exact ih8 (m / 2) _ _ (by omega) (by omega) hacc (ml hp hp5) (by rw [pq_even, show 2 * (m / 2) = m by omega]; exact hinv)
        ·
          refine xw_aload_n (pc := 21) C 0 dX1_power_21 rfl ?_
          refine xw_iload_n (pc := 22) C 3 dX1_power_22 rfl ?_
          refine xw_iload (pc := 23) C 4 dX1_power_23 rfl ?_
          refine xw_Vd (pc := 25) (q0 := 0) (na := 2) (rest := []) (st' := [nV (acc * sq % p)]) C (m_X1_by hp hp5 acc sq (by omega) (by omega)) gX1_power_X1_by rfl rfl rfl rfl (by decide +kernel) ⟨Nat.le_of_ble_eq_true rfl, Nat.le_of_ble_eq_true rfl⟩ rfl rfl rfl (Nat.le_of_ble_eq_true rfl) dX1_power_25 ⟨Nat.le_of_ble_eq_true rfl, Nat.le_of_ble_eq_true rfl⟩ rfl ?_
          refine xw_istore_n (pc := 28) (lv' := [(0, .ref h), (1, nV base), (2, nV ex), (3, nV (acc * sq % p)), (4, nV sq), (5, nV m)]) C [1, 2, 3, 0, 4, 5] dX1_power_28 rfl (by decide) rfl ?_
          refine xw_aload_n (pc := 29) C 0 dX1_power_29 rfl ?_
          refine xw_iload (pc := 30) C 4 dX1_power_30 rfl ?_
          refine xw_iload (pc := 32) C 4 dX1_power_32 rfl ?_
          refine xw_Vd (pc := 34) (q0 := 0) (na := 2) (rest := []) (st' := [nV (sq * sq % p)]) C (m_X1_by hp hp5 sq sq (by omega) (by omega)) gX1_power_X1_by rfl rfl rfl rfl (by decide +kernel) ⟨Nat.le_of_ble_eq_true rfl, Nat.le_of_ble_eq_true rfl⟩ rfl rfl rfl (Nat.le_of_ble_eq_true rfl) dX1_power_34 ⟨Nat.le_of_ble_eq_true rfl, Nat.le_of_ble_eq_true rfl⟩ rfl ?_
          refine xw_istore (pc := 37) (lv' := [(0, .ref h), (1, nV base), (2, nV ex), (3, nV (acc * sq % p)), (4, nV (sq * sq % p)), (5, nV m)]) C [1, 2, 3, 4, 0, 5] dX1_power_37 (by decide) rfl ?_
          refine xw_iload (pc := 39) C 5 dX1_power_39 rfl ?_
          refine xw_iconst_N (pc := 41) C 2 dX1_power_41 rfl ?_
          refine xw_idiv_N (pc := 42) C dX1_power_42 (by omega) (by omega) ?_
          refine xw_istore (pc := 43) (lv' := [(0, .ref h), (1, nV base), (2, nV ex), (3, nV (acc * sq % p)), (4, nV (sq * sq % p)), (5, nV (m / 2))]) C [1, 2, 3, 4, 5, 0] dX1_power_43 (by decide) rfl ?_
          refine xw_goto (pc := 45) (tgt := 8) C dX1_power_45 (by decide) ?_
          exact ih8 (m / 2) _ _ (by omega) (by omega) (Nat.mod_lt _ hp) (ml hp hp5) (by rw [pq_odd, show 2 * (m / 2) + 1 = m by omega]; exact hinv)
  exact L8 (ex + 1) ex 1 base (by omega) (by omega) (by omega) hb (by rw [Nat.one_mul])

theorem tmb {x y : Int} (hy : 0 < y ∧ y < 500) : -500 ≤ Int.tmod x y ∧ Int.tmod x y < 500 := by
  have h1 := Int.tmod_lt_of_pos x hy.1
  have h2 := Int.tmod_lt_of_pos (-x) hy.1
  rw [Int.neg_tmod] at h2
  omega

set_option maxHeartbeats 4000000 in
set_option maxRecDepth 100000 in
theorem m_X1_inverseOf {l : Launch} {D : va_G} {cI : ClassId} {h r d th n p w b : Nat} {B M : Nat → Nat} (hp : 0 < p) (hp5 : p < 500) (v : Nat) (hv : v < 500) (hck : ck p v = true) : CT l yX1_inverseOf wsX1_inverseOf (rmN 0 0) D vwCl [(cI, .int)] [.ref h, nV v] (wM cI h r d th n p w b B M) (PD (some (nV (v ^ (p - 2) % p))) (wM cI h r d th n p w b B M)) 0 0 := by
  refine ct_of (plainFor_of_name (by decide)) rfl (Nat.le_of_ble_eq_true rfl) (fun φ C rX => ?_)
  have hin : ∀ w ∈ wsX10, w ∈ wsX1_inverseOf := by decide +kernel
  refine xw_le (lv' := [(0, .ref h), (1, nV v)]) rfl ?_
  refine xw_aload_n (pc := 0) C 0 dX1_inverseOf_0 rfl ?_
  refine xw_get (pc := 1) (T := TX1) (N := 7) (ref := "ToneButterfliesModel") C hin 0 2 rfl rfl (by decide) (by decide +kernel) rfl rfl dX1_inverseOf_1 ?_
  refine xw_istore_n (pc := 4) (lv' := [(0, .ref h), (1, nV v), (2, nV p)]) C [1, 2, 0] dX1_inverseOf_4 rfl (by decide) rfl ?_
  refine xw_iload_n (pc := 5) C 1 dX1_inverseOf_5 rfl ?_
  refine xw_istore_n (pc := 6) (lv' := [(0, .ref h), (1, nV v), (2, nV p), (3, nV v)]) C [1, 2, 3, 0] dX1_inverseOf_6 rfl (by decide) rfl ?_
  refine xw_iconst_N (pc := 7) C 0 dX1_inverseOf_7 rfl ?_
  refine xw_istore (pc := 8) (lv' := [(0, .ref h), (1, nV v), (2, nV p), (3, nV v), (4, nV 0)]) C [1, 2, 3, 4, 0] dX1_inverseOf_8 (by decide) rfl ?_
  refine xw_iconst_N (pc := 10) C 1 dX1_inverseOf_10 rfl ?_
  refine xw_istore (pc := 11) (lv' := [(0, .ref h), (1, nV v), (2, nV p), (3, nV v), (4, nV 0), (5, nV 1)]) C [1, 2, 3, 4, 5, 0] dX1_inverseOf_11 (by decide) rfl ?_
  have L13 : ∀ (fuel : Nat) (a9 b9 : Nat) (oa ob : Int), eub fuel a9 b9 oa ob = true → eu fuel a9 b9 oa ob = eu 16 p v 0 1 → xw φ 0 0 (wM cI h r d th n p w b B M) 13 [(0, .ref h), (1, nV v), (2, nV a9), (3, nV b9), (4, iV oa), (5, iV ob)] [] := by
    intro fuel
    induction fuel with
    | zero =>
      intro a9 b9 oa ob hf hR
      exact absurd hf (by simp [eub])
    | succ fuel ih13 =>
      intro a9 b9 oa ob hf hR
      have hs := eub_s hf
      obtain ⟨hs1, hs2, hs3, hs4⟩ := hs.1
      refine xw_iload_n (pc := 13) C 3 dX1_inverseOf_13 rfl ?_
      refine xw_if_le_N (pc := 14) (tgt := 56) C dX1_inverseOf_14 (by decide) (by omega) (fun c_1 => ?_) (fun c_1 => ?_)
      ·
        have hR2 : oa = eu 16 p v 0 1 := by rw [← hR, eu, if_pos (show b9 = 0 by omega)]
        have htm := tmb (x := oa) (y := (p : Int)) (by omega)
        refine xw_iload (pc := 56) C 4 dX1_inverseOf_56 rfl ?_
        refine xw_aload_n (pc := 58) C 0 dX1_inverseOf_58 rfl ?_
        refine xw_get (pc := 59) (T := TX1) (N := 7) (ref := "ToneButterfliesModel") C hin 0 2 rfl rfl (by decide) (by decide +kernel) rfl rfl dX1_inverseOf_59 ?_
        refine xw_irem (pc := 62) C dX1_inverseOf_62 (by omega) (by omega) ?_
        refine xw_aload_n (pc := 63) C 0 dX1_inverseOf_63 rfl ?_
        refine xw_get (pc := 64) (T := TX1) (N := 7) (ref := "ToneButterfliesModel") C hin 0 2 rfl rfl (by decide) (by decide +kernel) rfl rfl dX1_inverseOf_64 ?_
        refine xw_iadd (pc := 67) C dX1_inverseOf_67 ?_
        refine xw_aload_n (pc := 68) C 0 dX1_inverseOf_68 rfl ?_
        refine xw_get (pc := 69) (T := TX1) (N := 7) (ref := "ToneButterfliesModel") C hin 0 2 rfl rfl (by decide) (by decide +kernel) rfl rfl dX1_inverseOf_69 ?_
        refine xw_irem (pc := 72) C dX1_inverseOf_72 (by omega) (by omega) ?_
        exact xw_iret (pc := 73) C rX (Nat.le_refl _) (Nat.le_refl _) dX1_inverseOf_73 (PD.e (by rw [hR2, ck_inv hck]) rfl)
      ·
        refine xw_iload_n (pc := 17) C 2 dX1_inverseOf_17 rfl ?_
        refine xw_iload_n (pc := 18) C 3 dX1_inverseOf_18 rfl ?_
        refine xw_idiv_N (pc := 19) C dX1_inverseOf_19 (by omega) (by omega) ?_
        refine xw_istore (pc := 20) (lv' := [(0, .ref h), (1, nV v), (2, nV a9), (3, nV b9), (4, iV oa), (5, iV ob), (6, nV (a9 / b9))]) C [1, 2, 3, 4, 5, 6, 0] dX1_inverseOf_20 (by decide) rfl ?_
        refine xw_iload_n (pc := 22) C 2 dX1_inverseOf_22 rfl ?_
        refine xw_iload (pc := 23) C 6 dX1_inverseOf_23 rfl ?_
        refine xw_iload_n (pc := 25) C 3 dX1_inverseOf_25 rfl ?_
        refine xw_imul_N (pc := 26) C dX1_inverseOf_26 ?_
        refine xw_isub_N (pc := 27) C dX1_inverseOf_27 (Nat.div_mul_le_self a9 b9) ?_
        refine xw_istore (pc := 28) (lv' := [(0, .ref h), (1, nV v), (2, nV a9), (3, nV b9), (4, iV oa), (5, iV ob), (6, nV (a9 / b9)), (7, nV (a9 - ((a9 / b9) * b9)))]) C [1, 2, 3, 4, 5, 6, 7, 0] dX1_inverseOf_28 (by decide) rfl ?_
        refine xw_iload (pc := 30) C 4 dX1_inverseOf_30 rfl ?_
        refine xw_iload (pc := 32) C 6 dX1_inverseOf_32 rfl ?_
        refine xw_iload (pc := 34) C 5 dX1_inverseOf_34 rfl ?_
        refine xw_imul (pc := 36) C dX1_inverseOf_36 ?_
        refine xw_isub (pc := 37) C dX1_inverseOf_37 ?_
        refine xw_istore (pc := 38) (lv' := [(0, .ref h), (1, nV v), (2, nV a9), (3, nV b9), (4, iV oa), (5, iV ob), (6, nV (a9 / b9)), (7, nV (a9 - ((a9 / b9) * b9))), (8, iV (oa - ((((a9 / b9 : Nat) : Int)) * ob)))]) C [1, 2, 3, 4, 5, 6, 7, 8, 0] dX1_inverseOf_38 (by decide) rfl ?_
        refine xw_iload_n (pc := 40) C 3 dX1_inverseOf_40 rfl ?_
        refine xw_istore_n (pc := 41) (lv' := [(0, .ref h), (1, nV v), (2, nV b9), (3, nV b9), (4, iV oa), (5, iV ob), (6, nV (a9 / b9)), (7, nV (a9 - ((a9 / b9) * b9))), (8, iV (oa - ((((a9 / b9 : Nat) : Int)) * ob)))]) C [1, 2, 0, 3, 4, 5, 6, 7, 8] dX1_inverseOf_41 rfl (by decide) rfl ?_
        refine xw_iload (pc := 42) C 7 dX1_inverseOf_42 rfl ?_
        refine xw_istore_n (pc := 44) (lv' := [(0, .ref h), (1, nV v), (2, nV b9), (3, nV (a9 - ((a9 / b9) * b9))), (4, iV oa), (5, iV ob), (6, nV (a9 / b9)), (7, nV (a9 - ((a9 / b9) * b9))), (8, iV (oa - ((((a9 / b9 : Nat) : Int)) * ob)))]) C [1, 2, 3, 0, 4, 5, 6, 7, 8] dX1_inverseOf_44 rfl (by decide) rfl ?_
        refine xw_iload (pc := 45) C 5 dX1_inverseOf_45 rfl ?_
        refine xw_istore (pc := 47) (lv' := [(0, .ref h), (1, nV v), (2, nV b9), (3, nV (a9 - ((a9 / b9) * b9))), (4, iV ob), (5, iV ob), (6, nV (a9 / b9)), (7, nV (a9 - ((a9 / b9) * b9))), (8, iV (oa - ((((a9 / b9 : Nat) : Int)) * ob)))]) C [1, 2, 3, 4, 0, 5, 6, 7, 8] dX1_inverseOf_47 (by decide) rfl ?_
        refine xw_iload (pc := 49) C 8 dX1_inverseOf_49 rfl ?_
        refine xw_istore (pc := 51) (lv' := [(0, .ref h), (1, nV v), (2, nV b9), (3, nV (a9 - ((a9 / b9) * b9))), (4, iV ob), (5, iV (oa - ((((a9 / b9 : Nat) : Int)) * ob))), (6, nV (a9 / b9)), (7, nV (a9 - ((a9 / b9) * b9))), (8, iV (oa - ((((a9 / b9 : Nat) : Int)) * ob)))]) C [1, 2, 3, 4, 5, 0, 6, 7, 8] dX1_inverseOf_51 (by decide) rfl ?_
        refine xw_goto (pc := 53) (tgt := 13) C dX1_inverseOf_53 (by decide) ?_
        refine xw_lv (lv' := [(0, .ref h), (1, nV v), (2, nV b9), (3, nV (a9 - ((a9 / b9) * b9))), (4, iV ob), (5, iV (oa - ((((a9 / b9 : Nat) : Int)) * ob)))]) [0, 1, 2, 3, 4, 5] rfl ?_
        exact ih13 _ _ _ _ (hs.2 (by omega)) (by rw [← hR]; exact (show eu (fuel + 1) a9 b9 oa ob = _ by rw [eu, if_neg (show ¬ b9 = 0 by omega)]).symm)
  exact L13 16 p v ((0 : Nat) : Int) ((1 : Nat) : Int) (ck_eub hck) rfl

set_option maxHeartbeats 4000000 in
set_option maxRecDepth 100000 in
theorem m_X1_orderOf {l : Launch} {D : va_G} {cI : ClassId} {h r d th n p w b : Nat} {B M : Nat → Nat} (hp1 : 1 < p) (hp5 : p < 500) (v : Nat) (h1 : 1 ≤ v) (hv : v < p) (hfer : v ^ (p - 1) % p = 1) : CT l yX1_orderOf wsX1_orderOf (rmN 1 22) D vwCl [(cI, .int)] [.ref h, nV v] (wM cI h r d th n p w b B M) (PD (some (nV (od p v))) (wM cI h r d th n p w b B M)) 0 0 := by
  refine ct_of (plainFor_of_name (by decide)) rfl (Nat.le_of_ble_eq_true rfl) (fun φ C rX => ?_)
  refine xw_le (lv' := [(0, .ref h), (1, nV v)]) rfl ?_
  refine xw_iconst_N (pc := 0) C 1 dX1_orderOf_0 rfl ?_
  refine xw_istore_n (pc := 1) (lv' := [(0, .ref h), (1, nV v), (2, nV 1)]) C [1, 2, 0] dX1_orderOf_1 rfl (by decide) rfl ?_
  refine xw_iload_n (pc := 2) C 1 dX1_orderOf_2 rfl ?_
  refine xw_istore_n (pc := 3) (lv' := [(0, .ref h), (1, nV v), (2, nV 1), (3, nV v)]) C [1, 2, 3, 0] dX1_orderOf_3 rfl (by decide) rfl ?_
  have L4 : ∀ (fuel : Nat) (k x : Nat), p < k + fuel → 1 ≤ k → k ≤ p - 1 → x = v ^ k % p → od p v = fs (fun k => decide (v ^ k % p = 1)) (p - k) k → xw φ 0 0 (wM cI h r d th n p w b B M) 4 [(0, .ref h), (1, nV v), (2, nV k), (3, nV x)] [] := by
    intro fuel
    induction fuel with
    | zero =>
      intro k x hk hk1 hkn hx hfs
      omega
    | succ fuel ih4 =>
      intro k x hk hk1 hkn hx hfs
      have hxp : x < p := by rw [hx]; exact Nat.mod_lt _ (by omega)
      refine xw_iload_n (pc := 4) C 3 dX1_orderOf_4 rfl ?_
      refine xw_iconst_N (pc := 5) C 1 dX1_orderOf_5 rfl ?_
      refine xw_icmp_eq_N (pc := 6) (tgt := 22) C dX1_orderOf_6 (by decide) (by omega) (by omega) (fun c_1 => ?_) (fun c_1 => ?_)
      ·
        refine xw_iload_n (pc := 22) C 2 dX1_orderOf_22 rfl ?_
        exact xw_iret (pc := 23) C rX (Nat.le_refl _) (Nat.le_refl _) dX1_orderOf_23 (PD.e (by rw [hfs, show p - k = (p - (k + 1)) + 1 by omega, fs_t (decide_eq_true (hx.symm.trans c_1))]) rfl)
      ·
        have hkp : k ≠ p - 1 := fun z => c_1 (by rw [hx, z]; exact hfer)
        refine xw_iinc_N (pc := 9) (b := k + 1) (lv' := [(0, .ref h), (1, nV v), (2, nV (k + 1)), (3, nV x)]) C 2 [1, 2, 0, 3] dX1_orderOf_9 rfl (by decide) rfl rfl ?_
        refine xw_aload_n (pc := 12) C 0 dX1_orderOf_12 rfl ?_
        refine xw_iload_n (pc := 13) C 3 dX1_orderOf_13 rfl ?_
        refine xw_iload_n (pc := 14) C 1 dX1_orderOf_14 rfl ?_
        refine xw_Vd (pc := 15) (q0 := 0) (na := 2) (rest := []) (st' := [nV (x * v % p)]) C (m_X1_by (show 0 < p by omega) hp5 x v (by omega) (by omega)) gX1_orderOf_X1_by rfl rfl rfl rfl (by decide +kernel) ⟨Nat.le_of_ble_eq_true rfl, Nat.le_of_ble_eq_true rfl⟩ rfl rfl rfl (Nat.le_of_ble_eq_true rfl) dX1_orderOf_15 ⟨Nat.le_of_ble_eq_true rfl, Nat.le_of_ble_eq_true rfl⟩ rfl ?_
        refine xw_istore_n (pc := 18) (lv' := [(0, .ref h), (1, nV v), (2, nV (k + 1)), (3, nV (x * v % p))]) C [1, 2, 3, 0] dX1_orderOf_18 rfl (by decide) rfl ?_
        refine xw_goto (pc := 19) (tgt := 4) C dX1_orderOf_19 (by decide) ?_
        exact ih4 (k + 1) _ (by omega) (by omega) (by omega) (by rw [hx, mm3, Nat.pow_succ]) (by rw [hfs, show p - k = (p - (k + 1)) + 1 by omega, fs_f (decide_eq_false (fun z => c_1 (hx.trans z)))])
  exact L4 (p + 1) 1 v (by omega) (by omega) (by omega) (by rw [Nat.pow_one, Nat.mod_eq_of_lt hv]) rfl

set_option maxHeartbeats 4000000 in
set_option maxRecDepth 100000 in
theorem m_X1_isPrime {l : Launch} {D : va_G} {tys : List (ClassId × FieldType)} {w0 : va_W} (v : Nat) (hv : v < 500) : CT l yX1_isPrime wsX1_isPrime (rmN 0 0) D vwCl tys [nV v] w0 (PD (some (bV (prm v))) w0) 0 0 := by
  refine ct_of (plainFor_of_name (by decide)) rfl (Nat.le_of_ble_eq_true rfl) (fun φ C rX => ?_)
  refine xw_le (lv' := [(0, nV v)]) rfl ?_
  refine xw_iconst_N (pc := 0) C 2 dX1_isPrime_0 rfl ?_
  refine xw_istore_n (pc := 1) (lv' := [(0, nV v), (1, nV 2)]) C [1, 0] dX1_isPrime_1 rfl (by decide) rfl ?_
  have L2 : ∀ (fuel : Nat) (k : Nat), 23 < k + fuel → 2 ≤ k → k ≤ 23 → (∀ j, 2 ≤ j → j < k → ¬ v % j = 0) → xw φ 0 0 (w0) 2 [(0, nV v), (1, nV k)] [] := by
    intro fuel
    induction fuel with
    | zero =>
      intro k hk hk2 hk3 hall
      omega
    | succ fuel ih2 =>
      intro k hk hk2 hk3 hall
      refine xw_iload_n (pc := 2) C 1 dX1_isPrime_2 rfl ?_
      refine xw_iload_n (pc := 3) C 1 dX1_isPrime_3 rfl ?_
      refine xw_imul_N (pc := 4) C dX1_isPrime_4 ?_
      refine xw_iload_n (pc := 5) C 0 dX1_isPrime_5 rfl ?_
      have hkk := Nat.mul_le_mul hk3 hk3
      refine xw_icmp_gt_N (pc := 6) (tgt := 23) C dX1_isPrime_6 (by decide) (by omega) (by omega) (fun c_1 => ?_) (fun c_1 => ?_)
      ·
        refine xw_iconst_N (pc := 23) C 1 dX1_isPrime_23 rfl ?_
        refine xw_st (st' := [bV true]) rfl ?_
        exact xw_bret (pc := 24) C rX (Nat.le_refl _) (Nat.le_refl _) dX1_isPrime_24 (PD.e (by rw [prm_t hall c_1]) rfl)
      ·
        have hk23 := sq_lt (v := v) (k := k) (by omega) (by omega)
        refine xw_iload_n (pc := 9) C 0 dX1_isPrime_9 rfl ?_
        refine xw_iload_n (pc := 10) C 1 dX1_isPrime_10 rfl ?_
        refine xw_irem_N (pc := 11) C dX1_isPrime_11 (by omega) (by omega) ?_
        have hm5 := Nat.mod_lt v (show k > 0 by omega)
        refine xw_if_ne_N (pc := 12) (tgt := 17) C dX1_isPrime_12 (by decide) (by omega) (fun c_2 => ?_) (fun c_2 => ?_)
        ·
          refine xw_iinc_N (pc := 17) (b := k + 1) (lv' := [(0, nV v), (1, nV (k + 1))]) C 1 [1, 0] dX1_isPrime_17 rfl (by decide) rfl rfl ?_
          refine xw_goto (pc := 20) (tgt := 2) C dX1_isPrime_20 (by decide) ?_
          exact ih2 (k + 1) (by omega) (by omega) (by omega) (fun j h1 h2 => by rcases Nat.lt_or_ge j k with q | q; exact hall j h1 q; rw [show j = k by omega]; exact c_2)
        ·
          refine xw_iconst_N (pc := 15) C 0 dX1_isPrime_15 rfl ?_
          refine xw_st (st' := [bV false]) rfl ?_
          exact xw_bret (pc := 16) C rX (Nat.le_refl _) (Nat.le_refl _) dX1_isPrime_16 (PD.e (by rw [prm_f hk23 hk2 (by omega) c_2]) rfl)
  exact L2 24 2 (by omega) (by omega) (by omega) (fun j h1 h2 => absurd h2 (by omega))

theorem od_le (p k : Nat) : od p k ≤ p + 1 := by
  unfold od
  have h := (fs_le (P := fun j => decide (k ^ j % p = 1)) (p - 1) 1).2
  omega
set_option maxHeartbeats 4000000 in
set_option maxRecDepth 100000 in
theorem m_X1_rootOf {l : Launch} {D : va_G} {cI : ClassId} {h r d th n p w b : Nat} {B M : Nat → Nat} (hro : rok n p) : CT l yX1_rootOf wsX1_rootOf (rmN 2 45) D vwCl [(cI, .int)] [.ref h] (wM cI h r d th n p w b B M) (PD (some (nV (rt n p))) (wM cI h r d th n p w b B M)) 0 0 := by
  refine ct_of (plainFor_of_name (by decide)) rfl (Nat.le_of_ble_eq_true rfl) (fun φ C rX => ?_)
  have hin : ∀ w ∈ wsX10, w ∈ wsX1_rootOf := by decide +kernel
  refine xw_le (lv' := [(0, .ref h)]) rfl ?_
  obtain ⟨hn, hp4, hp5, hprm, hdv⟩ := id hro
  have hp : 0 < p := by omega
  have hp1 : 1 < p := by omega
  have hn3 := lt3 hn
  have hrc := rck_of hn hp5 hp4 hprm hdv
  have hr1 := rck_lt hrc
  have hr2 := rck_ge hrc
  refine xw_iconst_N (pc := 0) C 1 dX1_rootOf_0 rfl ?_
  refine xw_istore_n (pc := 1) (lv' := [(0, .ref h), (1, nV 1)]) C [1, 0] dX1_rootOf_1 rfl (by decide) rfl ?_
  have L2 : ∀ (fuel : Nat) (k : Nat), rt n p < k + fuel → 1 ≤ k → k ≤ rt n p → xw φ 0 0 (wM cI h r d th n p w b B M) 2 [(0, .ref h), (1, nV k)] [] := by
    intro fuel
    induction fuel with
    | zero =>
      intro k hk hk1 hkn
      omega
    | succ fuel ih2 =>
      intro k hk hk1 hkn
      refine xw_aload_n (pc := 2) C 0 dX1_rootOf_2 rfl ?_
      refine xw_iload_n (pc := 3) C 1 dX1_rootOf_3 rfl ?_
      refine xw_Vd (pc := 4) (q0 := 0) (na := 1) (rest := []) (st' := [nV (od p k)]) C (m_X1_orderOf hp1 hp5 k (by omega) (by omega) (ck_fer (ck_of hp5 hp4 hprm hk1 (by omega)))) gX1_rootOf_X1_orderOf rfl rfl rfl rfl (by decide +kernel) ⟨Nat.le_of_ble_eq_true rfl, Nat.le_of_ble_eq_true rfl⟩ rfl rfl rfl (Nat.le_of_ble_eq_true rfl) dX1_rootOf_4 ⟨Nat.le_of_ble_eq_true rfl, Nat.le_of_ble_eq_true rfl⟩ rfl ?_
      have hod := od_le p k
      refine xw_aload_n (pc := 7) C 0 dX1_rootOf_7 rfl ?_
      refine xw_get (pc := 8) (T := TX1) (N := 7) (ref := "ToneButterfliesModel") C hin 0 1 rfl rfl (by decide) (by decide +kernel) rfl rfl dX1_rootOf_8 ?_
      refine xw_icmp_eq_N (pc := 11) (tgt := 20) C dX1_rootOf_11 (by decide) (by omega) (by omega) (fun c_1 => ?_) (fun c_1 => ?_)
      ·
        have hke : k = rt n p := by
          rcases Nat.lt_or_ge k (rt n p) with z | z
          · exact absurd c_1 (rck_no hrc hk1 z)
          · omega
        refine xw_iload_n (pc := 20) C 1 dX1_rootOf_20 rfl ?_
        exact xw_iret (pc := 21) C rX (Nat.le_refl _) (Nat.le_refl _) dX1_rootOf_21 (PD.e (by rw [hke]) rfl)
      ·
        have hkl : k ≠ rt n p := fun z => c_1 (by rw [z]; exact rck_is hrc)
        refine xw_iinc_N (pc := 14) (b := k + 1) (lv' := [(0, .ref h), (1, nV (k + 1))]) C 1 [1, 0] dX1_rootOf_14 rfl (by decide) rfl rfl ?_
        refine xw_goto (pc := 17) (tgt := 2) C dX1_rootOf_17 (by decide) ?_
        exact ih2 (k + 1) (by omega) (by omega) (by omega)
  exact L2 (rt n p + 1) 1 (by omega) (by omega) (by omega)

set_option maxHeartbeats 4000000 in
set_option maxRecDepth 100000 in
theorem m_X1_lay {l : Launch} {D : va_G} {cI : ClassId} {h r d th n p w b : Nat} {B M : Nat → Nat} (hn : n = 4 ∨ n = 8 ∨ n = 16) (row : Nat) (hrw : row < 4) : CT l yX1_lay wsX1_lay (rmN 1 18) D vwCl [(cI, .int)] [.ref h, nV row] (wM cI h r d th n p w b B M) (PD (none) (wM cI h r d th n p w b (mr B row M n) M)) 0 0 := by
  refine ct_of (plainFor_of_name (by decide)) rfl (Nat.le_of_ble_eq_true rfl) (fun φ C rX => ?_)
  have hin : ∀ w ∈ wsX10, w ∈ wsX1_lay := by decide +kernel
  refine xw_le (lv' := [(0, .ref h), (1, nV row)]) rfl ?_
  have hn3 := lt3 hn
  refine xw_aload_n (pc := 0) C 0 dX1_lay_0 rfl ?_
  refine xw_get (pc := 1) (T := TX1) (N := 7) (ref := "ToneButterfliesModel") C hin 0 6 rfl rfl (by decide) (by decide +kernel) rfl rfl dX1_lay_1 ?_
  refine xw_iconst_N (pc := 4) C 0 dX1_lay_4 rfl ?_
  refine xw_aload_n (pc := 5) C 0 dX1_lay_5 rfl ?_
  refine xw_get (pc := 6) (T := TX1) (N := 7) (ref := "ToneButterfliesModel") C hin 0 5 rfl rfl (by decide) (by decide +kernel) rfl rfl dX1_lay_6 ?_
  refine xw_bipush_N (pc := 9) C 16 dX1_lay_9 (by decide) ?_
  refine xw_iload_n (pc := 11) C 1 dX1_lay_11 rfl ?_
  refine xw_imul_N (pc := 12) C dX1_lay_12 ?_
  refine xw_aload_n (pc := 13) C 0 dX1_lay_13 rfl ?_
  refine xw_get (pc := 14) (T := TX1) (N := 7) (ref := "ToneButterfliesModel") C hin 0 1 rfl rfl (by decide) (by decide +kernel) rfl rfl dX1_lay_14 ?_
  refine xw_copy (pc := 17) (w' := wM cI h r d th n p w b (va_cpy M B 0 (16 * row) n) M) C 2 1 0 (by decide +kernel) (by decide +kernel) (by decide +kernel) (by decide +kernel) rfl rfl rfl (by omega) (by omega) (by decide) (by decide) (Nat.le_of_ble_eq_true rfl) (Nat.le_of_ble_eq_true rfl) rfl dX1_lay_17 ?_
  refine xw_wo (w' := wM cI h r d th n p w b (mr B row M n) M) (by rw [lay_mr]) ?_
  exact xw_vret (pc := 20) C rX (Nat.le_refl _) (Nat.le_refl _) dX1_lay_20 (PD.i)

set_option maxHeartbeats 4000000 in
set_option maxRecDepth 100000 in
theorem m_X1_changes {l : Launch} {D : va_G} {cI : ClassId} {h r d th n p w b : Nat} {B M : Nat → Nat} (hn : n = 4 ∨ n = 8 ∨ n = 16) (hB : ∀ j, B j < 500) (hM : ∀ j, M j < 500) (row : Nat) (hrw : row < 4) : CT l yX1_changes wsX1_changes (rmN 1 22) D vwCl [(cI, .int)] [.ref h, nV row] (wM cI h r d th n p w b B M) (PD (some (nV (cc (fun j => decide (B (16 * row + j) ≠ M j)) n))) (wM cI h r d th n p w b B M)) 0 0 := by
  refine ct_of (plainFor_of_name (by decide)) rfl (Nat.le_of_ble_eq_true rfl) (fun φ C rX => ?_)
  have hin : ∀ w ∈ wsX10, w ∈ wsX1_changes := by decide +kernel
  refine xw_le (lv' := [(0, .ref h), (1, nV row)]) rfl ?_
  have hn3 := lt3 hn
  refine xw_iconst_N (pc := 0) C 0 dX1_changes_0 rfl ?_
  refine xw_istore_n (pc := 1) (lv' := [(0, .ref h), (1, nV row), (2, nV 0)]) C [1, 2, 0] dX1_changes_1 rfl (by decide) rfl ?_
  refine xw_iconst_N (pc := 2) C 0 dX1_changes_2 rfl ?_
  refine xw_istore_n (pc := 3) (lv' := [(0, .ref h), (1, nV row), (2, nV 0), (3, nV 0)]) C [1, 2, 3, 0] dX1_changes_3 rfl (by decide) rfl ?_
  have L4 : ∀ (fuel : Nat) (k ch : Nat), n < k + fuel → k ≤ n → ch = cc (fun j => decide (B (16 * row + j) ≠ M j)) k → xw φ 0 0 (wM cI h r d th n p w b B M) 4 [(0, .ref h), (1, nV row), (2, nV ch), (3, nV k)] [] := by
    intro fuel
    induction fuel with
    | zero =>
      intro k ch hk hkn hch
      omega
    | succ fuel ih4 =>
      intro k ch hk hkn hch
      refine xw_iload_n (pc := 4) C 3 dX1_changes_4 rfl ?_
      refine xw_aload_n (pc := 5) C 0 dX1_changes_5 rfl ?_
      refine xw_get (pc := 6) (T := TX1) (N := 7) (ref := "ToneButterfliesModel") C hin 0 1 rfl rfl (by decide) (by decide +kernel) rfl rfl dX1_changes_6 ?_
      refine xw_icmp_ge_N (pc := 9) (tgt := 41) C dX1_changes_9 (by decide) (by omega) (by omega) (fun c_1 => ?_) (fun c_1 => ?_)
      ·
        refine xw_iload_n (pc := 41) C 2 dX1_changes_41 rfl ?_
        exact xw_iret (pc := 42) C rX (Nat.le_refl _) (Nat.le_refl _) dX1_changes_42 (PD.e (by rw [hch, show k = n by omega]) rfl)
      ·
        refine xw_iload_n (pc := 12) C 2 dX1_changes_12 rfl ?_
        refine xw_aload_n (pc := 13) C 0 dX1_changes_13 rfl ?_
        refine xw_iload_n (pc := 14) C 1 dX1_changes_14 rfl ?_
        refine xw_iload_n (pc := 15) C 3 dX1_changes_15 rfl ?_
        refine xw_Vd (pc := 16) (q0 := 0) (na := 2) (rest := [nV ch]) (st' := [nV (B (16 * row + k)), nV ch]) C (m_X1_its row k (by omega) (by omega)) gX1_changes_X1_its rfl rfl rfl rfl (by decide +kernel) ⟨Nat.le_of_ble_eq_true rfl, Nat.le_of_ble_eq_true rfl⟩ rfl rfl rfl (Nat.le_of_ble_eq_true rfl) dX1_changes_16 ⟨Nat.le_of_ble_eq_true rfl, Nat.le_of_ble_eq_true rfl⟩ rfl ?_
        refine xw_aload_n (pc := 19) C 0 dX1_changes_19 rfl ?_
        refine xw_get (pc := 20) (T := TX1) (N := 7) (ref := "ToneButterfliesModel") C hin 0 6 rfl rfl (by decide) (by decide +kernel) rfl rfl dX1_changes_20 ?_
        refine xw_iload_n (pc := 23) C 3 dX1_changes_23 rfl ?_
        refine xw_iald (pc := 24) C 2 0 k rfl rfl (rfl) (by omega) (by decide) dX1_changes_24 ?_
        have hb1 := hB (16 * row + k)
        have hb2 := hM k
        refine xw_icmp_eq_N (pc := 25) (tgt := 32) C dX1_changes_25 (by decide) (by omega) (by omega) (fun c_2 => ?_) (fun c_2 => ?_)
        ·
          refine xw_iconst_N (pc := 32) C 0 dX1_changes_32 rfl ?_
          refine xw_iadd_N (pc := 33) C dX1_changes_33 ?_
          refine xw_istore_n (pc := 34) (lv' := [(0, .ref h), (1, nV row), (2, nV (ch + 0)), (3, nV k)]) C [1, 2, 0, 3] dX1_changes_34 rfl (by decide) rfl ?_
          refine xw_iinc_N (pc := 35) (b := k + 1) (lv' := [(0, .ref h), (1, nV row), (2, nV (ch + 0)), (3, nV (k + 1))]) C 3 [1, 2, 3, 0] dX1_changes_35 rfl (by decide) rfl rfl ?_
          refine xw_goto (pc := 38) (tgt := 4) C dX1_changes_38 (by decide) ?_
          exact ih4 (k + 1) _ (by omega) (by omega) (by rw [cc_f (decide_eq_false (fun z => z c_2)), ← hch]; rfl)
        ·
          refine xw_iconst_N (pc := 28) C 1 dX1_changes_28 rfl ?_
          refine xw_goto (pc := 29) (tgt := 33) C dX1_changes_29 (by decide) ?_
          refine xw_iadd_N (pc := 33) C dX1_changes_33 ?_
          refine xw_istore_n (pc := 34) (lv' := [(0, .ref h), (1, nV row), (2, nV (ch + 1)), (3, nV k)]) C [1, 2, 0, 3] dX1_changes_34 rfl (by decide) rfl ?_
          refine xw_iinc_N (pc := 35) (b := k + 1) (lv' := [(0, .ref h), (1, nV row), (2, nV (ch + 1)), (3, nV (k + 1))]) C 3 [1, 2, 3, 0] dX1_changes_35 rfl (by decide) rfl rfl ?_
          refine xw_goto (pc := 38) (tgt := 4) C dX1_changes_38 (by decide) ?_
          exact ih4 (k + 1) _ (by omega) (by omega) (by rw [cc_t (decide_eq_true c_2), ← hch])
  exact L4 (n + 1) 0 0 (by omega) (by omega) rfl

set_option maxHeartbeats 4000000 in
set_option maxRecDepth 100000 in
theorem m_X1_others {l : Launch} {D : va_G} {cI : ClassId} {h r d th n p w b : Nat} {B M : Nat → Nat} (hn : n = 4 ∨ n = 8 ∨ n = 16) (hB : ∀ j, B j < 500) (row : Nat) (hrw : row < 4) : CT l yX1_others wsX1_others (rmN 1 22) D vwCl [(cI, .int)] [.ref h, nV row] (wM cI h r d th n p w b B M) (PD (some (nV (cc (fun k => decide (B (16 * row + k) ≠ 0)) n))) (wM cI h r d th n p w b B M)) 0 0 := by
  refine ct_of (plainFor_of_name (by decide)) rfl (Nat.le_of_ble_eq_true rfl) (fun φ C rX => ?_)
  have hin : ∀ w ∈ wsX10, w ∈ wsX1_others := by decide +kernel
  refine xw_le (lv' := [(0, .ref h), (1, nV row)]) rfl ?_
  have hn3 := lt3 hn
  refine xw_iconst_N (pc := 0) C 0 dX1_others_0 rfl ?_
  refine xw_istore_n (pc := 1) (lv' := [(0, .ref h), (1, nV row), (2, nV 0)]) C [1, 2, 0] dX1_others_1 rfl (by decide) rfl ?_
  refine xw_iconst_N (pc := 2) C 0 dX1_others_2 rfl ?_
  refine xw_istore_n (pc := 3) (lv' := [(0, .ref h), (1, nV row), (2, nV 0), (3, nV 0)]) C [1, 2, 3, 0] dX1_others_3 rfl (by decide) rfl ?_
  have L4 : ∀ (fuel : Nat) (k ch : Nat), n < k + fuel → k ≤ n → ch = cc (fun k => decide (B (16 * row + k) ≠ 0)) k → xw φ 0 0 (wM cI h r d th n p w b B M) 4 [(0, .ref h), (1, nV row), (2, nV ch), (3, nV k)] [] := by
    intro fuel
    induction fuel with
    | zero =>
      intro k ch hk hkn hch
      omega
    | succ fuel ih4 =>
      intro k ch hk hkn hch
      refine xw_iload_n (pc := 4) C 3 dX1_others_4 rfl ?_
      refine xw_aload_n (pc := 5) C 0 dX1_others_5 rfl ?_
      refine xw_get (pc := 6) (T := TX1) (N := 7) (ref := "ToneButterfliesModel") C hin 0 1 rfl rfl (by decide) (by decide +kernel) rfl rfl dX1_others_6 ?_
      refine xw_icmp_ge_N (pc := 9) (tgt := 35) C dX1_others_9 (by decide) (by omega) (by omega) (fun c_1 => ?_) (fun c_1 => ?_)
      ·
        refine xw_iload_n (pc := 35) C 2 dX1_others_35 rfl ?_
        exact xw_iret (pc := 36) C rX (Nat.le_refl _) (Nat.le_refl _) dX1_others_36 (PD.e (by rw [hch, show k = n by omega]) rfl)
      ·
        refine xw_iload_n (pc := 12) C 2 dX1_others_12 rfl ?_
        refine xw_aload_n (pc := 13) C 0 dX1_others_13 rfl ?_
        refine xw_iload_n (pc := 14) C 1 dX1_others_14 rfl ?_
        refine xw_iload_n (pc := 15) C 3 dX1_others_15 rfl ?_
        refine xw_Vd (pc := 16) (q0 := 0) (na := 2) (rest := [nV ch]) (st' := [nV (B (16 * row + k)), nV ch]) C (m_X1_its row k (by omega) (by omega)) gX1_others_X1_its rfl rfl rfl rfl (by decide +kernel) ⟨Nat.le_of_ble_eq_true rfl, Nat.le_of_ble_eq_true rfl⟩ rfl rfl rfl (Nat.le_of_ble_eq_true rfl) dX1_others_16 ⟨Nat.le_of_ble_eq_true rfl, Nat.le_of_ble_eq_true rfl⟩ rfl ?_
        have hb1 := hB (16 * row + k)
        refine xw_if_eq_N (pc := 19) (tgt := 26) C dX1_others_19 (by decide) (by omega) (fun c_2 => ?_) (fun c_2 => ?_)
        ·
          refine xw_iconst_N (pc := 26) C 0 dX1_others_26 rfl ?_
          refine xw_iadd_N (pc := 27) C dX1_others_27 ?_
          refine xw_istore_n (pc := 28) (lv' := [(0, .ref h), (1, nV row), (2, nV (ch + 0)), (3, nV k)]) C [1, 2, 0, 3] dX1_others_28 rfl (by decide) rfl ?_
          refine xw_iinc_N (pc := 29) (b := k + 1) (lv' := [(0, .ref h), (1, nV row), (2, nV (ch + 0)), (3, nV (k + 1))]) C 3 [1, 2, 3, 0] dX1_others_29 rfl (by decide) rfl rfl ?_
          refine xw_goto (pc := 32) (tgt := 4) C dX1_others_32 (by decide) ?_
          exact ih4 (k + 1) _ (by omega) (by omega) (by rw [cc_f (decide_eq_false (fun z => z c_2)), ← hch]; rfl)
        ·
          refine xw_iconst_N (pc := 22) C 1 dX1_others_22 rfl ?_
          refine xw_goto (pc := 23) (tgt := 27) C dX1_others_23 (by decide) ?_
          refine xw_iadd_N (pc := 27) C dX1_others_27 ?_
          refine xw_istore_n (pc := 28) (lv' := [(0, .ref h), (1, nV row), (2, nV (ch + 1)), (3, nV k)]) C [1, 2, 0, 3] dX1_others_28 rfl (by decide) rfl ?_
          refine xw_iinc_N (pc := 29) (b := k + 1) (lv' := [(0, .ref h), (1, nV row), (2, nV (ch + 1)), (3, nV (k + 1))]) C 3 [1, 2, 3, 0] dX1_others_29 rfl (by decide) rfl rfl ?_
          refine xw_goto (pc := 32) (tgt := 4) C dX1_others_32 (by decide) ?_
          exact ih4 (k + 1) _ (by omega) (by omega) (by rw [cc_t (decide_eq_true c_2), ← hch])
  exact L4 (n + 1) 0 0 (by omega) (by omega) rfl

set_option maxHeartbeats 4000000 in
set_option maxRecDepth 100000 in
theorem m_X1_pointOf {l : Launch} {D : va_G} {cI : ClassId} {h r d th n p w b : Nat} {B M : Nat → Nat} (hp : 0 < p) (hp5 : p < 500) (hn : n = 4 ∨ n = 8 ∨ n = 16) (hB : ∀ j, B j < 500) (row x : Nat) (hrw : row < 4) (hx : x < 500) : CT l yX1_pointOf wsX1_pointOf (rmN 1 22) D vwCl [(cI, .int)] [.ref h, nV row, nV x] (wM cI h r d th n p w b B M) (PD (some (nV (pv p n B row x))) (wM cI h r d th n p w b B M)) 0 0 := by
  refine ct_of (plainFor_of_name (by decide)) rfl (Nat.le_of_ble_eq_true rfl) (fun φ C rX => ?_)
  have hin : ∀ w ∈ wsX10, w ∈ wsX1_pointOf := by decide +kernel
  refine xw_le (lv' := [(0, .ref h), (1, nV row), (2, nV x)]) rfl ?_
  have hn3 := lt3 hn
  refine xw_iconst_N (pc := 0) C 0 dX1_pointOf_0 rfl ?_
  refine xw_istore_n (pc := 1) (lv' := [(0, .ref h), (1, nV row), (2, nV x), (3, nV 0)]) C [1, 2, 3, 0] dX1_pointOf_1 rfl (by decide) rfl ?_
  refine xw_aload_n (pc := 2) C 0 dX1_pointOf_2 rfl ?_
  refine xw_get (pc := 3) (T := TX1) (N := 7) (ref := "ToneButterfliesModel") C hin 0 1 rfl rfl (by decide) (by decide +kernel) rfl rfl dX1_pointOf_3 ?_
  refine xw_iconst_N (pc := 6) C 1 dX1_pointOf_6 rfl ?_
  refine xw_isub (pc := 7) C dX1_pointOf_7 ?_
  refine xw_istore (pc := 8) (lv' := [(0, .ref h), (1, nV row), (2, nV x), (3, nV 0), (4, iV ((((n : Nat) : Int)) - (((1 : Nat) : Int))))]) C [1, 2, 3, 4, 0] dX1_pointOf_8 (by decide) rfl ?_
  have L10 : ∀ (fuel : Nat) (j acc : Nat) (q : Int), n < j + fuel → j ≤ n → q = (n : Int) - 1 - j → acc = hr p n B row x j → acc < 500 → xw φ 0 0 (wM cI h r d th n p w b B M) 10 [(0, .ref h), (1, nV row), (2, nV x), (3, nV acc), (4, iV q)] [] := by
    intro fuel
    induction fuel with
    | zero =>
      intro j acc q hj hjn hq hacc hac
      omega
    | succ fuel ih10 =>
      intro j acc q hj hjn hq hacc hac
      refine xw_iload (pc := 10) C 4 dX1_pointOf_10 rfl ?_
      refine xw_if_lt (pc := 12) (tgt := 39) C dX1_pointOf_12 (by decide) (by omega) (fun c_1 => ?_) (fun c_1 => ?_)
      ·
        refine xw_iload_n (pc := 39) C 3 dX1_pointOf_39 rfl ?_
        exact xw_iret (pc := 40) C rX (Nat.le_refl _) (Nat.le_refl _) dX1_pointOf_40 (PD.e (by rw [hacc, show j = n by omega]; rfl) rfl)
      ·
        obtain ⟨i, rfl⟩ : ∃ i : Nat, q = (i : Int) := ⟨n - 1 - j, by omega⟩
        have hbA := hB (16 * row + i)
        have hmm := Nat.mod_lt (acc * x) hp
        refine xw_aload_n (pc := 15) C 0 dX1_pointOf_15 rfl ?_
        refine xw_aload_n (pc := 16) C 0 dX1_pointOf_16 rfl ?_
        refine xw_iload_n (pc := 17) C 3 dX1_pointOf_17 rfl ?_
        refine xw_iload_n (pc := 18) C 2 dX1_pointOf_18 rfl ?_
        refine xw_Vd (pc := 19) (q0 := 0) (na := 2) (rest := [.ref h]) (st' := [nV (acc * x % p), .ref h]) C (m_X1_by hp hp5 acc x (by omega) (by omega)) gX1_pointOf_X1_by rfl rfl rfl rfl (by decide +kernel) ⟨Nat.le_of_ble_eq_true rfl, Nat.le_of_ble_eq_true rfl⟩ rfl rfl rfl (Nat.le_of_ble_eq_true rfl) dX1_pointOf_19 ⟨Nat.le_of_ble_eq_true rfl, Nat.le_of_ble_eq_true rfl⟩ rfl ?_
        refine xw_aload_n (pc := 22) C 0 dX1_pointOf_22 rfl ?_
        refine xw_iload_n (pc := 23) C 1 dX1_pointOf_23 rfl ?_
        refine xw_iload (pc := 24) C 4 dX1_pointOf_24 rfl ?_
        refine xw_Vd (pc := 26) (q0 := 0) (na := 2) (rest := [nV (acc * x % p), .ref h]) (st' := [nV (B (16 * row + i)), nV (acc * x % p), .ref h]) C (m_X1_its row i (by omega) (by omega)) gX1_pointOf_X1_its rfl rfl rfl rfl (by decide +kernel) ⟨Nat.le_of_ble_eq_true rfl, Nat.le_of_ble_eq_true rfl⟩ rfl rfl rfl (Nat.le_of_ble_eq_true rfl) dX1_pointOf_26 ⟨Nat.le_of_ble_eq_true rfl, Nat.le_of_ble_eq_true rfl⟩ rfl ?_
        refine xw_Vd (pc := 29) (q0 := 0) (na := 2) (rest := []) (st' := [nV ((acc * x % p + (B (16 * row + i))) % p)]) C (m_X1_plus hp hp5 (acc * x % p) (B (16 * row + i)) (by omega)) gX1_pointOf_X1_plus rfl rfl rfl rfl (by decide +kernel) ⟨Nat.le_of_ble_eq_true rfl, Nat.le_of_ble_eq_true rfl⟩ rfl rfl rfl (Nat.le_of_ble_eq_true rfl) dX1_pointOf_29 ⟨Nat.le_of_ble_eq_true rfl, Nat.le_of_ble_eq_true rfl⟩ rfl ?_
        refine xw_istore_n (pc := 32) (lv' := [(0, .ref h), (1, nV row), (2, nV x), (3, nV ((acc * x % p + (B (16 * row + i))) % p)), (4, nV i)]) C [1, 2, 3, 0, 4] dX1_pointOf_32 rfl (by decide) rfl ?_
        refine xw_iinc (pc := 33) (lv' := [(0, .ref h), (1, nV row), (2, nV x), (3, nV ((acc * x % p + (B (16 * row + i))) % p)), (4, iV ((((i : Nat) : Int)) + (-1)))]) C 4 [1, 2, 3, 4, 0] dX1_pointOf_33 rfl (by decide) rfl ?_
        refine xw_goto (pc := 36) (tgt := 10) C dX1_pointOf_36 (by decide) ?_
        exact ih10 (j + 1) _ _ (by omega) (by omega) (by omega) (by rw [hr, ← hacc, show n - 1 - j = i by omega, Nat.mod_add_mod]) (ml hp hp5)
  exact L10 (n + 1) 0 0 _ (by omega) (by omega) (by omega) rfl (by omega)

set_option maxHeartbeats 4000000 in
set_option maxRecDepth 100000 in
theorem m_X1_makeTones {l : Launch} {D : va_G} {cI : ClassId} {h r d th n p w b : Nat} {B M : Nat → Nat} (hp : 0 < p) (hp5 : p < 500) (hn : n = 4 ∨ n = 8 ∨ n = 16) (hB : ∀ j, B j < 500) (row base f : Nat) (hrw : row < 4) (hb : base < 500) (hf : f < 500) : CT l yX1_makeTones wsX1_makeTones (rmN 2 46) D vwCl [(cI, .int)] [.ref h, nV row, nV base, nV f] (wM cI h r d th n p w b B M) (PD (none) (wM cI h r d th n p w b B (mk M (tn p n B row base f) n))) 0 0 := by
  refine ct_of (plainFor_of_name (by decide)) rfl (Nat.le_of_ble_eq_true rfl) (fun φ C rX => ?_)
  have hin : ∀ w ∈ wsX10, w ∈ wsX1_makeTones := by decide +kernel
  refine xw_le (lv' := [(0, .ref h), (1, nV row), (2, nV base), (3, nV f)]) rfl ?_
  have hn3 := lt3 hn
  refine xw_iconst_N (pc := 0) C 1 dX1_makeTones_0 rfl ?_
  refine xw_istore (pc := 1) (lv' := [(0, .ref h), (1, nV row), (2, nV base), (3, nV f), (4, nV 1)]) C [1, 2, 3, 4, 0] dX1_makeTones_1 (by decide) rfl ?_
  refine xw_iconst_N (pc := 3) C 0 dX1_makeTones_3 rfl ?_
  refine xw_istore (pc := 4) (lv' := [(0, .ref h), (1, nV row), (2, nV base), (3, nV f), (4, nV 1), (5, nV 0)]) C [1, 2, 3, 4, 5, 0] dX1_makeTones_4 (by decide) rfl ?_
  have L6 : ∀ (fuel : Nat) (k x : Nat), n < k + fuel → k ≤ n → x = pw p base k → x < 500 → xw φ 0 0 (wM cI h r d th n p w b B (mk M (tn p n B row base f) k)) 6 [(0, .ref h), (1, nV row), (2, nV base), (3, nV f), (4, nV x), (5, nV k)] [] := by
    intro fuel
    induction fuel with
    | zero =>
      intro k x hk hkn hx hx5
      omega
    | succ fuel ih6 =>
      intro k x hk hkn hx hx5
      refine xw_iload (pc := 6) C 5 dX1_makeTones_6 rfl ?_
      refine xw_aload_n (pc := 8) C 0 dX1_makeTones_8 rfl ?_
      refine xw_get (pc := 9) (T := TX1) (N := 7) (ref := "ToneButterfliesModel") C hin 0 1 rfl rfl (by decide) (by decide +kernel) rfl rfl dX1_makeTones_9 ?_
      refine xw_icmp_ge_N (pc := 12) (tgt := 49) C dX1_makeTones_12 (by decide) (by omega) (by omega) (fun c_1 => ?_) (fun c_1 => ?_)
      ·
        refine xw_wo (w' := wM cI h r d th n p w b B (mk M (tn p n B row base f) n)) (by rw [show k = n from by omega]) ?_
        exact xw_vret (pc := 49) C rX (Nat.le_refl _) (Nat.le_refl _) dX1_makeTones_49 (PD.i)
      ·
        refine xw_aload_n (pc := 15) C 0 dX1_makeTones_15 rfl ?_
        refine xw_get (pc := 16) (T := TX1) (N := 7) (ref := "ToneButterfliesModel") C hin 0 6 rfl rfl (by decide) (by decide +kernel) rfl rfl dX1_makeTones_16 ?_
        refine xw_iload (pc := 19) C 5 dX1_makeTones_19 rfl ?_
        refine xw_aload_n (pc := 21) C 0 dX1_makeTones_21 rfl ?_
        refine xw_aload_n (pc := 22) C 0 dX1_makeTones_22 rfl ?_
        refine xw_iload_n (pc := 23) C 1 dX1_makeTones_23 rfl ?_
        refine xw_iload (pc := 24) C 4 dX1_makeTones_24 rfl ?_
        refine xw_Vd (pc := 26) (q0 := 0) (na := 2) (rest := [.ref h, nV k, .ref d]) (st' := [nV (pv p n B row x), .ref h, nV k, .ref d]) C (m_X1_pointOf hp hp5 hn (hB) row x (by omega) (by omega)) gX1_makeTones_X1_pointOf rfl rfl rfl rfl (by decide +kernel) ⟨Nat.le_of_ble_eq_true rfl, Nat.le_of_ble_eq_true rfl⟩ rfl rfl rfl (Nat.le_of_ble_eq_true rfl) dX1_makeTones_26 ⟨Nat.le_of_ble_eq_true rfl, Nat.le_of_ble_eq_true rfl⟩ rfl ?_
        have hb5 : pv p n B row x < 500 := Nat.lt_trans (pv_lt hp) hp5
        refine xw_iload_n (pc := 29) C 3 dX1_makeTones_29 rfl ?_
        refine xw_Vd (pc := 30) (q0 := 0) (na := 2) (rest := [nV k, .ref d]) (st' := [nV ((pv p n B row x) * f % p), nV k, .ref d]) C (m_X1_by hp hp5 (pv p n B row x) f (by omega) (by omega)) gX1_makeTones_X1_by rfl rfl rfl rfl (by decide +kernel) ⟨Nat.le_of_ble_eq_true rfl, Nat.le_of_ble_eq_true rfl⟩ rfl rfl rfl (Nat.le_of_ble_eq_true rfl) dX1_makeTones_30 ⟨Nat.le_of_ble_eq_true rfl, Nat.le_of_ble_eq_true rfl⟩ rfl ?_
        refine xw_iast (pc := 33) (w' := wM cI h r d th n p w b B (va_up (mk M (tn p n B row base f) k) k ((pv p n B row x) * f % p))) C 2 0 k ((pv p n B row x) * f % p) rfl rfl (rfl) rfl (by omega) (by decide) rfl dX1_makeTones_33 ?_
        refine xw_wo (w' := wM cI h r d th n p w b B (mk M (tn p n B row base f) (k + 1))) (by rw [mk_s (g := tn p n B row base f) (k := k) (by show _ = (pv p n B row (pw p base k) * f) % p; rw [← hx])]) ?_
        refine xw_aload_n (pc := 34) C 0 dX1_makeTones_34 rfl ?_
        refine xw_iload (pc := 35) C 4 dX1_makeTones_35 rfl ?_
        refine xw_iload_n (pc := 37) C 2 dX1_makeTones_37 rfl ?_
        refine xw_Vd (pc := 38) (q0 := 0) (na := 2) (rest := []) (st' := [nV (x * base % p)]) C (m_X1_by hp hp5 x base (by omega) (by omega)) gX1_makeTones_X1_by rfl rfl rfl rfl (by decide +kernel) ⟨Nat.le_of_ble_eq_true rfl, Nat.le_of_ble_eq_true rfl⟩ rfl rfl rfl (Nat.le_of_ble_eq_true rfl) dX1_makeTones_38 ⟨Nat.le_of_ble_eq_true rfl, Nat.le_of_ble_eq_true rfl⟩ rfl ?_
        refine xw_istore (pc := 41) (lv' := [(0, .ref h), (1, nV row), (2, nV base), (3, nV f), (4, nV (x * base % p)), (5, nV k)]) C [1, 2, 3, 4, 0, 5] dX1_makeTones_41 (by decide) rfl ?_
        refine xw_iinc_N (pc := 43) (b := k + 1) (lv' := [(0, .ref h), (1, nV row), (2, nV base), (3, nV f), (4, nV (x * base % p)), (5, nV (k + 1))]) C 5 [1, 2, 3, 4, 5, 0] dX1_makeTones_43 rfl (by decide) rfl rfl ?_
        refine xw_goto (pc := 46) (tgt := 6) C dX1_makeTones_46 (by decide) ?_
        exact ih6 (k + 1) _ (by omega) (by omega) (by rw [pw, ← hx]) (ml hp hp5)
  refine xw_wo (w' := wM cI h r d th n p w b B (mk M (tn p n B row base f) 0)) (by rw [mk_0]) ?_
  exact L6 (n + 1) 0 1 (by omega) (by omega) rfl (by omega)

set_option maxHeartbeats 4000000 in
set_option maxRecDepth 100000 in
theorem m_X1_folded {l : Launch} {D : va_G} {cI : ClassId} {h r d th n p w b : Nat} {B M : Nat → Nat} (hp : 0 < p) (hp5 : p < 500) (hn : n = 4 ∨ n = 8 ∨ n = 16) (hB : ∀ j, B j < 500) (ra rb q : Nat) (hra : ra < 4) (hrb : rb < 4) (hq : q < n) : CT l yX1_folded wsX1_folded (rmN 1 22) D vwCl [(cI, .int)] [.ref h, nV ra, nV rb, nV q] (wM cI h r d th n p w b B M) (PD (some (nV (fo p n B ra rb q n))) (wM cI h r d th n p w b B M)) 0 0 := by
  refine ct_of (plainFor_of_name (by decide)) rfl (Nat.le_of_ble_eq_true rfl) (fun φ C rX => ?_)
  have hin : ∀ w ∈ wsX10, w ∈ wsX1_folded := by decide +kernel
  refine xw_le (lv' := [(0, .ref h), (1, nV ra), (2, nV rb), (3, nV q)]) rfl ?_
  have hn3 := lt3 hn
  refine xw_iconst_N (pc := 0) C 0 dX1_folded_0 rfl ?_
  refine xw_istore (pc := 1) (lv' := [(0, .ref h), (1, nV ra), (2, nV rb), (3, nV q), (4, nV 0)]) C [1, 2, 3, 4, 0] dX1_folded_1 (by decide) rfl ?_
  refine xw_iconst_N (pc := 3) C 0 dX1_folded_3 rfl ?_
  refine xw_istore (pc := 4) (lv' := [(0, .ref h), (1, nV ra), (2, nV rb), (3, nV q), (4, nV 0), (5, nV 0)]) C [1, 2, 3, 4, 5, 0] dX1_folded_4 (by decide) rfl ?_
  have L6 : ∀ (fuel : Nat) (k acc : Nat), n < k + fuel → k ≤ n → acc = fo p n B ra rb q k → acc < 500 → xw φ 0 0 (wM cI h r d th n p w b B M) 6 [(0, .ref h), (1, nV ra), (2, nV rb), (3, nV q), (4, nV acc), (5, nV k)] [] := by
    intro fuel
    induction fuel with
    | zero =>
      intro k acc hk hkn hacc hac
      omega
    | succ fuel ih6 =>
      intro k acc hk hkn hacc hac
      refine xw_iload (pc := 6) C 5 dX1_folded_6 rfl ?_
      refine xw_aload_n (pc := 8) C 0 dX1_folded_8 rfl ?_
      refine xw_get (pc := 9) (T := TX1) (N := 7) (ref := "ToneButterfliesModel") C hin 0 1 rfl rfl (by decide) (by decide +kernel) rfl rfl dX1_folded_9 ?_
      refine xw_icmp_ge_N (pc := 12) (tgt := 59) C dX1_folded_12 (by decide) (by omega) (by omega) (fun c_1 => ?_) (fun c_1 => ?_)
      ·
        refine xw_iload (pc := 59) C 4 dX1_folded_59 rfl ?_
        exact xw_iret (pc := 61) C rX (Nat.le_refl _) (Nat.le_refl _) dX1_folded_61 (PD.e (by rw [hacc, show k = n by omega]) rfl)
      ·
        have hm1 := Nat.mod_lt (q + n - k) (show n > 0 by omega)
        have hb1 := hB (16 * ra + k)
        have hb2 := hB (16 * rb + (q + n - k) % n)
        have hm2 := Nat.mod_lt (B (16 * ra + k) * B (16 * rb + (q + n - k) % n)) hp
        refine xw_aload_n (pc := 15) C 0 dX1_folded_15 rfl ?_
        refine xw_iload (pc := 16) C 4 dX1_folded_16 rfl ?_
        refine xw_aload_n (pc := 18) C 0 dX1_folded_18 rfl ?_
        refine xw_aload_n (pc := 19) C 0 dX1_folded_19 rfl ?_
        refine xw_iload_n (pc := 20) C 1 dX1_folded_20 rfl ?_
        refine xw_iload (pc := 21) C 5 dX1_folded_21 rfl ?_
        refine xw_Vd (pc := 23) (q0 := 0) (na := 2) (rest := [.ref h, nV acc, .ref h]) (st' := [nV (B (16 * ra + k)), .ref h, nV acc, .ref h]) C (m_X1_its ra k (by omega) (by omega)) gX1_folded_X1_its rfl rfl rfl rfl (by decide +kernel) ⟨Nat.le_of_ble_eq_true rfl, Nat.le_of_ble_eq_true rfl⟩ rfl rfl rfl (Nat.le_of_ble_eq_true rfl) dX1_folded_23 ⟨Nat.le_of_ble_eq_true rfl, Nat.le_of_ble_eq_true rfl⟩ rfl ?_
        refine xw_aload_n (pc := 26) C 0 dX1_folded_26 rfl ?_
        refine xw_iload_n (pc := 27) C 2 dX1_folded_27 rfl ?_
        refine xw_iload_n (pc := 28) C 3 dX1_folded_28 rfl ?_
        refine xw_iload (pc := 29) C 5 dX1_folded_29 rfl ?_
        refine xw_isub (pc := 31) C dX1_folded_31 ?_
        refine xw_aload_n (pc := 32) C 0 dX1_folded_32 rfl ?_
        refine xw_get (pc := 33) (T := TX1) (N := 7) (ref := "ToneButterfliesModel") C hin 0 1 rfl rfl (by decide) (by decide +kernel) rfl rfl dX1_folded_33 ?_
        refine xw_iadd (pc := 36) C dX1_folded_36 ?_
        refine xw_aload_n (pc := 37) C 0 dX1_folded_37 rfl ?_
        refine xw_get (pc := 38) (T := TX1) (N := 7) (ref := "ToneButterfliesModel") C hin 0 1 rfl rfl (by decide) (by decide +kernel) rfl rfl dX1_folded_38 ?_
        refine xw_irem (pc := 41) C dX1_folded_41 (by omega) (by omega) ?_
        refine xw_st (st' := [nV ((q + n - k) % n), nV rb, .ref h, nV (B (16 * ra + k)), .ref h, nV acc, .ref h]) (by rw [tmE hkn]) ?_
        refine xw_Vd (pc := 42) (q0 := 0) (na := 2) (rest := [nV (B (16 * ra + k)), .ref h, nV acc, .ref h]) (st' := [nV (B (16 * rb + ((q + n - k) % n))), nV (B (16 * ra + k)), .ref h, nV acc, .ref h]) C (m_X1_its rb ((q + n - k) % n) (by omega) (by omega)) gX1_folded_X1_its rfl rfl rfl rfl (by decide +kernel) ⟨Nat.le_of_ble_eq_true rfl, Nat.le_of_ble_eq_true rfl⟩ rfl rfl rfl (Nat.le_of_ble_eq_true rfl) dX1_folded_42 ⟨Nat.le_of_ble_eq_true rfl, Nat.le_of_ble_eq_true rfl⟩ rfl ?_
        refine xw_Vd (pc := 45) (q0 := 0) (na := 2) (rest := [nV acc, .ref h]) (st' := [nV ((B (16 * ra + k)) * (B (16 * rb + ((q + n - k) % n))) % p), nV acc, .ref h]) C (m_X1_by hp hp5 (B (16 * ra + k)) (B (16 * rb + ((q + n - k) % n))) (by omega) (by omega)) gX1_folded_X1_by rfl rfl rfl rfl (by decide +kernel) ⟨Nat.le_of_ble_eq_true rfl, Nat.le_of_ble_eq_true rfl⟩ rfl rfl rfl (Nat.le_of_ble_eq_true rfl) dX1_folded_45 ⟨Nat.le_of_ble_eq_true rfl, Nat.le_of_ble_eq_true rfl⟩ rfl ?_
        refine xw_Vd (pc := 48) (q0 := 0) (na := 2) (rest := []) (st' := [nV ((acc + ((B (16 * ra + k)) * (B (16 * rb + ((q + n - k) % n))) % p)) % p)]) C (m_X1_plus hp hp5 acc ((B (16 * ra + k)) * (B (16 * rb + ((q + n - k) % n))) % p) (by omega)) gX1_folded_X1_plus rfl rfl rfl rfl (by decide +kernel) ⟨Nat.le_of_ble_eq_true rfl, Nat.le_of_ble_eq_true rfl⟩ rfl rfl rfl (Nat.le_of_ble_eq_true rfl) dX1_folded_48 ⟨Nat.le_of_ble_eq_true rfl, Nat.le_of_ble_eq_true rfl⟩ rfl ?_
        refine xw_istore (pc := 51) (lv' := [(0, .ref h), (1, nV ra), (2, nV rb), (3, nV q), (4, nV ((acc + ((B (16 * ra + k)) * (B (16 * rb + ((q + n - k) % n))) % p)) % p)), (5, nV k)]) C [1, 2, 3, 4, 0, 5] dX1_folded_51 (by decide) rfl ?_
        refine xw_iinc_N (pc := 53) (b := k + 1) (lv' := [(0, .ref h), (1, nV ra), (2, nV rb), (3, nV q), (4, nV ((acc + ((B (16 * ra + k)) * (B (16 * rb + ((q + n - k) % n))) % p)) % p)), (5, nV (k + 1))]) C 5 [1, 2, 3, 4, 5, 0] dX1_folded_53 rfl (by decide) rfl rfl ?_
        refine xw_goto (pc := 56) (tgt := 6) C dX1_folded_56 (by decide) ?_
        exact ih6 (k + 1) _ (by omega) (by omega) (by rw [fo, ← hacc, Nat.add_mod_mod]) (ml hp hp5)
  exact L6 (n + 1) 0 0 (by omega) (by omega) rfl (by omega)

set_option maxHeartbeats 4000000 in
set_option maxRecDepth 100000 in
theorem m_X1_together {l : Launch} {D : va_G} {cI : ClassId} {h r d th n p w b : Nat} {B M : Nat → Nat} (hp : 0 < p) (hp5 : p < 500) (hn : n = 4 ∨ n = 8 ∨ n = 16) (hB : ∀ j, B j < 500) (ra rb q : Nat) (hra : ra < 4) (hrb : rb < 4) (hq : q < 16) : CT l yX1_together wsX1_together (rmN 1 22) D vwCl [(cI, .int)] [.ref h, nV ra, nV rb, nV q] (wM cI h r d th n p w b B M) (PD (some (nV (so p n B ra rb q n))) (wM cI h r d th n p w b B M)) 0 0 := by
  refine ct_of (plainFor_of_name (by decide)) rfl (Nat.le_of_ble_eq_true rfl) (fun φ C rX => ?_)
  have hin : ∀ w ∈ wsX10, w ∈ wsX1_together := by decide +kernel
  refine xw_le (lv' := [(0, .ref h), (1, nV ra), (2, nV rb), (3, nV q)]) rfl ?_
  have hn3 := lt3 hn
  refine xw_iconst_N (pc := 0) C 0 dX1_together_0 rfl ?_
  refine xw_istore (pc := 1) (lv' := [(0, .ref h), (1, nV ra), (2, nV rb), (3, nV q), (4, nV 0)]) C [1, 2, 3, 4, 0] dX1_together_1 (by decide) rfl ?_
  refine xw_iconst_N (pc := 3) C 0 dX1_together_3 rfl ?_
  refine xw_istore (pc := 4) (lv' := [(0, .ref h), (1, nV ra), (2, nV rb), (3, nV q), (4, nV 0), (5, nV 0)]) C [1, 2, 3, 4, 5, 0] dX1_together_4 (by decide) rfl ?_
  have L6 : ∀ (fuel : Nat) (k acc : Nat), n < k + fuel → k ≤ n → acc = so p n B ra rb q k → acc < 500 → xw φ 0 0 (wM cI h r d th n p w b B M) 6 [(0, .ref h), (1, nV ra), (2, nV rb), (3, nV q), (4, nV acc), (5, nV k)] [] := by
    intro fuel
    induction fuel with
    | zero =>
      intro k acc hk hkn hacc hac
      omega
    | succ fuel ih6 =>
      intro k acc hk hkn hacc hac
      refine xw_iload (pc := 6) C 5 dX1_together_6 rfl ?_
      refine xw_aload_n (pc := 8) C 0 dX1_together_8 rfl ?_
      refine xw_get (pc := 9) (T := TX1) (N := 7) (ref := "ToneButterfliesModel") C hin 0 1 rfl rfl (by decide) (by decide +kernel) rfl rfl dX1_together_9 ?_
      refine xw_icmp_ge_N (pc := 12) (tgt := 54) C dX1_together_12 (by decide) (by omega) (by omega) (fun c_1 => ?_) (fun c_1 => ?_)
      ·
        refine xw_iload (pc := 54) C 4 dX1_together_54 rfl ?_
        exact xw_iret (pc := 56) C rX (Nat.le_refl _) (Nat.le_refl _) dX1_together_56 (PD.e (by rw [hacc, show k = n by omega]) rfl)
      ·
        have hm1 := Nat.mod_lt (k + q) (show n > 0 by omega)
        have hb1 := hB (16 * ra + k)
        have hb2 := hB (16 * rb + (k + q) % n)
        have hm2 := Nat.mod_lt (B (16 * ra + k) * B (16 * rb + (k + q) % n)) hp
        refine xw_aload_n (pc := 15) C 0 dX1_together_15 rfl ?_
        refine xw_iload (pc := 16) C 4 dX1_together_16 rfl ?_
        refine xw_aload_n (pc := 18) C 0 dX1_together_18 rfl ?_
        refine xw_aload_n (pc := 19) C 0 dX1_together_19 rfl ?_
        refine xw_iload_n (pc := 20) C 1 dX1_together_20 rfl ?_
        refine xw_iload (pc := 21) C 5 dX1_together_21 rfl ?_
        refine xw_Vd (pc := 23) (q0 := 0) (na := 2) (rest := [.ref h, nV acc, .ref h]) (st' := [nV (B (16 * ra + k)), .ref h, nV acc, .ref h]) C (m_X1_its ra k (by omega) (by omega)) gX1_together_X1_its rfl rfl rfl rfl (by decide +kernel) ⟨Nat.le_of_ble_eq_true rfl, Nat.le_of_ble_eq_true rfl⟩ rfl rfl rfl (Nat.le_of_ble_eq_true rfl) dX1_together_23 ⟨Nat.le_of_ble_eq_true rfl, Nat.le_of_ble_eq_true rfl⟩ rfl ?_
        refine xw_aload_n (pc := 26) C 0 dX1_together_26 rfl ?_
        refine xw_iload_n (pc := 27) C 2 dX1_together_27 rfl ?_
        refine xw_iload (pc := 28) C 5 dX1_together_28 rfl ?_
        refine xw_iload_n (pc := 30) C 3 dX1_together_30 rfl ?_
        refine xw_iadd_N (pc := 31) C dX1_together_31 ?_
        refine xw_aload_n (pc := 32) C 0 dX1_together_32 rfl ?_
        refine xw_get (pc := 33) (T := TX1) (N := 7) (ref := "ToneButterfliesModel") C hin 0 1 rfl rfl (by decide) (by decide +kernel) rfl rfl dX1_together_33 ?_
        refine xw_irem_N (pc := 36) C dX1_together_36 (by omega) (by omega) ?_
        refine xw_Vd (pc := 37) (q0 := 0) (na := 2) (rest := [nV (B (16 * ra + k)), .ref h, nV acc, .ref h]) (st' := [nV (B (16 * rb + ((k + q) % n))), nV (B (16 * ra + k)), .ref h, nV acc, .ref h]) C (m_X1_its rb ((k + q) % n) (by omega) (by omega)) gX1_together_X1_its rfl rfl rfl rfl (by decide +kernel) ⟨Nat.le_of_ble_eq_true rfl, Nat.le_of_ble_eq_true rfl⟩ rfl rfl rfl (Nat.le_of_ble_eq_true rfl) dX1_together_37 ⟨Nat.le_of_ble_eq_true rfl, Nat.le_of_ble_eq_true rfl⟩ rfl ?_
        refine xw_Vd (pc := 40) (q0 := 0) (na := 2) (rest := [nV acc, .ref h]) (st' := [nV ((B (16 * ra + k)) * (B (16 * rb + ((k + q) % n))) % p), nV acc, .ref h]) C (m_X1_by hp hp5 (B (16 * ra + k)) (B (16 * rb + ((k + q) % n))) (by omega) (by omega)) gX1_together_X1_by rfl rfl rfl rfl (by decide +kernel) ⟨Nat.le_of_ble_eq_true rfl, Nat.le_of_ble_eq_true rfl⟩ rfl rfl rfl (Nat.le_of_ble_eq_true rfl) dX1_together_40 ⟨Nat.le_of_ble_eq_true rfl, Nat.le_of_ble_eq_true rfl⟩ rfl ?_
        refine xw_Vd (pc := 43) (q0 := 0) (na := 2) (rest := []) (st' := [nV ((acc + ((B (16 * ra + k)) * (B (16 * rb + ((k + q) % n))) % p)) % p)]) C (m_X1_plus hp hp5 acc ((B (16 * ra + k)) * (B (16 * rb + ((k + q) % n))) % p) (by omega)) gX1_together_X1_plus rfl rfl rfl rfl (by decide +kernel) ⟨Nat.le_of_ble_eq_true rfl, Nat.le_of_ble_eq_true rfl⟩ rfl rfl rfl (Nat.le_of_ble_eq_true rfl) dX1_together_43 ⟨Nat.le_of_ble_eq_true rfl, Nat.le_of_ble_eq_true rfl⟩ rfl ?_
        refine xw_istore (pc := 46) (lv' := [(0, .ref h), (1, nV ra), (2, nV rb), (3, nV q), (4, nV ((acc + ((B (16 * ra + k)) * (B (16 * rb + ((k + q) % n))) % p)) % p)), (5, nV k)]) C [1, 2, 3, 4, 0, 5] dX1_together_46 (by decide) rfl ?_
        refine xw_iinc_N (pc := 48) (b := k + 1) (lv' := [(0, .ref h), (1, nV ra), (2, nV rb), (3, nV q), (4, nV ((acc + ((B (16 * ra + k)) * (B (16 * rb + ((k + q) % n))) % p)) % p)), (5, nV (k + 1))]) C 5 [1, 2, 3, 4, 5, 0] dX1_together_48 rfl (by decide) rfl rfl ?_
        refine xw_goto (pc := 51) (tgt := 6) C dX1_together_51 (by decide) ?_
        exact ih6 (k + 1) _ (by omega) (by omega) (by rw [so, ← hacc, Nat.add_mod_mod]) (ml hp hp5)
  exact L6 (n + 1) 0 0 (by omega) (by omega) rfl (by omega)

set_option maxHeartbeats 4000000 in
set_option maxRecDepth 100000 in
theorem m_X1_mirrored {l : Launch} {D : va_G} {cI : ClassId} {h r d th n p w b : Nat} {B M : Nat → Nat} (hb : b < 5) (q : Nat) (hq : q < 16) : CT l yX1_mirrored wsX1_mirrored (rmN 0 0) D vwCl [(cI, .int)] [.ref h, nV q] (wM cI h r d th n p w b B M) (PD (some (nV (mi q b))) (wM cI h r d th n p w b B M)) 0 0 := by
  refine ct_of (plainFor_of_name (by decide)) rfl (Nat.le_of_ble_eq_true rfl) (fun φ C rX => ?_)
  have hin : ∀ w ∈ wsX10, w ∈ wsX1_mirrored := by decide +kernel
  refine xw_le (lv' := [(0, .ref h), (1, nV q)]) rfl ?_
  refine xw_iconst_N (pc := 0) C 0 dX1_mirrored_0 rfl ?_
  refine xw_istore_n (pc := 1) (lv' := [(0, .ref h), (1, nV q), (2, nV 0)]) C [1, 2, 0] dX1_mirrored_1 rfl (by decide) rfl ?_
  refine xw_iconst_N (pc := 2) C 0 dX1_mirrored_2 rfl ?_
  refine xw_istore_n (pc := 3) (lv' := [(0, .ref h), (1, nV q), (2, nV 0), (3, nV 0)]) C [1, 2, 3, 0] dX1_mirrored_3 rfl (by decide) rfl ?_
  have L4 : ∀ (fuel : Nat) (k acc : Nat), b < k + fuel → k ≤ b → acc = mj q b k → xw φ 0 0 (wM cI h r d th n p w b B M) 4 [(0, .ref h), (1, nV q), (2, nV acc), (3, nV k)] [] := by
    intro fuel
    induction fuel with
    | zero =>
      intro k acc hk hkb hacc
      omega
    | succ fuel ih4 =>
      intro k acc hk hkb hacc
      refine xw_iload_n (pc := 4) C 3 dX1_mirrored_4 rfl ?_
      refine xw_aload_n (pc := 5) C 0 dX1_mirrored_5 rfl ?_
      refine xw_get (pc := 6) (T := TX1) (N := 7) (ref := "ToneButterfliesModel") C hin 0 4 rfl rfl (by decide) (by decide +kernel) rfl rfl dX1_mirrored_6 ?_
      refine xw_icmp_ge_N (pc := 9) (tgt := 35) C dX1_mirrored_9 (by decide) (by omega) (by omega) (fun c_1 => ?_) (fun c_1 => ?_)
      ·
        refine xw_iload_n (pc := 35) C 2 dX1_mirrored_35 rfl ?_
        exact xw_iret (pc := 36) C rX (Nat.le_refl _) (Nat.le_refl _) dX1_mirrored_36 (PD.e (by rw [hacc, show k = b by omega, mj_mi q hq b hb]) rfl)
      ·
        have hm1 : acc < 16 := by rw [hacc]; exact mj_lt q hq b hb k (by omega) hkb
        have hm2 : 2 ^ (b - 1 - k) ≤ 8 := by rcases (show b - 1 - k = 0 ∨ b - 1 - k = 1 ∨ b - 1 - k = 2 ∨ b - 1 - k = 3 by omega) with z | z | z | z <;> rw [z] <;> decide
        have hm3 := Nat.mod_lt (q / 2 ^ k) (show 2 > 0 by omega)
        have hm4 := Nat.div_le_self q (2 ^ k)
        have hm5 := Nat.mul_le_mul (show q / 2 ^ k % 2 ≤ 1 by omega) hm2
        refine xw_iload_n (pc := 12) C 2 dX1_mirrored_12 rfl ?_
        refine xw_iload_n (pc := 13) C 1 dX1_mirrored_13 rfl ?_
        refine xw_iload_n (pc := 14) C 3 dX1_mirrored_14 rfl ?_
        refine xw_ishr (pc := 15) (r := iI ((q / 2 ^ k : Nat) : Int)) C dX1_mirrored_15 (shr_k q hq k (by omega)) ?_
        refine xw_iconst_N (pc := 16) C 1 dX1_mirrored_16 rfl ?_
        refine xw_iand (pc := 17) (r := iI ((q / 2 ^ k % 2 : Nat) : Int)) C dX1_mirrored_17 (and_1 (by omega)) ?_
        refine xw_aload_n (pc := 18) C 0 dX1_mirrored_18 rfl ?_
        refine xw_get (pc := 19) (T := TX1) (N := 7) (ref := "ToneButterfliesModel") C hin 0 4 rfl rfl (by decide) (by decide +kernel) rfl rfl dX1_mirrored_19 ?_
        refine xw_iconst_N (pc := 22) C 1 dX1_mirrored_22 rfl ?_
        refine xw_isub_N (pc := 23) C dX1_mirrored_23 (by omega) ?_
        refine xw_iload_n (pc := 24) C 3 dX1_mirrored_24 rfl ?_
        refine xw_isub_N (pc := 25) C dX1_mirrored_25 (by omega) ?_
        refine xw_ishl (pc := 26) (r := iI ((q / 2 ^ k % 2 * 2 ^ (b - 1 - k) : Nat) : Int)) C dX1_mirrored_26 (shl_b _ hm3 (b - 1 - k) (by omega)) ?_
        refine xw_ior (pc := 27) (r := iI ((acc ||| (q / 2 ^ k % 2 * 2 ^ (b - 1 - k)) : Nat) : Int)) C dX1_mirrored_27 (or_n acc hm1 _ (by omega)) ?_
        refine xw_istore_n (pc := 28) (lv' := [(0, .ref h), (1, nV q), (2, nV (acc ||| (q / 2 ^ k % 2 * 2 ^ (b - 1 - k)))), (3, nV k)]) C [1, 2, 0, 3] dX1_mirrored_28 rfl (by decide) rfl ?_
        refine xw_iinc_N (pc := 29) (b := k + 1) (lv' := [(0, .ref h), (1, nV q), (2, nV (acc ||| (q / 2 ^ k % 2 * 2 ^ (b - 1 - k)))), (3, nV (k + 1))]) C 3 [1, 2, 3, 0] dX1_mirrored_29 rfl (by decide) rfl rfl ?_
        refine xw_goto (pc := 32) (tgt := 4) C dX1_mirrored_32 (by decide) ?_
        exact ih4 (k + 1) _ (by omega) (by omega) (by rw [mj, ← hacc])
  exact L4 (b + 1) 0 0 (by omega) (by omega) rfl

set_option maxHeartbeats 4000000 in
set_option maxRecDepth 100000 in
theorem m_X1_isMoved {l : Launch} {D : va_G} {cI : ClassId} {h r d th n p w b : Nat} {B M : Nat → Nat} (hn : n = 4 ∨ n = 8 ∨ n = 16) (hB : ∀ j, B j < 500) (ra rb q : Nat) (hra : ra < 4) (hrb : rb < 4) (hq : q ≤ 16) : CT l yX1_isMoved wsX1_isMoved (rmN 1 22) D vwCl [(cI, .int)] [.ref h, nV ra, nV rb, nV q] (wM cI h r d th n p w b B M) (PD (some (bV (im n B ra rb q))) (wM cI h r d th n p w b B M)) 0 0 := by
  refine ct_of (plainFor_of_name (by decide)) rfl (Nat.le_of_ble_eq_true rfl) (fun φ C rX => ?_)
  have hin : ∀ w ∈ wsX10, w ∈ wsX1_isMoved := by decide +kernel
  refine xw_le (lv' := [(0, .ref h), (1, nV ra), (2, nV rb), (3, nV q)]) rfl ?_
  have hn3 := lt3 hn
  refine xw_iconst_N (pc := 0) C 0 dX1_isMoved_0 rfl ?_
  refine xw_istore (pc := 1) (lv' := [(0, .ref h), (1, nV ra), (2, nV rb), (3, nV q), (4, nV 0)]) C [1, 2, 3, 4, 0] dX1_isMoved_1 (by decide) rfl ?_
  have L3 : ∀ (fuel : Nat) (k : Nat), n < k + fuel → k ≤ n → (∀ j, j < k → B (16 * ra + j) = B (16 * rb + (j + q) % n)) → xw φ 0 0 (wM cI h r d th n p w b B M) 3 [(0, .ref h), (1, nV ra), (2, nV rb), (3, nV q), (4, nV k)] [] := by
    intro fuel
    induction fuel with
    | zero =>
      intro k hk hkn hall
      omega
    | succ fuel ih3 =>
      intro k hk hkn hall
      refine xw_iload (pc := 3) C 4 dX1_isMoved_3 rfl ?_
      refine xw_aload_n (pc := 5) C 0 dX1_isMoved_5 rfl ?_
      refine xw_get (pc := 6) (T := TX1) (N := 7) (ref := "ToneButterfliesModel") C hin 0 1 rfl rfl (by decide) (by decide +kernel) rfl rfl dX1_isMoved_6 ?_
      refine xw_icmp_ge_N (pc := 9) (tgt := 44) C dX1_isMoved_9 (by decide) (by omega) (by omega) (fun c_1 => ?_) (fun c_1 => ?_)
      ·
        refine xw_iconst_N (pc := 44) C 1 dX1_isMoved_44 rfl ?_
        refine xw_st (st' := [bV true]) rfl ?_
        exact xw_bret (pc := 45) C rX (Nat.le_refl _) (Nat.le_refl _) dX1_isMoved_45 (PD.e (by rw [im_t (fun j hj => hall j (by omega))]) rfl)
      ·
        have hm1 := Nat.mod_lt (k + q) (show n > 0 by omega)
        have hb1 := hB (16 * ra + k)
        have hb2 := hB (16 * rb + (k + q) % n)
        refine xw_aload_n (pc := 12) C 0 dX1_isMoved_12 rfl ?_
        refine xw_iload_n (pc := 13) C 1 dX1_isMoved_13 rfl ?_
        refine xw_iload (pc := 14) C 4 dX1_isMoved_14 rfl ?_
        refine xw_Vd (pc := 16) (q0 := 0) (na := 2) (rest := []) (st' := [nV (B (16 * ra + k))]) C (m_X1_its ra k (by omega) (by omega)) gX1_isMoved_X1_its rfl rfl rfl rfl (by decide +kernel) ⟨Nat.le_of_ble_eq_true rfl, Nat.le_of_ble_eq_true rfl⟩ rfl rfl rfl (Nat.le_of_ble_eq_true rfl) dX1_isMoved_16 ⟨Nat.le_of_ble_eq_true rfl, Nat.le_of_ble_eq_true rfl⟩ rfl ?_
        refine xw_aload_n (pc := 19) C 0 dX1_isMoved_19 rfl ?_
        refine xw_iload_n (pc := 20) C 2 dX1_isMoved_20 rfl ?_
        refine xw_iload (pc := 21) C 4 dX1_isMoved_21 rfl ?_
        refine xw_iload_n (pc := 23) C 3 dX1_isMoved_23 rfl ?_
        refine xw_iadd_N (pc := 24) C dX1_isMoved_24 ?_
        refine xw_aload_n (pc := 25) C 0 dX1_isMoved_25 rfl ?_
        refine xw_get (pc := 26) (T := TX1) (N := 7) (ref := "ToneButterfliesModel") C hin 0 1 rfl rfl (by decide) (by decide +kernel) rfl rfl dX1_isMoved_26 ?_
        refine xw_irem_N (pc := 29) C dX1_isMoved_29 (by omega) (by omega) ?_
        refine xw_Vd (pc := 30) (q0 := 0) (na := 2) (rest := [nV (B (16 * ra + k))]) (st' := [nV (B (16 * rb + ((k + q) % n))), nV (B (16 * ra + k))]) C (m_X1_its rb ((k + q) % n) (by omega) (by omega)) gX1_isMoved_X1_its rfl rfl rfl rfl (by decide +kernel) ⟨Nat.le_of_ble_eq_true rfl, Nat.le_of_ble_eq_true rfl⟩ rfl rfl rfl (Nat.le_of_ble_eq_true rfl) dX1_isMoved_30 ⟨Nat.le_of_ble_eq_true rfl, Nat.le_of_ble_eq_true rfl⟩ rfl ?_
        refine xw_icmp_eq_N (pc := 33) (tgt := 38) C dX1_isMoved_33 (by decide) (by omega) (by omega) (fun c_2 => ?_) (fun c_2 => ?_)
        ·
          refine xw_iinc_N (pc := 38) (b := k + 1) (lv' := [(0, .ref h), (1, nV ra), (2, nV rb), (3, nV q), (4, nV (k + 1))]) C 4 [1, 2, 3, 4, 0] dX1_isMoved_38 rfl (by decide) rfl rfl ?_
          refine xw_goto (pc := 41) (tgt := 3) C dX1_isMoved_41 (by decide) ?_
          exact ih3 (k + 1) (by omega) (by omega) (fun j hj => by rcases Nat.lt_or_ge j k with z | z; exact hall j z; rw [show j = k by omega]; exact c_2)
        ·
          refine xw_iconst_N (pc := 36) C 0 dX1_isMoved_36 rfl ?_
          refine xw_st (st' := [bV false]) rfl ?_
          exact xw_bret (pc := 37) C rX (Nat.le_refl _) (Nat.le_refl _) dX1_isMoved_37 (PD.e (by rw [im_f (show k < n by omega) c_2]) rfl)
  exact L3 (n + 1) 0 (by omega) (by omega) (fun j hj => absurd hj (Nat.not_lt_zero j))
