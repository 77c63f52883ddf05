theorem rgN {x : Nat} (h : x < 2147483648) : -2147483648 ≤ ((x : Nat) : Int) ∧ ((x : Nat) : Int) < 2147483648 := by omega

theorem tm_rg {x y : Int} (hx : -2147483648 ≤ x ∧ x < 2147483648) (hy : 0 < y ∧ y < 2147483648) : -2147483648 ≤ x.tmod y ∧ x.tmod y < 2147483648 := by
  have h1 := Int.tmod_lt_of_pos x hy.1
  have h2 := Int.tmod_lt_of_pos (-x) hy.1
  rw [Int.neg_tmod] at h2
  omega
set_option maxHeartbeats 4000000 in
set_option maxRecDepth 100000 in
theorem m_floorMod {l : Launch} {D : va_G} {tys : List (ClassId × FieldType)} {w0 : va_W} (x y : Int) (hx : -2147483648 ≤ x ∧ x < 2147483648) (hy : 0 < y ∧ y < 2147483648) : CT l yJ9_floorMod_7cf53 wsJ9_floorMod_7cf53 (rmN 0 0) D vwCl tys [iV x, iV y] w0 (PD (some (iV (x % y))) w0) 0 0 := by
  refine ct_of (by decide +kernel) rfl (Nat.le_of_ble_eq_true rfl) (fun φ C rX => ?_)
  refine xw_le (lv' := [(0, iV x), (1, iV y)]) rfl ?_
  refine xw_iload_n (pc := 0) C 0 dJ9_floorMod_7cf53_0 rfl ?_
  refine xw_iload_n (pc := 1) C 1 dJ9_floorMod_7cf53_1 rfl ?_
  refine xw_irem (pc := 2) C dJ9_floorMod_7cf53_2 (hx) (hy) ?_
  refine xw_istore_n (pc := 3) (lv' := [(0, iV x), (1, iV y), (2, iV (Int.tmod x y))]) C [1, 2, 0] dJ9_floorMod_7cf53_3 rfl (by decide) rfl ?_
  refine xw_iload_n (pc := 4) C 0 dJ9_floorMod_7cf53_4 rfl ?_
  refine xw_iload_n (pc := 5) C 1 dJ9_floorMod_7cf53_5 rfl ?_
  refine xw_ixor (pc := 6) (r := iI ((iI x ^^^ iI y).toInt)) C dJ9_floorMod_7cf53_6 (iI_of _) ?_
  refine xw_if_ge (pc := 7) (tgt := 18) C dJ9_floorMod_7cf53_7 (by decide) (iI_rg _) (fun c_1 => ?_) (fun c_1 => ?_)
  ·
    refine xw_iload_n (pc := 18) C 2 dJ9_floorMod_7cf53_18 rfl ?_
    exact xw_iret (pc := 19) C rX (Nat.le_refl _) (Nat.le_refl _) dJ9_floorMod_7cf53_19 (PD.e (by rw [em_pos ((xor_ge hx hy).mp c_1)]) rfl)
  ·
    refine xw_iload_n (pc := 10) C 2 dJ9_floorMod_7cf53_10 rfl ?_
    refine xw_if_eq (pc := 11) (tgt := 18) C dJ9_floorMod_7cf53_11 (by decide) (tm_rg hx hy) (fun c_2 => ?_) (fun c_2 => ?_)
    ·
      refine xw_iload_n (pc := 18) C 2 dJ9_floorMod_7cf53_18 rfl ?_
      exact xw_iret (pc := 19) C rX (Nat.le_refl _) (Nat.le_refl _) dJ9_floorMod_7cf53_19 (PD.e (by rw [← em_0 c_2, c_2]) rfl)
    ·
      refine xw_iload_n (pc := 14) C 2 dJ9_floorMod_7cf53_14 rfl ?_
      refine xw_iload_n (pc := 15) C 1 dJ9_floorMod_7cf53_15 rfl ?_
      refine xw_iadd (pc := 16) C dJ9_floorMod_7cf53_16 ?_
      exact xw_iret (pc := 17) C rX (Nat.le_refl _) (Nat.le_refl _) dJ9_floorMod_7cf53_17 (PD.e (by rw [em_neg (by omega) (by have q := xor_ge hx hy; omega) c_2]) rfl)

set_option maxHeartbeats 4000000 in
set_option maxRecDepth 100000 in
theorem m_X0_reduced {l : Launch} {D : va_G} {cI : ClassId} {h a n p b w wi ni : Nat} {A : Nat → Nat} (hp : 0 < p) (hp5 : p < 500) (z : Int) (m : Nat) (hm : z % (p : Int) = (m : Int)) (hz : -2147483648 ≤ z ∧ z < 2147483648) : CT l yX0_reduced wsX0_reduced (rmN 1 22) D vwCl [(cI, .int)] [.ref h, iV z] (wX cI h a n p b w wi ni A) (PD (some (nV m)) (wX cI h a n p b w wi ni A)) 0 0 := by
  refine ct_of (plainFor_of_name (by decide)) rfl (Nat.le_of_ble_eq_true rfl) (fun φ C rX => ?_)
  have hin : ∀ w ∈ wsX00, w ∈ wsX0_reduced := by decide +kernel
  refine xw_le (lv' := [(0, .ref h), (1, iV z)]) rfl ?_
  refine xw_aload_n (pc := 0) C 0 dX0_reduced_0 rfl ?_
  refine xw_get (pc := 1) (T := TX0) (N := 7) (ref := "ToneButterflies") C hin 0 2 rfl rfl (by decide) (by decide +kernel) rfl rfl dX0_reduced_1 ?_
  refine xw_if_le_N (pc := 4) (tgt := 18) C dX0_reduced_4 (by decide) (by omega) (fun c_1 => (by exfalso; omega)) (fun c_1 => ?_)
  refine xw_iload_n (pc := 7) C 1 dX0_reduced_7 rfl ?_
  refine xw_aload_n (pc := 8) C 0 dX0_reduced_8 rfl ?_
  refine xw_get (pc := 9) (T := TX0) (N := 7) (ref := "ToneButterflies") C hin 0 2 rfl rfl (by decide) (by decide +kernel) rfl rfl dX0_reduced_9 ?_
  refine xw_Sd (pc := 12) (na := 2) (rest := []) (st' := [iV (z % (((p : Nat) : Int)))]) C (m_floorMod z (((p : Nat) : Int)) hz (by omega)) gX0_reduced_J9_floorMod_7cf53 rfl rfl rfl rfl (by decide +kernel) ⟨Nat.le_of_ble_eq_true rfl, Nat.le_of_ble_eq_true rfl⟩ rfl (Nat.le_of_ble_eq_true rfl) dX0_reduced_12 ⟨Nat.le_of_ble_eq_true rfl, Nat.le_of_ble_eq_true rfl⟩ rfl ?_
  refine xw_goto (pc := 15) (tgt := 19) C dX0_reduced_15 (by decide) ?_
  exact xw_iret (pc := 19) C rX (Nat.le_refl _) (Nat.le_refl _) dX0_reduced_19 (PD.e (by rw [hm]) rfl)

set_option maxHeartbeats 4000000 in
set_option maxRecDepth 100000 in
theorem m_X0_wrapped {l : Launch} {D : va_G} {cI : ClassId} {h a n p b w wi ni : Nat} {A : Nat → Nat} (hn : n = 4 ∨ n = 8 ∨ n = 16) (z : Int) (m : Nat) (hm : z % (n : Int) = (m : Int)) : CT l yX0_wrapped wsX0_wrapped (rmN 0 0) D vwCl [(cI, .int)] [.ref h, iV z] (wX cI h a n p b w wi ni A) (PD (some (nV m)) (wX cI h a n p b w wi ni A)) 0 0 := by
  refine ct_of (plainFor_of_name (by decide)) rfl (Nat.le_of_ble_eq_true rfl) (fun φ C rX => ?_)
  have hin : ∀ w ∈ wsX00, w ∈ wsX0_wrapped := by decide +kernel
  refine xw_le (lv' := [(0, .ref h), (1, iV z)]) rfl ?_
  refine xw_iload_n (pc := 0) C 1 dX0_wrapped_0 rfl ?_
  refine xw_aload_n (pc := 1) C 0 dX0_wrapped_1 rfl ?_
  refine xw_get (pc := 2) (T := TX0) (N := 7) (ref := "ToneButterflies") C hin 0 1 rfl rfl (by decide) (by decide +kernel) rfl rfl dX0_wrapped_2 ?_
  refine xw_iconst_N (pc := 5) C 1 dX0_wrapped_5 rfl ?_
  refine xw_isub (pc := 6) C dX0_wrapped_6 ?_
  refine xw_iand (pc := 7) (r := iI ((m : Nat) : Int)) C dX0_wrapped_7 (and_mask hn hm) ?_
  exact xw_iret (pc := 8) C rX (Nat.le_refl _) (Nat.le_refl _) dX0_wrapped_8 (PD.i)

set_option maxHeartbeats 4000000 in
set_option maxRecDepth 100000 in
theorem m_X0_read {l : Launch} {D : va_G} {cI : ClassId} {h a n p b w wi ni : Nat} {A : Nat → Nat} (row place : Nat) (hrw : row < 5) (hq : place < 16) : CT l yX0_read wsX0_read (rmN 0 0) D vwCl [(cI, .int)] [.ref h, nV row, nV place] (wX cI h a n p b w wi ni A) (PD (some (nV (A (16 * row + place)))) (wX cI h a n p b w wi ni A)) 0 0 := by
  refine ct_of (plainFor_of_name (by decide)) rfl (Nat.le_of_ble_eq_true rfl) (fun φ C rX => ?_)
  have hin : ∀ w ∈ wsX00, w ∈ wsX0_read := by decide +kernel
  refine xw_le (lv' := [(0, .ref h), (1, nV row), (2, nV place)]) rfl ?_
  refine xw_iload_n (pc := 0) C 1 dX0_read_0 rfl ?_
  refine xw_bipush_N (pc := 1) C 16 dX0_read_1 (by decide) ?_
  refine xw_imul_N (pc := 3) C dX0_read_3 ?_
  refine xw_iload_n (pc := 4) C 2 dX0_read_4 rfl ?_
  refine xw_iadd_N (pc := 5) C dX0_read_5 ?_
  refine xw_istore_n (pc := 6) (lv' := [(0, .ref h), (1, nV row), (2, nV place), (3, nV ((row * 16) + place))]) C [1, 2, 3, 0] dX0_read_6 rfl (by decide) rfl ?_
  refine xw_iload_n (pc := 7) C 3 dX0_read_7 rfl ?_
  refine xw_if_lt_N (pc := 8) (tgt := 29) C dX0_read_8 (by decide) (by omega) (fun c_1 => (by exfalso; omega)) (fun c_1 => ?_)
  refine xw_iload_n (pc := 11) C 3 dX0_read_11 rfl ?_
  refine xw_aload_n (pc := 12) C 0 dX0_read_12 rfl ?_
  refine xw_get (pc := 13) (T := TX0) (N := 7) (ref := "ToneButterflies") C hin 0 0 rfl rfl (by decide) (by decide +kernel) rfl rfl dX0_read_13 ?_
  refine xw_alen (pc := 16) C 1 0 rfl rfl dX0_read_16 ?_
  refine xw_icmp_ge_N (pc := 17) (tgt := 29) C dX0_read_17 (by decide) (by omega) (by omega) (fun c_2 => (by exfalso; omega)) (fun c_2 => ?_)
  refine xw_aload_n (pc := 20) C 0 dX0_read_20 rfl ?_
  refine xw_get (pc := 21) (T := TX0) (N := 7) (ref := "ToneButterflies") C hin 0 0 rfl rfl (by decide) (by decide +kernel) rfl rfl dX0_read_21 ?_
  refine xw_iload_n (pc := 24) C 3 dX0_read_24 rfl ?_
  refine xw_iald (pc := 25) C 1 0 (16 * row + place) rfl rfl (by omega) (by omega) (by decide) dX0_read_25 ?_
  refine xw_goto (pc := 26) (tgt := 30) C dX0_read_26 (by decide) ?_
  exact xw_iret (pc := 30) C rX (Nat.le_refl _) (Nat.le_refl _) dX0_read_30 (PD.i)

set_option maxHeartbeats 4000000 in
set_option maxRecDepth 100000 in
theorem m_X0_write {l : Launch} {D : va_G} {cI : ClassId} {h a n p b w wi ni : Nat} {A : Nat → Nat} (row place v : Nat) (hrw : row < 5) (hq : place < 16) : CT l yX0_write wsX0_write (rmN 0 0) D vwCl [(cI, .int)] [.ref h, nV row, nV place, nV v] (wX cI h a n p b w wi ni A) (PD (none) (wX cI h a n p b w wi ni (va_up A (16 * row + place) v))) 0 0 := by
  refine ct_of (plainFor_of_name (by decide)) rfl (Nat.le_of_ble_eq_true rfl) (fun φ C rX => ?_)
  have hin : ∀ w ∈ wsX00, w ∈ wsX0_write := by decide +kernel
  refine xw_le (lv' := [(0, .ref h), (1, nV row), (2, nV place), (3, nV v)]) rfl ?_
  refine xw_iload_n (pc := 0) C 1 dX0_write_0 rfl ?_
  refine xw_bipush_N (pc := 1) C 16 dX0_write_1 (by decide) ?_
  refine xw_imul_N (pc := 3) C dX0_write_3 ?_
  refine xw_iload_n (pc := 4) C 2 dX0_write_4 rfl ?_
  refine xw_iadd_N (pc := 5) C dX0_write_5 ?_
  refine xw_istore (pc := 6) (lv' := [(0, .ref h), (1, nV row), (2, nV place), (3, nV v), (4, nV ((row * 16) + place))]) C [1, 2, 3, 4, 0] dX0_write_6 (by decide) rfl ?_
  refine xw_iload (pc := 8) C 4 dX0_write_8 rfl ?_
  refine xw_if_lt_N (pc := 10) (tgt := 31) C dX0_write_10 (by decide) (by omega) (fun c_1 => (by exfalso; omega)) (fun c_1 => ?_)
  refine xw_iload (pc := 13) C 4 dX0_write_13 rfl ?_
  refine xw_aload_n (pc := 15) C 0 dX0_write_15 rfl ?_
  refine xw_get (pc := 16) (T := TX0) (N := 7) (ref := "ToneButterflies") C hin 0 0 rfl rfl (by decide) (by decide +kernel) rfl rfl dX0_write_16 ?_
  refine xw_alen (pc := 19) C 1 0 rfl rfl dX0_write_19 ?_
  refine xw_icmp_ge_N (pc := 20) (tgt := 31) C dX0_write_20 (by decide) (by omega) (by omega) (fun c_2 => (by exfalso; omega)) (fun c_2 => ?_)
  refine xw_aload_n (pc := 23) C 0 dX0_write_23 rfl ?_
  refine xw_get (pc := 24) (T := TX0) (N := 7) (ref := "ToneButterflies") C hin 0 0 rfl rfl (by decide) (by decide +kernel) rfl rfl dX0_write_24 ?_
  refine xw_iload (pc := 27) C 4 dX0_write_27 rfl ?_
  refine xw_iload_n (pc := 29) C 3 dX0_write_29 rfl ?_
  refine xw_iast (pc := 30) (w' := wX cI h a n p b w wi ni (va_up A (16 * row + place) v)) C 1 0 (16 * row + place) v rfl rfl (by omega) rfl (by omega) (by decide) rfl dX0_write_30 ?_
  exact xw_vret (pc := 31) C rX (Nat.le_refl _) (Nat.le_refl _) dX0_write_31 (PD.i)

set_option maxHeartbeats 4000000 in
set_option maxRecDepth 100000 in
theorem m_X0_valueAt {l : Launch} {D : va_G} {cI : ClassId} {h a n p b w wi ni : Nat} {A : Nat → Nat} (hp : 0 < p) (hp5 : p < 500) (hn : n = 4 ∨ n = 8 ∨ n = 16) (hA : ∀ j, A j < 500) (row x : Nat) (hrw : row < 5) (hx : x < 500) : CT l yX0_valueAt wsX0_valueAt (rmN 2 43) D vwCl [(cI, .int)] [.ref h, nV row, nV x] (wX cI h a n p b w wi ni A) (PD (some (nV (pv p n A row x))) (wX cI h a n p b w wi ni A)) 0 0 := by
  refine ct_of (plainFor_of_name (by decide)) rfl (Nat.le_of_ble_eq_true rfl) (fun φ C rX => ?_)
  have hin : ∀ w ∈ wsX00, w ∈ wsX0_valueAt := by decide +kernel
  refine xw_le (lv' := [(0, .ref h), (1, nV row), (2, nV x)]) rfl ?_
  refine xw_iconst_N (pc := 0) C 0 dX0_valueAt_0 rfl ?_
  refine xw_istore_n (pc := 1) (lv' := [(0, .ref h), (1, nV row), (2, nV x), (3, nV 0)]) C [1, 2, 3, 0] dX0_valueAt_1 rfl (by decide) rfl ?_
  refine xw_aload_n (pc := 2) C 0 dX0_valueAt_2 rfl ?_
  refine xw_get (pc := 3) (T := TX0) (N := 7) (ref := "ToneButterflies") C hin 0 1 rfl rfl (by decide) (by decide +kernel) rfl rfl dX0_valueAt_3 ?_
  refine xw_iconst_N (pc := 6) C 1 dX0_valueAt_6 rfl ?_
  refine xw_isub (pc := 7) C dX0_valueAt_7 ?_
  refine xw_istore (pc := 8) (lv' := [(0, .ref h), (1, nV row), (2, nV x), (3, nV 0), (4, iV ((((n : Nat) : Int)) - (((1 : Nat) : Int))))]) C [1, 2, 3, 4, 0] dX0_valueAt_8 (by decide) rfl ?_
  have L10 : ∀ (fuel : Nat) (j acc : Nat) (q : Int), n < j + fuel → j ≤ n → q = (n : Int) - 1 - j → acc = hr p n A row x j → acc < 500 → xw φ 0 0 (wX cI h a n p b w wi ni A) 10 [(0, .ref h), (1, nV row), (2, nV x), (3, nV acc), (4, iV q)] [] := by
    intro fuel
    induction fuel with
    | zero =>
      intro j acc q hj hjn hq hacc hac
      omega
    | succ fuel ih10 =>
      intro j acc q hj hjn hq hacc hac
      refine xw_iload (pc := 10) C 4 dX0_valueAt_10 rfl ?_
      have hn3 := lt3 hn
      refine xw_if_lt (pc := 12) (tgt := 37) C dX0_valueAt_12 (by decide) (by omega) (fun c_1 => ?_) (fun c_1 => ?_)
      ·
        refine xw_iload_n (pc := 37) C 3 dX0_valueAt_37 rfl ?_
        exact xw_iret (pc := 38) C rX (Nat.le_refl _) (Nat.le_refl _) dX0_valueAt_38 (PD.e (by rw [hacc, show j = n by omega]; rfl) rfl)
      ·
        obtain ⟨i, rfl⟩ : ∃ i : Nat, q = (i : Int) := ⟨n - 1 - j, by omega⟩
        have hbA := hA (16 * row + i)
        refine xw_aload_n (pc := 15) C 0 dX0_valueAt_15 rfl ?_
        refine xw_iload_n (pc := 16) C 3 dX0_valueAt_16 rfl ?_
        refine xw_iload_n (pc := 17) C 2 dX0_valueAt_17 rfl ?_
        refine xw_imul_N (pc := 18) C dX0_valueAt_18 ?_
        refine xw_aload_n (pc := 19) C 0 dX0_valueAt_19 rfl ?_
        refine xw_iload_n (pc := 20) C 1 dX0_valueAt_20 rfl ?_
        refine xw_iload (pc := 21) C 4 dX0_valueAt_21 rfl ?_
        refine xw_Vd (pc := 23) (q0 := 0) (na := 2) (rest := [nV (acc * x), .ref h]) (st' := [nV (A (16 * row + i)), nV (acc * x), .ref h]) C (m_X0_read row i (by omega) (by omega)) gX0_valueAt_X0_read rfl rfl rfl rfl (by decide +kernel) ⟨Nat.le_of_ble_eq_true rfl, Nat.le_of_ble_eq_true rfl⟩ rfl rfl rfl (Nat.le_of_ble_eq_true rfl) dX0_valueAt_23 ⟨Nat.le_of_ble_eq_true rfl, Nat.le_of_ble_eq_true rfl⟩ rfl ?_
        refine xw_iadd_N (pc := 26) C dX0_valueAt_26 ?_
        refine xw_Vd (pc := 27) (q0 := 0) (na := 1) (rest := []) (st' := [nV (((acc * x) + (A (16 * row + i))) % p)]) C (m_X0_reduced hp hp5 (((acc * x) + (A (16 * row + i)) : Nat) : Int) (((acc * x) + (A (16 * row + i))) % p) (Int.natCast_emod _ _).symm (rgN (mb hac hx (by omega)))) gX0_valueAt_X0_reduced rfl rfl rfl rfl (by decide +kernel) ⟨Nat.le_of_ble_eq_true rfl, Nat.le_of_ble_eq_true rfl⟩ rfl rfl rfl (Nat.le_of_ble_eq_true rfl) dX0_valueAt_27 ⟨Nat.le_of_ble_eq_true rfl, Nat.le_of_ble_eq_true rfl⟩ rfl ?_
        refine xw_istore_n (pc := 30) (lv' := [(0, .ref h), (1, nV row), (2, nV x), (3, nV (((acc * x) + (A (16 * row + i))) % p)), (4, nV i)]) C [1, 2, 3, 0, 4] dX0_valueAt_30 rfl (by decide) rfl ?_
        refine xw_iinc (pc := 31) (lv' := [(0, .ref h), (1, nV row), (2, nV x), (3, nV (((acc * x) + (A (16 * row + i))) % p)), (4, iV ((((i : Nat) : Int)) + (-1)))]) C 4 [1, 2, 3, 4, 0] dX0_valueAt_31 rfl (by decide) rfl ?_
        refine xw_goto (pc := 34) (tgt := 10) C dX0_valueAt_34 (by decide) ?_
        exact ih10 (j + 1) _ _ (by omega) (by omega) (by omega) (by rw [hr, ← hacc, show n - 1 - j = i by omega]) (ml hp hp5)
  exact L10 (n + 1) 0 0 _ (by omega) (by omega) (by omega) rfl (by omega)

set_option maxHeartbeats 4000000 in
set_option maxRecDepth 100000 in
theorem m_X0_copyRow {l : Launch} {D : va_G} {cI : ClassId} {h a n p b w wi ni : Nat} {A : Nat → Nat} (hn : n = 4 ∨ n = 8 ∨ n = 16) (hA : ∀ j, A j < 500) (f t : Nat) (hf : f < 5) (ht : t < 5) : CT l yX0_copyRow wsX0_copyRow (rmN 1 24) D vwCl [(cI, .int)] [.ref h, nV f, nV t] (wX cI h a n p b w wi ni A) (PD (some (nV (cc (fun j => decide (A (16 * t + j) ≠ A (16 * f + j))) n))) (wX cI h a n p b w wi ni (cp A f t n))) 0 0 := by
  refine ct_of (plainFor_of_name (by decide)) rfl (Nat.le_of_ble_eq_true rfl) (fun φ C rX => ?_)
  have hin : ∀ w ∈ wsX00, w ∈ wsX0_copyRow := by decide +kernel
  refine xw_le (lv' := [(0, .ref h), (1, nV f), (2, nV t)]) rfl ?_
  have hn3 := lt3 hn
  have hcl := cc_le (fun j => decide (A (16 * t + j) ≠ A (16 * f + j)))
  refine xw_iconst_N (pc := 0) C 0 dX0_copyRow_0 rfl ?_
  refine xw_istore_n (pc := 1) (lv' := [(0, .ref h), (1, nV f), (2, nV t), (3, nV 0)]) C [1, 2, 3, 0] dX0_copyRow_1 rfl (by decide) rfl ?_
  refine xw_iconst_N (pc := 2) C 0 dX0_copyRow_2 rfl ?_
  refine xw_istore (pc := 3) (lv' := [(0, .ref h), (1, nV f), (2, nV t), (3, nV 0), (4, nV 0)]) C [1, 2, 3, 4, 0] dX0_copyRow_3 (by decide) rfl ?_
  have L5 : ∀ (fuel : Nat) (k ch : Nat), n < k + fuel → k ≤ n → ch = cc (fun j => decide (A (16 * t + j) ≠ A (16 * f + j))) k → xw φ 0 0 (wX cI h a n p b w wi ni (cp A f t k)) 5 [(0, .ref h), (1, nV f), (2, nV t), (3, nV ch), (4, nV k)] [] := by
    intro fuel
    induction fuel with
    | zero =>
      intro k ch hk hkn hch
      omega
    | succ fuel ih5 =>
      intro k ch hk hkn hch
      refine xw_iload (pc := 5) C 4 dX0_copyRow_5 rfl ?_
      refine xw_aload_n (pc := 7) C 0 dX0_copyRow_7 rfl ?_
      refine xw_get (pc := 8) (T := TX0) (N := 7) (ref := "ToneButterflies") C hin 0 1 rfl rfl (by decide) (by decide +kernel) rfl rfl dX0_copyRow_8 ?_
      have hcl2 := hcl k
      refine xw_icmp_ge_N (pc := 11) (tgt := 53) C dX0_copyRow_11 (by decide) (by omega) (by omega) (fun c_1 => ?_) (fun c_1 => ?_)
      ·
        obtain rfl : k = n := by omega
        refine xw_iload_n (pc := 53) C 3 dX0_copyRow_53 rfl ?_
        exact xw_iret (pc := 54) C rX (Nat.le_refl _) (Nat.le_refl _) dX0_copyRow_54 (PD.e (by rw [hch]) rfl)
      ·
        refine xw_aload_n (pc := 14) C 0 dX0_copyRow_14 rfl ?_
        refine xw_iload_n (pc := 15) C 1 dX0_copyRow_15 rfl ?_
        refine xw_iload (pc := 16) C 4 dX0_copyRow_16 rfl ?_
        refine xw_Vd (pc := 18) (q0 := 0) (na := 2) (rest := []) (st' := [nV ((cp A f t k) (16 * f + k))]) C (m_X0_read f k (by omega) (by omega)) gX0_copyRow_X0_read rfl rfl rfl rfl (by decide +kernel) ⟨Nat.le_of_ble_eq_true rfl, Nat.le_of_ble_eq_true rfl⟩ rfl rfl rfl (Nat.le_of_ble_eq_true rfl) dX0_copyRow_18 ⟨Nat.le_of_ble_eq_true rfl, Nat.le_of_ble_eq_true rfl⟩ rfl ?_
        refine xw_st (st' := [nV (A (16 * f + k))]) (by rw [cp_at (by omega)]) ?_
        have hb1 := hA (16 * f + k)
        refine xw_istore (pc := 21) (lv' := [(0, .ref h), (1, nV f), (2, nV t), (3, nV ch), (4, nV k), (5, nV (A (16 * f + k)))]) C [1, 2, 3, 4, 5, 0] dX0_copyRow_21 (by decide) rfl ?_
        refine xw_aload_n (pc := 23) C 0 dX0_copyRow_23 rfl ?_
        refine xw_iload_n (pc := 24) C 2 dX0_copyRow_24 rfl ?_
        refine xw_iload (pc := 25) C 4 dX0_copyRow_25 rfl ?_
        refine xw_Vd (pc := 27) (q0 := 0) (na := 2) (rest := []) (st' := [nV ((cp A f t k) (16 * t + k))]) C (m_X0_read t k (by omega) (by omega)) gX0_copyRow_X0_read rfl rfl rfl rfl (by decide +kernel) ⟨Nat.le_of_ble_eq_true rfl, Nat.le_of_ble_eq_true rfl⟩ rfl rfl rfl (Nat.le_of_ble_eq_true rfl) dX0_copyRow_27 ⟨Nat.le_of_ble_eq_true rfl, Nat.le_of_ble_eq_true rfl⟩ rfl ?_
        refine xw_st (st' := [nV (A (16 * t + k))]) (by rw [cp_to]) ?_
        have hb2 := hA (16 * t + k)
        refine xw_iload (pc := 30) C 5 dX0_copyRow_30 rfl ?_
        refine xw_icmp_eq_N (pc := 32) (tgt := 38) C dX0_copyRow_32 (by decide) (by omega) (by omega) (fun c_2 => ?_) (fun c_2 => ?_)
        ·
          refine xw_aload_n (pc := 38) C 0 dX0_copyRow_38 rfl ?_
          refine xw_iload_n (pc := 39) C 2 dX0_copyRow_39 rfl ?_
          refine xw_iload (pc := 40) C 4 dX0_copyRow_40 rfl ?_
          refine xw_iload (pc := 42) C 5 dX0_copyRow_42 rfl ?_
          refine xw_Vd (pc := 44) (q0 := 0) (na := 3) (rest := []) (st' := []) C (m_X0_write t k (A (16 * f + k)) (by omega) (by omega)) gX0_copyRow_X0_write rfl rfl rfl rfl (by decide +kernel) ⟨Nat.le_of_ble_eq_true rfl, Nat.le_of_ble_eq_true rfl⟩ rfl rfl rfl (Nat.le_of_ble_eq_true rfl) dX0_copyRow_44 ⟨Nat.le_of_ble_eq_true rfl, Nat.le_of_ble_eq_true rfl⟩ rfl ?_
          refine xw_wo (w' := wX cI h a n p b w wi ni (cp A f t (k + 1))) (by rw [cp_s rfl]) ?_
          refine xw_iinc_N (pc := 47) (b := k + 1) (lv' := [(0, .ref h), (1, nV f), (2, nV t), (3, nV ch), (4, nV (k + 1)), (5, nV (A (16 * f + k)))]) C 4 [1, 2, 3, 4, 0, 5] dX0_copyRow_47 rfl (by decide) rfl rfl ?_
          refine xw_goto (pc := 50) (tgt := 5) C dX0_copyRow_50 (by decide) ?_
          refine xw_lv (lv' := [(0, .ref h), (1, nV f), (2, nV t), (3, nV ch), (4, nV (k + 1))]) [0, 1, 2, 3, 4] rfl ?_
          exact ih5 (k + 1) _ (by omega) (by omega) (by rw [cc_f (decide_eq_false (fun z => z c_2)), ← hch])
        ·
          refine xw_iinc_N (pc := 35) (b := ch + 1) (lv' := [(0, .ref h), (1, nV f), (2, nV t), (3, nV (ch + 1)), (4, nV k), (5, nV (A (16 * f + k)))]) C 3 [1, 2, 3, 0, 4, 5] dX0_copyRow_35 rfl (by decide) rfl rfl ?_
          refine xw_aload_n (pc := 38) C 0 dX0_copyRow_38 rfl ?_
          refine xw_iload_n (pc := 39) C 2 dX0_copyRow_39 rfl ?_
          refine xw_iload (pc := 40) C 4 dX0_copyRow_40 rfl ?_
          refine xw_iload (pc := 42) C 5 dX0_copyRow_42 rfl ?_
          refine xw_Vd (pc := 44) (q0 := 0) (na := 3) (rest := []) (st' := []) C (m_X0_write t k (A (16 * f + k)) (by omega) (by omega)) gX0_copyRow_X0_write rfl rfl rfl rfl (by decide +kernel) ⟨Nat.le_of_ble_eq_true rfl, Nat.le_of_ble_eq_true rfl⟩ rfl rfl rfl (Nat.le_of_ble_eq_true rfl) dX0_copyRow_44 ⟨Nat.le_of_ble_eq_true rfl, Nat.le_of_ble_eq_true rfl⟩ rfl ?_
          refine xw_wo (w' := wX cI h a n p b w wi ni (cp A f t (k + 1))) (by rw [cp_s rfl]) ?_
          refine xw_iinc_N (pc := 47) (b := k + 1) (lv' := [(0, .ref h), (1, nV f), (2, nV t), (3, nV (ch + 1)), (4, nV (k + 1)), (5, nV (A (16 * f + k)))]) C 4 [1, 2, 3, 4, 0, 5] dX0_copyRow_47 rfl (by decide) rfl rfl ?_
          refine xw_goto (pc := 50) (tgt := 5) C dX0_copyRow_50 (by decide) ?_
          refine xw_lv (lv' := [(0, .ref h), (1, nV f), (2, nV t), (3, nV (ch + 1)), (4, nV (k + 1))]) [0, 1, 2, 3, 4] rfl ?_
          exact ih5 (k + 1) _ (by omega) (by omega) (by rw [cc_t (decide_eq_true c_2), ← hch])
  refine xw_wo (w' := wX cI h a n p b w wi ni (cp A f t 0)) (by rw [cp_0]) ?_
  exact L5 (n + 1) 0 0 (by omega) (by omega) rfl

set_option maxHeartbeats 4000000 in
set_option maxRecDepth 100000 in
theorem m_X0_butterfly {l : Launch} {D : va_G} {cI : ClassId} {h a n p b w wi ni : Nat} {A : Nat → Nat} (hp : 0 < p) (hp5 : p < 500) (hA : ∀ j, A j < 500) (row u v t : Nat) (hrw : row < 5) (hu : u < 16) (hv : v < 16) (ht : t < 500) : CT l yX0_butterfly wsX0_butterfly (rmN 2 43) D vwCl [(cI, .int)] [.ref h, nV row, nV u, nV v, nV t] (wX cI h a n p b w wi ni A) (PD (none) (wX cI h a n p b w wi ni (bf p A row u v t))) 0 0 := by
  refine ct_of (plainFor_of_name (by decide)) rfl (Nat.le_of_ble_eq_true rfl) (fun φ C rX => ?_)
  refine xw_le (lv' := [(0, .ref h), (1, nV row), (2, nV u), (3, nV v), (4, nV t)]) rfl ?_
  refine xw_aload_n (pc := 0) C 0 dX0_butterfly_0 rfl ?_
  refine xw_iload_n (pc := 1) C 1 dX0_butterfly_1 rfl ?_
  refine xw_iload_n (pc := 2) C 2 dX0_butterfly_2 rfl ?_
  refine xw_Vd (pc := 3) (q0 := 0) (na := 2) (rest := []) (st' := [nV (A (16 * row + u))]) C (m_X0_read row u (by omega) (by omega)) gX0_butterfly_X0_read rfl rfl rfl rfl (by decide +kernel) ⟨Nat.le_of_ble_eq_true rfl, Nat.le_of_ble_eq_true rfl⟩ rfl rfl rfl (Nat.le_of_ble_eq_true rfl) dX0_butterfly_3 ⟨Nat.le_of_ble_eq_true rfl, Nat.le_of_ble_eq_true rfl⟩ rfl ?_
  have hb1 := hA (16 * row + u)
  refine xw_istore (pc := 6) (lv' := [(0, .ref h), (1, nV row), (2, nV u), (3, nV v), (4, nV t), (5, nV (A (16 * row + u)))]) C [1, 2, 3, 4, 5, 0] dX0_butterfly_6 (by decide) rfl ?_
  refine xw_aload_n (pc := 8) C 0 dX0_butterfly_8 rfl ?_
  refine xw_aload_n (pc := 9) C 0 dX0_butterfly_9 rfl ?_
  refine xw_iload_n (pc := 10) C 1 dX0_butterfly_10 rfl ?_
  refine xw_iload_n (pc := 11) C 3 dX0_butterfly_11 rfl ?_
  refine xw_Vd (pc := 12) (q0 := 0) (na := 2) (rest := [.ref h]) (st' := [nV (A (16 * row + v)), .ref h]) C (m_X0_read row v (by omega) (by omega)) gX0_butterfly_X0_read rfl rfl rfl rfl (by decide +kernel) ⟨Nat.le_of_ble_eq_true rfl, Nat.le_of_ble_eq_true rfl⟩ rfl rfl rfl (Nat.le_of_ble_eq_true rfl) dX0_butterfly_12 ⟨Nat.le_of_ble_eq_true rfl, Nat.le_of_ble_eq_true rfl⟩ rfl ?_
  have hb2 := hA (16 * row + v)
  refine xw_iload (pc := 15) C 4 dX0_butterfly_15 rfl ?_
  refine xw_imul_N (pc := 17) C dX0_butterfly_17 ?_
  refine xw_Vd (pc := 18) (q0 := 0) (na := 1) (rest := []) (st' := [nV (((A (16 * row + v)) * t) % p)]) C (m_X0_reduced hp hp5 (((A (16 * row + v)) * t : Nat) : Int) (((A (16 * row + v)) * t) % p) (Int.natCast_emod _ _).symm (rgN (mb0 hb2 ht))) gX0_butterfly_X0_reduced rfl rfl rfl rfl (by decide +kernel) ⟨Nat.le_of_ble_eq_true rfl, Nat.le_of_ble_eq_true rfl⟩ rfl rfl rfl (Nat.le_of_ble_eq_true rfl) dX0_butterfly_18 ⟨Nat.le_of_ble_eq_true rfl, Nat.le_of_ble_eq_true rfl⟩ rfl ?_
  have hb3 := Nat.mod_lt (A (16 * row + v) * t) hp
  refine xw_istore (pc := 21) (lv' := [(0, .ref h), (1, nV row), (2, nV u), (3, nV v), (4, nV t), (5, nV (A (16 * row + u))), (6, nV (((A (16 * row + v)) * t) % p))]) C [1, 2, 3, 4, 5, 6, 0] dX0_butterfly_21 (by decide) rfl ?_
  refine xw_aload_n (pc := 23) C 0 dX0_butterfly_23 rfl ?_
  refine xw_iload_n (pc := 24) C 1 dX0_butterfly_24 rfl ?_
  refine xw_iload_n (pc := 25) C 2 dX0_butterfly_25 rfl ?_
  refine xw_aload_n (pc := 26) C 0 dX0_butterfly_26 rfl ?_
  refine xw_iload (pc := 27) C 5 dX0_butterfly_27 rfl ?_
  refine xw_iload (pc := 29) C 6 dX0_butterfly_29 rfl ?_
  refine xw_iadd_N (pc := 31) C dX0_butterfly_31 ?_
  refine xw_Vd (pc := 32) (q0 := 0) (na := 1) (rest := [nV u, nV row, .ref h]) (st' := [nV (((A (16 * row + u)) + (((A (16 * row + v)) * t) % p)) % p), nV u, nV row, .ref h]) C (m_X0_reduced hp hp5 (((A (16 * row + u)) + (((A (16 * row + v)) * t) % p) : Nat) : Int) (((A (16 * row + u)) + (((A (16 * row + v)) * t) % p)) % p) (Int.natCast_emod _ _).symm (rgN (by omega))) gX0_butterfly_X0_reduced rfl rfl rfl rfl (by decide +kernel) ⟨Nat.le_of_ble_eq_true rfl, Nat.le_of_ble_eq_true rfl⟩ rfl rfl rfl (Nat.le_of_ble_eq_true rfl) dX0_butterfly_32 ⟨Nat.le_of_ble_eq_true rfl, Nat.le_of_ble_eq_true rfl⟩ rfl ?_
  refine xw_Vd (pc := 35) (q0 := 0) (na := 3) (rest := []) (st' := []) C (m_X0_write row u (((A (16 * row + u)) + (((A (16 * row + v)) * t) % p)) % p) (by omega) (by omega)) gX0_butterfly_X0_write rfl rfl rfl rfl (by decide +kernel) ⟨Nat.le_of_ble_eq_true rfl, Nat.le_of_ble_eq_true rfl⟩ rfl rfl rfl (Nat.le_of_ble_eq_true rfl) dX0_butterfly_35 ⟨Nat.le_of_ble_eq_true rfl, Nat.le_of_ble_eq_true rfl⟩ rfl ?_
  refine xw_aload_n (pc := 38) C 0 dX0_butterfly_38 rfl ?_
  refine xw_iload_n (pc := 39) C 1 dX0_butterfly_39 rfl ?_
  refine xw_iload_n (pc := 40) C 3 dX0_butterfly_40 rfl ?_
  refine xw_aload_n (pc := 41) C 0 dX0_butterfly_41 rfl ?_
  refine xw_iload (pc := 42) C 5 dX0_butterfly_42 rfl ?_
  refine xw_iload (pc := 44) C 6 dX0_butterfly_44 rfl ?_
  refine xw_isub (pc := 46) C dX0_butterfly_46 ?_
  refine xw_Vd (pc := 47) (q0 := 0) (na := 1) (rest := [nV v, nV row, .ref h]) (st' := [nV ((A (16 * row + u) + p - A (16 * row + v) * t % p) % p), nV v, nV row, .ref h]) C (m_X0_reduced hp hp5 ((((A (16 * row + u) : Nat) : Int)) - (((((A (16 * row + v)) * t) % p : Nat) : Int))) ((A (16 * row + u) + p - A (16 * row + v) * t % p) % p) (sub_em (Nat.le_of_lt hb3)) (by omega)) gX0_butterfly_X0_reduced rfl rfl rfl rfl (by decide +kernel) ⟨Nat.le_of_ble_eq_true rfl, Nat.le_of_ble_eq_true rfl⟩ rfl rfl rfl (Nat.le_of_ble_eq_true rfl) dX0_butterfly_47 ⟨Nat.le_of_ble_eq_true rfl, Nat.le_of_ble_eq_true rfl⟩ rfl ?_
  refine xw_Vd (pc := 50) (q0 := 0) (na := 3) (rest := []) (st' := []) C (m_X0_write row v ((A (16 * row + u) + p - A (16 * row + v) * t % p) % p) (by omega) (by omega)) gX0_butterfly_X0_write rfl rfl rfl rfl (by decide +kernel) ⟨Nat.le_of_ble_eq_true rfl, Nat.le_of_ble_eq_true rfl⟩ rfl rfl rfl (Nat.le_of_ble_eq_true rfl) dX0_butterfly_50 ⟨Nat.le_of_ble_eq_true rfl, Nat.le_of_ble_eq_true rfl⟩ rfl ?_
  exact xw_vret (pc := 53) C rX (Nat.le_refl _) (Nat.le_refl _) dX0_butterfly_53 (PD.i)

set_option maxHeartbeats 4000000 in
set_option maxRecDepth 100000 in
theorem m_X0_scratchValues {l : Launch} {D : va_G} {cI : ClassId} {h a n p b w wi ni : Nat} {A : Nat → Nat} (hp : 0 < p) (hp5 : p < 500) (hn : n = 4 ∨ n = 8 ∨ n = 16) (hA : ∀ j, A j < 500) (row base f : Nat) (hrw : row < 4) (hb : base < 500) (hf : f < 500) : CT l yX0_scratchValues wsX0_scratchValues (rmN 3 67) D vwCl [(cI, .int)] [.ref h, nV row, nV base, nV f] (wX cI h a n p b w wi ni A) (PD (none) (wX cI h a n p b w wi ni (sv A (tn p n A row base f) n))) 0 0 := by
  refine ct_of (plainFor_of_name (by decide)) rfl (Nat.le_of_ble_eq_true rfl) (fun φ C rX => ?_)
  have hin : ∀ w ∈ wsX00, w ∈ wsX0_scratchValues := by decide +kernel
  refine xw_le (lv' := [(0, .ref h), (1, nV row), (2, nV base), (3, nV f)]) rfl ?_
  have hn3 := lt3 hn
  refine xw_iconst_N (pc := 0) C 1 dX0_scratchValues_0 rfl ?_
  refine xw_istore (pc := 1) (lv' := [(0, .ref h), (1, nV row), (2, nV base), (3, nV f), (4, nV 1)]) C [1, 2, 3, 4, 0] dX0_scratchValues_1 (by decide) rfl ?_
  refine xw_iconst_N (pc := 3) C 0 dX0_scratchValues_3 rfl ?_
  refine xw_istore (pc := 4) (lv' := [(0, .ref h), (1, nV row), (2, nV base), (3, nV f), (4, nV 1), (5, nV 0)]) C [1, 2, 3, 4, 5, 0] dX0_scratchValues_4 (by decide) rfl ?_
  have L6 : ∀ (fuel : Nat) (k x : Nat), n < k + fuel → k ≤ n → x = pw p base k → x < 500 → xw φ 0 0 (wX cI h a n p b w wi ni (sv A (tn p n A row base f) k)) 6 [(0, .ref h), (1, nV row), (2, nV base), (3, nV f), (4, nV x), (5, nV k)] [] := by
    intro fuel
    induction fuel with
    | zero =>
      intro k x hk hkn hx hx5
      omega
    | succ fuel ih6 =>
      intro k x hk hkn hx hx5
      refine xw_iload (pc := 6) C 5 dX0_scratchValues_6 rfl ?_
      refine xw_aload_n (pc := 8) C 0 dX0_scratchValues_8 rfl ?_
      refine xw_get (pc := 9) (T := TX0) (N := 7) (ref := "ToneButterflies") C hin 0 1 rfl rfl (by decide) (by decide +kernel) rfl rfl dX0_scratchValues_9 ?_
      refine xw_icmp_ge_N (pc := 12) (tgt := 51) C dX0_scratchValues_12 (by decide) (by omega) (by omega) (fun c_1 => ?_) (fun c_1 => ?_)
      ·
        obtain rfl : k = n := by omega
        exact xw_vret (pc := 51) C rX (Nat.le_refl _) (Nat.le_refl _) dX0_scratchValues_51 (PD.i)
      ·
        refine xw_aload_n (pc := 15) C 0 dX0_scratchValues_15 rfl ?_
        refine xw_iconst_N (pc := 16) C 4 dX0_scratchValues_16 rfl ?_
        refine xw_iload (pc := 17) C 5 dX0_scratchValues_17 rfl ?_
        refine xw_aload_n (pc := 19) C 0 dX0_scratchValues_19 rfl ?_
        refine xw_aload_n (pc := 20) C 0 dX0_scratchValues_20 rfl ?_
        refine xw_iload_n (pc := 21) C 1 dX0_scratchValues_21 rfl ?_
        refine xw_iload (pc := 22) C 4 dX0_scratchValues_22 rfl ?_
        refine xw_Vd (pc := 24) (q0 := 0) (na := 2) (rest := [.ref h, nV k, nV 4, .ref h]) (st' := [nV (pv p n (sv A (tn p n A row base f) k) row x), .ref h, nV k, nV 4, .ref h]) C (m_X0_valueAt hp hp5 hn (sv_lt (g := tn p n A row base f) hA (fun j _ => ml hp hp5)) row x (by omega) (by omega)) gX0_scratchValues_X0_valueAt rfl rfl rfl rfl (by decide +kernel) ⟨Nat.le_of_ble_eq_true rfl, Nat.le_of_ble_eq_true rfl⟩ rfl rfl rfl (Nat.le_of_ble_eq_true rfl) dX0_scratchValues_24 ⟨Nat.le_of_ble_eq_true rfl, Nat.le_of_ble_eq_true rfl⟩ rfl ?_
        refine xw_st (st' := [nV (pv p n A row x), .ref h, nV k, nV 4, .ref h]) (by rw [pv_cg (fun k9 hk9 => sv_lo (by omega))]) ?_
        refine xw_iload_n (pc := 27) C 3 dX0_scratchValues_27 rfl ?_
        have hb5 : pv p n A row x < 500 := Nat.lt_trans (pv_lt hp) hp5
        refine xw_imul_N (pc := 28) C dX0_scratchValues_28 ?_
        refine xw_Vd (pc := 29) (q0 := 0) (na := 1) (rest := [nV k, nV 4, .ref h]) (st' := [nV (((pv p n A row x) * f) % p), nV k, nV 4, .ref h]) C (m_X0_reduced hp hp5 (((pv p n A row x) * f : Nat) : Int) (((pv p n A row x) * f) % p) (Int.natCast_emod _ _).symm (rgN (mb0 hb5 hf))) gX0_scratchValues_X0_reduced rfl rfl rfl rfl (by decide +kernel) ⟨Nat.le_of_ble_eq_true rfl, Nat.le_of_ble_eq_true rfl⟩ rfl rfl rfl (Nat.le_of_ble_eq_true rfl) dX0_scratchValues_29 ⟨Nat.le_of_ble_eq_true rfl, Nat.le_of_ble_eq_true rfl⟩ rfl ?_
        refine xw_Vd (pc := 32) (q0 := 0) (na := 3) (rest := []) (st' := []) C (m_X0_write 4 k (((pv p n A row x) * f) % p) (by omega) (by omega)) gX0_scratchValues_X0_write rfl rfl rfl rfl (by decide +kernel) ⟨Nat.le_of_ble_eq_true rfl, Nat.le_of_ble_eq_true rfl⟩ rfl rfl rfl (Nat.le_of_ble_eq_true rfl) dX0_scratchValues_32 ⟨Nat.le_of_ble_eq_true rfl, Nat.le_of_ble_eq_true rfl⟩ rfl ?_
        refine xw_wo (w' := wX cI h a n p b w wi ni (sv A (tn p n A row base f) (k + 1))) (by rw [sv_s (g := tn p n A row base f) (k := k) (by show _ = (pv p n A row (pw p base k) * f) % p; rw [← hx])]) ?_
        refine xw_aload_n (pc := 35) C 0 dX0_scratchValues_35 rfl ?_
        refine xw_iload (pc := 36) C 4 dX0_scratchValues_36 rfl ?_
        refine xw_iload_n (pc := 38) C 2 dX0_scratchValues_38 rfl ?_
        refine xw_imul_N (pc := 39) C dX0_scratchValues_39 ?_
        refine xw_Vd (pc := 40) (q0 := 0) (na := 1) (rest := []) (st' := [nV ((x * base) % p)]) C (m_X0_reduced hp hp5 ((x * base : Nat) : Int) ((x * base) % p) (Int.natCast_emod _ _).symm (rgN (mb0 hx5 hb))) gX0_scratchValues_X0_reduced rfl rfl rfl rfl (by decide +kernel) ⟨Nat.le_of_ble_eq_true rfl, Nat.le_of_ble_eq_true rfl⟩ rfl rfl rfl (Nat.le_of_ble_eq_true rfl) dX0_scratchValues_40 ⟨Nat.le_of_ble_eq_true rfl, Nat.le_of_ble_eq_true rfl⟩ rfl ?_
        refine xw_istore (pc := 43) (lv' := [(0, .ref h), (1, nV row), (2, nV base), (3, nV f), (4, nV ((x * base) % p)), (5, nV k)]) C [1, 2, 3, 4, 0, 5] dX0_scratchValues_43 (by decide) rfl ?_
        refine xw_iinc_N (pc := 45) (b := k + 1) (lv' := [(0, .ref h), (1, nV row), (2, nV base), (3, nV f), (4, nV ((x * base) % p)), (5, nV (k + 1))]) C 5 [1, 2, 3, 4, 5, 0] dX0_scratchValues_45 rfl (by decide) rfl rfl ?_
        refine xw_goto (pc := 48) (tgt := 6) C dX0_scratchValues_48 (by decide) ?_
        exact ih6 (k + 1) _ (by omega) (by omega) (by rw [pw, ← hx]) (ml hp hp5)
  refine xw_wo (w' := wX cI h a n p b w wi ni (sv A (tn p n A row base f) 0)) (by rw [sv_0]) ?_
  exact L6 (n + 1) 0 1 (by omega) (by omega) rfl (by omega)

set_option maxHeartbeats 4000000 in
set_option maxRecDepth 100000 in
theorem m_X0_scratchTones {l : Launch} {D : va_G} {cI : ClassId} {h a n p b w wi ni : Nat} {A : Nat → Nat} (hp : 0 < p) (hp5 : p < 500) (hn : n = 4 ∨ n = 8 ∨ n = 16) (hA : ∀ j, A j < 500) (hw : w < 500) (row : Nat) (hrw : row < 4) : CT l yX0_scratchTones wsX0_scratchTones (rmN 4 92) D vwCl [(cI, .int)] [.ref h, nV row] (wX cI h a n p b w wi ni A) (PD (none) (wX cI h a n p b w wi ni (sv A (tn p n A row w 1) n))) 0 0 := by
  refine ct_of (plainFor_of_name (by decide)) rfl (Nat.le_of_ble_eq_true rfl) (fun φ C rX => ?_)
  have hin : ∀ w ∈ wsX00, w ∈ wsX0_scratchTones := by decide +kernel
  refine xw_le (lv' := [(0, .ref h), (1, nV row)]) rfl ?_
  refine xw_aload_n (pc := 0) C 0 dX0_scratchTones_0 rfl ?_
  refine xw_iload_n (pc := 1) C 1 dX0_scratchTones_1 rfl ?_
  refine xw_aload_n (pc := 2) C 0 dX0_scratchTones_2 rfl ?_
  refine xw_get (pc := 3) (T := TX0) (N := 7) (ref := "ToneButterflies") C hin 0 4 rfl rfl (by decide) (by decide +kernel) rfl rfl dX0_scratchTones_3 ?_
  refine xw_iconst_N (pc := 6) C 1 dX0_scratchTones_6 rfl ?_
  refine xw_Vd (pc := 7) (q0 := 0) (na := 3) (rest := []) (st' := []) C (m_X0_scratchValues hp hp5 hn hA row w 1 (by omega) (by omega) (by omega)) gX0_scratchTones_X0_scratchValues rfl rfl rfl rfl (by decide +kernel) ⟨Nat.le_of_ble_eq_true rfl, Nat.le_of_ble_eq_true rfl⟩ rfl rfl rfl (Nat.le_of_ble_eq_true rfl) dX0_scratchTones_7 ⟨Nat.le_of_ble_eq_true rfl, Nat.le_of_ble_eq_true rfl⟩ rfl ?_
  exact xw_vret (pc := 10) C rX (Nat.le_refl _) (Nat.le_refl _) dX0_scratchTones_10 (PD.i)

set_option maxHeartbeats 4000000 in
set_option maxRecDepth 100000 in
theorem m_X0_scratchTurnedBack {l : Launch} {D : va_G} {cI : ClassId} {h a n p b w wi ni : Nat} {A : Nat → Nat} (hp : 0 < p) (hp5 : p < 500) (hn : n = 4 ∨ n = 8 ∨ n = 16) (hA : ∀ j, A j < 500) (hwi : wi < 500) (hni : ni < 500) (row : Nat) (hrw : row < 4) : CT l yX0_scratchTurnedBack wsX0_scratchTurnedBack (rmN 4 92) D vwCl [(cI, .int)] [.ref h, nV row] (wX cI h a n p b w wi ni A) (PD (none) (wX cI h a n p b w wi ni (sv A (tn p n A row wi ni) n))) 0 0 := by
  refine ct_of (plainFor_of_name (by decide)) rfl (Nat.le_of_ble_eq_true rfl) (fun φ C rX => ?_)
  have hin : ∀ w ∈ wsX00, w ∈ wsX0_scratchTurnedBack := by decide +kernel
  refine xw_le (lv' := [(0, .ref h), (1, nV row)]) rfl ?_
  refine xw_aload_n (pc := 0) C 0 dX0_scratchTurnedBack_0 rfl ?_
  refine xw_iload_n (pc := 1) C 1 dX0_scratchTurnedBack_1 rfl ?_
  refine xw_aload_n (pc := 2) C 0 dX0_scratchTurnedBack_2 rfl ?_
  refine xw_get (pc := 3) (T := TX0) (N := 7) (ref := "ToneButterflies") C hin 0 5 rfl rfl (by decide) (by decide +kernel) rfl rfl dX0_scratchTurnedBack_3 ?_
  refine xw_aload_n (pc := 6) C 0 dX0_scratchTurnedBack_6 rfl ?_
  refine xw_get (pc := 7) (T := TX0) (N := 7) (ref := "ToneButterflies") C hin 0 6 rfl rfl (by decide) (by decide +kernel) rfl rfl dX0_scratchTurnedBack_7 ?_
  refine xw_Vd (pc := 10) (q0 := 0) (na := 3) (rest := []) (st' := []) C (m_X0_scratchValues hp hp5 hn hA row wi ni (by omega) (by omega) (by omega)) gX0_scratchTurnedBack_X0_scratchValues rfl rfl rfl rfl (by decide +kernel) ⟨Nat.le_of_ble_eq_true rfl, Nat.le_of_ble_eq_true rfl⟩ rfl rfl rfl (Nat.le_of_ble_eq_true rfl) dX0_scratchTurnedBack_10 ⟨Nat.le_of_ble_eq_true rfl, Nat.le_of_ble_eq_true rfl⟩ rfl ?_
  exact xw_vret (pc := 13) C rX (Nat.le_refl _) (Nat.le_refl _) dX0_scratchTurnedBack_13 (PD.i)

set_option maxHeartbeats 4000000 in
set_option maxRecDepth 100000 in
theorem m_X0_foldedAt {l : Launch} {D : va_G} {cI : ClassId} {h a n p b w wi ni : Nat} {A : Nat → Nat} (hp : 0 < p) (hp5 : p < 500) (hn : n = 4 ∨ n = 8 ∨ n = 16) (hA : ∀ j, A j < 500) (ra rb q : Nat) (hra : ra < 5) (hrb : rb < 5) (hq : q < n) : CT l yX0_foldedAt wsX0_foldedAt (rmN 2 43) D vwCl [(cI, .int)] [.ref h, nV ra, nV rb, nV q] (wX cI h a n p b w wi ni A) (PD (some (nV (fo p n A ra rb q n))) (wX cI h a n p b w wi ni A)) 0 0 := by
  refine ct_of (plainFor_of_name (by decide)) rfl (Nat.le_of_ble_eq_true rfl) (fun φ C rX => ?_)
  have hin : ∀ w ∈ wsX00, w ∈ wsX0_foldedAt := by decide +kernel
  refine xw_le (lv' := [(0, .ref h), (1, nV ra), (2, nV rb), (3, nV q)]) rfl ?_
  have hn3 := lt3 hn
  refine xw_iconst_N (pc := 0) C 0 dX0_foldedAt_0 rfl ?_
  refine xw_istore (pc := 1) (lv' := [(0, .ref h), (1, nV ra), (2, nV rb), (3, nV q), (4, nV 0)]) C [1, 2, 3, 4, 0] dX0_foldedAt_1 (by decide) rfl ?_
  refine xw_iconst_N (pc := 3) C 0 dX0_foldedAt_3 rfl ?_
  refine xw_istore (pc := 4) (lv' := [(0, .ref h), (1, nV ra), (2, nV rb), (3, nV q), (4, nV 0), (5, nV 0)]) C [1, 2, 3, 4, 5, 0] dX0_foldedAt_4 (by decide) rfl ?_
  have L6 : ∀ (fuel : Nat) (k acc : Nat), n < k + fuel → k ≤ n → acc = fo p n A ra rb q k → acc < 500 → xw φ 0 0 (wX cI h a n p b w wi ni A) 6 [(0, .ref h), (1, nV ra), (2, nV rb), (3, nV q), (4, nV acc), (5, nV k)] [] := by
    intro fuel
    induction fuel with
    | zero =>
      intro k acc hk hkn hacc hac
      omega
    | succ fuel ih6 =>
      intro k acc hk hkn hacc hac
      refine xw_iload (pc := 6) C 5 dX0_foldedAt_6 rfl ?_
      refine xw_aload_n (pc := 8) C 0 dX0_foldedAt_8 rfl ?_
      refine xw_get (pc := 9) (T := TX0) (N := 7) (ref := "ToneButterflies") C hin 0 1 rfl rfl (by decide) (by decide +kernel) rfl rfl dX0_foldedAt_9 ?_
      refine xw_icmp_ge_N (pc := 12) (tgt := 51) C dX0_foldedAt_12 (by decide) (by omega) (by omega) (fun c_1 => ?_) (fun c_1 => ?_)
      ·
        obtain rfl : k = n := by omega
        refine xw_iload (pc := 51) C 4 dX0_foldedAt_51 rfl ?_
        exact xw_iret (pc := 53) C rX (Nat.le_refl _) (Nat.le_refl _) dX0_foldedAt_53 (PD.e (by rw [hacc]) rfl)
      ·
        have hm1 := Nat.mod_lt (q + n - k) (show n > 0 by omega)
        have hb1 := hA (16 * ra + k)
        have hb2 := hA (16 * rb + (q + n - k) % n)
        refine xw_aload_n (pc := 15) C 0 dX0_foldedAt_15 rfl ?_
        refine xw_iload (pc := 16) C 4 dX0_foldedAt_16 rfl ?_
        refine xw_aload_n (pc := 18) C 0 dX0_foldedAt_18 rfl ?_
        refine xw_iload_n (pc := 19) C 1 dX0_foldedAt_19 rfl ?_
        refine xw_iload (pc := 20) C 5 dX0_foldedAt_20 rfl ?_
        refine xw_Vd (pc := 22) (q0 := 0) (na := 2) (rest := [nV acc, .ref h]) (st' := [nV (A (16 * ra + k)), nV acc, .ref h]) C (m_X0_read ra k (by omega) (by omega)) gX0_foldedAt_X0_read rfl rfl rfl rfl (by decide +kernel) ⟨Nat.le_of_ble_eq_true rfl, Nat.le_of_ble_eq_true rfl⟩ rfl rfl rfl (Nat.le_of_ble_eq_true rfl) dX0_foldedAt_22 ⟨Nat.le_of_ble_eq_true rfl, Nat.le_of_ble_eq_true rfl⟩ rfl ?_
        refine xw_aload_n (pc := 25) C 0 dX0_foldedAt_25 rfl ?_
        refine xw_iload_n (pc := 26) C 2 dX0_foldedAt_26 rfl ?_
        refine xw_aload_n (pc := 27) C 0 dX0_foldedAt_27 rfl ?_
        refine xw_iload_n (pc := 28) C 3 dX0_foldedAt_28 rfl ?_
        refine xw_iload (pc := 29) C 5 dX0_foldedAt_29 rfl ?_
        refine xw_isub (pc := 31) C dX0_foldedAt_31 ?_
        refine xw_Vd (pc := 32) (q0 := 0) (na := 1) (rest := [nV rb, .ref h, nV (A (16 * ra + k)), nV acc, .ref h]) (st' := [nV ((q + n - k) % n), nV rb, .ref h, nV (A (16 * ra + k)), nV acc, .ref h]) C (m_X0_wrapped hn ((((q : Nat) : Int)) - (((k : Nat) : Int))) ((q + n - k) % n) (sub_em hkn)) gX0_foldedAt_X0_wrapped rfl rfl rfl rfl (by decide +kernel) ⟨Nat.le_of_ble_eq_true rfl, Nat.le_of_ble_eq_true rfl⟩ rfl rfl rfl (Nat.le_of_ble_eq_true rfl) dX0_foldedAt_32 ⟨Nat.le_of_ble_eq_true rfl, Nat.le_of_ble_eq_true rfl⟩ rfl ?_
        refine xw_Vd (pc := 35) (q0 := 0) (na := 2) (rest := [nV (A (16 * ra + k)), nV acc, .ref h]) (st' := [nV (A (16 * rb + ((q + n - k) % n))), nV (A (16 * ra + k)), nV acc, .ref h]) C (m_X0_read rb ((q + n - k) % n) (by omega) (by omega)) gX0_foldedAt_X0_read rfl rfl rfl rfl (by decide +kernel) ⟨Nat.le_of_ble_eq_true rfl, Nat.le_of_ble_eq_true rfl⟩ rfl rfl rfl (Nat.le_of_ble_eq_true rfl) dX0_foldedAt_35 ⟨Nat.le_of_ble_eq_true rfl, Nat.le_of_ble_eq_true rfl⟩ rfl ?_
        refine xw_imul_N (pc := 38) C dX0_foldedAt_38 ?_
        refine xw_iadd_N (pc := 39) C dX0_foldedAt_39 ?_
        refine xw_Vd (pc := 40) (q0 := 0) (na := 1) (rest := []) (st' := [nV ((acc + ((A (16 * ra + k)) * (A (16 * rb + ((q + n - k) % n))))) % p)]) C (m_X0_reduced hp hp5 ((acc + ((A (16 * ra + k)) * (A (16 * rb + ((q + n - k) % n)))) : Nat) : Int) ((acc + ((A (16 * ra + k)) * (A (16 * rb + ((q + n - k) % n))))) % p) (Int.natCast_emod _ _).symm (rgN (mb' hb1 hb2 (by omega)))) gX0_foldedAt_X0_reduced rfl rfl rfl rfl (by decide +kernel) ⟨Nat.le_of_ble_eq_true rfl, Nat.le_of_ble_eq_true rfl⟩ rfl rfl rfl (Nat.le_of_ble_eq_true rfl) dX0_foldedAt_40 ⟨Nat.le_of_ble_eq_true rfl, Nat.le_of_ble_eq_true rfl⟩ rfl ?_
        refine xw_istore (pc := 43) (lv' := [(0, .ref h), (1, nV ra), (2, nV rb), (3, nV q), (4, nV ((acc + ((A (16 * ra + k)) * (A (16 * rb + ((q + n - k) % n))))) % p)), (5, nV k)]) C [1, 2, 3, 4, 0, 5] dX0_foldedAt_43 (by decide) rfl ?_
        refine xw_iinc_N (pc := 45) (b := k + 1) (lv' := [(0, .ref h), (1, nV ra), (2, nV rb), (3, nV q), (4, nV ((acc + ((A (16 * ra + k)) * (A (16 * rb + ((q + n - k) % n))))) % p)), (5, nV (k + 1))]) C 5 [1, 2, 3, 4, 5, 0] dX0_foldedAt_45 rfl (by decide) rfl rfl ?_
        refine xw_goto (pc := 48) (tgt := 6) C dX0_foldedAt_48 (by decide) ?_
        exact ih6 (k + 1) _ (by omega) (by omega) (by rw [fo, ← hacc]) (ml hp hp5)
  exact L6 (n + 1) 0 0 (by omega) (by omega) rfl (by omega)

set_option maxHeartbeats 4000000 in
set_option maxRecDepth 100000 in
theorem m_X0_isWhenMoved {l : Launch} {D : va_G} {cI : ClassId} {h a n p b w wi ni : Nat} {A : Nat → Nat} (hn : n = 4 ∨ n = 8 ∨ n = 16) (hA : ∀ j, A j < 500) (ra q rb : Nat) (hra : ra < 5) (hrb : rb < 5) (hq : q < 16) : CT l yX0_isWhenMoved wsX0_isWhenMoved (rmN 1 23) D vwCl [(cI, .int)] [.ref h, nV ra, nV q, nV rb] (wX cI h a n p b w wi ni A) (PD (some (bV (im n A ra rb q))) (wX cI h a n p b w wi ni A)) 0 0 := by
  refine ct_of (plainFor_of_name (by decide)) rfl (Nat.le_of_ble_eq_true rfl) (fun φ C rX => ?_)
  have hin : ∀ w ∈ wsX00, w ∈ wsX0_isWhenMoved := by decide +kernel
  refine xw_le (lv' := [(0, .ref h), (1, nV ra), (2, nV q), (3, nV rb)]) rfl ?_
  have hn3 := lt3 hn
  refine xw_iconst_N (pc := 0) C 0 dX0_isWhenMoved_0 rfl ?_
  refine xw_istore (pc := 1) (lv' := [(0, .ref h), (1, nV ra), (2, nV q), (3, nV rb), (4, nV 0)]) C [1, 2, 3, 4, 0] dX0_isWhenMoved_1 (by decide) rfl ?_
  have L3 : ∀ (fuel : Nat) (k : Nat), n < k + fuel → k ≤ n → (∀ j, j < k → A (16 * ra + j) = A (16 * rb + (j + q) % n)) → xw φ 0 0 (wX cI h a n p b w wi ni A) 3 [(0, .ref h), (1, nV ra), (2, nV q), (3, nV rb), (4, nV k)] [] := by
    intro fuel
    induction fuel with
    | zero =>
      intro k hk hkn hall
      omega
    | succ fuel ih3 =>
      intro k hk hkn hall
      refine xw_iload (pc := 3) C 4 dX0_isWhenMoved_3 rfl ?_
      refine xw_aload_n (pc := 5) C 0 dX0_isWhenMoved_5 rfl ?_
      refine xw_get (pc := 6) (T := TX0) (N := 7) (ref := "ToneButterflies") C hin 0 1 rfl rfl (by decide) (by decide +kernel) rfl rfl dX0_isWhenMoved_6 ?_
      refine xw_icmp_ge_N (pc := 9) (tgt := 43) C dX0_isWhenMoved_9 (by decide) (by omega) (by omega) (fun c_1 => ?_) (fun c_1 => ?_)
      ·
        obtain rfl : k = n := by omega
        refine xw_iconst_N (pc := 43) C 1 dX0_isWhenMoved_43 rfl ?_
        refine xw_st (st' := [bV true]) rfl ?_
        exact xw_bret (pc := 44) C rX (Nat.le_refl _) (Nat.le_refl _) dX0_isWhenMoved_44 (PD.e (by rw [im_t hall]) rfl)
      ·
        have hm1 := Nat.mod_lt (k + q) (show n > 0 by omega)
        have hb1 := hA (16 * ra + k)
        have hb2 := hA (16 * rb + (k + q) % n)
        refine xw_aload_n (pc := 12) C 0 dX0_isWhenMoved_12 rfl ?_
        refine xw_iload_n (pc := 13) C 3 dX0_isWhenMoved_13 rfl ?_
        refine xw_aload_n (pc := 14) C 0 dX0_isWhenMoved_14 rfl ?_
        refine xw_iload (pc := 15) C 4 dX0_isWhenMoved_15 rfl ?_
        refine xw_iload_n (pc := 17) C 2 dX0_isWhenMoved_17 rfl ?_
        refine xw_iadd_N (pc := 18) C dX0_isWhenMoved_18 ?_
        refine xw_Vd (pc := 19) (q0 := 0) (na := 1) (rest := [nV rb, .ref h]) (st' := [nV ((k + q) % n), nV rb, .ref h]) C (m_X0_wrapped hn (((k + q : Nat) : Int)) ((k + q) % n) ((Int.natCast_emod _ _).symm)) gX0_isWhenMoved_X0_wrapped rfl rfl rfl rfl (by decide +kernel) ⟨Nat.le_of_ble_eq_true rfl, Nat.le_of_ble_eq_true rfl⟩ rfl rfl rfl (Nat.le_of_ble_eq_true rfl) dX0_isWhenMoved_19 ⟨Nat.le_of_ble_eq_true rfl, Nat.le_of_ble_eq_true rfl⟩ rfl ?_
        refine xw_Vd (pc := 22) (q0 := 0) (na := 2) (rest := []) (st' := [nV (A (16 * rb + ((k + q) % n)))]) C (m_X0_read rb ((k + q) % n) (by omega) (by omega)) gX0_isWhenMoved_X0_read rfl rfl rfl rfl (by decide +kernel) ⟨Nat.le_of_ble_eq_true rfl, Nat.le_of_ble_eq_true rfl⟩ rfl rfl rfl (Nat.le_of_ble_eq_true rfl) dX0_isWhenMoved_22 ⟨Nat.le_of_ble_eq_true rfl, Nat.le_of_ble_eq_true rfl⟩ rfl ?_
        refine xw_aload_n (pc := 25) C 0 dX0_isWhenMoved_25 rfl ?_
        refine xw_iload_n (pc := 26) C 1 dX0_isWhenMoved_26 rfl ?_
        refine xw_iload (pc := 27) C 4 dX0_isWhenMoved_27 rfl ?_
        refine xw_Vd (pc := 29) (q0 := 0) (na := 2) (rest := [nV (A (16 * rb + ((k + q) % n)))]) (st' := [nV (A (16 * ra + k)), nV (A (16 * rb + ((k + q) % n)))]) C (m_X0_read ra k (by omega) (by omega)) gX0_isWhenMoved_X0_read rfl rfl rfl rfl (by decide +kernel) ⟨Nat.le_of_ble_eq_true rfl, Nat.le_of_ble_eq_true rfl⟩ rfl rfl rfl (Nat.le_of_ble_eq_true rfl) dX0_isWhenMoved_29 ⟨Nat.le_of_ble_eq_true rfl, Nat.le_of_ble_eq_true rfl⟩ rfl ?_
        refine xw_icmp_eq_N (pc := 32) (tgt := 37) C dX0_isWhenMoved_32 (by decide) (by omega) (by omega) (fun c_2 => ?_) (fun c_2 => ?_)
        ·
          refine xw_iinc_N (pc := 37) (b := k + 1) (lv' := [(0, .ref h), (1, nV ra), (2, nV q), (3, nV rb), (4, nV (k + 1))]) C 4 [1, 2, 3, 4, 0] dX0_isWhenMoved_37 rfl (by decide) rfl rfl ?_
          refine xw_goto (pc := 40) (tgt := 3) C dX0_isWhenMoved_40 (by decide) ?_
          exact ih3 (k + 1) (by omega) (by omega) (fun j hj => by rcases Nat.lt_or_ge j k with z | z; exact hall j z; rw [show j = k by omega]; exact c_2.symm)
        ·
          refine xw_iconst_N (pc := 35) C 0 dX0_isWhenMoved_35 rfl ?_
          refine xw_st (st' := [bV false]) rfl ?_
          exact xw_bret (pc := 36) C rX (Nat.le_refl _) (Nat.le_refl _) dX0_isWhenMoved_36 (PD.e (by rw [im_f (show k < n by omega) (fun z => c_2 z.symm)]) rfl)
  exact L3 (n + 1) 0 (by omega) (by omega) (fun j hj => absurd hj (Nat.not_lt_zero j))

set_option maxHeartbeats 4000000 in
set_option maxRecDepth 100000 in
theorem m_X0_plainSum {l : Launch} {D : va_G} {cI : ClassId} {h a n p b w wi ni : Nat} {A : Nat → Nat} (hn : n = 4 ∨ n = 8 ∨ n = 16) (hA : ∀ j, A j < 500) (row : Nat) (hrw : row < 5) : CT l yX0_plainSum wsX0_plainSum (rmN 1 23) D vwCl [(cI, .int)] [.ref h, nV row] (wX cI h a n p b w wi ni A) (PD (some (nV (sm A row n))) (wX cI h a n p b w wi ni A)) 0 0 := by
  refine ct_of (plainFor_of_name (by decide)) rfl (Nat.le_of_ble_eq_true rfl) (fun φ C rX => ?_)
  have hin : ∀ w ∈ wsX00, w ∈ wsX0_plainSum := by decide +kernel
  refine xw_le (lv' := [(0, .ref h), (1, nV row)]) rfl ?_
  have hn3 := lt3 hn
  refine xw_iconst_N (pc := 0) C 0 dX0_plainSum_0 rfl ?_
  refine xw_istore_n (pc := 1) (lv' := [(0, .ref h), (1, nV row), (2, nV 0)]) C [1, 2, 0] dX0_plainSum_1 rfl (by decide) rfl ?_
  refine xw_iconst_N (pc := 2) C 0 dX0_plainSum_2 rfl ?_
  refine xw_istore_n (pc := 3) (lv' := [(0, .ref h), (1, nV row), (2, nV 0), (3, nV 0)]) C [1, 2, 3, 0] dX0_plainSum_3 rfl (by decide) rfl ?_
  have L4 : ∀ (fuel : Nat) (k acc : Nat), n < k + fuel → k ≤ n → acc = sm A row k → xw φ 0 0 (wX cI h a n p b w wi ni A) 4 [(0, .ref h), (1, nV row), (2, nV acc), (3, nV k)] [] := by
    intro fuel
    induction fuel with
    | zero =>
      intro k acc hk hkn hacc
      omega
    | succ fuel ih4 =>
      intro k acc hk hkn hacc
      refine xw_iload_n (pc := 4) C 3 dX0_plainSum_4 rfl ?_
      refine xw_aload_n (pc := 5) C 0 dX0_plainSum_5 rfl ?_
      refine xw_get (pc := 6) (T := TX0) (N := 7) (ref := "ToneButterflies") C hin 0 1 rfl rfl (by decide) (by decide +kernel) rfl rfl dX0_plainSum_6 ?_
      refine xw_icmp_ge_N (pc := 9) (tgt := 27) C dX0_plainSum_9 (by decide) (by omega) (by omega) (fun c_1 => ?_) (fun c_1 => ?_)
      ·
        obtain rfl : k = n := by omega
        refine xw_iload_n (pc := 27) C 2 dX0_plainSum_27 rfl ?_
        exact xw_iret (pc := 28) C rX (Nat.le_refl _) (Nat.le_refl _) dX0_plainSum_28 (PD.e (by rw [hacc]) rfl)
      ·
        refine xw_iload_n (pc := 12) C 2 dX0_plainSum_12 rfl ?_
        refine xw_aload_n (pc := 13) C 0 dX0_plainSum_13 rfl ?_
        refine xw_iload_n (pc := 14) C 1 dX0_plainSum_14 rfl ?_
        refine xw_iload_n (pc := 15) C 3 dX0_plainSum_15 rfl ?_
        refine xw_Vd (pc := 16) (q0 := 0) (na := 2) (rest := [nV acc]) (st' := [nV (A (16 * row + k)), nV acc]) C (m_X0_read row k (by omega) (by omega)) gX0_plainSum_X0_read rfl rfl rfl rfl (by decide +kernel) ⟨Nat.le_of_ble_eq_true rfl, Nat.le_of_ble_eq_true rfl⟩ rfl rfl rfl (Nat.le_of_ble_eq_true rfl) dX0_plainSum_16 ⟨Nat.le_of_ble_eq_true rfl, Nat.le_of_ble_eq_true rfl⟩ rfl ?_
        refine xw_iadd_N (pc := 19) C dX0_plainSum_19 ?_
        refine xw_istore_n (pc := 20) (lv' := [(0, .ref h), (1, nV row), (2, nV (acc + (A (16 * row + k)))), (3, nV k)]) C [1, 2, 0, 3] dX0_plainSum_20 rfl (by decide) rfl ?_
        refine xw_iinc_N (pc := 21) (b := k + 1) (lv' := [(0, .ref h), (1, nV row), (2, nV (acc + (A (16 * row + k)))), (3, nV (k + 1))]) C 3 [1, 2, 3, 0] dX0_plainSum_21 rfl (by decide) rfl rfl ?_
        refine xw_goto (pc := 24) (tgt := 4) C dX0_plainSum_24 (by decide) ?_
        exact ih4 (k + 1) _ (by omega) (by omega) (by rw [sm, ← hacc])
  exact L4 (n + 1) 0 0 (by omega) (by omega) rfl

set_option maxHeartbeats 4000000 in
set_option maxRecDepth 100000 in
theorem m_X0_nonZeros {l : Launch} {D : va_G} {cI : ClassId} {h a n p b w wi ni : Nat} {A : Nat → Nat} (hn : n = 4 ∨ n = 8 ∨ n = 16) (hA : ∀ j, A j < 500) (row : Nat) (hrw : row < 5) : CT l yX0_nonZeros wsX0_nonZeros (rmN 1 23) D vwCl [(cI, .int)] [.ref h, nV row] (wX cI h a n p b w wi ni A) (PD (some (nV (cc (fun k => decide (A (16 * row + k) ≠ 0)) n))) (wX cI h a n p b w wi ni A)) 0 0 := by
  refine ct_of (plainFor_of_name (by decide)) rfl (Nat.le_of_ble_eq_true rfl) (fun φ C rX => ?_)
  have hin : ∀ w ∈ wsX00, w ∈ wsX0_nonZeros := by decide +kernel
  refine xw_le (lv' := [(0, .ref h), (1, nV row)]) rfl ?_
  have hn3 := lt3 hn
  have hcl := cc_le (fun k => decide (A (16 * row + k) ≠ 0))
  refine xw_iconst_N (pc := 0) C 0 dX0_nonZeros_0 rfl ?_
  refine xw_istore_n (pc := 1) (lv' := [(0, .ref h), (1, nV row), (2, nV 0)]) C [1, 2, 0] dX0_nonZeros_1 rfl (by decide) rfl ?_
  refine xw_iconst_N (pc := 2) C 0 dX0_nonZeros_2 rfl ?_
  refine xw_istore_n (pc := 3) (lv' := [(0, .ref h), (1, nV row), (2, nV 0), (3, nV 0)]) C [1, 2, 3, 0] dX0_nonZeros_3 rfl (by decide) rfl ?_
  have L4 : ∀ (fuel : Nat) (k ch : Nat), n < k + fuel → k ≤ n → ch = cc (fun k => decide (A (16 * row + k) ≠ 0)) k → xw φ 0 0 (wX cI h a n p b w wi ni A) 4 [(0, .ref h), (1, nV row), (2, nV ch), (3, nV k)] [] := by
    intro fuel
    induction fuel with
    | zero =>
      intro k ch hk hkn hch
      omega
    | succ fuel ih4 =>
      intro k ch hk hkn hch
      refine xw_iload_n (pc := 4) C 3 dX0_nonZeros_4 rfl ?_
      refine xw_aload_n (pc := 5) C 0 dX0_nonZeros_5 rfl ?_
      refine xw_get (pc := 6) (T := TX0) (N := 7) (ref := "ToneButterflies") C hin 0 1 rfl rfl (by decide) (by decide +kernel) rfl rfl dX0_nonZeros_6 ?_
      refine xw_icmp_ge_N (pc := 9) (tgt := 30) C dX0_nonZeros_9 (by decide) (by omega) (by omega) (fun c_1 => ?_) (fun c_1 => ?_)
      ·
        obtain rfl : k = n := by omega
        refine xw_iload_n (pc := 30) C 2 dX0_nonZeros_30 rfl ?_
        exact xw_iret (pc := 31) C rX (Nat.le_refl _) (Nat.le_refl _) dX0_nonZeros_31 (PD.e (by rw [hch]) rfl)
      ·
        refine xw_aload_n (pc := 12) C 0 dX0_nonZeros_12 rfl ?_
        refine xw_iload_n (pc := 13) C 1 dX0_nonZeros_13 rfl ?_
        refine xw_iload_n (pc := 14) C 3 dX0_nonZeros_14 rfl ?_
        refine xw_Vd (pc := 15) (q0 := 0) (na := 2) (rest := []) (st' := [nV (A (16 * row + k))]) C (m_X0_read row k (by omega) (by omega)) gX0_nonZeros_X0_read rfl rfl rfl rfl (by decide +kernel) ⟨Nat.le_of_ble_eq_true rfl, Nat.le_of_ble_eq_true rfl⟩ rfl rfl rfl (Nat.le_of_ble_eq_true rfl) dX0_nonZeros_15 ⟨Nat.le_of_ble_eq_true rfl, Nat.le_of_ble_eq_true rfl⟩ rfl ?_
        have hb1 := hA (16 * row + k)
        have hcl2 := hcl k
        refine xw_if_eq_N (pc := 18) (tgt := 24) C dX0_nonZeros_18 (by decide) (by omega) (fun c_2 => ?_) (fun c_2 => ?_)
        ·
          refine xw_iinc_N (pc := 24) (b := k + 1) (lv' := [(0, .ref h), (1, nV row), (2, nV ch), (3, nV (k + 1))]) C 3 [1, 2, 3, 0] dX0_nonZeros_24 rfl (by decide) rfl rfl ?_
          refine xw_goto (pc := 27) (tgt := 4) C dX0_nonZeros_27 (by decide) ?_
          exact ih4 (k + 1) _ (by omega) (by omega) (by rw [cc_f (decide_eq_false (fun z => z c_2)), ← hch])
        ·
          refine xw_iinc_N (pc := 21) (b := ch + 1) (lv' := [(0, .ref h), (1, nV row), (2, nV (ch + 1)), (3, nV k)]) C 2 [1, 2, 0, 3] dX0_nonZeros_21 rfl (by decide) rfl rfl ?_
          refine xw_iinc_N (pc := 24) (b := k + 1) (lv' := [(0, .ref h), (1, nV row), (2, nV (ch + 1)), (3, nV (k + 1))]) C 3 [1, 2, 3, 0] dX0_nonZeros_24 rfl (by decide) rfl rfl ?_
          refine xw_goto (pc := 27) (tgt := 4) C dX0_nonZeros_27 (by decide) ?_
          exact ih4 (k + 1) _ (by omega) (by omega) (by rw [cc_t (decide_eq_true c_2), ← hch])
  exact L4 (n + 1) 0 0 (by omega) (by omega) rfl

set_option maxHeartbeats 4000000 in
set_option maxRecDepth 100000 in
theorem m_X0_lastNonZero {l : Launch} {D : va_G} {cI : ClassId} {h a n p b w wi ni : Nat} {A : Nat → Nat} (hn : n = 4 ∨ n = 8 ∨ n = 16) (hA : ∀ j, A j < 500) (row : Nat) (hrw : row < 5) : CT l yX0_lastNonZero wsX0_lastNonZero (rmN 1 23) D vwCl [(cI, .int)] [.ref h, nV row] (wX cI h a n p b w wi ni A) (PD (some (iV (ln A row n))) (wX cI h a n p b w wi ni A)) 0 0 := by
  refine ct_of (plainFor_of_name (by decide)) rfl (Nat.le_of_ble_eq_true rfl) (fun φ C rX => ?_)
  have hin : ∀ w ∈ wsX00, w ∈ wsX0_lastNonZero := by decide +kernel
  refine xw_le (lv' := [(0, .ref h), (1, nV row)]) rfl ?_
  have hn3 := lt3 hn
  refine xw_aload_n (pc := 0) C 0 dX0_lastNonZero_0 rfl ?_
  refine xw_get (pc := 1) (T := TX0) (N := 7) (ref := "ToneButterflies") C hin 0 1 rfl rfl (by decide) (by decide +kernel) rfl rfl dX0_lastNonZero_1 ?_
  refine xw_iconst_N (pc := 4) C 1 dX0_lastNonZero_4 rfl ?_
  refine xw_isub (pc := 5) C dX0_lastNonZero_5 ?_
  refine xw_istore_n (pc := 6) (lv' := [(0, .ref h), (1, nV row), (2, iV ((((n : Nat) : Int)) - (((1 : Nat) : Int))))]) C [1, 2, 0] dX0_lastNonZero_6 rfl (by decide) rfl ?_
  have L7 : ∀ (fuel : Nat) (j : Nat) (q : Int), j < fuel → j ≤ n → q = (j : Int) - 1 → ln A row n = ln A row j → xw φ 0 0 (wX cI h a n p b w wi ni A) 7 [(0, .ref h), (1, nV row), (2, iV q)] [] := by
    intro fuel
    induction fuel with
    | zero =>
      intro j q hk hjn hq hln
      omega
    | succ fuel ih7 =>
      intro j q hk hjn hq hln
      refine xw_iload_n (pc := 7) C 2 dX0_lastNonZero_7 rfl ?_
      refine xw_if_lt (pc := 8) (tgt := 28) C dX0_lastNonZero_8 (by decide) (by omega) (fun c_1 => ?_) (fun c_1 => ?_)
      ·
        obtain rfl : j = 0 := by omega
        refine xw_iconst (pc := 28) C dX0_lastNonZero_28 ?_
        exact xw_iret (pc := 29) C rX (Nat.le_refl _) (Nat.le_refl _) dX0_lastNonZero_29 (PD.e (by rw [hln]; rfl) rfl)
      ·
        obtain ⟨i, rfl⟩ : ∃ i : Nat, j = i + 1 := ⟨j - 1, by omega⟩
        obtain rfl : q = (i : Int) := by omega
        have hb1 := hA (16 * row + i)
        refine xw_aload_n (pc := 11) C 0 dX0_lastNonZero_11 rfl ?_
        refine xw_iload_n (pc := 12) C 1 dX0_lastNonZero_12 rfl ?_
        refine xw_iload_n (pc := 13) C 2 dX0_lastNonZero_13 rfl ?_
        refine xw_Vd (pc := 14) (q0 := 0) (na := 2) (rest := []) (st' := [nV (A (16 * row + i))]) C (m_X0_read row i (by omega) (by omega)) gX0_lastNonZero_X0_read rfl rfl rfl rfl (by decide +kernel) ⟨Nat.le_of_ble_eq_true rfl, Nat.le_of_ble_eq_true rfl⟩ rfl rfl rfl (Nat.le_of_ble_eq_true rfl) dX0_lastNonZero_14 ⟨Nat.le_of_ble_eq_true rfl, Nat.le_of_ble_eq_true rfl⟩ rfl ?_
        refine xw_if_eq_N (pc := 17) (tgt := 22) C dX0_lastNonZero_17 (by decide) (by omega) (fun c_2 => ?_) (fun c_2 => ?_)
        ·
          refine xw_iinc (pc := 22) (lv' := [(0, .ref h), (1, nV row), (2, iV ((((i : Nat) : Int)) + (-1)))]) C 2 [1, 2, 0] dX0_lastNonZero_22 rfl (by decide) rfl ?_
          refine xw_goto (pc := 25) (tgt := 7) C dX0_lastNonZero_25 (by decide) ?_
          exact ih7 i _ (by omega) (by omega) (by omega) (by rw [hln, ln, if_pos c_2])
        ·
          refine xw_iload_n (pc := 20) C 2 dX0_lastNonZero_20 rfl ?_
          exact xw_iret (pc := 21) C rX (Nat.le_refl _) (Nat.le_refl _) dX0_lastNonZero_21 (PD.e (by rw [hln, ln, if_neg c_2]) rfl)
  exact L7 (n + 1) n _ (by omega) (by omega) (by omega) rfl

set_option maxHeartbeats 4000000 in
set_option maxRecDepth 100000 in
theorem m_X0_period {l : Launch} {D : va_G} {cI : ClassId} {h a n p b w wi ni : Nat} {A : Nat → Nat} (hn : n = 4 ∨ n = 8 ∨ n = 16) (hA : ∀ j, A j < 500) (row : Nat) (hrw : row < 5) : CT l yX0_period wsX0_period (rmN 2 47) D vwCl [(cI, .int)] [.ref h, nV row] (wX cI h a n p b w wi ni A) (PD (some (nV (pe n A row))) (wX cI h a n p b w wi ni A)) 0 0 := by
  refine ct_of (plainFor_of_name (by decide)) rfl (Nat.le_of_ble_eq_true rfl) (fun φ C rX => ?_)
  have hin : ∀ w ∈ wsX00, w ∈ wsX0_period := by decide +kernel
  refine xw_le (lv' := [(0, .ref h), (1, nV row)]) rfl ?_
  have hn3 := lt3 hn
  refine xw_iconst_N (pc := 0) C 1 dX0_period_0 rfl ?_
  refine xw_istore_n (pc := 1) (lv' := [(0, .ref h), (1, nV row), (2, nV 1)]) C [1, 2, 0] dX0_period_1 rfl (by decide) rfl ?_
  have L2 : ∀ (fuel : Nat) (k : Nat), n < k + fuel → 1 ≤ k → k ≤ n → pe n A row = fs (im n A row row) (n - k) k → xw φ 0 0 (wX cI h a n p b w wi ni A) 2 [(0, .ref h), (1, nV row), (2, nV k)] [] := by
    intro fuel
    induction fuel with
    | zero =>
      intro k hk hk1 hkn hfs
      omega
    | succ fuel ih2 =>
      intro k hk hk1 hkn hfs
      refine xw_iload_n (pc := 2) C 2 dX0_period_2 rfl ?_
      refine xw_aload_n (pc := 3) C 0 dX0_period_3 rfl ?_
      refine xw_get (pc := 4) (T := TX0) (N := 7) (ref := "ToneButterflies") C hin 0 1 rfl rfl (by decide) (by decide +kernel) rfl rfl dX0_period_4 ?_
      refine xw_icmp_ge_N (pc := 7) (tgt := 28) C dX0_period_7 (by decide) (by omega) (by omega) (fun c_1 => ?_) (fun c_1 => ?_)
      ·
        obtain rfl : k = n := by omega
        refine xw_aload_n (pc := 28) C 0 dX0_period_28 rfl ?_
        refine xw_get (pc := 29) (T := TX0) (N := 7) (ref := "ToneButterflies") C hin 0 1 rfl rfl (by decide) (by decide +kernel) rfl rfl dX0_period_29 ?_
        exact xw_iret (pc := 32) C rX (Nat.le_refl _) (Nat.le_refl _) dX0_period_32 (PD.e (by rw [hfs, Nat.sub_self, fs]) rfl)
      ·
        refine xw_aload_n (pc := 10) C 0 dX0_period_10 rfl ?_
        refine xw_iload_n (pc := 11) C 1 dX0_period_11 rfl ?_
        refine xw_iload_n (pc := 12) C 2 dX0_period_12 rfl ?_
        refine xw_iload_n (pc := 13) C 1 dX0_period_13 rfl ?_
        refine xw_Vd (pc := 14) (q0 := 0) (na := 3) (rest := []) (st' := [bV (im n A row row k)]) C (m_X0_isWhenMoved hn (hA) row k row (by omega) (by omega) (by omega)) gX0_period_X0_isWhenMoved rfl rfl rfl rfl (by decide +kernel) ⟨Nat.le_of_ble_eq_true rfl, Nat.le_of_ble_eq_true rfl⟩ rfl rfl rfl (Nat.le_of_ble_eq_true rfl) dX0_period_14 ⟨Nat.le_of_ble_eq_true rfl, Nat.le_of_ble_eq_true rfl⟩ rfl ?_
        refine xw_if_eq_B (pc := 17) (tgt := 22) C dX0_period_17 (by decide)  (fun c_2 => ?_) (fun c_2 => ?_)
        ·
          refine xw_iinc_N (pc := 22) (b := k + 1) (lv' := [(0, .ref h), (1, nV row), (2, nV (k + 1))]) C 2 [1, 2, 0] dX0_period_22 rfl (by decide) rfl rfl ?_
          refine xw_goto (pc := 25) (tgt := 2) C dX0_period_25 (by decide) ?_
          exact ih2 (k + 1) (by omega) (by omega) (by omega) (by rw [hfs, show n - k = (n - (k + 1)) + 1 by omega, fs_f c_2])
        ·
          refine xw_iload_n (pc := 20) C 2 dX0_period_20 rfl ?_
          exact xw_iret (pc := 21) C rX (Nat.le_refl _) (Nat.le_refl _) dX0_period_21 (PD.e (by rw [hfs, show n - k = (n - (k + 1)) + 1 by omega, fs_t c_2]) rfl)
  exact L2 (n + 1) 1 (by omega) (by omega) (by omega) rfl

set_option maxHeartbeats 4000000 in
set_option maxRecDepth 100000 in
theorem m_X0_greatestNumber {l : Launch} {D : va_G} {cI : ClassId} {h a n p b w wi ni : Nat} {A : Nat → Nat} (hn : n = 4 ∨ n = 8 ∨ n = 16) (hA : ∀ j, A j < 500) (row : Nat) (hrw : row < 5) : CT l yX0_greatestNumber wsX0_greatestNumber (rmN 1 23) D vwCl [(cI, .int)] [.ref h, nV row] (wX cI h a n p b w wi ni A) (PD (some (nV (gr A row n))) (wX cI h a n p b w wi ni A)) 0 0 := by
  refine ct_of (plainFor_of_name (by decide)) rfl (Nat.le_of_ble_eq_true rfl) (fun φ C rX => ?_)
  have hin : ∀ w ∈ wsX00, w ∈ wsX0_greatestNumber := by decide +kernel
  refine xw_le (lv' := [(0, .ref h), (1, nV row)]) rfl ?_
  have hn3 := lt3 hn
  refine xw_iconst_N (pc := 0) C 0 dX0_greatestNumber_0 rfl ?_
  refine xw_istore_n (pc := 1) (lv' := [(0, .ref h), (1, nV row), (2, nV 0)]) C [1, 2, 0] dX0_greatestNumber_1 rfl (by decide) rfl ?_
  refine xw_iconst_N (pc := 2) C 0 dX0_greatestNumber_2 rfl ?_
  refine xw_istore_n (pc := 3) (lv' := [(0, .ref h), (1, nV row), (2, nV 0), (3, nV 0)]) C [1, 2, 3, 0] dX0_greatestNumber_3 rfl (by decide) rfl ?_
  have L4 : ∀ (fuel : Nat) (k acc : Nat), n < k + fuel → k ≤ n → acc = gr A row k → acc < 500 → xw φ 0 0 (wX cI h a n p b w wi ni A) 4 [(0, .ref h), (1, nV row), (2, nV acc), (3, nV k)] [] := by
    intro fuel
    induction fuel with
    | zero =>
      intro k acc hk hkn hacc hac
      omega
    | succ fuel ih4 =>
      intro k acc hk hkn hacc hac
      refine xw_iload_n (pc := 4) C 3 dX0_greatestNumber_4 rfl ?_
      refine xw_aload_n (pc := 5) C 0 dX0_greatestNumber_5 rfl ?_
      refine xw_get (pc := 6) (T := TX0) (N := 7) (ref := "ToneButterflies") C hin 0 1 rfl rfl (by decide) (by decide +kernel) rfl rfl dX0_greatestNumber_6 ?_
      refine xw_icmp_ge_N (pc := 9) (tgt := 29) C dX0_greatestNumber_9 (by decide) (by omega) (by omega) (fun c_1 => ?_) (fun c_1 => ?_)
      ·
        obtain rfl : k = n := by omega
        refine xw_iload_n (pc := 29) C 2 dX0_greatestNumber_29 rfl ?_
        exact xw_iret (pc := 30) C rX (Nat.le_refl _) (Nat.le_refl _) dX0_greatestNumber_30 (PD.e (by rw [hacc]) rfl)
      ·
        refine xw_iload_n (pc := 12) C 2 dX0_greatestNumber_12 rfl ?_
        refine xw_aload_n (pc := 13) C 0 dX0_greatestNumber_13 rfl ?_
        refine xw_iload_n (pc := 14) C 1 dX0_greatestNumber_14 rfl ?_
        refine xw_iload_n (pc := 15) C 3 dX0_greatestNumber_15 rfl ?_
        refine xw_Vd (pc := 16) (q0 := 0) (na := 2) (rest := [nV acc]) (st' := [nV (A (16 * row + k)), nV acc]) C (m_X0_read row k (by omega) (by omega)) gX0_greatestNumber_X0_read rfl rfl rfl rfl (by decide +kernel) ⟨Nat.le_of_ble_eq_true rfl, Nat.le_of_ble_eq_true rfl⟩ rfl rfl rfl (Nat.le_of_ble_eq_true rfl) dX0_greatestNumber_16 ⟨Nat.le_of_ble_eq_true rfl, Nat.le_of_ble_eq_true rfl⟩ rfl ?_
        have hb1 := hA (16 * row + k)
        refine xw_max (pc := 19) C (by decide +kernel) (by decide +kernel) (by decide +kernel) (by decide +kernel) (Nat.le_of_ble_eq_true rfl) (Nat.le_of_ble_eq_true rfl) (Nat.le_of_ble_eq_true rfl) (Nat.le_of_ble_eq_true rfl) (by omega) (by omega) dX0_greatestNumber_19 ?_
        refine xw_istore_n (pc := 22) (lv' := [(0, .ref h), (1, nV row), (2, nV (if acc < A (16 * row + k) then A (16 * row + k) else acc)), (3, nV k)]) C [1, 2, 0, 3] dX0_greatestNumber_22 rfl (by decide) rfl ?_
        refine xw_iinc_N (pc := 23) (b := k + 1) (lv' := [(0, .ref h), (1, nV row), (2, nV (if acc < A (16 * row + k) then A (16 * row + k) else acc)), (3, nV (k + 1))]) C 3 [1, 2, 3, 0] dX0_greatestNumber_23 rfl (by decide) rfl rfl ?_
        refine xw_goto (pc := 26) (tgt := 4) C dX0_greatestNumber_26 (by decide) ?_
        exact ih4 (k + 1) _ (by omega) (by omega) (by rw [gr, ← hacc]) (by split <;> omega)
  exact L4 (n + 1) 0 0 (by omega) (by omega) rfl (by omega)

set_option maxHeartbeats 4000000 in
set_option maxRecDepth 100000 in
theorem m_X0_counted {l : Launch} {D : va_G} {cI : ClassId} {h a n p b w wi ni : Nat} {A : Nat → Nat} (what : Nat) (hwh : what < 6) : CT l yX0_counted wsX0_counted (rmN 0 0) D vwCl [(cI, .int)] [.ref h, nV what] (wX cI h a n p b w wi ni A) (PD (some (nV (ct n p b w wi ni what))) (wX cI h a n p b w wi ni A)) 0 0 := by
  refine ct_of (plainFor_of_name (by decide)) rfl (Nat.le_of_ble_eq_true rfl) (fun φ C rX => ?_)
  have hin : ∀ w ∈ wsX00, w ∈ wsX0_counted := by decide +kernel
  refine xw_le (lv' := [(0, .ref h), (1, nV what)]) rfl ?_
  refine xw_iload_n (pc := 0) C 1 dX0_counted_0 rfl ?_
  rcases (show what = 0 ∨ what = 1 ∨ what = 2 ∨ what = 3 ∨ what = 4 ∨ what = 5 by omega) with rfl | rfl | rfl | rfl | rfl | rfl
  ·
    refine xw_tabN (pc := 1) (tgt := 36) (a := 0) C dX0_counted_1 (by decide) (by decide) (by decide) rfl (by decide) ?_
    refine xw_aload_n (pc := 36) C 0 dX0_counted_36 rfl ?_
    refine xw_get (pc := 37) (T := TX0) (N := 7) (ref := "ToneButterflies") C hin 0 1 rfl rfl (by decide) (by decide +kernel) rfl rfl dX0_counted_37 ?_
    exact xw_iret (pc := 40) C rX (Nat.le_refl _) (Nat.le_refl _) dX0_counted_40 (PD.i)
  ·
    refine xw_tabN (pc := 1) (tgt := 41) (a := 1) C dX0_counted_1 (by decide) (by decide) (by decide) rfl (by decide) ?_
    refine xw_aload_n (pc := 41) C 0 dX0_counted_41 rfl ?_
    refine xw_get (pc := 42) (T := TX0) (N := 7) (ref := "ToneButterflies") C hin 0 2 rfl rfl (by decide) (by decide +kernel) rfl rfl dX0_counted_42 ?_
    exact xw_iret (pc := 45) C rX (Nat.le_refl _) (Nat.le_refl _) dX0_counted_45 (PD.i)
  ·
    refine xw_tabN (pc := 1) (tgt := 46) (a := 2) C dX0_counted_1 (by decide) (by decide) (by decide) rfl (by decide) ?_
    refine xw_aload_n (pc := 46) C 0 dX0_counted_46 rfl ?_
    refine xw_get (pc := 47) (T := TX0) (N := 7) (ref := "ToneButterflies") C hin 0 4 rfl rfl (by decide) (by decide +kernel) rfl rfl dX0_counted_47 ?_
    exact xw_iret (pc := 50) C rX (Nat.le_refl _) (Nat.le_refl _) dX0_counted_50 (PD.i)
  ·
    refine xw_tabN (pc := 1) (tgt := 51) (a := 3) C dX0_counted_1 (by decide) (by decide) (by decide) rfl (by decide) ?_
    refine xw_aload_n (pc := 51) C 0 dX0_counted_51 rfl ?_
    refine xw_get (pc := 52) (T := TX0) (N := 7) (ref := "ToneButterflies") C hin 0 5 rfl rfl (by decide) (by decide +kernel) rfl rfl dX0_counted_52 ?_
    exact xw_iret (pc := 55) C rX (Nat.le_refl _) (Nat.le_refl _) dX0_counted_55 (PD.i)
  ·
    refine xw_tabN (pc := 1) (tgt := 56) (a := 4) C dX0_counted_1 (by decide) (by decide) (by decide) rfl (by decide) ?_
    refine xw_aload_n (pc := 56) C 0 dX0_counted_56 rfl ?_
    refine xw_get (pc := 57) (T := TX0) (N := 7) (ref := "ToneButterflies") C hin 0 6 rfl rfl (by decide) (by decide +kernel) rfl rfl dX0_counted_57 ?_
    exact xw_iret (pc := 60) C rX (Nat.le_refl _) (Nat.le_refl _) dX0_counted_60 (PD.i)
  ·
    refine xw_tabO (pc := 1) (tgt := 61) (a := 5) C dX0_counted_1 (by decide) (by decide) (by decide) ?_
    refine xw_aload_n (pc := 61) C 0 dX0_counted_61 rfl ?_
    refine xw_get (pc := 62) (T := TX0) (N := 7) (ref := "ToneButterflies") C hin 0 3 rfl rfl (by decide) (by decide +kernel) rfl rfl dX0_counted_62 ?_
    exact xw_iret (pc := 65) C rX (Nat.le_refl _) (Nat.le_refl _) dX0_counted_65 (PD.i)

set_option maxHeartbeats 4000000 in
set_option maxRecDepth 100000 in
theorem m_X0_told {l : Launch} {D : va_G} {cI : ClassId} {h a n p b w wi ni : Nat} {A : Nat → Nat} (hp : 0 < p) (hp5 : p < 500) (hn : n = 4 ∨ n = 8 ∨ n = 16) (hA : ∀ j, A j < 500) (row what : Nat) (hrw : row < 5) (hwh : what < 5) : CT l yX0_told wsX0_told (rmN 3 69) D vwCl [(cI, .int)] [.ref h, nV row, nV what] (wX cI h a n p b w wi ni A) (PD (some (iV (tl p n A row what))) (wX cI h a n p b w wi ni A)) 0 0 := by
  refine ct_of (plainFor_of_name (by decide)) rfl (Nat.le_of_ble_eq_true rfl) (fun φ C rX => ?_)
  refine xw_le (lv' := [(0, .ref h), (1, nV row), (2, nV what)]) rfl ?_
  have hn3 := lt3 hn
  have hsm := sm_le (r := row) hA n
  refine xw_iload_n (pc := 0) C 2 dX0_told_0 rfl ?_
  rcases (show what = 0 ∨ what = 1 ∨ what = 2 ∨ what = 3 ∨ what = 4 by omega) with rfl | rfl | rfl | rfl | rfl
  ·
    refine xw_tabN (pc := 1) (tgt := 32) (a := 0) C dX0_told_1 (by decide) (by decide) (by decide) rfl (by decide) ?_
    refine xw_aload_n (pc := 32) C 0 dX0_told_32 rfl ?_
    refine xw_aload_n (pc := 33) C 0 dX0_told_33 rfl ?_
    refine xw_iload_n (pc := 34) C 1 dX0_told_34 rfl ?_
    refine xw_Vd (pc := 35) (q0 := 0) (na := 1) (rest := [.ref h]) (st' := [nV (sm A row n), .ref h]) C (m_X0_plainSum hn hA row (by omega)) gX0_told_X0_plainSum rfl rfl rfl rfl (by decide +kernel) ⟨Nat.le_of_ble_eq_true rfl, Nat.le_of_ble_eq_true rfl⟩ rfl rfl rfl (Nat.le_of_ble_eq_true rfl) dX0_told_35 ⟨Nat.le_of_ble_eq_true rfl, Nat.le_of_ble_eq_true rfl⟩ rfl ?_
    refine xw_Vd (pc := 38) (q0 := 0) (na := 1) (rest := []) (st' := [nV ((sm A row n) % p)]) C (m_X0_reduced hp hp5 ((sm A row n : Nat) : Int) ((sm A row n) % p) (Int.natCast_emod _ _).symm (rgN (by omega))) gX0_told_X0_reduced rfl rfl rfl rfl (by decide +kernel) ⟨Nat.le_of_ble_eq_true rfl, Nat.le_of_ble_eq_true rfl⟩ rfl rfl rfl (Nat.le_of_ble_eq_true rfl) dX0_told_38 ⟨Nat.le_of_ble_eq_true rfl, Nat.le_of_ble_eq_true rfl⟩ rfl ?_
    exact xw_iret (pc := 41) C rX (Nat.le_refl _) (Nat.le_refl _) dX0_told_41 (PD.i)
  ·
    refine xw_tabN (pc := 1) (tgt := 42) (a := 1) C dX0_told_1 (by decide) (by decide) (by decide) rfl (by decide) ?_
    refine xw_aload_n (pc := 42) C 0 dX0_told_42 rfl ?_
    refine xw_iload_n (pc := 43) C 1 dX0_told_43 rfl ?_
    refine xw_Vd (pc := 44) (q0 := 0) (na := 1) (rest := []) (st' := [nV (cc (fun k => decide (A (16 * row + k) ≠ 0)) n)]) C (m_X0_nonZeros hn (hA) row (by omega)) gX0_told_X0_nonZeros rfl rfl rfl rfl (by decide +kernel) ⟨Nat.le_of_ble_eq_true rfl, Nat.le_of_ble_eq_true rfl⟩ rfl rfl rfl (Nat.le_of_ble_eq_true rfl) dX0_told_44 ⟨Nat.le_of_ble_eq_true rfl, Nat.le_of_ble_eq_true rfl⟩ rfl ?_
    exact xw_iret (pc := 47) C rX (Nat.le_refl _) (Nat.le_refl _) dX0_told_47 (PD.i)
  ·
    refine xw_tabN (pc := 1) (tgt := 48) (a := 2) C dX0_told_1 (by decide) (by decide) (by decide) rfl (by decide) ?_
    refine xw_aload_n (pc := 48) C 0 dX0_told_48 rfl ?_
    refine xw_iload_n (pc := 49) C 1 dX0_told_49 rfl ?_
    refine xw_Vd (pc := 50) (q0 := 0) (na := 1) (rest := []) (st' := [iV (ln A row n)]) C (m_X0_lastNonZero hn hA row (by omega)) gX0_told_X0_lastNonZero rfl rfl rfl rfl (by decide +kernel) ⟨Nat.le_of_ble_eq_true rfl, Nat.le_of_ble_eq_true rfl⟩ rfl rfl rfl (Nat.le_of_ble_eq_true rfl) dX0_told_50 ⟨Nat.le_of_ble_eq_true rfl, Nat.le_of_ble_eq_true rfl⟩ rfl ?_
    exact xw_iret (pc := 53) C rX (Nat.le_refl _) (Nat.le_refl _) dX0_told_53 (PD.i)
  ·
    refine xw_tabN (pc := 1) (tgt := 54) (a := 3) C dX0_told_1 (by decide) (by decide) (by decide) rfl (by decide) ?_
    refine xw_aload_n (pc := 54) C 0 dX0_told_54 rfl ?_
    refine xw_iload_n (pc := 55) C 1 dX0_told_55 rfl ?_
    refine xw_Vd (pc := 56) (q0 := 0) (na := 1) (rest := []) (st' := [nV (pe n A row)]) C (m_X0_period hn hA row (by omega)) gX0_told_X0_period rfl rfl rfl rfl (by decide +kernel) ⟨Nat.le_of_ble_eq_true rfl, Nat.le_of_ble_eq_true rfl⟩ rfl rfl rfl (Nat.le_of_ble_eq_true rfl) dX0_told_56 ⟨Nat.le_of_ble_eq_true rfl, Nat.le_of_ble_eq_true rfl⟩ rfl ?_
    exact xw_iret (pc := 59) C rX (Nat.le_refl _) (Nat.le_refl _) dX0_told_59 (PD.i)
  ·
    refine xw_tabO (pc := 1) (tgt := 60) (a := 4) C dX0_told_1 (by decide) (by decide) (by decide) ?_
    refine xw_aload_n (pc := 60) C 0 dX0_told_60 rfl ?_
    refine xw_iload_n (pc := 61) C 1 dX0_told_61 rfl ?_
    refine xw_Vd (pc := 62) (q0 := 0) (na := 1) (rest := []) (st' := [nV (gr A row n)]) C (m_X0_greatestNumber hn hA row (by omega)) gX0_told_X0_greatestNumber rfl rfl rfl rfl (by decide +kernel) ⟨Nat.le_of_ble_eq_true rfl, Nat.le_of_ble_eq_true rfl⟩ rfl rfl rfl (Nat.le_of_ble_eq_true rfl) dX0_told_62 ⟨Nat.le_of_ble_eq_true rfl, Nat.le_of_ble_eq_true rfl⟩ rfl ?_
    exact xw_iret (pc := 65) C rX (Nat.le_refl _) (Nat.le_refl _) dX0_told_65 (PD.i)
