set_option maxHeartbeats 4000000 in
set_option maxRecDepth 100000 in
theorem m_X0_powerOf {l : Launch} {D : va_G} {cI : ClassId} {h a n p b w wi ni : Nat} {A : Nat → Nat} (hp : 1 < p) (hp5 : p < 500) (base ex : Nat) (hb : base < 500) (hex : ex < 2147483648) : CT l yX0_powerOf wsX0_powerOf (rmN 2 43) D vwCl [(cI, .int)] [.ref h, nV base, nV ex] (wX cI h a n p b w wi ni A) (PD (some (nV (base ^ ex % p))) (wX cI h a n p b w wi ni A)) 0 0 := by
  refine ct_of (plainFor_of_name (by decide)) rfl (Nat.le_of_ble_eq_true rfl) (fun φ C rX => ?_)
  refine xw_le (lv' := [(0, .ref h), (1, nV base), (2, nV ex)]) rfl ?_
  have hp0 : 0 < p := by omega
  refine xw_iconst_N (pc := 0) C 1 dX0_powerOf_0 rfl ?_
  refine xw_istore_n (pc := 1) (lv' := [(0, .ref h), (1, nV base), (2, nV ex), (3, nV 1)]) C [1, 2, 3, 0] dX0_powerOf_1 rfl (by decide) rfl ?_
  refine xw_iload_n (pc := 2) C 1 dX0_powerOf_2 rfl ?_
  refine xw_istore (pc := 3) (lv' := [(0, .ref h), (1, nV base), (2, nV ex), (3, nV 1), (4, nV base)]) C [1, 2, 3, 4, 0] dX0_powerOf_3 (by decide) rfl ?_
  refine xw_iload_n (pc := 5) C 2 dX0_powerOf_5 rfl ?_
  refine xw_istore (pc := 6) (lv' := [(0, .ref h), (1, nV base), (2, nV ex), (3, nV 1), (4, nV base), (5, nV ex)]) C [1, 2, 3, 4, 5, 0] dX0_powerOf_6 (by decide) rfl ?_
  have L8 : ∀ (fuel : Nat) (m acc sq : Nat), m < fuel → m < 2147483648 → acc < p → sq < 500 → acc * sq ^ m % p = base ^ ex % p → xw φ 0 0 (wX cI h a n p b w wi ni A) 8 [(0, .ref h), (1, nV base), (2, nV ex), (3, nV acc), (4, nV sq), (5, nV m)] [] := by
    intro fuel
    induction fuel with
    | zero =>
      intro m acc sq hk hm hacc hsq hinv
      omega
    | succ fuel ih8 =>
      intro m acc sq hk hm hacc hsq hinv
      refine xw_iload (pc := 8) C 5 dX0_powerOf_8 rfl ?_
      refine xw_if_le_N (pc := 10) (tgt := 50) C dX0_powerOf_10 (by decide) (by omega) (fun c_1 => ?_) (fun c_1 => ?_)
      ·
        obtain rfl : m = 0 := by omega
        refine xw_iload_n (pc := 50) C 3 dX0_powerOf_50 rfl ?_
        exact xw_iret (pc := 51) C rX (Nat.le_refl _) (Nat.le_refl _) dX0_powerOf_51 (PD.e (by rw [← hinv, Nat.pow_zero, Nat.mul_one, Nat.mod_eq_of_lt hacc]) rfl)
      ·
        refine xw_iload (pc := 13) C 5 dX0_powerOf_13 rfl ?_
        refine xw_iconst_N (pc := 15) C 1 dX0_powerOf_15 rfl ?_
        refine xw_iand (pc := 16) (r := iI ((m % 2 : Nat) : Int)) C dX0_powerOf_16 (and_1 hm) ?_
        refine xw_iconst_N (pc := 17) C 1 dX0_powerOf_17 rfl ?_
        refine xw_icmp_ne_N (pc := 18) (tgt := 30) C dX0_powerOf_18 (by decide) (by omega) (by omega) (fun c_2 => ?_) (fun c_2 => ?_)
        ·
          refine xw_aload_n (pc := 30) C 0 dX0_powerOf_30 rfl ?_
          refine xw_iload (pc := 31) C 4 dX0_powerOf_31 rfl ?_
          refine xw_iload (pc := 33) C 4 dX0_powerOf_33 rfl ?_
          refine xw_imul_N (pc := 35) C dX0_powerOf_35 ?_
          refine xw_Vd (pc := 36) (q0 := 0) (na := 1) (rest := []) (st' := [nV ((sq * sq) % p)]) C (m_X0_reduced (show 0 < p by omega) hp5 ((sq * sq : Nat) : Int) ((sq * sq) % p) (Int.natCast_emod _ _).symm (rgN (mb0 hsq hsq))) gX0_powerOf_X0_reduced rfl rfl rfl rfl (by decide +kernel) ⟨Nat.le_of_ble_eq_true rfl, Nat.le_of_ble_eq_true rfl⟩ rfl rfl rfl (Nat.le_of_ble_eq_true rfl) dX0_powerOf_36 ⟨Nat.le_of_ble_eq_true rfl, Nat.le_of_ble_eq_true rfl⟩ rfl ?_
          refine xw_istore (pc := 39) (lv' := [(0, .ref h), (1, nV base), (2, nV ex), (3, nV acc), (4, nV ((sq * sq) % p)), (5, nV m)]) C [1, 2, 3, 4, 0, 5] dX0_powerOf_39 (by decide) rfl ?_
          refine xw_iload (pc := 41) C 5 dX0_powerOf_41 rfl ?_
          refine xw_iconst_N (pc := 43) C 1 dX0_powerOf_43 rfl ?_
          refine xw_ishr (pc := 44) (r := iI ((m / 2 : Nat) : Int)) C dX0_powerOf_44 (shr_1 hm) ?_
          refine xw_istore (pc := 45) (lv' := [(0, .ref h), (1, nV base), (2, nV ex), (3, nV acc), (4, nV ((sq * sq) % p)), (5, nV (m / 2))]) C [1, 2, 3, 4, 5, 0] dX0_powerOf_45 (by decide) rfl ?_
          refine xw_goto (pc := 47) (tgt := 8) C dX0_powerOf_47 (by decide) ?_
          exact ih8 (m / 2) _ _ (by omega) (by omega) hacc (ml hp0 hp5) (by rw [pq_even, show 2 * (m / 2) = m by omega]; exact hinv)
        ·
          refine xw_aload_n (pc := 21) C 0 dX0_powerOf_21 rfl ?_
          refine xw_iload_n (pc := 22) C 3 dX0_powerOf_22 rfl ?_
          refine xw_iload (pc := 23) C 4 dX0_powerOf_23 rfl ?_
          refine xw_imul_N (pc := 25) C dX0_powerOf_25 ?_
          refine xw_Vd (pc := 26) (q0 := 0) (na := 1) (rest := []) (st' := [nV ((acc * sq) % p)]) C (m_X0_reduced (show 0 < p by omega) hp5 ((acc * sq : Nat) : Int) ((acc * sq) % p) (Int.natCast_emod _ _).symm (rgN (mb0 (by omega) hsq))) gX0_powerOf_X0_reduced rfl rfl rfl rfl (by decide +kernel) ⟨Nat.le_of_ble_eq_true rfl, Nat.le_of_ble_eq_true rfl⟩ rfl rfl rfl (Nat.le_of_ble_eq_true rfl) dX0_powerOf_26 ⟨Nat.le_of_ble_eq_true rfl, Nat.le_of_ble_eq_true rfl⟩ rfl ?_
          refine xw_istore_n (pc := 29) (lv' := [(0, .ref h), (1, nV base), (2, nV ex), (3, nV ((acc * sq) % p)), (4, nV sq), (5, nV m)]) C [1, 2, 3, 0, 4, 5] dX0_powerOf_29 rfl (by decide) rfl ?_
          refine xw_aload_n (pc := 30) C 0 dX0_powerOf_30 rfl ?_
          refine xw_iload (pc := 31) C 4 dX0_powerOf_31 rfl ?_
          refine xw_iload (pc := 33) C 4 dX0_powerOf_33 rfl ?_
          refine xw_imul_N (pc := 35) C dX0_powerOf_35 ?_
          refine xw_Vd (pc := 36) (q0 := 0) (na := 1) (rest := []) (st' := [nV ((sq * sq) % p)]) C (m_X0_reduced (show 0 < p by omega) hp5 ((sq * sq : Nat) : Int) ((sq * sq) % p) (Int.natCast_emod _ _).symm (rgN (mb0 hsq hsq))) gX0_powerOf_X0_reduced rfl rfl rfl rfl (by decide +kernel) ⟨Nat.le_of_ble_eq_true rfl, Nat.le_of_ble_eq_true rfl⟩ rfl rfl rfl (Nat.le_of_ble_eq_true rfl) dX0_powerOf_36 ⟨Nat.le_of_ble_eq_true rfl, Nat.le_of_ble_eq_true rfl⟩ rfl ?_
          refine xw_istore (pc := 39) (lv' := [(0, .ref h), (1, nV base), (2, nV ex), (3, nV ((acc * sq) % p)), (4, nV ((sq * sq) % p)), (5, nV m)]) C [1, 2, 3, 4, 0, 5] dX0_powerOf_39 (by decide) rfl ?_
          refine xw_iload (pc := 41) C 5 dX0_powerOf_41 rfl ?_
          refine xw_iconst_N (pc := 43) C 1 dX0_powerOf_43 rfl ?_
          refine xw_ishr (pc := 44) (r := iI ((m / 2 : Nat) : Int)) C dX0_powerOf_44 (shr_1 hm) ?_
          refine xw_istore (pc := 45) (lv' := [(0, .ref h), (1, nV base), (2, nV ex), (3, nV ((acc * sq) % p)), (4, nV ((sq * sq) % p)), (5, nV (m / 2))]) C [1, 2, 3, 4, 5, 0] dX0_powerOf_45 (by decide) rfl ?_
          refine xw_goto (pc := 47) (tgt := 8) C dX0_powerOf_47 (by decide) ?_
          exact ih8 (m / 2) _ _ (by omega) (by omega) (Nat.mod_lt _ hp0) (ml hp0 hp5) (by rw [pq_odd, show 2 * (m / 2) + 1 = m by omega]; exact hinv)
  exact L8 (ex + 1) ex 1 base (by omega) (by omega) (by omega) hb (by rw [Nat.one_mul])

set_option maxHeartbeats 4000000 in
set_option maxRecDepth 100000 in
theorem m_X0_inverseOf {l : Launch} {D : va_G} {cI : ClassId} {h a n p b w wi ni : Nat} {A : Nat → Nat} (hp : 1 < p) (hp5 : p < 500) (v : Nat) (hv : v < 500) : CT l yX0_inverseOf wsX0_inverseOf (rmN 3 68) D vwCl [(cI, .int)] [.ref h, nV v] (wX cI h a n p b w wi ni A) (PD (some (nV (v ^ (p - 2) % p))) (wX cI h a n p b w wi ni A)) 0 0 := by
  refine ct_of (plainFor_of_name (by decide)) rfl (Nat.le_of_ble_eq_true rfl) (fun φ C rX => ?_)
  have hin : ∀ w ∈ wsX00, w ∈ wsX0_inverseOf := by decide +kernel
  refine xw_le (lv' := [(0, .ref h), (1, nV v)]) rfl ?_
  refine xw_aload_n (pc := 0) C 0 dX0_inverseOf_0 rfl ?_
  refine xw_iload_n (pc := 1) C 1 dX0_inverseOf_1 rfl ?_
  refine xw_aload_n (pc := 2) C 0 dX0_inverseOf_2 rfl ?_
  refine xw_get (pc := 3) (T := TX0) (N := 7) (ref := "ToneButterflies") C hin 0 2 rfl rfl (by decide) (by decide +kernel) rfl rfl dX0_inverseOf_3 ?_
  refine xw_iconst_N (pc := 6) C 2 dX0_inverseOf_6 rfl ?_
  refine xw_isub_N (pc := 7) C dX0_inverseOf_7 (by omega) ?_
  refine xw_Vd (pc := 8) (q0 := 0) (na := 2) (rest := []) (st' := [nV (v ^ (p - 2) % p)]) C (m_X0_powerOf hp hp5 v (p - 2) (by omega) (by omega)) gX0_inverseOf_X0_powerOf rfl rfl rfl rfl (by decide +kernel) ⟨Nat.le_of_ble_eq_true rfl, Nat.le_of_ble_eq_true rfl⟩ rfl rfl rfl (Nat.le_of_ble_eq_true rfl) dX0_inverseOf_8 ⟨Nat.le_of_ble_eq_true rfl, Nat.le_of_ble_eq_true rfl⟩ rfl ?_
  exact xw_iret (pc := 11) C rX (Nat.le_refl _) (Nat.le_refl _) dX0_inverseOf_11 (PD.i)

set_option maxHeartbeats 4000000 in
set_option maxRecDepth 100000 in
theorem m_X0_smallestRoot {l : Launch} {D : va_G} {cI : ClassId} {h a n p b w wi ni : Nat} {A : Nat → Nat} (hp : 4 < p) (hp5 : p < 500) (hn : n = 4 ∨ n = 8 ∨ n = 16) : CT l yX0_smallestRoot wsX0_smallestRoot (rmN 3 68) D vwCl [(cI, .int)] [.ref h] (wX cI h a n p b w wi ni A) (PD (some (nV (rt n p))) (wX cI h a n p b w wi ni A)) 0 0 := by
  refine ct_of (plainFor_of_name (by decide)) rfl (Nat.le_of_ble_eq_true rfl) (fun φ C rX => ?_)
  have hin : ∀ w ∈ wsX00, w ∈ wsX0_smallestRoot := by decide +kernel
  refine xw_le (lv' := [(0, .ref h)]) rfl ?_
  have hn3 := lt3 hn
  have hp1 : 1 < p := by omega
  refine xw_iconst_N (pc := 0) C 2 dX0_smallestRoot_0 rfl ?_
  refine xw_istore_n (pc := 1) (lv' := [(0, .ref h), (1, nV 2)]) C [1, 0] dX0_smallestRoot_1 rfl (by decide) rfl ?_
  have L2 : ∀ (fuel : Nat) (k : Nat), p < k + fuel → 2 ≤ k → k ≤ p - 1 → rt n p = fs (fun c => decide (c ^ (n / 2) % p = p - 1)) (p - 1 - k) k → xw φ 0 0 (wX cI h a n p b w wi ni A) 2 [(0, .ref h), (1, nV k)] [] := by
    intro fuel
    induction fuel with
    | zero =>
      intro k hk hk1 hkn hfs
      omega
    | succ fuel ih2 =>
      intro k hk hk1 hkn hfs
      refine xw_iload_n (pc := 2) C 1 dX0_smallestRoot_2 rfl ?_
      refine xw_aload_n (pc := 3) C 0 dX0_smallestRoot_3 rfl ?_
      refine xw_get (pc := 4) (T := TX0) (N := 7) (ref := "ToneButterflies") C hin 0 2 rfl rfl (by decide) (by decide +kernel) rfl rfl dX0_smallestRoot_4 ?_
      refine xw_iconst_N (pc := 7) C 1 dX0_smallestRoot_7 rfl ?_
      refine xw_isub_N (pc := 8) C dX0_smallestRoot_8 (by omega) ?_
      refine xw_icmp_ge_N (pc := 9) (tgt := 38) C dX0_smallestRoot_9 (by decide) (by omega) (by omega) (fun c_1 => ?_) (fun c_1 => ?_)
      ·
        obtain rfl : k = p - 1 := by omega
        refine xw_iload_n (pc := 38) C 1 dX0_smallestRoot_38 rfl ?_
        exact xw_iret (pc := 39) C rX (Nat.le_refl _) (Nat.le_refl _) dX0_smallestRoot_39 (PD.e (by rw [hfs, Nat.sub_self, fs]) rfl)
      ·
        refine xw_aload_n (pc := 12) C 0 dX0_smallestRoot_12 rfl ?_
        refine xw_iload_n (pc := 13) C 1 dX0_smallestRoot_13 rfl ?_
        refine xw_aload_n (pc := 14) C 0 dX0_smallestRoot_14 rfl ?_
        refine xw_get (pc := 15) (T := TX0) (N := 7) (ref := "ToneButterflies") C hin 0 1 rfl rfl (by decide) (by decide +kernel) rfl rfl dX0_smallestRoot_15 ?_
        refine xw_iconst_N (pc := 18) C 1 dX0_smallestRoot_18 rfl ?_
        refine xw_ishr (pc := 19) (r := iI ((n / 2 : Nat) : Int)) C dX0_smallestRoot_19 (shr_1 (by omega)) ?_
        refine xw_Vd (pc := 20) (q0 := 0) (na := 2) (rest := []) (st' := [nV (k ^ (n / 2) % p)]) C (m_X0_powerOf hp1 hp5 k (n / 2) (by omega) (by omega)) gX0_smallestRoot_X0_powerOf rfl rfl rfl rfl (by decide +kernel) ⟨Nat.le_of_ble_eq_true rfl, Nat.le_of_ble_eq_true rfl⟩ rfl rfl rfl (Nat.le_of_ble_eq_true rfl) dX0_smallestRoot_20 ⟨Nat.le_of_ble_eq_true rfl, Nat.le_of_ble_eq_true rfl⟩ rfl ?_
        have hm3 := Nat.mod_lt (k ^ (n / 2)) (show p > 0 by omega)
        refine xw_aload_n (pc := 23) C 0 dX0_smallestRoot_23 rfl ?_
        refine xw_get (pc := 24) (T := TX0) (N := 7) (ref := "ToneButterflies") C hin 0 2 rfl rfl (by decide) (by decide +kernel) rfl rfl dX0_smallestRoot_24 ?_
        refine xw_iconst_N (pc := 27) C 1 dX0_smallestRoot_27 rfl ?_
        refine xw_isub_N (pc := 28) C dX0_smallestRoot_28 (by omega) ?_
        refine xw_icmp_eq_N (pc := 29) (tgt := 38) C dX0_smallestRoot_29 (by decide) (by omega) (by omega) (fun c_2 => ?_) (fun c_2 => ?_)
        ·
          refine xw_iload_n (pc := 38) C 1 dX0_smallestRoot_38 rfl ?_
          exact xw_iret (pc := 39) C rX (Nat.le_refl _) (Nat.le_refl _) dX0_smallestRoot_39 (PD.e (by rw [hfs, show p - 1 - k = (p - 1 - (k + 1)) + 1 by omega, fs_t (decide_eq_true c_2)]) rfl)
        ·
          refine xw_iinc_N (pc := 32) (b := k + 1) (lv' := [(0, .ref h), (1, nV (k + 1))]) C 1 [1, 0] dX0_smallestRoot_32 rfl (by decide) rfl rfl ?_
          refine xw_goto (pc := 35) (tgt := 2) C dX0_smallestRoot_35 (by decide) ?_
          exact ih2 (k + 1) (by omega) (by omega) (by omega) (by rw [hfs, show p - 1 - k = (p - 1 - (k + 1)) + 1 by omega, fs_f (decide_eq_false c_2)])
  exact L2 (p + 1) 2 (by omega) (by omega) (by omega) (by unfold rt; rw [show p - 1 - 2 = p - 3 by omega])

set_option maxHeartbeats 4000000 in
set_option maxRecDepth 100000 in
theorem m_X0_divides {l : Launch} {D : va_G} {tys : List (ClassId × FieldType)} {w0 : va_W} (d v : Nat) (hd : 0 < d) (hd5 : d < 2147483648) (hv : v < 2147483648) : CT l yX0_divides wsX0_divides (rmN 0 0) D vwCl tys [nV d, nV v] w0 (PD (some (bV (decide (v % d = 0)))) w0) 0 0 := by
  refine ct_of (plainFor_of_name (by decide)) rfl (Nat.le_of_ble_eq_true rfl) (fun φ C rX => ?_)
  refine xw_le (lv' := [(0, nV d), (1, nV v)]) rfl ?_
  refine xw_iload_n (pc := 0) C 0 dX0_divides_0 rfl ?_
  refine xw_if_le_N (pc := 1) (tgt := 14) C dX0_divides_1 (by decide) (by omega) (fun c_1 => (by exfalso; omega)) (fun c_1 => ?_)
  refine xw_iload_n (pc := 4) C 1 dX0_divides_4 rfl ?_
  refine xw_iload_n (pc := 5) C 0 dX0_divides_5 rfl ?_
  refine xw_irem_N (pc := 6) C dX0_divides_6 (by omega) (by omega) ?_
  have hm1 := Nat.mod_lt v hd
  refine xw_if_ne_N (pc := 7) (tgt := 14) C dX0_divides_7 (by decide) (by omega) (fun c_2 => ?_) (fun c_2 => ?_)
  ·
    refine xw_iconst_N (pc := 14) C 0 dX0_divides_14 rfl ?_
    refine xw_st (st' := [bV false]) rfl ?_
    exact xw_bret (pc := 15) C rX (Nat.le_refl _) (Nat.le_refl _) dX0_divides_15 (PD.e (by rw [decide_eq_false c_2]) rfl)
  ·
    refine xw_iconst_N (pc := 10) C 1 dX0_divides_10 rfl ?_
    refine xw_goto (pc := 11) (tgt := 15) C dX0_divides_11 (by decide) ?_
    refine xw_st (st' := [bV true]) rfl ?_
    exact xw_bret (pc := 15) C rX (Nat.le_refl _) (Nat.le_refl _) dX0_divides_15 (PD.e (by rw [decide_eq_true c_2]) rfl)

set_option maxHeartbeats 4000000 in
set_option maxRecDepth 100000 in
theorem m_X0_isLength {l : Launch} {D : va_G} {tys : List (ClassId × FieldType)} {w0 : va_W} (z : Int) (hz : -2147483648 ≤ z ∧ z < 2147483648) : CT l yX0_isLength wsX0_isLength (rmN 0 0) D vwCl tys [iV z] w0 (PD (some (bV (decide (z = 4 ∨ z = 8 ∨ z = 16)))) w0) 0 0 := by
  refine ct_of (plainFor_of_name (by decide)) rfl (Nat.le_of_ble_eq_true rfl) (fun φ C rX => ?_)
  refine xw_le (lv' := [(0, iV z)]) rfl ?_
  refine xw_iload_n (pc := 0) C 0 dX0_isLength_0 rfl ?_
  refine xw_iconst_N (pc := 1) C 4 dX0_isLength_1 rfl ?_
  refine xw_icmp_eq (pc := 2) (tgt := 17) C dX0_isLength_2 (by decide) (by omega) (by omega) (fun c_1 => ?_) (fun c_1 => ?_)
  ·
    refine xw_iconst_N (pc := 17) C 1 dX0_isLength_17 rfl ?_
    refine xw_goto (pc := 18) (tgt := 22) C dX0_isLength_18 (by decide) ?_
    refine xw_st (st' := [bV true]) rfl ?_
    exact xw_bret (pc := 22) C rX (Nat.le_refl _) (Nat.le_refl _) dX0_isLength_22 (PD.e (by first | rw [decide_eq_true (by omega)] | rw [decide_eq_false (by omega)]) rfl)
  ·
    refine xw_iload_n (pc := 5) C 0 dX0_isLength_5 rfl ?_
    refine xw_bipush_N (pc := 6) C 8 dX0_isLength_6 (by decide) ?_
    refine xw_icmp_eq (pc := 8) (tgt := 17) C dX0_isLength_8 (by decide) (by omega) (by omega) (fun c_2 => ?_) (fun c_2 => ?_)
    ·
      refine xw_iconst_N (pc := 17) C 1 dX0_isLength_17 rfl ?_
      refine xw_goto (pc := 18) (tgt := 22) C dX0_isLength_18 (by decide) ?_
      refine xw_st (st' := [bV true]) rfl ?_
      exact xw_bret (pc := 22) C rX (Nat.le_refl _) (Nat.le_refl _) dX0_isLength_22 (PD.e (by first | rw [decide_eq_true (by omega)] | rw [decide_eq_false (by omega)]) rfl)
    ·
      refine xw_iload_n (pc := 11) C 0 dX0_isLength_11 rfl ?_
      refine xw_bipush_N (pc := 12) C 16 dX0_isLength_12 (by decide) ?_
      refine xw_icmp_ne (pc := 14) (tgt := 21) C dX0_isLength_14 (by decide) (by omega) (by omega) (fun c_3 => ?_) (fun c_3 => ?_)
      ·
        refine xw_iconst_N (pc := 21) C 0 dX0_isLength_21 rfl ?_
        refine xw_st (st' := [bV false]) rfl ?_
        exact xw_bret (pc := 22) C rX (Nat.le_refl _) (Nat.le_refl _) dX0_isLength_22 (PD.e (by first | rw [decide_eq_true (by omega)] | rw [decide_eq_false (by omega)]) rfl)
      ·
        refine xw_iconst_N (pc := 17) C 1 dX0_isLength_17 rfl ?_
        refine xw_goto (pc := 18) (tgt := 22) C dX0_isLength_18 (by decide) ?_
        refine xw_st (st' := [bV true]) rfl ?_
        exact xw_bret (pc := 22) C rX (Nat.le_refl _) (Nat.le_refl _) dX0_isLength_22 (PD.e (by first | rw [decide_eq_true (by omega)] | rw [decide_eq_false (by omega)]) rfl)

set_option maxHeartbeats 4000000 in
set_option maxRecDepth 100000 in
theorem m_X0_isPrimeOfRing {l : Launch} {D : va_G} {tys : List (ClassId × FieldType)} {w0 : va_W} (z : Int) (hz : -2147483648 ≤ z ∧ z < 2147483648) : CT l yX0_isPrimeOfRing wsX0_isPrimeOfRing (rmN 1 21) D vwCl tys [iV z] w0 (PD (some (bV (decide (5 ≤ z ∧ z ≤ 499) && prm z.toNat))) w0) 0 0 := by
  refine ct_of (plainFor_of_name (by decide)) rfl (Nat.le_of_ble_eq_true rfl) (fun φ C rX => ?_)
  refine xw_le (lv' := [(0, iV z)]) rfl ?_
  refine xw_iload_n (pc := 0) C 0 dX0_isPrimeOfRing_0 rfl ?_
  refine xw_iconst_N (pc := 1) C 5 dX0_isPrimeOfRing_1 rfl ?_
  refine xw_icmp_lt (pc := 2) (tgt := 12) C dX0_isPrimeOfRing_2 (by decide) (by omega) (by omega) (fun c_1 => ?_) (fun c_1 => ?_)
  ·
    refine xw_iconst_N (pc := 12) C 0 dX0_isPrimeOfRing_12 rfl ?_
    refine xw_st (st' := [bV false]) rfl ?_
    exact xw_bret (pc := 13) C rX (Nat.le_refl _) (Nat.le_refl _) dX0_isPrimeOfRing_13 (PD.e (by rw [decide_eq_false (by omega)]; rfl) rfl)
  ·
    refine xw_iload_n (pc := 5) C 0 dX0_isPrimeOfRing_5 rfl ?_
    refine xw_sipush_N (pc := 6) C 499 dX0_isPrimeOfRing_6 (by decide) ?_
    refine xw_icmp_le (pc := 9) (tgt := 14) C dX0_isPrimeOfRing_9 (by decide) (by omega) (by omega) (fun c_2 => ?_) (fun c_2 => ?_)
    ·
      obtain ⟨v, rfl⟩ : ∃ v : Nat, z = (v : Int) := ⟨z.toNat, by omega⟩
      refine xw_iconst_N (pc := 14) C 2 dX0_isPrimeOfRing_14 rfl ?_
      refine xw_istore_n (pc := 15) (lv' := [(0, nV v), (1, nV 2)]) C [1, 0] dX0_isPrimeOfRing_15 rfl (by decide) rfl ?_
      have L16 : ∀ (fuel : Nat) (k : Nat), 23 < k + fuel → 2 ≤ k → k ≤ 23 → (∀ j, 2 ≤ j → j < k → ¬ v % j = 0) → xw φ 0 0 (w0) 16 [(0, nV v), (1, nV k)] [] := by
        intro fuel
        induction fuel with
        | zero =>
          intro k hk hk2 hk3 hall
          omega
        | succ fuel ih16 =>
          intro k hk hk2 hk3 hall
          refine xw_iload_n (pc := 16) C 1 dX0_isPrimeOfRing_16 rfl ?_
          refine xw_iload_n (pc := 17) C 1 dX0_isPrimeOfRing_17 rfl ?_
          refine xw_imul_N (pc := 18) C dX0_isPrimeOfRing_18 ?_
          refine xw_iload_n (pc := 19) C 0 dX0_isPrimeOfRing_19 rfl ?_
          have hkk := Nat.mul_le_mul hk3 hk3
          refine xw_icmp_gt_N (pc := 20) (tgt := 39) C dX0_isPrimeOfRing_20 (by decide) (by omega) (by omega) (fun c_3 => ?_) (fun c_3 => ?_)
          ·
            refine xw_iconst_N (pc := 39) C 1 dX0_isPrimeOfRing_39 rfl ?_
            refine xw_st (st' := [bV true]) rfl ?_
            exact xw_bret (pc := 40) C rX (Nat.le_refl _) (Nat.le_refl _) dX0_isPrimeOfRing_40 (PD.e (by rw [show ((v : Int)).toNat = v from rfl, decide_eq_true (by omega), prm_t hall c_3]; rfl) rfl)
          ·
            have hk23 := sq_lt (v := v) (k := k) (by omega) (by omega)
            refine xw_iload_n (pc := 23) C 1 dX0_isPrimeOfRing_23 rfl ?_
            refine xw_iload_n (pc := 24) C 0 dX0_isPrimeOfRing_24 rfl ?_
            refine xw_Sd (pc := 25) (na := 2) (rest := []) (st' := [bV (decide (v % k = 0))]) C (m_X0_divides k v (by omega) (by omega) (by omega)) gX0_isPrimeOfRing_X0_divides rfl rfl rfl rfl (by decide +kernel) ⟨Nat.le_of_ble_eq_true rfl, Nat.le_of_ble_eq_true rfl⟩ rfl (Nat.le_of_ble_eq_true rfl) dX0_isPrimeOfRing_25 ⟨Nat.le_of_ble_eq_true rfl, Nat.le_of_ble_eq_true rfl⟩ rfl ?_
            refine xw_if_eq_B (pc := 28) (tgt := 33) C dX0_isPrimeOfRing_28 (by decide)  (fun c_4 => ?_) (fun c_4 => ?_)
            ·
              refine xw_iinc_N (pc := 33) (b := k + 1) (lv' := [(0, nV v), (1, nV (k + 1))]) C 1 [1, 0] dX0_isPrimeOfRing_33 rfl (by decide) rfl rfl ?_
              refine xw_goto (pc := 36) (tgt := 16) C dX0_isPrimeOfRing_36 (by decide) ?_
              exact ih16 (k + 1) (by omega) (by omega) (by omega) (fun j h1 h2 => by rcases Nat.lt_or_ge j k with q | q; exact hall j h1 q; rw [show j = k by omega]; exact of_decide_eq_false c_4)
            ·
              refine xw_iconst_N (pc := 31) C 0 dX0_isPrimeOfRing_31 rfl ?_
              refine xw_st (st' := [bV false]) rfl ?_
              exact xw_bret (pc := 32) C rX (Nat.le_refl _) (Nat.le_refl _) dX0_isPrimeOfRing_32 (PD.e (by rw [show ((v : Int)).toNat = v from rfl, prm_f hk23 hk2 (by omega) (of_decide_eq_true c_4), Bool.and_false]) rfl)
      exact L16 24 2 (by omega) (by omega) (by omega) (fun j h1 h2 => absurd h2 (by omega))
    ·
      refine xw_iconst_N (pc := 12) C 0 dX0_isPrimeOfRing_12 rfl ?_
      refine xw_st (st' := [bV false]) rfl ?_
      exact xw_bret (pc := 13) C rX (Nat.le_refl _) (Nat.le_refl _) dX0_isPrimeOfRing_13 (PD.e (by rw [decide_eq_false (by omega)]; rfl) rfl)

set_option maxHeartbeats 4000000 in
set_option maxRecDepth 100000 in
theorem m_X0_joined {l : Launch} {D : va_G} {cI : ClassId} {h a n p b w wi ni : Nat} {A : Nat → Nat} (hp : 0 < p) (hp5 : p < 500) (x y what : Nat) (hx : x < 500) (hy : y ≤ p) (hwh : what < 3) : CT l yX0_joined wsX0_joined (rmN 2 43) D vwCl [(cI, .int)] [.ref h, nV x, nV y, nV what] (wX cI h a n p b w wi ni A) (PD (some (nV (jn p x y what))) (wX cI h a n p b w wi ni A)) 0 0 := by
  refine ct_of (plainFor_of_name (by decide)) rfl (Nat.le_of_ble_eq_true rfl) (fun φ C rX => ?_)
  refine xw_le (lv' := [(0, .ref h), (1, nV x), (2, nV y), (3, nV what)]) rfl ?_
  refine xw_iload_n (pc := 0) C 3 dX0_joined_0 rfl ?_
  refine xw_if_ne_N (pc := 1) (tgt := 12) C dX0_joined_1 (by decide) (by omega) (fun c_1 => ?_) (fun c_1 => ?_)
  ·
    refine xw_iload_n (pc := 12) C 3 dX0_joined_12 rfl ?_
    refine xw_iconst_N (pc := 13) C 1 dX0_joined_13 rfl ?_
    refine xw_icmp_ne_N (pc := 14) (tgt := 25) C dX0_joined_14 (by decide) (by omega) (by omega) (fun c_2 => ?_) (fun c_2 => ?_)
    ·
      obtain rfl : what = 2 := by omega
      refine xw_aload_n (pc := 25) C 0 dX0_joined_25 rfl ?_
      refine xw_iload_n (pc := 26) C 1 dX0_joined_26 rfl ?_
      refine xw_iload_n (pc := 27) C 2 dX0_joined_27 rfl ?_
      refine xw_imul_N (pc := 28) C dX0_joined_28 ?_
      refine xw_Vd (pc := 29) (q0 := 0) (na := 1) (rest := []) (st' := [nV ((x * y) % p)]) C (m_X0_reduced (show 0 < p by omega) hp5 ((x * y : Nat) : Int) ((x * y) % p) (Int.natCast_emod _ _).symm (rgN (mb0 hx (by omega)))) gX0_joined_X0_reduced rfl rfl rfl rfl (by decide +kernel) ⟨Nat.le_of_ble_eq_true rfl, Nat.le_of_ble_eq_true rfl⟩ rfl rfl rfl (Nat.le_of_ble_eq_true rfl) dX0_joined_29 ⟨Nat.le_of_ble_eq_true rfl, Nat.le_of_ble_eq_true rfl⟩ rfl ?_
      exact xw_iret (pc := 32) C rX (Nat.le_refl _) (Nat.le_refl _) dX0_joined_32 (PD.i)
    ·
      obtain rfl : what = 1 := by omega
      refine xw_aload_n (pc := 17) C 0 dX0_joined_17 rfl ?_
      refine xw_iload_n (pc := 18) C 1 dX0_joined_18 rfl ?_
      refine xw_iload_n (pc := 19) C 2 dX0_joined_19 rfl ?_
      refine xw_isub (pc := 20) C dX0_joined_20 ?_
      refine xw_Vd (pc := 21) (q0 := 0) (na := 1) (rest := []) (st' := [nV ((x + p - y) % p)]) C (m_X0_reduced (show 0 < p by omega) hp5 ((((x : Nat) : Int)) - (((y : Nat) : Int))) ((x + p - y) % p) (sub_em hy) (by omega)) gX0_joined_X0_reduced rfl rfl rfl rfl (by decide +kernel) ⟨Nat.le_of_ble_eq_true rfl, Nat.le_of_ble_eq_true rfl⟩ rfl rfl rfl (Nat.le_of_ble_eq_true rfl) dX0_joined_21 ⟨Nat.le_of_ble_eq_true rfl, Nat.le_of_ble_eq_true rfl⟩ rfl ?_
      exact xw_iret (pc := 24) C rX (Nat.le_refl _) (Nat.le_refl _) dX0_joined_24 (PD.i)
  ·
    obtain rfl : what = 0 := by omega
    refine xw_aload_n (pc := 4) C 0 dX0_joined_4 rfl ?_
    refine xw_iload_n (pc := 5) C 1 dX0_joined_5 rfl ?_
    refine xw_iload_n (pc := 6) C 2 dX0_joined_6 rfl ?_
    refine xw_iadd_N (pc := 7) C dX0_joined_7 ?_
    refine xw_Vd (pc := 8) (q0 := 0) (na := 1) (rest := []) (st' := [nV ((x + y) % p)]) C (m_X0_reduced (show 0 < p by omega) hp5 ((x + y : Nat) : Int) ((x + y) % p) (Int.natCast_emod _ _).symm (rgN (by omega))) gX0_joined_X0_reduced rfl rfl rfl rfl (by decide +kernel) ⟨Nat.le_of_ble_eq_true rfl, Nat.le_of_ble_eq_true rfl⟩ rfl rfl rfl (Nat.le_of_ble_eq_true rfl) dX0_joined_8 ⟨Nat.le_of_ble_eq_true rfl, Nat.le_of_ble_eq_true rfl⟩ rfl ?_
    exact xw_iret (pc := 11) C rX (Nat.le_refl _) (Nat.le_refl _) dX0_joined_11 (PD.i)

set_option maxHeartbeats 4000000 in
set_option maxRecDepth 100000 in
theorem m_X0_mirrored {l : Launch} {D : va_G} {cI : ClassId} {h a n p b w wi ni : Nat} {A : Nat → Nat} (hb : b < 5) (q : Nat) (hq : q < 16) : CT l yX0_mirrored wsX0_mirrored (rmN 0 0) D vwCl [(cI, .int)] [.ref h, nV q] (wX cI h a n p b w wi ni A) (PD (some (nV (mi q b))) (wX cI h a n p b w wi ni A)) 0 0 := by
  refine ct_of (plainFor_of_name (by decide)) rfl (Nat.le_of_ble_eq_true rfl) (fun φ C rX => ?_)
  have hin : ∀ w ∈ wsX00, w ∈ wsX0_mirrored := by decide +kernel
  refine xw_le (lv' := [(0, .ref h), (1, nV q)]) rfl ?_
  refine xw_iconst_N (pc := 0) C 0 dX0_mirrored_0 rfl ?_
  refine xw_istore_n (pc := 1) (lv' := [(0, .ref h), (1, nV q), (2, nV 0)]) C [1, 2, 0] dX0_mirrored_1 rfl (by decide) rfl ?_
  refine xw_iconst_N (pc := 2) C 0 dX0_mirrored_2 rfl ?_
  refine xw_istore_n (pc := 3) (lv' := [(0, .ref h), (1, nV q), (2, nV 0), (3, nV 0)]) C [1, 2, 3, 0] dX0_mirrored_3 rfl (by decide) rfl ?_
  have L4 : ∀ (fuel : Nat) (k acc : Nat), b < k + fuel → k ≤ b → acc = mi q k → xw φ 0 0 (wX cI h a n p b w wi ni A) 4 [(0, .ref h), (1, nV q), (2, nV acc), (3, nV k)] [] := by
    intro fuel
    induction fuel with
    | zero =>
      intro k acc hk hkb hacc
      omega
    | succ fuel ih4 =>
      intro k acc hk hkb hacc
      refine xw_iload_n (pc := 4) C 3 dX0_mirrored_4 rfl ?_
      refine xw_aload_n (pc := 5) C 0 dX0_mirrored_5 rfl ?_
      refine xw_get (pc := 6) (T := TX0) (N := 7) (ref := "ToneButterflies") C hin 0 3 rfl rfl (by decide) (by decide +kernel) rfl rfl dX0_mirrored_6 ?_
      refine xw_icmp_ge_N (pc := 9) (tgt := 28) C dX0_mirrored_9 (by decide) (by omega) (by omega) (fun c_1 => ?_) (fun c_1 => ?_)
      ·
        obtain rfl : k = b := by omega
        refine xw_iload_n (pc := 28) C 2 dX0_mirrored_28 rfl ?_
        exact xw_iret (pc := 29) C rX (Nat.le_refl _) (Nat.le_refl _) dX0_mirrored_29 (PD.e (by rw [hacc]) rfl)
      ·
        have hm1 := mi_lt q k
        have hm2 : 2 ^ k ≤ 8 := by rcases (show k = 0 ∨ k = 1 ∨ k = 2 ∨ k = 3 by omega) with rfl | rfl | rfl | rfl <;> decide
        have hm3 := Nat.mod_lt (q / 2 ^ k) (show 2 > 0 by omega)
        have hm4 := Nat.div_le_self q (2 ^ k)
        refine xw_iload_n (pc := 12) C 2 dX0_mirrored_12 rfl ?_
        refine xw_iconst_N (pc := 13) C 1 dX0_mirrored_13 rfl ?_
        refine xw_ishl (pc := 14) (r := iI ((acc * 2 : Nat) : Int)) C dX0_mirrored_14 (shl_1 acc (by omega)) ?_
        refine xw_iload_n (pc := 15) C 1 dX0_mirrored_15 rfl ?_
        refine xw_iload_n (pc := 16) C 3 dX0_mirrored_16 rfl ?_
        refine xw_ishr (pc := 17) (r := iI ((q / 2 ^ k : Nat) : Int)) C dX0_mirrored_17 (shr_k q hq k (by omega)) ?_
        refine xw_iconst_N (pc := 18) C 1 dX0_mirrored_18 rfl ?_
        refine xw_iand (pc := 19) (r := iI ((q / 2 ^ k % 2 : Nat) : Int)) C dX0_mirrored_19 (and_1 (by omega)) ?_
        refine xw_ior (pc := 20) (r := iI ((acc * 2 + q / 2 ^ k % 2 : Nat) : Int)) C dX0_mirrored_20 (or_b acc (by omega) _ hm3) ?_
        refine xw_istore_n (pc := 21) (lv' := [(0, .ref h), (1, nV q), (2, nV (acc * 2 + q / 2 ^ k % 2)), (3, nV k)]) C [1, 2, 0, 3] dX0_mirrored_21 rfl (by decide) rfl ?_
        refine xw_iinc_N (pc := 22) (b := k + 1) (lv' := [(0, .ref h), (1, nV q), (2, nV (acc * 2 + q / 2 ^ k % 2)), (3, nV (k + 1))]) C 3 [1, 2, 3, 0] dX0_mirrored_22 rfl (by decide) rfl rfl ?_
        refine xw_goto (pc := 25) (tgt := 4) C dX0_mirrored_25 (by decide) ?_
        exact ih4 (k + 1) _ (by omega) (by omega) (by rw [mi, ← hacc])
  exact L4 (b + 1) 0 0 (by omega) (by omega) rfl

set_option maxHeartbeats 4000000 in
set_option maxRecDepth 100000 in
theorem m_X0_takeRing {l : Launch} {D : va_G} {cI : ClassId} {h a n p b w wi ni : Nat} {A : Nat → Nat} (n1 p1 : Nat) (hn : n1 = 4 ∨ n1 = 8 ∨ n1 = 16) (hp : 4 < p1) (hp5 : p1 < 500) : CT l yX0_takeRing wsX0_takeRing (rmN 4 89) D vwCl [(cI, .int)] [.ref h, nV n1, nV p1] (wX cI h a n p b w wi ni A) (PD (none) (wX cI h a n1 p1 (bt n1) (rt n1 p1) (rt n1 p1 ^ (p1 - 2) % p1) (n1 ^ (p1 - 2) % p1) (zf A 80))) 0 0 := by
  refine ct_of (plainFor_of_name (by decide)) rfl (Nat.le_of_ble_eq_true rfl) (fun φ C rX => ?_)
  have hin : ∀ w ∈ wsX00, w ∈ wsX0_takeRing := by decide +kernel
  refine xw_le (lv' := [(0, .ref h), (1, nV n1), (2, nV p1)]) rfl ?_
  have hn3 := lt3 hn
  refine xw_aload_n (pc := 0) C 0 dX0_takeRing_0 rfl ?_
  refine xw_iload_n (pc := 1) C 1 dX0_takeRing_1 rfl ?_
  refine xw_put (pc := 2) (T := TX0) (N := 7) (ref := "ToneButterflies") (w' := wX cI h a n1 p b w wi ni A) C hin tyX0 tyX0_ok nmX0 0 1 rfl rfl (by decide) (by decide +kernel) rfl rfl rfl rfl (Nat.le_of_ble_eq_true rfl) rfl dX0_takeRing_2 ?_
  refine xw_aload_n (pc := 5) C 0 dX0_takeRing_5 rfl ?_
  refine xw_iload_n (pc := 6) C 2 dX0_takeRing_6 rfl ?_
  refine xw_put (pc := 7) (T := TX0) (N := 7) (ref := "ToneButterflies") (w' := wX cI h a n1 p1 b w wi ni A) C hin tyX0 tyX0_ok nmX0 0 2 rfl rfl (by decide) (by decide +kernel) rfl rfl rfl rfl (Nat.le_of_ble_eq_true rfl) rfl dX0_takeRing_7 ?_
  refine xw_aload_n (pc := 10) C 0 dX0_takeRing_10 rfl ?_
  refine xw_iload_n (pc := 11) C 1 dX0_takeRing_11 rfl ?_
  refine xw_iconst_N (pc := 12) C 4 dX0_takeRing_12 rfl ?_
  refine xw_icmp_ne_N (pc := 13) (tgt := 20) C dX0_takeRing_13 (by decide) (by omega) (by omega) (fun c_1 => ?_) (fun c_1 => ?_)
  ·
    refine xw_iload_n (pc := 20) C 1 dX0_takeRing_20 rfl ?_
    refine xw_bipush_N (pc := 21) C 8 dX0_takeRing_21 (by decide) ?_
    refine xw_icmp_ne_N (pc := 23) (tgt := 30) C dX0_takeRing_23 (by decide) (by omega) (by omega) (fun c_2 => ?_) (fun c_2 => ?_)
    ·
      refine xw_iconst_N (pc := 30) C 4 dX0_takeRing_30 rfl ?_
      refine xw_st (st' := [nV (bt n1), .ref h]) (by rw [bt, if_neg (by omega), if_neg (by omega)]) ?_
      refine xw_put (pc := 31) (T := TX0) (N := 7) (ref := "ToneButterflies") (w' := wX cI h a n1 p1 (bt n1) w wi ni A) C hin tyX0 tyX0_ok nmX0 0 3 rfl rfl (by decide) (by decide +kernel) rfl rfl rfl rfl (Nat.le_of_ble_eq_true rfl) rfl dX0_takeRing_31 ?_
      refine xw_aload_n (pc := 34) C 0 dX0_takeRing_34 rfl ?_
      refine xw_aload_n (pc := 35) C 0 dX0_takeRing_35 rfl ?_
      refine xw_Vd (pc := 36) (q0 := 0) (na := 0) (rest := [.ref h]) (st' := [nV (rt n1 p1), .ref h]) C (m_X0_smallestRoot hp hp5 hn) gX0_takeRing_X0_smallestRoot rfl rfl rfl rfl (by decide +kernel) ⟨Nat.le_of_ble_eq_true rfl, Nat.le_of_ble_eq_true rfl⟩ rfl rfl rfl (Nat.le_of_ble_eq_true rfl) dX0_takeRing_36 ⟨Nat.le_of_ble_eq_true rfl, Nat.le_of_ble_eq_true rfl⟩ rfl ?_
      refine xw_put (pc := 39) (T := TX0) (N := 7) (ref := "ToneButterflies") (w' := wX cI h a n1 p1 (bt n1) (rt n1 p1) wi ni A) C hin tyX0 tyX0_ok nmX0 0 4 rfl rfl (by decide) (by decide +kernel) rfl rfl rfl rfl (Nat.le_of_ble_eq_true rfl) rfl dX0_takeRing_39 ?_
      refine xw_aload_n (pc := 42) C 0 dX0_takeRing_42 rfl ?_
      refine xw_aload_n (pc := 43) C 0 dX0_takeRing_43 rfl ?_
      refine xw_aload_n (pc := 44) C 0 dX0_takeRing_44 rfl ?_
      have hrt := (fs_le (P := (fun c => decide (c ^ (n1 / 2) % p1 = p1 - 1))) (p1 - 3) 2).2
      have hrt5 : rt n1 p1 < 500 := by unfold rt; omega
      refine xw_get (pc := 45) (T := TX0) (N := 7) (ref := "ToneButterflies") C hin 0 4 rfl rfl (by decide) (by decide +kernel) rfl rfl dX0_takeRing_45 ?_
      refine xw_Vd (pc := 48) (q0 := 0) (na := 1) (rest := [.ref h]) (st' := [nV ((rt n1 p1) ^ (p1 - 2) % p1), .ref h]) C (m_X0_inverseOf (show 1 < p1 by omega) hp5 (rt n1 p1) (by omega)) gX0_takeRing_X0_inverseOf rfl rfl rfl rfl (by decide +kernel) ⟨Nat.le_of_ble_eq_true rfl, Nat.le_of_ble_eq_true rfl⟩ rfl rfl rfl (Nat.le_of_ble_eq_true rfl) dX0_takeRing_48 ⟨Nat.le_of_ble_eq_true rfl, Nat.le_of_ble_eq_true rfl⟩ rfl ?_
      refine xw_put (pc := 51) (T := TX0) (N := 7) (ref := "ToneButterflies") (w' := wX cI h a n1 p1 (bt n1) (rt n1 p1) ((rt n1 p1) ^ (p1 - 2) % p1) ni A) C hin tyX0 tyX0_ok nmX0 0 5 rfl rfl (by decide) (by decide +kernel) rfl rfl rfl rfl (Nat.le_of_ble_eq_true rfl) rfl dX0_takeRing_51 ?_
      refine xw_aload_n (pc := 54) C 0 dX0_takeRing_54 rfl ?_
      refine xw_aload_n (pc := 55) C 0 dX0_takeRing_55 rfl ?_
      refine xw_iload_n (pc := 56) C 1 dX0_takeRing_56 rfl ?_
      refine xw_Vd (pc := 57) (q0 := 0) (na := 1) (rest := [.ref h]) (st' := [nV (n1 ^ (p1 - 2) % p1), .ref h]) C (m_X0_inverseOf (show 1 < p1 by omega) hp5 n1 (by omega)) gX0_takeRing_X0_inverseOf rfl rfl rfl rfl (by decide +kernel) ⟨Nat.le_of_ble_eq_true rfl, Nat.le_of_ble_eq_true rfl⟩ rfl rfl rfl (Nat.le_of_ble_eq_true rfl) dX0_takeRing_57 ⟨Nat.le_of_ble_eq_true rfl, Nat.le_of_ble_eq_true rfl⟩ rfl ?_
      refine xw_put (pc := 60) (T := TX0) (N := 7) (ref := "ToneButterflies") (w' := wX cI h a n1 p1 (bt n1) (rt n1 p1) ((rt n1 p1) ^ (p1 - 2) % p1) (n1 ^ (p1 - 2) % p1) A) C hin tyX0 tyX0_ok nmX0 0 6 rfl rfl (by decide) (by decide +kernel) rfl rfl rfl rfl (Nat.le_of_ble_eq_true rfl) rfl dX0_takeRing_60 ?_
      refine xw_iconst_N (pc := 63) C 0 dX0_takeRing_63 rfl ?_
      refine xw_istore_n (pc := 64) (lv' := [(0, .ref h), (1, nV n1), (2, nV p1), (3, nV 0)]) C [1, 2, 3, 0] dX0_takeRing_64 rfl (by decide) rfl ?_
      have L65 : ∀ (fuel : Nat) (k : Nat), 80 < k + fuel → k ≤ 80 → xw φ 0 0 (wX cI h a n1 p1 (bt n1) (rt n1 p1) (rt n1 p1 ^ (p1 - 2) % p1) (n1 ^ (p1 - 2) % p1) (zf A k)) 65 [(0, .ref h), (1, nV n1), (2, nV p1), (3, nV k)] [] := by
        intro fuel
        induction fuel with
        | zero =>
          intro k hk hk8
          omega
        | succ fuel ih65 =>
          intro k hk hk8
          refine xw_iload_n (pc := 65) C 3 dX0_takeRing_65 rfl ?_
          refine xw_aload_n (pc := 66) C 0 dX0_takeRing_66 rfl ?_
          refine xw_get (pc := 67) (T := TX0) (N := 7) (ref := "ToneButterflies") C hin 0 0 rfl rfl (by decide) (by decide +kernel) rfl rfl dX0_takeRing_67 ?_
          refine xw_alen (pc := 70) C 1 0 rfl rfl dX0_takeRing_70 ?_
          refine xw_icmp_ge_N (pc := 71) (tgt := 87) C dX0_takeRing_71 (by decide) (by omega) (by omega) (fun c_3 => ?_) (fun c_3 => ?_)
          ·
            obtain rfl : k = 80 := by omega
            exact xw_vret (pc := 87) C rX (Nat.le_refl _) (Nat.le_refl _) dX0_takeRing_87 (PD.i)
          ·
            refine xw_aload_n (pc := 74) C 0 dX0_takeRing_74 rfl ?_
            refine xw_get (pc := 75) (T := TX0) (N := 7) (ref := "ToneButterflies") C hin 0 0 rfl rfl (by decide) (by decide +kernel) rfl rfl dX0_takeRing_75 ?_
            refine xw_iload_n (pc := 78) C 3 dX0_takeRing_78 rfl ?_
            refine xw_iconst_N (pc := 79) C 0 dX0_takeRing_79 rfl ?_
            refine xw_iast (pc := 80) (w' := wX cI h a n1 p1 (bt n1) (rt n1 p1) (rt n1 p1 ^ (p1 - 2) % p1) (n1 ^ (p1 - 2) % p1) (va_up (zf A k) k 0)) C 1 0 k 0 rfl rfl (rfl) rfl (by omega) (by decide) rfl dX0_takeRing_80 ?_
            refine xw_wo (w' := wX cI h a n1 p1 (bt n1) (rt n1 p1) (rt n1 p1 ^ (p1 - 2) % p1) (n1 ^ (p1 - 2) % p1) (zf A (k + 1))) (by rw [zf_s]) ?_
            refine xw_iinc_N (pc := 81) (b := k + 1) (lv' := [(0, .ref h), (1, nV n1), (2, nV p1), (3, nV (k + 1))]) C 3 [1, 2, 3, 0] dX0_takeRing_81 rfl (by decide) rfl rfl ?_
            refine xw_goto (pc := 84) (tgt := 65) C dX0_takeRing_84 (by decide) ?_
            exact ih65 (k + 1) (by omega) (by omega)
      refine xw_wo (w' := wX cI h a n1 p1 (bt n1) (rt n1 p1) (rt n1 p1 ^ (p1 - 2) % p1) (n1 ^ (p1 - 2) % p1) (zf A 0)) (by rw [zf_0]) ?_
      exact L65 81 0 (by omega) (by omega)
    ·
      refine xw_iconst_N (pc := 26) C 3 dX0_takeRing_26 rfl ?_
      refine xw_goto (pc := 27) (tgt := 31) C dX0_takeRing_27 (by decide) ?_
      refine xw_st (st' := [nV (bt n1), .ref h]) (by rw [bt, if_neg (by omega), if_pos (by omega)]) ?_
      refine xw_put (pc := 31) (T := TX0) (N := 7) (ref := "ToneButterflies") (w' := wX cI h a n1 p1 (bt n1) w wi ni A) C hin tyX0 tyX0_ok nmX0 0 3 rfl rfl (by decide) (by decide +kernel) rfl rfl rfl rfl (Nat.le_of_ble_eq_true rfl) rfl dX0_takeRing_31 ?_
      refine xw_aload_n (pc := 34) C 0 dX0_takeRing_34 rfl ?_
      refine xw_aload_n (pc := 35) C 0 dX0_takeRing_35 rfl ?_
      refine xw_Vd (pc := 36) (q0 := 0) (na := 0) (rest := [.ref h]) (st' := [nV (rt n1 p1), .ref h]) C (m_X0_smallestRoot hp hp5 hn) gX0_takeRing_X0_smallestRoot rfl rfl rfl rfl (by decide +kernel) ⟨Nat.le_of_ble_eq_true rfl, Nat.le_of_ble_eq_true rfl⟩ rfl rfl rfl (Nat.le_of_ble_eq_true rfl) dX0_takeRing_36 ⟨Nat.le_of_ble_eq_true rfl, Nat.le_of_ble_eq_true rfl⟩ rfl ?_
      refine xw_put (pc := 39) (T := TX0) (N := 7) (ref := "ToneButterflies") (w' := wX cI h a n1 p1 (bt n1) (rt n1 p1) wi ni A) C hin tyX0 tyX0_ok nmX0 0 4 rfl rfl (by decide) (by decide +kernel) rfl rfl rfl rfl (Nat.le_of_ble_eq_true rfl) rfl dX0_takeRing_39 ?_
      refine xw_aload_n (pc := 42) C 0 dX0_takeRing_42 rfl ?_
      refine xw_aload_n (pc := 43) C 0 dX0_takeRing_43 rfl ?_
      refine xw_aload_n (pc := 44) C 0 dX0_takeRing_44 rfl ?_
      have hrt := (fs_le (P := (fun c => decide (c ^ (n1 / 2) % p1 = p1 - 1))) (p1 - 3) 2).2
      have hrt5 : rt n1 p1 < 500 := by unfold rt; omega
      refine xw_get (pc := 45) (T := TX0) (N := 7) (ref := "ToneButterflies") C hin 0 4 rfl rfl (by decide) (by decide +kernel) rfl rfl dX0_takeRing_45 ?_
      refine xw_Vd (pc := 48) (q0 := 0) (na := 1) (rest := [.ref h]) (st' := [nV ((rt n1 p1) ^ (p1 - 2) % p1), .ref h]) C (m_X0_inverseOf (show 1 < p1 by omega) hp5 (rt n1 p1) (by omega)) gX0_takeRing_X0_inverseOf rfl rfl rfl rfl (by decide +kernel) ⟨Nat.le_of_ble_eq_true rfl, Nat.le_of_ble_eq_true rfl⟩ rfl rfl rfl (Nat.le_of_ble_eq_true rfl) dX0_takeRing_48 ⟨Nat.le_of_ble_eq_true rfl, Nat.le_of_ble_eq_true rfl⟩ rfl ?_
      refine xw_put (pc := 51) (T := TX0) (N := 7) (ref := "ToneButterflies") (w' := wX cI h a n1 p1 (bt n1) (rt n1 p1) ((rt n1 p1) ^ (p1 - 2) % p1) ni A) C hin tyX0 tyX0_ok nmX0 0 5 rfl rfl (by decide) (by decide +kernel) rfl rfl rfl rfl (Nat.le_of_ble_eq_true rfl) rfl dX0_takeRing_51 ?_
      refine xw_aload_n (pc := 54) C 0 dX0_takeRing_54 rfl ?_
      refine xw_aload_n (pc := 55) C 0 dX0_takeRing_55 rfl ?_
      refine xw_iload_n (pc := 56) C 1 dX0_takeRing_56 rfl ?_
      refine xw_Vd (pc := 57) (q0 := 0) (na := 1) (rest := [.ref h]) (st' := [nV (n1 ^ (p1 - 2) % p1), .ref h]) C (m_X0_inverseOf (show 1 < p1 by omega) hp5 n1 (by omega)) gX0_takeRing_X0_inverseOf rfl rfl rfl rfl (by decide +kernel) ⟨Nat.le_of_ble_eq_true rfl, Nat.le_of_ble_eq_true rfl⟩ rfl rfl rfl (Nat.le_of_ble_eq_true rfl) dX0_takeRing_57 ⟨Nat.le_of_ble_eq_true rfl, Nat.le_of_ble_eq_true rfl⟩ rfl ?_
      refine xw_put (pc := 60) (T := TX0) (N := 7) (ref := "ToneButterflies") (w' := wX cI h a n1 p1 (bt n1) (rt n1 p1) ((rt n1 p1) ^ (p1 - 2) % p1) (n1 ^ (p1 - 2) % p1) A) C hin tyX0 tyX0_ok nmX0 0 6 rfl rfl (by decide) (by decide +kernel) rfl rfl rfl rfl (Nat.le_of_ble_eq_true rfl) rfl dX0_takeRing_60 ?_
      refine xw_iconst_N (pc := 63) C 0 dX0_takeRing_63 rfl ?_
      refine xw_istore_n (pc := 64) (lv' := [(0, .ref h), (1, nV n1), (2, nV p1), (3, nV 0)]) C [1, 2, 3, 0] dX0_takeRing_64 rfl (by decide) rfl ?_
      have L65 : ∀ (fuel : Nat) (k : Nat), 80 < k + fuel → k ≤ 80 → xw φ 0 0 (wX cI h a n1 p1 (bt n1) (rt n1 p1) (rt n1 p1 ^ (p1 - 2) % p1) (n1 ^ (p1 - 2) % p1) (zf A k)) 65 [(0, .ref h), (1, nV n1), (2, nV p1), (3, nV k)] [] := by
        intro fuel
        induction fuel with
        | zero =>
          intro k hk hk8
          omega
        | succ fuel ih65 =>
          intro k hk hk8
          refine xw_iload_n (pc := 65) C 3 dX0_takeRing_65 rfl ?_
          refine xw_aload_n (pc := 66) C 0 dX0_takeRing_66 rfl ?_
          refine xw_get (pc := 67) (T := TX0) (N := 7) (ref := "ToneButterflies") C hin 0 0 rfl rfl (by decide) (by decide +kernel) rfl rfl dX0_takeRing_67 ?_
          refine xw_alen (pc := 70) C 1 0 rfl rfl dX0_takeRing_70 ?_
          refine xw_icmp_ge_N (pc := 71) (tgt := 87) C dX0_takeRing_71 (by decide) (by omega) (by omega) (fun c_4 => ?_) (fun c_4 => ?_)
          ·
            obtain rfl : k = 80 := by omega
            exact xw_vret (pc := 87) C rX (Nat.le_refl _) (Nat.le_refl _) dX0_takeRing_87 (PD.i)
          ·
            refine xw_aload_n (pc := 74) C 0 dX0_takeRing_74 rfl ?_
            refine xw_get (pc := 75) (T := TX0) (N := 7) (ref := "ToneButterflies") C hin 0 0 rfl rfl (by decide) (by decide +kernel) rfl rfl dX0_takeRing_75 ?_
            refine xw_iload_n (pc := 78) C 3 dX0_takeRing_78 rfl ?_
            refine xw_iconst_N (pc := 79) C 0 dX0_takeRing_79 rfl ?_
            refine xw_iast (pc := 80) (w' := wX cI h a n1 p1 (bt n1) (rt n1 p1) (rt n1 p1 ^ (p1 - 2) % p1) (n1 ^ (p1 - 2) % p1) (va_up (zf A k) k 0)) C 1 0 k 0 rfl rfl (rfl) rfl (by omega) (by decide) rfl dX0_takeRing_80 ?_
            refine xw_wo (w' := wX cI h a n1 p1 (bt n1) (rt n1 p1) (rt n1 p1 ^ (p1 - 2) % p1) (n1 ^ (p1 - 2) % p1) (zf A (k + 1))) (by rw [zf_s]) ?_
            refine xw_iinc_N (pc := 81) (b := k + 1) (lv' := [(0, .ref h), (1, nV n1), (2, nV p1), (3, nV (k + 1))]) C 3 [1, 2, 3, 0] dX0_takeRing_81 rfl (by decide) rfl rfl ?_
            refine xw_goto (pc := 84) (tgt := 65) C dX0_takeRing_84 (by decide) ?_
            exact ih65 (k + 1) (by omega) (by omega)
      refine xw_wo (w' := wX cI h a n1 p1 (bt n1) (rt n1 p1) (rt n1 p1 ^ (p1 - 2) % p1) (n1 ^ (p1 - 2) % p1) (zf A 0)) (by rw [zf_0]) ?_
      exact L65 81 0 (by omega) (by omega)
  ·
    refine xw_iconst_N (pc := 16) C 2 dX0_takeRing_16 rfl ?_
    refine xw_goto (pc := 17) (tgt := 31) C dX0_takeRing_17 (by decide) ?_
    refine xw_st (st' := [nV (bt n1), .ref h]) (by rw [bt, if_pos (by omega)]) ?_
    refine xw_put (pc := 31) (T := TX0) (N := 7) (ref := "ToneButterflies") (w' := wX cI h a n1 p1 (bt n1) w wi ni A) C hin tyX0 tyX0_ok nmX0 0 3 rfl rfl (by decide) (by decide +kernel) rfl rfl rfl rfl (Nat.le_of_ble_eq_true rfl) rfl dX0_takeRing_31 ?_
    refine xw_aload_n (pc := 34) C 0 dX0_takeRing_34 rfl ?_
    refine xw_aload_n (pc := 35) C 0 dX0_takeRing_35 rfl ?_
    refine xw_Vd (pc := 36) (q0 := 0) (na := 0) (rest := [.ref h]) (st' := [nV (rt n1 p1), .ref h]) C (m_X0_smallestRoot hp hp5 hn) gX0_takeRing_X0_smallestRoot rfl rfl rfl rfl (by decide +kernel) ⟨Nat.le_of_ble_eq_true rfl, Nat.le_of_ble_eq_true rfl⟩ rfl rfl rfl (Nat.le_of_ble_eq_true rfl) dX0_takeRing_36 ⟨Nat.le_of_ble_eq_true rfl, Nat.le_of_ble_eq_true rfl⟩ rfl ?_
    refine xw_put (pc := 39) (T := TX0) (N := 7) (ref := "ToneButterflies") (w' := wX cI h a n1 p1 (bt n1) (rt n1 p1) wi ni A) C hin tyX0 tyX0_ok nmX0 0 4 rfl rfl (by decide) (by decide +kernel) rfl rfl rfl rfl (Nat.le_of_ble_eq_true rfl) rfl dX0_takeRing_39 ?_
    refine xw_aload_n (pc := 42) C 0 dX0_takeRing_42 rfl ?_
    refine xw_aload_n (pc := 43) C 0 dX0_takeRing_43 rfl ?_
    refine xw_aload_n (pc := 44) C 0 dX0_takeRing_44 rfl ?_
    have hrt := (fs_le (P := (fun c => decide (c ^ (n1 / 2) % p1 = p1 - 1))) (p1 - 3) 2).2
    have hrt5 : rt n1 p1 < 500 := by unfold rt; omega
    refine xw_get (pc := 45) (T := TX0) (N := 7) (ref := "ToneButterflies") C hin 0 4 rfl rfl (by decide) (by decide +kernel) rfl rfl dX0_takeRing_45 ?_
    refine xw_Vd (pc := 48) (q0 := 0) (na := 1) (rest := [.ref h]) (st' := [nV ((rt n1 p1) ^ (p1 - 2) % p1), .ref h]) C (m_X0_inverseOf (show 1 < p1 by omega) hp5 (rt n1 p1) (by omega)) gX0_takeRing_X0_inverseOf rfl rfl rfl rfl (by decide +kernel) ⟨Nat.le_of_ble_eq_true rfl, Nat.le_of_ble_eq_true rfl⟩ rfl rfl rfl (Nat.le_of_ble_eq_true rfl) dX0_takeRing_48 ⟨Nat.le_of_ble_eq_true rfl, Nat.le_of_ble_eq_true rfl⟩ rfl ?_
    refine xw_put (pc := 51) (T := TX0) (N := 7) (ref := "ToneButterflies") (w' := wX cI h a n1 p1 (bt n1) (rt n1 p1) ((rt n1 p1) ^ (p1 - 2) % p1) ni A) C hin tyX0 tyX0_ok nmX0 0 5 rfl rfl (by decide) (by decide +kernel) rfl rfl rfl rfl (Nat.le_of_ble_eq_true rfl) rfl dX0_takeRing_51 ?_
    refine xw_aload_n (pc := 54) C 0 dX0_takeRing_54 rfl ?_
    refine xw_aload_n (pc := 55) C 0 dX0_takeRing_55 rfl ?_
    refine xw_iload_n (pc := 56) C 1 dX0_takeRing_56 rfl ?_
    refine xw_Vd (pc := 57) (q0 := 0) (na := 1) (rest := [.ref h]) (st' := [nV (n1 ^ (p1 - 2) % p1), .ref h]) C (m_X0_inverseOf (show 1 < p1 by omega) hp5 n1 (by omega)) gX0_takeRing_X0_inverseOf rfl rfl rfl rfl (by decide +kernel) ⟨Nat.le_of_ble_eq_true rfl, Nat.le_of_ble_eq_true rfl⟩ rfl rfl rfl (Nat.le_of_ble_eq_true rfl) dX0_takeRing_57 ⟨Nat.le_of_ble_eq_true rfl, Nat.le_of_ble_eq_true rfl⟩ rfl ?_
    refine xw_put (pc := 60) (T := TX0) (N := 7) (ref := "ToneButterflies") (w' := wX cI h a n1 p1 (bt n1) (rt n1 p1) ((rt n1 p1) ^ (p1 - 2) % p1) (n1 ^ (p1 - 2) % p1) A) C hin tyX0 tyX0_ok nmX0 0 6 rfl rfl (by decide) (by decide +kernel) rfl rfl rfl rfl (Nat.le_of_ble_eq_true rfl) rfl dX0_takeRing_60 ?_
    refine xw_iconst_N (pc := 63) C 0 dX0_takeRing_63 rfl ?_
    refine xw_istore_n (pc := 64) (lv' := [(0, .ref h), (1, nV n1), (2, nV p1), (3, nV 0)]) C [1, 2, 3, 0] dX0_takeRing_64 rfl (by decide) rfl ?_
    have L65 : ∀ (fuel : Nat) (k : Nat), 80 < k + fuel → k ≤ 80 → xw φ 0 0 (wX cI h a n1 p1 (bt n1) (rt n1 p1) (rt n1 p1 ^ (p1 - 2) % p1) (n1 ^ (p1 - 2) % p1) (zf A k)) 65 [(0, .ref h), (1, nV n1), (2, nV p1), (3, nV k)] [] := by
      intro fuel
      induction fuel with
      | zero =>
        intro k hk hk8
        omega
      | succ fuel ih65 =>
        intro k hk hk8
        refine xw_iload_n (pc := 65) C 3 dX0_takeRing_65 rfl ?_
        refine xw_aload_n (pc := 66) C 0 dX0_takeRing_66 rfl ?_
        refine xw_get (pc := 67) (T := TX0) (N := 7) (ref := "ToneButterflies") C hin 0 0 rfl rfl (by decide) (by decide +kernel) rfl rfl dX0_takeRing_67 ?_
        refine xw_alen (pc := 70) C 1 0 rfl rfl dX0_takeRing_70 ?_
        refine xw_icmp_ge_N (pc := 71) (tgt := 87) C dX0_takeRing_71 (by decide) (by omega) (by omega) (fun c_5 => ?_) (fun c_5 => ?_)
        ·
          obtain rfl : k = 80 := by omega
          exact xw_vret (pc := 87) C rX (Nat.le_refl _) (Nat.le_refl _) dX0_takeRing_87 (PD.i)
        ·
          refine xw_aload_n (pc := 74) C 0 dX0_takeRing_74 rfl ?_
          refine xw_get (pc := 75) (T := TX0) (N := 7) (ref := "ToneButterflies") C hin 0 0 rfl rfl (by decide) (by decide +kernel) rfl rfl dX0_takeRing_75 ?_
          refine xw_iload_n (pc := 78) C 3 dX0_takeRing_78 rfl ?_
          refine xw_iconst_N (pc := 79) C 0 dX0_takeRing_79 rfl ?_
          refine xw_iast (pc := 80) (w' := wX cI h a n1 p1 (bt n1) (rt n1 p1) (rt n1 p1 ^ (p1 - 2) % p1) (n1 ^ (p1 - 2) % p1) (va_up (zf A k) k 0)) C 1 0 k 0 rfl rfl (rfl) rfl (by omega) (by decide) rfl dX0_takeRing_80 ?_
          refine xw_wo (w' := wX cI h a n1 p1 (bt n1) (rt n1 p1) (rt n1 p1 ^ (p1 - 2) % p1) (n1 ^ (p1 - 2) % p1) (zf A (k + 1))) (by rw [zf_s]) ?_
          refine xw_iinc_N (pc := 81) (b := k + 1) (lv' := [(0, .ref h), (1, nV n1), (2, nV p1), (3, nV (k + 1))]) C 3 [1, 2, 3, 0] dX0_takeRing_81 rfl (by decide) rfl rfl ?_
          refine xw_goto (pc := 84) (tgt := 65) C dX0_takeRing_84 (by decide) ?_
          exact ih65 (k + 1) (by omega) (by omega)
    refine xw_wo (w' := wX cI h a n1 p1 (bt n1) (rt n1 p1) (rt n1 p1 ^ (p1 - 2) % p1) (n1 ^ (p1 - 2) % p1) (zf A 0)) (by rw [zf_0]) ?_
    exact L65 81 0 (by omega) (by omega)

set_option maxHeartbeats 4000000 in
set_option maxRecDepth 100000 in
theorem m_X0_requireRow {l : Launch} {D : va_G} {cI : ClassId} {h a n p b w wi ni : Nat} {A : Nat → Nat} (row : Nat) (hrw : row < 4) : CT l yX0_requireRow wsX0_requireRow (rmN 0 0) D vwCl [(cI, .int)] [.ref h, nV row] (wX cI h a n p b w wi ni A) (PD (none) (wX cI h a n p b w wi ni A)) 0 0 := by
  refine ct_of (plainFor_of_name (by decide)) rfl (Nat.le_of_ble_eq_true rfl) (fun φ C rX => ?_)
  refine xw_le (lv' := [(0, .ref h), (1, nV row)]) rfl ?_
  refine xw_iload_n (pc := 0) C 1 dX0_requireRow_0 rfl ?_
  refine xw_if_lt_N (pc := 1) (tgt := 9) C dX0_requireRow_1 (by decide) (by omega) (fun c_1 => (by exfalso; omega)) (fun c_1 => ?_)
  refine xw_iload_n (pc := 4) C 1 dX0_requireRow_4 rfl ?_
  refine xw_iconst_N (pc := 5) C 4 dX0_requireRow_5 rfl ?_
  refine xw_icmp_lt_N (pc := 6) (tgt := 19) C dX0_requireRow_6 (by decide) (by omega) (by omega) (fun c_2 => ?_) (fun c_2 => (by exfalso; omega))
  exact xw_vret (pc := 19) C rX (Nat.le_refl _) (Nat.le_refl _) dX0_requireRow_19 (PD.i)

set_option maxHeartbeats 4000000 in
set_option maxRecDepth 100000 in
theorem m_X0_requirePlace {l : Launch} {D : va_G} {cI : ClassId} {h a n p b w wi ni : Nat} {A : Nat → Nat} (hn : n < 2147483648) (q : Nat) (hq : q < n) : CT l yX0_requirePlace wsX0_requirePlace (rmN 0 0) D vwCl [(cI, .int)] [.ref h, nV q] (wX cI h a n p b w wi ni A) (PD (none) (wX cI h a n p b w wi ni A)) 0 0 := by
  refine ct_of (plainFor_of_name (by decide)) rfl (Nat.le_of_ble_eq_true rfl) (fun φ C rX => ?_)
  have hin : ∀ w ∈ wsX00, w ∈ wsX0_requirePlace := by decide +kernel
  refine xw_le (lv' := [(0, .ref h), (1, nV q)]) rfl ?_
  refine xw_iload_n (pc := 0) C 1 dX0_requirePlace_0 rfl ?_
  refine xw_if_lt_N (pc := 1) (tgt := 12) C dX0_requirePlace_1 (by decide) (by omega) (fun c_1 => (by exfalso; omega)) (fun c_1 => ?_)
  refine xw_iload_n (pc := 4) C 1 dX0_requirePlace_4 rfl ?_
  refine xw_aload_n (pc := 5) C 0 dX0_requirePlace_5 rfl ?_
  refine xw_get (pc := 6) (T := TX0) (N := 7) (ref := "ToneButterflies") C hin 0 1 rfl rfl (by decide) (by decide +kernel) rfl rfl dX0_requirePlace_6 ?_
  refine xw_icmp_lt_N (pc := 9) (tgt := 22) C dX0_requirePlace_9 (by decide) (by omega) (by omega) (fun c_2 => ?_) (fun c_2 => (by exfalso; omega))
  exact xw_vret (pc := 22) C rX (Nat.le_refl _) (Nat.le_refl _) dX0_requirePlace_22 (PD.i)

set_option maxHeartbeats 4000000 in
set_option maxRecDepth 100000 in
theorem m_X0_requireNumber {l : Launch} {D : va_G} {cI : ClassId} {h a n p b w wi ni : Nat} {A : Nat → Nat} (hp5 : p < 500) (v : Nat) (hv : v < p) : CT l yX0_requireNumber wsX0_requireNumber (rmN 0 0) D vwCl [(cI, .int)] [.ref h, nV v] (wX cI h a n p b w wi ni A) (PD (none) (wX cI h a n p b w wi ni A)) 0 0 := by
  refine ct_of (plainFor_of_name (by decide)) rfl (Nat.le_of_ble_eq_true rfl) (fun φ C rX => ?_)
  have hin : ∀ w ∈ wsX00, w ∈ wsX0_requireNumber := by decide +kernel
  refine xw_le (lv' := [(0, .ref h), (1, nV v)]) rfl ?_
  refine xw_iload_n (pc := 0) C 1 dX0_requireNumber_0 rfl ?_
  refine xw_if_lt_N (pc := 1) (tgt := 12) C dX0_requireNumber_1 (by decide) (by omega) (fun c_1 => (by exfalso; omega)) (fun c_1 => ?_)
  refine xw_iload_n (pc := 4) C 1 dX0_requireNumber_4 rfl ?_
  refine xw_aload_n (pc := 5) C 0 dX0_requireNumber_5 rfl ?_
  refine xw_get (pc := 6) (T := TX0) (N := 7) (ref := "ToneButterflies") C hin 0 2 rfl rfl (by decide) (by decide +kernel) rfl rfl dX0_requireNumber_6 ?_
  refine xw_icmp_lt_N (pc := 9) (tgt := 22) C dX0_requireNumber_9 (by decide) (by omega) (by omega) (fun c_2 => ?_) (fun c_2 => (by exfalso; omega))
  exact xw_vret (pc := 22) C rX (Nat.le_refl _) (Nat.le_refl _) dX0_requireNumber_22 (PD.i)

set_option maxHeartbeats 4000000 in
set_option maxRecDepth 100000 in
theorem m_X0_requireInvertible {l : Launch} {D : va_G} {cI : ClassId} {h a n p b w wi ni : Nat} {A : Nat → Nat} (hp5 : p < 500) (v : Nat) (hv : v < p) (h1 : 1 ≤ v) : CT l yX0_requireInvertible wsX0_requireInvertible (rmN 0 0) D vwCl [(cI, .int)] [.ref h, nV v] (wX cI h a n p b w wi ni A) (PD (none) (wX cI h a n p b w wi ni A)) 0 0 := by
  refine ct_of (plainFor_of_name (by decide)) rfl (Nat.le_of_ble_eq_true rfl) (fun φ C rX => ?_)
  have hin : ∀ w ∈ wsX00, w ∈ wsX0_requireInvertible := by decide +kernel
  refine xw_le (lv' := [(0, .ref h), (1, nV v)]) rfl ?_
  refine xw_iload_n (pc := 0) C 1 dX0_requireInvertible_0 rfl ?_
  refine xw_iconst_N (pc := 1) C 1 dX0_requireInvertible_1 rfl ?_
  refine xw_icmp_lt_N (pc := 2) (tgt := 13) C dX0_requireInvertible_2 (by decide) (by omega) (by omega) (fun c_1 => (by exfalso; omega)) (fun c_1 => ?_)
  refine xw_iload_n (pc := 5) C 1 dX0_requireInvertible_5 rfl ?_
  refine xw_aload_n (pc := 6) C 0 dX0_requireInvertible_6 rfl ?_
  refine xw_get (pc := 7) (T := TX0) (N := 7) (ref := "ToneButterflies") C hin 0 2 rfl rfl (by decide) (by decide +kernel) rfl rfl dX0_requireInvertible_7 ?_
  refine xw_icmp_lt_N (pc := 10) (tgt := 23) C dX0_requireInvertible_10 (by decide) (by omega) (by omega) (fun c_2 => ?_) (fun c_2 => (by exfalso; omega))
  exact xw_vret (pc := 23) C rX (Nat.le_refl _) (Nat.le_refl _) dX0_requireInvertible_23 (PD.i)
