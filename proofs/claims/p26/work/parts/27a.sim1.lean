set_option maxHeartbeats 4000000 in
set_option maxRecDepth 100000 in
theorem m_X1_power {l : Launch} {D : va_G} {cI cQ : ClassId} {u : va_W} {h n p w rr qs : Nat} (hs : u[qs]? = some (h, .inr (1, [nV n, nV p, nV w, .ref rr]))) (hp : 1 < p) (hp5 : p < 500) (base times : Nat) (hb : base < 500) (ht : times < 500) : CT l yX1_power wsX1_power (rmN 0 0) D vwCl [(cI, .int), (cQ, .array .int)] [.ref h, nV base, nV times] (u) (PD (some (nV (pw p base times))) (u)) 0 0 := by
  refine ct_of (plainFor_of_name (by decide)) rfl (Nat.le_of_ble_eq_true rfl) (fun φ C rX => ?_)
  have hin : ∀ w ∈ wsX10, w ∈ wsX1_power := by decide +kernel
  refine xw_le (lv' := [(0, .ref h), (1, nV base), (2, nV times)]) rfl ?_
  have hp0 : 0 < p := by omega
  refine xw_iconst_N (pc := 0) C 1 dX1_power_0 rfl ?_
  refine xw_istore_n (pc := 1) (lv' := [(0, .ref h), (1, nV base), (2, nV times), (3, nV 1)]) C [1, 2, 3, 0] dX1_power_1 rfl (by decide) rfl ?_
  refine xw_iconst_N (pc := 2) C 0 dX1_power_2 rfl ?_
  refine xw_istore (pc := 3) (lv' := [(0, .ref h), (1, nV base), (2, nV times), (3, nV 1), (4, nV 0)]) C [1, 2, 3, 4, 0] dX1_power_3 (by decide) rfl ?_
  have L5 : ∀ (fuel : Nat) (k : Nat) (m : Nat), times < k + fuel → k ≤ times → m = pw p base k → xw φ 0 0 (u) 5 [(0, .ref h), (1, nV base), (2, nV times), (3, nV m), (4, nV k)] [] := by
    intro fuel
    induction fuel with
    | zero =>
      intro k m hk hkt hm
      omega
    | succ fuel ih5 =>
      intro k m hk hkt hm
      have hml : m < p := by rw [hm]; exact pw_lt hp k
      have hmb := mb0 (show m < 500 by omega) hb
      refine xw_iload (pc := 5) C 4 dX1_power_5 rfl ?_
      refine xw_iload_n (pc := 7) C 2 dX1_power_7 rfl ?_
      refine xw_icmp_ge_N (pc := 8) (tgt := 26) C dX1_power_8 (by decide) (by omega) (by omega) (fun c_1 => ?_) (fun c_1 => ?_)
      ·
        refine xw_iload_n (pc := 26) C 3 dX1_power_26 rfl ?_
        exact xw_iret (pc := 27) C rX (Nat.le_refl _) (Nat.le_refl _) dX1_power_27 (PD.e (by rw [hm, show k = times by omega]) rfl)
      ·
        refine xw_iload_n (pc := 11) C 3 dX1_power_11 rfl ?_
        refine xw_iload_n (pc := 12) C 1 dX1_power_12 rfl ?_
        refine xw_imul_N (pc := 13) C dX1_power_13 ?_
        refine xw_aload_n (pc := 14) C 0 dX1_power_14 rfl ?_
        refine xw_get (pc := 15) (T := TX1) (N := 4) (ref := "ToneButterfliesLaw$Sim") C hin qs 1 hs rfl (by decide) (by decide +kernel) rfl rfl dX1_power_15 ?_
        refine xw_irem_N (pc := 18) C dX1_power_18 (hmb) (by omega) ?_
        refine xw_istore_n (pc := 19) (lv' := [(0, .ref h), (1, nV base), (2, nV times), (3, nV ((m * base) % p)), (4, nV k)]) C [1, 2, 3, 0, 4] dX1_power_19 rfl (by decide) rfl ?_
        refine xw_iinc_N (pc := 20) (b := k + 1) (lv' := [(0, .ref h), (1, nV base), (2, nV times), (3, nV ((m * base) % p)), (4, nV (k + 1))]) C 4 [1, 2, 3, 4, 0] dX1_power_20 rfl (by decide) rfl rfl ?_
        refine xw_goto (pc := 23) (tgt := 5) C dX1_power_23 (by decide) ?_
        exact ih5 (k + 1) _ (by omega) (by omega) (by rw [hm, pw])
  exact L5 (times + 1) 0 1 (by omega) (by omega) rfl

set_option maxHeartbeats 4000000 in
set_option maxRecDepth 100000 in
theorem m_X1_order {l : Launch} {D : va_G} {cI cQ : ClassId} {u : va_W} {h n p w rr qs : Nat} (hs : u[qs]? = some (h, .inr (1, [nV n, nV p, nV w, .ref rr]))) (hp : 1 < p) (hp5 : p < 500) (v : Nat) (h1 : 1 ≤ v) (hv : v < p) (hex : v ^ (p - 1) % p = 1) : CT l yX1_order wsX1_order (rmN 0 0) D vwCl [(cI, .int), (cQ, .array .int)] [.ref h, nV v] (u) (PD (some (nV (od p v))) (u)) 0 0 := by
  refine ct_of (plainFor_of_name (by decide)) rfl (Nat.le_of_ble_eq_true rfl) (fun φ C rX => ?_)
  have hin : ∀ w ∈ wsX10, w ∈ wsX1_order := by decide +kernel
  refine xw_le (lv' := [(0, .ref h), (1, nV v)]) rfl ?_
  have hp0 : 0 < p := by omega
  refine xw_iconst_N (pc := 0) C 1 dX1_order_0 rfl ?_
  refine xw_istore_n (pc := 1) (lv' := [(0, .ref h), (1, nV v), (2, nV 1)]) C [1, 2, 0] dX1_order_1 rfl (by decide) rfl ?_
  refine xw_iload_n (pc := 2) C 1 dX1_order_2 rfl ?_
  refine xw_istore_n (pc := 3) (lv' := [(0, .ref h), (1, nV v), (2, nV 1), (3, nV v)]) C [1, 2, 3, 0] dX1_order_3 rfl (by decide) rfl ?_
  have L4 : ∀ (fuel : Nat) (k : Nat) (m : Nat), p ≤ k + fuel → 1 ≤ k ∧ k ≤ p - 1 → m = v ^ k % p → fs (fun j => decide (v ^ j % p = 1)) (p - 1 - (k - 1)) k = od p v → xw φ 0 0 (u) 4 [(0, .ref h), (1, nV v), (2, nV k), (3, nV m)] [] := by
    intro fuel
    induction fuel with
    | zero =>
      intro k m hk hk1 hm hno
      omega
    | succ fuel ih4 =>
      intro k m hk hk1 hm hno
      have hml : m < p := by rw [hm]; exact Nat.mod_lt _ hp0
      have hmb := mb0 (show m < 500 by omega) (show v < 500 by omega)
      refine xw_iload_n (pc := 4) C 3 dX1_order_4 rfl ?_
      refine xw_iconst_N (pc := 5) C 1 dX1_order_5 rfl ?_
      refine xw_icmp_eq_N (pc := 6) (tgt := 24) C dX1_order_6 (by decide) (by omega) (by omega) (fun c_1 => ?_) (fun c_1 => ?_)
      ·
        refine xw_iload_n (pc := 24) C 2 dX1_order_24 rfl ?_
        exact xw_iret (pc := 25) C rX (Nat.le_refl _) (Nat.le_refl _) dX1_order_25 (PD.e (by rw [← hno, show p - 1 - (k - 1) = (p - 1 - k) + 1 by omega, fs_t (decide_eq_true (by rw [← hm]; exact c_1))]) rfl)
      ·
        have hk2 : k < p - 1 := by
          rcases Nat.lt_or_ge k (p - 1) with z | z
          · exact z
          · exact absurd (hm.trans (by rw [show k = p - 1 by omega]; exact hex)) c_1
        refine xw_iinc_N (pc := 9) (b := k + 1) (lv' := [(0, .ref h), (1, nV v), (2, nV (k + 1)), (3, nV m)]) C 2 [1, 2, 0, 3] dX1_order_9 rfl (by decide) rfl rfl ?_
        refine xw_iload_n (pc := 12) C 3 dX1_order_12 rfl ?_
        refine xw_iload_n (pc := 13) C 1 dX1_order_13 rfl ?_
        refine xw_imul_N (pc := 14) C dX1_order_14 ?_
        refine xw_aload_n (pc := 15) C 0 dX1_order_15 rfl ?_
        refine xw_get (pc := 16) (T := TX1) (N := 4) (ref := "ToneButterfliesLaw$Sim") C hin qs 1 hs rfl (by decide) (by decide +kernel) rfl rfl dX1_order_16 ?_
        refine xw_irem_N (pc := 19) C dX1_order_19 (hmb) (by omega) ?_
        refine xw_istore_n (pc := 20) (lv' := [(0, .ref h), (1, nV v), (2, nV (k + 1)), (3, nV ((m * v) % p))]) C [1, 2, 3, 0] dX1_order_20 rfl (by decide) rfl ?_
        refine xw_goto (pc := 21) (tgt := 4) C dX1_order_21 (by decide) ?_
        exact ih4 (k + 1) _ (by omega) (by omega) (by rw [hm, mm3, Nat.pow_succ]) (by rw [← hno, show p - 1 - (k - 1) = (p - 1 - (k + 1 - 1)) + 1 by omega, fs_f (decide_eq_false (by rw [← hm]; exact c_1))])
  exact L4 (p - 1) 1 _ (by omega) (by omega) (by rw [Nat.pow_one, Nat.mod_eq_of_lt hv]) rfl

set_option maxHeartbeats 4000000 in
set_option maxRecDepth 100000 in
theorem m_X1_inverse {l : Launch} {D : va_G} {cI cQ : ClassId} {u : va_W} {h n p w rr qs : Nat} (hs : u[qs]? = some (h, .inr (1, [nV n, nV p, nV w, .ref rr]))) (hp : 1 < p) (hp5 : p < 500) (v : Nat) (h1 : 1 ≤ v) (hv : v < p) (hex : v ^ (p - 1) % p = 1) : CT l yX1_inverse wsX1_inverse (rmN 0 0) D vwCl [(cI, .int), (cQ, .array .int)] [.ref h, nV v] (u) (PD (some (nV (v ^ (p - 2) % p))) (u)) 0 0 := by
  refine ct_of (plainFor_of_name (by decide)) rfl (Nat.le_of_ble_eq_true rfl) (fun φ C rX => ?_)
  have hin : ∀ w ∈ wsX10, w ∈ wsX1_inverse := by decide +kernel
  refine xw_le (lv' := [(0, .ref h), (1, nV v)]) rfl ?_
  have hp0 : 0 < p := by omega
  have hiv := iv_is hp hv hex
  refine xw_iconst_N (pc := 0) C 1 dX1_inverse_0 rfl ?_
  refine xw_istore_n (pc := 1) (lv' := [(0, .ref h), (1, nV v), (2, nV 1)]) C [1, 2, 0] dX1_inverse_1 rfl (by decide) rfl ?_
  have L2 : ∀ (fuel : Nat) (k : Nat), p ≤ k + fuel → 1 ≤ k ∧ k ≤ v ^ (p - 2) % p → xw φ 0 0 (u) 2 [(0, .ref h), (1, nV v), (2, nV k)] [] := by
    intro fuel
    induction fuel with
    | zero =>
      intro k hk hk1
      have := Nat.mod_lt (v ^ (p - 2)) hp0; omega
    | succ fuel ih2 =>
      intro k hk hk1
      have hml : v ^ (p - 2) % p < p := Nat.mod_lt _ hp0
      have hmb := mb0 (show k < 500 by omega) (show v < 500 by omega)
      refine xw_iload_n (pc := 2) C 2 dX1_inverse_2 rfl ?_
      refine xw_iload_n (pc := 3) C 1 dX1_inverse_3 rfl ?_
      refine xw_imul_N (pc := 4) C dX1_inverse_4 ?_
      refine xw_aload_n (pc := 5) C 0 dX1_inverse_5 rfl ?_
      refine xw_get (pc := 6) (T := TX1) (N := 4) (ref := "ToneButterfliesLaw$Sim") C hin qs 1 hs rfl (by decide) (by decide +kernel) rfl rfl dX1_inverse_6 ?_
      refine xw_irem_N (pc := 9) C dX1_inverse_9 (hmb) (by omega) ?_
      refine xw_iconst_N (pc := 10) C 1 dX1_inverse_10 rfl ?_
      refine xw_icmp_eq_N (pc := 11) (tgt := 20) C dX1_inverse_11 (by decide) (by have := Nat.mod_lt (k * v) hp0; omega) (by omega) (fun c_1 => ?_) (fun c_1 => ?_)
      ·
        refine xw_iload_n (pc := 20) C 2 dX1_inverse_20 rfl ?_
        exact xw_iret (pc := 21) C rX (Nat.le_refl _) (Nat.le_refl _) dX1_inverse_21 (PD.e (by rw [hiv.2.2 k (by omega) (by omega) c_1]) rfl)
      ·
        have hk2 : k < v ^ (p - 2) % p := by
          rcases Nat.lt_or_ge k (v ^ (p - 2) % p) with z | z
          · exact z
          · exact absurd (by rw [show k = v ^ (p - 2) % p by omega]; exact hiv.2.1) c_1
        refine xw_iinc_N (pc := 14) (b := k + 1) (lv' := [(0, .ref h), (1, nV v), (2, nV (k + 1))]) C 2 [1, 2, 0] dX1_inverse_14 rfl (by decide) rfl rfl ?_
        refine xw_goto (pc := 17) (tgt := 2) C dX1_inverse_17 (by decide) ?_
        exact ih2 (k + 1) (by omega) (by omega)
  exact L2 p 1 (by omega) ⟨by omega, hiv.1⟩

set_option maxHeartbeats 4000000 in
set_option maxRecDepth 100000 in
theorem m_X1_tones {l : Launch} {D : va_G} {cI cQ : ClassId} {u : va_W} {h n p w rr qs : Nat} (hs : u[qs]? = some (h, .inr (1, [nV n, nV p, nV w, .ref rr]))) (hp : 1 < p) (hp5 : p < 500) (hn : n = 4 ∨ n = 8 ∨ n = 16) (hw : w < 500) {R : Nat → Nat} (hR : ∀ j, R j < 500) {qa ra : Nat} (hra : u[qa]? = some (ra, .inl (cI, n, .inl (fN R)))) : CT l yX1_tones wsX1_tones { frames := 1, cells := 1, slots := 16, locals := 24 } D vwCl [(cI, .int), (cQ, .array .int)] [.ref h, .ref ra] (u) (PR cI n u (mk (fun _ => 0) (fun k => ts p w n R k n) n)) 1 16 := by
  refine ct_of (plainFor_of_name (by decide)) rfl (Nat.le_of_ble_eq_true rfl) (fun φ C rX => ?_)
  have hin : ∀ w ∈ wsX10, w ∈ wsX1_tones := by decide +kernel
  refine xw_le (lv' := [(0, .ref h), (1, .ref ra)]) rfl ?_
  have hn3 := lt3 hn
  have hp0 : 0 < p := by omega
  refine xw_aload_n (pc := 0) C 0 dX1_tones_0 rfl ?_
  refine xw_get (pc := 1) (T := TX1) (N := 4) (ref := "ToneButterfliesLaw$Sim") C hin qs 0 hs rfl (by decide) (by decide +kernel) rfl rfl dX1_tones_1 ?_
  refine xw_newI (pc := 4) C 0 rfl (by decide +kernel) (by show n * 4 ≤ 536870912; omega) (by show 0 + 1 ≤ 1; omega) (by show 0 + n ≤ 16; omega) dX1_tones_4 (fun q_1 => ?_)
  refine xw_wd (k' := 1) (n' := 16) (by omega) (by omega) ?_
  refine xw_astore_n (pc := 6) (lv' := [(0, .ref h), (1, .ref ra), (2, .ref q_1)]) C [1, 2, 0] dX1_tones_6 rfl (by decide) rfl ?_
  refine xw_iconst_N (pc := 7) C 0 dX1_tones_7 rfl ?_
  refine xw_istore_n (pc := 8) (lv' := [(0, .ref h), (1, .ref ra), (2, .ref q_1), (3, nV 0)]) C [1, 2, 3, 0] dX1_tones_8 rfl (by decide) rfl ?_
  have L9 : ∀ (fuel : Nat) (k : Nat), n < k + fuel → k ≤ n → xw φ 1 16 (u ++ [(q_1, .inl (cI, n, .inl (fN (mk (fun _ => 0) (fun k => ts p w n R k n) k))))]) 9 [(0, .ref h), (1, .ref ra), (2, .ref q_1), (3, nV k)] [] := by
    intro fuel
    induction fuel with
    | zero =>
      intro k hk hkn
      omega
    | succ fuel ih9 =>
      intro k hk hkn
      refine xw_iload_n (pc := 9) C 3 dX1_tones_9 rfl ?_
      refine xw_aload_n (pc := 10) C 0 dX1_tones_10 rfl ?_
      refine xw_get (pc := 11) (T := TX1) (N := 4) (ref := "ToneButterfliesLaw$Sim") C hin qs 0 (gl_old hs) rfl (by decide) (by decide +kernel) rfl rfl dX1_tones_11 ?_
      refine xw_icmp_ge_N (pc := 14) (tgt := 75) C dX1_tones_14 (by decide) (by omega) (by omega) (fun c_2 => ?_) (fun c_2 => ?_)
      ·
        refine xw_aload_n (pc := 75) C 2 dX1_tones_75 rfl ?_
        exact xw_aret (pc := 76) C rX (Or.inr ⟨_, rfl⟩) (Nat.le_refl _) (Nat.le_refl _) dX1_tones_76 (PR.e (by rw [show k = n by omega]))
      ·
        refine xw_iconst_N (pc := 17) C 0 dX1_tones_17 rfl ?_
        refine xw_istore (pc := 18) (lv' := [(0, .ref h), (1, .ref ra), (2, .ref q_1), (3, nV k), (4, nV 0)]) C [1, 2, 3, 4, 0] dX1_tones_18 (by decide) rfl ?_
        have L20 : ∀ (fuel : Nat) (i : Nat) (M : Nat → Nat), n < i + fuel → i ≤ n → M = va_up (mk (fun _ => 0) (fun k => ts p w n R k n) k) k (ts p w n R k i) → xw φ 1 16 (u ++ [(q_1, .inl (cI, n, .inl (fN M)))]) 20 [(0, .ref h), (1, .ref ra), (2, .ref q_1), (3, nV k), (4, nV i)] [] := by
          intro fuel
          induction fuel with
          | zero =>
            intro i M hi hile hM
            omega
          | succ fuel ih20 =>
            intro i M hi hile hM
            have hMk : M k = ts p w n R k i := by rw [hM, va_us]
            have hMl : M k < p := by rw [hMk]; exact ts_lt hp0 i
            have hb1 := hR i
            have hb2 := pw_lt (p := p) (b := w) hp (i * k % n)
            have hmb : M k + R i * pw p w (i * k % n) < 2147483648 := mb' hb1 (by omega) (by omega)
            have hik : i * k < 2147483648 := mb0 (by omega) (by omega)
            have hml := Nat.mod_lt (i * k) (show n > 0 by omega)
            refine xw_iload (pc := 20) C 4 dX1_tones_20 rfl ?_
            refine xw_aload_n (pc := 22) C 0 dX1_tones_22 rfl ?_
            refine xw_get (pc := 23) (T := TX1) (N := 4) (ref := "ToneButterfliesLaw$Sim") C hin qs 0 (gl_old hs) rfl (by decide) (by decide +kernel) rfl rfl dX1_tones_23 ?_
            refine xw_icmp_ge_N (pc := 26) (tgt := 69) C dX1_tones_26 (by decide) (by omega) (by omega) (fun c_3 => ?_) (fun c_3 => ?_)
            ·
              refine xw_iinc_N (pc := 69) (b := k + 1) (lv' := [(0, .ref h), (1, .ref ra), (2, .ref q_1), (3, nV (k + 1)), (4, nV i)]) C 3 [1, 2, 3, 0, 4] dX1_tones_69 rfl (by decide) rfl rfl ?_
              refine xw_goto (pc := 72) (tgt := 9) C dX1_tones_72 (by decide) ?_
              refine xw_lv (lv' := [(0, .ref h), (1, .ref ra), (2, .ref q_1), (3, nV (k + 1))]) [0, 1, 2, 3] rfl ?_
              refine xw_wo (w' := u ++ [(q_1, .inl (cI, n, .inl (fN (mk (fun _ => 0) (fun k => ts p w n R k n) (k + 1)))))]) (by rw [hM, show i = n by omega, mk_s rfl]) ?_
              exact ih9 (k + 1) (by omega) (by omega)
            ·
              refine xw_aload_n (pc := 29) C 2 dX1_tones_29 rfl ?_
              refine xw_iload_n (pc := 30) C 3 dX1_tones_30 rfl ?_
              refine xw_aload_n (pc := 31) C 2 dX1_tones_31 rfl ?_
              refine xw_iload_n (pc := 32) C 3 dX1_tones_32 rfl ?_
              refine xw_iald (pc := 33) C u.length 0 k gl_new rfl (rfl) (by omega) (by omega) dX1_tones_33 ?_
              refine xw_aload_n (pc := 34) C 1 dX1_tones_34 rfl ?_
              refine xw_iload (pc := 35) C 4 dX1_tones_35 rfl ?_
              refine xw_iald (pc := 37) C qa 0 i (gl_old hra) rfl (rfl) (by omega) (by omega) dX1_tones_37 ?_
              refine xw_aload_n (pc := 38) C 0 dX1_tones_38 rfl ?_
              refine xw_aload_n (pc := 39) C 0 dX1_tones_39 rfl ?_
              refine xw_get (pc := 40) (T := TX1) (N := 4) (ref := "ToneButterfliesLaw$Sim") C hin qs 2 (gl_old hs) rfl (by decide) (by decide +kernel) rfl rfl dX1_tones_40 ?_
              refine xw_iload (pc := 43) C 4 dX1_tones_43 rfl ?_
              refine xw_iload_n (pc := 45) C 3 dX1_tones_45 rfl ?_
              refine xw_imul_N (pc := 46) C dX1_tones_46 ?_
              refine xw_aload_n (pc := 47) C 0 dX1_tones_47 rfl ?_
              refine xw_get (pc := 48) (T := TX1) (N := 4) (ref := "ToneButterfliesLaw$Sim") C hin qs 0 (gl_old hs) rfl (by decide) (by decide +kernel) rfl rfl dX1_tones_48 ?_
              refine xw_irem_N (pc := 51) C dX1_tones_51 (hik) (by omega) ?_
              refine xw_Vd (pc := 52) (q0 := qs) (na := 2) (rest := [nV (R i), nV (M k), nV k, .ref q_1]) (st' := [nV (pw p w ((i * k) % n)), nV (R i), nV (M k), nV k, .ref q_1]) C (m_X1_power (gl_old hs) (by omega) hp5 w ((i * k) % n) (by omega) (by omega)) gX1_tones_X1_power rfl rfl rfl rfl (by decide +kernel) ⟨(Nat.le_of_ble_eq_true rfl), (Nat.le_of_ble_eq_true rfl)⟩ (gl_old hs) rfl rfl (Nat.le_of_ble_eq_true rfl) dX1_tones_52 ⟨(Nat.le_of_ble_eq_true rfl), (Nat.le_of_ble_eq_true rfl)⟩ rfl ?_
              refine xw_imul_N (pc := 55) C dX1_tones_55 ?_
              refine xw_iadd_N (pc := 56) C dX1_tones_56 ?_
              refine xw_aload_n (pc := 57) C 0 dX1_tones_57 rfl ?_
              refine xw_get (pc := 58) (T := TX1) (N := 4) (ref := "ToneButterfliesLaw$Sim") C hin qs 1 (gl_old hs) rfl (by decide) (by decide +kernel) rfl rfl dX1_tones_58 ?_
              refine xw_irem_N (pc := 61) C dX1_tones_61 (hmb) (by omega) ?_
              refine xw_iast (pc := 62) (w' := u ++ [(q_1, .inl (cI, n, .inl (fN (va_up M k (((M k) + ((R i) * (pw p w ((i * k) % n)))) % p)))))]) C u.length 0 k (((M k) + ((R i) * (pw p w ((i * k) % n)))) % p) gl_new rfl (rfl) rfl (by omega) (by omega) gl_set dX1_tones_62 ?_
              refine xw_iinc_N (pc := 63) (b := i + 1) (lv' := [(0, .ref h), (1, .ref ra), (2, .ref q_1), (3, nV k), (4, nV (i + 1))]) C 4 [1, 2, 3, 4, 0] dX1_tones_63 rfl (by decide) rfl rfl ?_
              refine xw_goto (pc := 66) (tgt := 20) C dX1_tones_66 (by decide) ?_
              exact ih20 (i + 1) _ (by omega) (by omega) (by rw [hMk, hM, va_uu]; rfl)
        exact L20 (n + 1) 0 _ (by omega) (by omega) mk_u.symm
  refine xw_wo (w' := u ++ [(q_1, .inl (cI, n, .inl (fN (mk (fun _ => 0) (fun k => ts p w n R k n) 0))))]) (by rw [mk_0]) ?_
  exact L9 (n + 1) 0 (by omega) (by omega)

set_option maxHeartbeats 4000000 in
set_option maxRecDepth 100000 in
theorem m_X1_back {l : Launch} {D : va_G} {cI cQ : ClassId} {u : va_W} {h n p w rr qs : Nat} (hs : u[qs]? = some (h, .inr (1, [nV n, nV p, nV w, .ref rr]))) (hp : 1 < p) (hp5 : p < 500) (hn : n = 4 ∨ n = 8 ∨ n = 16) (hw : w < 500) (hnp : n < p) (hex : n ^ (p - 1) % p = 1) {R : Nat → Nat} (hR : ∀ j, R j < 500) {qa ra : Nat} (hra : u[qa]? = some (ra, .inl (cI, n, .inl (fN R)))) : CT l yX1_back wsX1_back { frames := 1, cells := 1, slots := 16, locals := 24 } D vwCl [(cI, .int), (cQ, .array .int)] [.ref h, .ref ra] (u) (PR cI n u (mk (fun _ => 0) (fun k => bs p w n R k n * (n ^ (p - 2) % p) % p) n)) 1 16 := by
  refine ct_of (plainFor_of_name (by decide)) rfl (Nat.le_of_ble_eq_true rfl) (fun φ C rX => ?_)
  have hin : ∀ w ∈ wsX10, w ∈ wsX1_back := by decide +kernel
  refine xw_le (lv' := [(0, .ref h), (1, .ref ra)]) rfl ?_
  have hn3 := lt3 hn
  have hp0 : 0 < p := by omega
  refine xw_aload_n (pc := 0) C 0 dX1_back_0 rfl ?_
  refine xw_get (pc := 1) (T := TX1) (N := 4) (ref := "ToneButterfliesLaw$Sim") C hin qs 0 hs rfl (by decide) (by decide +kernel) rfl rfl dX1_back_1 ?_
  refine xw_newI (pc := 4) C 0 rfl (by decide +kernel) (by show n * 4 ≤ 536870912; omega) (by show 0 + 1 ≤ 1; omega) (by show 0 + n ≤ 16; omega) dX1_back_4 (fun q_1 => ?_)
  refine xw_wd (k' := 1) (n' := 16) (by omega) (by omega) ?_
  refine xw_astore_n (pc := 6) (lv' := [(0, .ref h), (1, .ref ra), (2, .ref q_1)]) C [1, 2, 0] dX1_back_6 rfl (by decide) rfl ?_
  refine xw_iconst_N (pc := 7) C 0 dX1_back_7 rfl ?_
  refine xw_istore_n (pc := 8) (lv' := [(0, .ref h), (1, .ref ra), (2, .ref q_1), (3, nV 0)]) C [1, 2, 3, 0] dX1_back_8 rfl (by decide) rfl ?_
  have L9 : ∀ (fuel : Nat) (k : Nat), n < k + fuel → k ≤ n → xw φ 1 16 (u ++ [(q_1, .inl (cI, n, .inl (fN (mk (fun _ => 0) (fun k => bs p w n R k n * (n ^ (p - 2) % p) % p) k))))]) 9 [(0, .ref h), (1, .ref ra), (2, .ref q_1), (3, nV k)] [] := by
    intro fuel
    induction fuel with
    | zero =>
      intro k hk hkn
      omega
    | succ fuel ih9 =>
      intro k hk hkn
      refine xw_iload_n (pc := 9) C 3 dX1_back_9 rfl ?_
      refine xw_aload_n (pc := 10) C 0 dX1_back_10 rfl ?_
      refine xw_get (pc := 11) (T := TX1) (N := 4) (ref := "ToneButterfliesLaw$Sim") C hin qs 0 (gl_old hs) rfl (by decide) (by decide +kernel) rfl rfl dX1_back_11 ?_
      refine xw_icmp_ge_N (pc := 14) (tgt := 105) C dX1_back_14 (by decide) (by omega) (by omega) (fun c_2 => ?_) (fun c_2 => ?_)
      ·
        refine xw_aload_n (pc := 105) C 2 dX1_back_105 rfl ?_
        exact xw_aret (pc := 106) C rX (Or.inr ⟨_, rfl⟩) (Nat.le_refl _) (Nat.le_refl _) dX1_back_106 (PR.e (by rw [show k = n by omega]))
      ·
        refine xw_iconst_N (pc := 17) C 0 dX1_back_17 rfl ?_
        refine xw_istore (pc := 18) (lv' := [(0, .ref h), (1, .ref ra), (2, .ref q_1), (3, nV k), (4, nV 0)]) C [1, 2, 3, 4, 0] dX1_back_18 (by decide) rfl ?_
        have L20 : ∀ (fuel : Nat) (i : Nat) (M : Nat → Nat), n < i + fuel → i ≤ n → M = va_up (mk (fun _ => 0) (fun k => bs p w n R k n * (n ^ (p - 2) % p) % p) k) k (bs p w n R k i) → xw φ 1 16 (u ++ [(q_1, .inl (cI, n, .inl (fN M)))]) 20 [(0, .ref h), (1, .ref ra), (2, .ref q_1), (3, nV k), (4, nV i)] [] := by
          intro fuel
          induction fuel with
          | zero =>
            intro i M hi hile hM
            omega
          | succ fuel ih20 =>
            intro i M hi hile hM
            have hMk : M k = bs p w n R k i := by rw [hM, va_us]
            have hMl : M k < p := by rw [hMk]; exact bs_lt hp0 i
            have hb1 := hR i
            have hb2 := pw_lt (p := p) (b := w) hp ((n - k * i % n) % n)
            have hmb : M k + R i * pw p w ((n - k * i % n) % n) < 2147483648 := mb' hb1 (by omega) (by omega)
            have hik : k * i < 2147483648 := mb0 (by omega) (by omega)
            have hml := Nat.mod_lt (k * i) (show n > 0 by omega)
            have hml2 := Nat.mod_lt (n - k * i % n) (show n > 0 by omega)
            have hni : n ^ (p - 2) % p < p := Nat.mod_lt _ hp0
            have hmn : M k * (n ^ (p - 2) % p) < 2147483648 := mb0 (by omega) (by omega)
            refine xw_iload (pc := 20) C 4 dX1_back_20 rfl ?_
            refine xw_aload_n (pc := 22) C 0 dX1_back_22 rfl ?_
            refine xw_get (pc := 23) (T := TX1) (N := 4) (ref := "ToneButterfliesLaw$Sim") C hin qs 0 (gl_old hs) rfl (by decide) (by decide +kernel) rfl rfl dX1_back_23 ?_
            refine xw_icmp_ge_N (pc := 26) (tgt := 79) C dX1_back_26 (by decide) (by omega) (by omega) (fun c_3 => ?_) (fun c_3 => ?_)
            ·
              refine xw_aload_n (pc := 79) C 2 dX1_back_79 rfl ?_
              refine xw_iload_n (pc := 80) C 3 dX1_back_80 rfl ?_
              refine xw_aload_n (pc := 81) C 2 dX1_back_81 rfl ?_
              refine xw_iload_n (pc := 82) C 3 dX1_back_82 rfl ?_
              refine xw_iald (pc := 83) C u.length 0 k gl_new rfl (rfl) (by omega) (by omega) dX1_back_83 ?_
              refine xw_aload_n (pc := 84) C 0 dX1_back_84 rfl ?_
              refine xw_aload_n (pc := 85) C 0 dX1_back_85 rfl ?_
              refine xw_get (pc := 86) (T := TX1) (N := 4) (ref := "ToneButterfliesLaw$Sim") C hin qs 0 (gl_old hs) rfl (by decide) (by decide +kernel) rfl rfl dX1_back_86 ?_
              refine xw_Vd (pc := 89) (q0 := qs) (na := 1) (rest := [nV (M k), nV k, .ref q_1]) (st' := [nV (n ^ (p - 2) % p), nV (M k), nV k, .ref q_1]) C (m_X1_inverse (gl_old hs) hp hp5 n (by omega) hnp hex) gX1_back_X1_inverse rfl rfl rfl rfl (by decide +kernel) ⟨(Nat.le_of_ble_eq_true rfl), (Nat.le_of_ble_eq_true rfl)⟩ (gl_old hs) rfl rfl (Nat.le_of_ble_eq_true rfl) dX1_back_89 ⟨(Nat.le_of_ble_eq_true rfl), (Nat.le_of_ble_eq_true rfl)⟩ rfl ?_
              refine xw_imul_N (pc := 92) C dX1_back_92 ?_
              refine xw_aload_n (pc := 93) C 0 dX1_back_93 rfl ?_
              refine xw_get (pc := 94) (T := TX1) (N := 4) (ref := "ToneButterfliesLaw$Sim") C hin qs 1 (gl_old hs) rfl (by decide) (by decide +kernel) rfl rfl dX1_back_94 ?_
              refine xw_irem_N (pc := 97) C dX1_back_97 (hmn) (by omega) ?_
              refine xw_iast (pc := 98) (w' := u ++ [(q_1, .inl (cI, n, .inl (fN (va_up M k (((M k) * (n ^ (p - 2) % p)) % p)))))]) C u.length 0 k (((M k) * (n ^ (p - 2) % p)) % p) gl_new rfl (rfl) rfl (by omega) (by omega) gl_set dX1_back_98 ?_
              refine xw_iinc_N (pc := 99) (b := k + 1) (lv' := [(0, .ref h), (1, .ref ra), (2, .ref q_1), (3, nV (k + 1)), (4, nV i)]) C 3 [1, 2, 3, 0, 4] dX1_back_99 rfl (by decide) rfl rfl ?_
              refine xw_goto (pc := 102) (tgt := 9) C dX1_back_102 (by decide) ?_
              refine xw_lv (lv' := [(0, .ref h), (1, .ref ra), (2, .ref q_1), (3, nV (k + 1))]) [0, 1, 2, 3] rfl ?_
              refine xw_wo (w' := u ++ [(q_1, .inl (cI, n, .inl (fN (mk (fun _ => 0) (fun k => bs p w n R k n * (n ^ (p - 2) % p) % p) (k + 1)))))]) (by rw [hMk, hM, va_uu, show i = n by omega, mk_s rfl]) ?_
              exact ih9 (k + 1) (by omega) (by omega)
            ·
              refine xw_aload_n (pc := 29) C 2 dX1_back_29 rfl ?_
              refine xw_iload_n (pc := 30) C 3 dX1_back_30 rfl ?_
              refine xw_aload_n (pc := 31) C 2 dX1_back_31 rfl ?_
              refine xw_iload_n (pc := 32) C 3 dX1_back_32 rfl ?_
              refine xw_iald (pc := 33) C u.length 0 k gl_new rfl (rfl) (by omega) (by omega) dX1_back_33 ?_
              refine xw_aload_n (pc := 34) C 1 dX1_back_34 rfl ?_
              refine xw_iload (pc := 35) C 4 dX1_back_35 rfl ?_
              refine xw_iald (pc := 37) C qa 0 i (gl_old hra) rfl (rfl) (by omega) (by omega) dX1_back_37 ?_
              refine xw_aload_n (pc := 38) C 0 dX1_back_38 rfl ?_
              refine xw_aload_n (pc := 39) C 0 dX1_back_39 rfl ?_
              refine xw_get (pc := 40) (T := TX1) (N := 4) (ref := "ToneButterfliesLaw$Sim") C hin qs 2 (gl_old hs) rfl (by decide) (by decide +kernel) rfl rfl dX1_back_40 ?_
              refine xw_aload_n (pc := 43) C 0 dX1_back_43 rfl ?_
              refine xw_get (pc := 44) (T := TX1) (N := 4) (ref := "ToneButterfliesLaw$Sim") C hin qs 0 (gl_old hs) rfl (by decide) (by decide +kernel) rfl rfl dX1_back_44 ?_
              refine xw_iload_n (pc := 47) C 3 dX1_back_47 rfl ?_
              refine xw_iload (pc := 48) C 4 dX1_back_48 rfl ?_
              refine xw_imul_N (pc := 50) C dX1_back_50 ?_
              refine xw_aload_n (pc := 51) C 0 dX1_back_51 rfl ?_
              refine xw_get (pc := 52) (T := TX1) (N := 4) (ref := "ToneButterfliesLaw$Sim") C hin qs 0 (gl_old hs) rfl (by decide) (by decide +kernel) rfl rfl dX1_back_52 ?_
              refine xw_irem_N (pc := 55) C dX1_back_55 (hik) (by omega) ?_
              refine xw_isub_N (pc := 56) C dX1_back_56 (by omega) ?_
              refine xw_aload_n (pc := 57) C 0 dX1_back_57 rfl ?_
              refine xw_get (pc := 58) (T := TX1) (N := 4) (ref := "ToneButterfliesLaw$Sim") C hin qs 0 (gl_old hs) rfl (by decide) (by decide +kernel) rfl rfl dX1_back_58 ?_
              refine xw_irem_N (pc := 61) C dX1_back_61 (by omega) (by omega) ?_
              refine xw_Vd (pc := 62) (q0 := qs) (na := 2) (rest := [nV (R i), nV (M k), nV k, .ref q_1]) (st' := [nV (pw p w ((n - ((k * i) % n)) % n)), nV (R i), nV (M k), nV k, .ref q_1]) C (m_X1_power (gl_old hs) (by omega) hp5 w ((n - ((k * i) % n)) % n) (by omega) (by omega)) gX1_back_X1_power rfl rfl rfl rfl (by decide +kernel) ⟨(Nat.le_of_ble_eq_true rfl), (Nat.le_of_ble_eq_true rfl)⟩ (gl_old hs) rfl rfl (Nat.le_of_ble_eq_true rfl) dX1_back_62 ⟨(Nat.le_of_ble_eq_true rfl), (Nat.le_of_ble_eq_true rfl)⟩ rfl ?_
              refine xw_imul_N (pc := 65) C dX1_back_65 ?_
              refine xw_iadd_N (pc := 66) C dX1_back_66 ?_
              refine xw_aload_n (pc := 67) C 0 dX1_back_67 rfl ?_
              refine xw_get (pc := 68) (T := TX1) (N := 4) (ref := "ToneButterfliesLaw$Sim") C hin qs 1 (gl_old hs) rfl (by decide) (by decide +kernel) rfl rfl dX1_back_68 ?_
              refine xw_irem_N (pc := 71) C dX1_back_71 (hmb) (by omega) ?_
              refine xw_iast (pc := 72) (w' := u ++ [(q_1, .inl (cI, n, .inl (fN (va_up M k (((M k) + ((R i) * (pw p w ((n - ((k * i) % n)) % n)))) % p)))))]) C u.length 0 k (((M k) + ((R i) * (pw p w ((n - ((k * i) % n)) % n)))) % p) gl_new rfl (rfl) rfl (by omega) (by omega) gl_set dX1_back_72 ?_
              refine xw_iinc_N (pc := 73) (b := i + 1) (lv' := [(0, .ref h), (1, .ref ra), (2, .ref q_1), (3, nV k), (4, nV (i + 1))]) C 4 [1, 2, 3, 4, 0] dX1_back_73 rfl (by decide) rfl rfl ?_
              refine xw_goto (pc := 76) (tgt := 20) C dX1_back_76 (by decide) ?_
              exact ih20 (i + 1) _ (by omega) (by omega) (by rw [hMk, hM, va_uu]; rfl)
        exact L20 (n + 1) 0 _ (by omega) (by omega) mk_u.symm
  refine xw_wo (w' := u ++ [(q_1, .inl (cI, n, .inl (fN (mk (fun _ => 0) (fun k => bs p w n R k n * (n ^ (p - 2) % p) % p) 0))))]) (by rw [mk_0]) ?_
  exact L9 (n + 1) 0 (by omega) (by omega)

set_option maxHeartbeats 4000000 in
set_option maxRecDepth 100000 in
theorem m_X1_mirrored {l : Launch} {D : va_G} {cI cQ : ClassId} {u : va_W} {h n p w rr qs : Nat} (hs : u[qs]? = some (h, .inr (1, [nV n, nV p, nV w, .ref rr]))) (hp : 1 < p) (hp5 : p < 500) (hn : n = 4 ∨ n = 8 ∨ n = 16) {R : Nat → Nat} (hR : ∀ j, R j < 500) {qa ra : Nat} (hra : u[qa]? = some (ra, .inl (cI, n, .inl (fN R)))) : CT l yX1_mirrored wsX1_mirrored { frames := 0, cells := 1, slots := 16, locals := 0 } D vwCl [(cI, .int), (cQ, .array .int)] [.ref h, .ref ra] (u) (PR cI n u (mk (fun _ => 0) (fun m => R (mi m (bt n))) n)) 1 16 := by
  refine ct_of (plainFor_of_name (by decide)) rfl (Nat.le_of_ble_eq_true rfl) (fun φ C rX => ?_)
  have hin : ∀ w ∈ wsX10, w ∈ wsX1_mirrored := by decide +kernel
  refine xw_le (lv' := [(0, .ref h), (1, .ref ra)]) rfl ?_
  have hn3 := lt3 hn
  have hp0 : 0 < p := by omega
  refine xw_aload_n (pc := 0) C 0 dX1_mirrored_0 rfl ?_
  refine xw_get (pc := 1) (T := TX1) (N := 4) (ref := "ToneButterfliesLaw$Sim") C hin qs 0 hs rfl (by decide) (by decide +kernel) rfl rfl dX1_mirrored_1 ?_
  refine xw_newI (pc := 4) C 0 rfl (by decide +kernel) (by show n * 4 ≤ 536870912; omega) (by show 0 + 1 ≤ 1; omega) (by show 0 + n ≤ 16; omega) dX1_mirrored_4 (fun q_1 => ?_)
  refine xw_wd (k' := 1) (n' := 16) (by omega) (by omega) ?_
  refine xw_astore_n (pc := 6) (lv' := [(0, .ref h), (1, .ref ra), (2, .ref q_1)]) C [1, 2, 0] dX1_mirrored_6 rfl (by decide) rfl ?_
  refine xw_iconst_N (pc := 7) C 0 dX1_mirrored_7 rfl ?_
  refine xw_istore_n (pc := 8) (lv' := [(0, .ref h), (1, .ref ra), (2, .ref q_1), (3, nV 0)]) C [1, 2, 3, 0] dX1_mirrored_8 rfl (by decide) rfl ?_
  have L9 : ∀ (fuel : Nat) (k : Nat), n < k + fuel → k ≤ n → xw φ 1 16 (u ++ [(q_1, .inl (cI, n, .inl (fN (mo (fun _ => 0) n (fun m => mi m (bt n)) R k))))]) 9 [(0, .ref h), (1, .ref ra), (2, .ref q_1), (3, nV k)] [] := by
    intro fuel
    induction fuel with
    | zero =>
      intro k hk hkn
      omega
    | succ fuel ih9 =>
      intro k hk hkn
      refine xw_iload_n (pc := 9) C 3 dX1_mirrored_9 rfl ?_
      refine xw_aload_n (pc := 10) C 0 dX1_mirrored_10 rfl ?_
      refine xw_get (pc := 11) (T := TX1) (N := 4) (ref := "ToneButterfliesLaw$Sim") C hin qs 0 (gl_old hs) rfl (by decide) (by decide +kernel) rfl rfl dX1_mirrored_11 ?_
      refine xw_icmp_ge_N (pc := 14) (tgt := 82) C dX1_mirrored_14 (by decide) (by omega) (by omega) (fun c_2 => ?_) (fun c_2 => ?_)
      ·
        refine xw_aload_n (pc := 82) C 2 dX1_mirrored_82 rfl ?_
        exact xw_aret (pc := 83) C rX (Or.inr ⟨_, rfl⟩) (Nat.le_refl _) (Nat.le_refl _) dX1_mirrored_83 (PR.e (by rw [show k = n by omega, mo_n (fun m hm => (mi_p n (by omega) hn m (by omega) hm).1)]))
      ·
        refine xw_iconst_N (pc := 17) C 0 dX1_mirrored_17 rfl ?_
        refine xw_istore (pc := 18) (lv' := [(0, .ref h), (1, .ref ra), (2, .ref q_1), (3, nV k), (4, nV 0)]) C [1, 2, 3, 4, 0] dX1_mirrored_18 (by decide) rfl ?_
        refine xw_iconst_N (pc := 20) C 1 dX1_mirrored_20 rfl ?_
        refine xw_istore (pc := 21) (lv' := [(0, .ref h), (1, .ref ra), (2, .ref q_1), (3, nV k), (4, nV 0), (5, nV 1)]) C [1, 2, 3, 4, 5, 0] dX1_mirrored_21 (by decide) rfl ?_
        refine xw_aload_n (pc := 23) C 0 dX1_mirrored_23 rfl ?_
        refine xw_get (pc := 24) (T := TX1) (N := 4) (ref := "ToneButterfliesLaw$Sim") C hin qs 0 (gl_old hs) rfl (by decide) (by decide +kernel) rfl rfl dX1_mirrored_24 ?_
        refine xw_iconst_N (pc := 27) C 2 dX1_mirrored_27 rfl ?_
        refine xw_idiv_N (pc := 28) C dX1_mirrored_28 (by omega) (by omega) ?_
        refine xw_istore (pc := 29) (lv' := [(0, .ref h), (1, .ref ra), (2, .ref q_1), (3, nV k), (4, nV 0), (5, nV 1), (6, nV (n / 2))]) C [1, 2, 3, 4, 5, 6, 0] dX1_mirrored_29 (by decide) rfl ?_
        have L31 : ∀ (fuel : Nat) (j t b y : Nat), bt n < j + fuel → j ≤ bt n → t = ms n k j → b = 2 ^ j → y = n / 2 ^ (j + 1) → xw φ 1 16 (u ++ [(q_1, .inl (cI, n, .inl (fN (mo (fun _ => 0) n (fun m => mi m (bt n)) R k))))]) 31 [(0, .ref h), (1, .ref ra), (2, .ref q_1), (3, nV k), (4, nV t), (5, nV b), (6, nV y)] [] := by
          intro fuel
          induction fuel with
          | zero =>
            intro j t b y hj hjb ht hb hy
            omega
          | succ fuel ih31 =>
            intro j t b y hj hjb ht hb hy
            have hkk : k < n := by omega
            have hbp := bt_p hn hjb
            have ht16 : t < 16 := by rw [ht]; exact (ms_p hn hkk).2 j hjb
            rw [← hb, ← hy] at hbp
            have hm1 := Nat.mod_lt (k / b) (show 2 > 0 by omega)
            have hmy : k / b % 2 * y ≤ 1 * 8 := Nat.mul_le_mul (by omega) hbp.2.2.2.1
            have hkd := Nat.div_le_self k b
            refine xw_iload (pc := 31) C 5 dX1_mirrored_31 rfl ?_
            refine xw_aload_n (pc := 33) C 0 dX1_mirrored_33 rfl ?_
            refine xw_get (pc := 34) (T := TX1) (N := 4) (ref := "ToneButterfliesLaw$Sim") C hin qs 0 (gl_old hs) rfl (by decide) (by decide +kernel) rfl rfl dX1_mirrored_34 ?_
            refine xw_icmp_ge_N (pc := 37) (tgt := 69) C dX1_mirrored_37 (by decide) (by omega) (by omega) (fun c_3 => ?_) (fun c_3 => ?_)
            ·
              have hje : j = bt n := by omega
              have hte : t < n ∧ (fun m => mi m (bt n)) t = k ∧ ∀ m, m < n → (fun m => mi m (bt n)) m = k → m = t := by
                have e : t = mi k (bt n) := by rw [ht, hje, (ms_p hn hkk).1]
                have hp1 := mi_p n (by omega) hn k (by omega) hkk
                refine ⟨by rw [e]; exact hp1.1, by rw [e]; exact hp1.2, fun m hm hmk => ?_⟩
                have hp2 := mi_p n (by omega) hn m (by omega) hm
                rw [e, ← hp2.2]; exact congrArg (fun z => mi z (bt n)) hmk
              refine xw_aload_n (pc := 69) C 2 dX1_mirrored_69 rfl ?_
              refine xw_iload (pc := 70) C 4 dX1_mirrored_70 rfl ?_
              refine xw_aload_n (pc := 72) C 1 dX1_mirrored_72 rfl ?_
              refine xw_iload_n (pc := 73) C 3 dX1_mirrored_73 rfl ?_
              refine xw_iald (pc := 74) C qa 0 k (gl_old hra) rfl (rfl) (by omega) (by omega) dX1_mirrored_74 ?_
              refine xw_iast (pc := 75) (w' := u ++ [(q_1, .inl (cI, n, .inl (fN (va_up (mo (fun _ => 0) n (fun m => mi m (bt n)) R k) t (R k)))))]) C u.length 0 t (R k) gl_new rfl (rfl) rfl (by omega) (by omega) gl_set dX1_mirrored_75 ?_
              refine xw_iinc_N (pc := 76) (b := k + 1) (lv' := [(0, .ref h), (1, .ref ra), (2, .ref q_1), (3, nV (k + 1)), (4, nV t), (5, nV b), (6, nV y)]) C 3 [1, 2, 3, 0, 4, 5, 6] dX1_mirrored_76 rfl (by decide) rfl rfl ?_
              refine xw_goto (pc := 79) (tgt := 9) C dX1_mirrored_79 (by decide) ?_
              refine xw_lv (lv' := [(0, .ref h), (1, .ref ra), (2, .ref q_1), (3, nV (k + 1))]) [0, 1, 2, 3] rfl ?_
              refine xw_wo (w' := u ++ [(q_1, .inl (cI, n, .inl (fN (mo (fun _ => 0) n (fun m => mi m (bt n)) R (k + 1)))))]) (by rw [mo_s rfl hte.1 hte.2.1 hte.2.2]) ?_
              exact ih9 (k + 1) (by omega) (by omega)
            ·
              have hjl : j < bt n := by omega
              refine xw_iload (pc := 40) C 4 dX1_mirrored_40 rfl ?_
              refine xw_iload_n (pc := 42) C 3 dX1_mirrored_42 rfl ?_
              refine xw_iload (pc := 43) C 5 dX1_mirrored_43 rfl ?_
              refine xw_idiv_N (pc := 45) C dX1_mirrored_45 (by omega) (by omega) ?_
              refine xw_iconst_N (pc := 46) C 2 dX1_mirrored_46 rfl ?_
              refine xw_irem_N (pc := 47) C dX1_mirrored_47 (by omega) (by omega) ?_
              refine xw_iload (pc := 48) C 6 dX1_mirrored_48 rfl ?_
              refine xw_imul_N (pc := 50) C dX1_mirrored_50 ?_
              refine xw_iadd_N (pc := 51) C dX1_mirrored_51 ?_
              refine xw_istore (pc := 52) (lv' := [(0, .ref h), (1, .ref ra), (2, .ref q_1), (3, nV k), (4, nV (t + (((k / b) % 2) * y))), (5, nV b), (6, nV y)]) C [1, 2, 3, 4, 0, 5, 6] dX1_mirrored_52 (by decide) rfl ?_
              refine xw_iload (pc := 54) C 5 dX1_mirrored_54 rfl ?_
              refine xw_iconst_N (pc := 56) C 2 dX1_mirrored_56 rfl ?_
              refine xw_imul_N (pc := 57) C dX1_mirrored_57 ?_
              refine xw_istore (pc := 58) (lv' := [(0, .ref h), (1, .ref ra), (2, .ref q_1), (3, nV k), (4, nV (t + (((k / b) % 2) * y))), (5, nV (b * 2)), (6, nV y)]) C [1, 2, 3, 4, 5, 0, 6] dX1_mirrored_58 (by decide) rfl ?_
              refine xw_iload (pc := 60) C 6 dX1_mirrored_60 rfl ?_
              refine xw_iconst_N (pc := 62) C 2 dX1_mirrored_62 rfl ?_
              refine xw_idiv_N (pc := 63) C dX1_mirrored_63 (by omega) (by omega) ?_
              refine xw_istore (pc := 64) (lv' := [(0, .ref h), (1, .ref ra), (2, .ref q_1), (3, nV k), (4, nV (t + (((k / b) % 2) * y))), (5, nV (b * 2)), (6, nV (y / 2))]) C [1, 2, 3, 4, 5, 6, 0] dX1_mirrored_64 (by decide) rfl ?_
              refine xw_goto (pc := 66) (tgt := 31) C dX1_mirrored_66 (by decide) ?_
              exact ih31 (j + 1) _ _ _ (by omega) (by omega) (by rw [ht, hb, hy]; rfl) (by rw [hb, Nat.pow_succ]) (by rw [hy, Nat.div_div_eq_div_mul, ← Nat.pow_succ])
        exact L31 (bt n + 1) 0 0 1 _ (by omega) (by omega) rfl rfl rfl
  refine xw_wo (w' := u ++ [(q_1, .inl (cI, n, .inl (fN (mo (fun _ => 0) n (fun m => mi m (bt n)) R 0))))]) (by rw [mo_0]) ?_
  exact L9 (n + 1) 0 (by omega) (by omega)

set_option maxHeartbeats 4000000 in
set_option maxRecDepth 100000 in
theorem m_X1_staged {l : Launch} {D : va_G} {cI cQ : ClassId} {u : va_W} {h n p w rr qs : Nat} (hs : u[qs]? = some (h, .inr (1, [nV n, nV p, nV w, .ref rr]))) (hp : 1 < p) (hp5 : p < 500) (hn : n = 4 ∨ n = 8 ∨ n = 16) (hw : w < 500) {R : Nat → Nat} (hR : ∀ j, R j < 500) {qa ra : Nat} (hra : u[qa]? = some (ra, .inl (cI, n, .inl (fN R)))) (st : Nat) (hst : st < bt n) : CT l yX1_staged wsX1_staged { frames := 1, cells := 1, slots := 16, locals := 24 } D vwCl [(cI, .int), (cQ, .array .int)] [.ref h, .ref ra, nV st] (u) (PR cI n u (mk (fun _ => 0) (sgR p n w R (2 ^ st)) n)) 1 16 := by
  refine ct_of (plainFor_of_name (by decide)) rfl (Nat.le_of_ble_eq_true rfl) (fun φ C rX => ?_)
  have hin : ∀ w ∈ wsX10, w ∈ wsX1_staged := by decide +kernel
  refine xw_le (lv' := [(0, .ref h), (1, .ref ra), (2, nV st)]) rfl ?_
  have hn3 := lt3 hn
  have hp0 : 0 < p := by omega
  obtain ⟨hh, hh2, hh3, hst4⟩ := stH n hn st hst _ rfl
  have hz : ∀ i, i ≤ st → 2 ^ i ≤ 16 := fun i hi => (bt_p hn (show i ≤ bt n by omega)).2.2.1
  refine xw_iconst_N (pc := 0) C 1 dX1_staged_0 rfl ?_
  refine xw_istore_n (pc := 1) (lv' := [(0, .ref h), (1, .ref ra), (2, nV st), (3, nV 1)]) C [1, 2, 3, 0] dX1_staged_1 rfl (by decide) rfl ?_
  refine xw_iconst_N (pc := 2) C 0 dX1_staged_2 rfl ?_
  refine xw_istore (pc := 3) (lv' := [(0, .ref h), (1, .ref ra), (2, nV st), (3, nV 1), (4, nV 0)]) C [1, 2, 3, 4, 0] dX1_staged_3 (by decide) rfl ?_
  have L5 : ∀ (fuel : Nat) (i x : Nat), st < i + fuel → i ≤ st → x = 2 ^ i → xw φ 0 0 (u) 5 [(0, .ref h), (1, .ref ra), (2, nV st), (3, nV x), (4, nV i)] [] := by
    intro fuel
    induction fuel with
    | zero =>
      intro i x hi hist hx
      omega
    | succ fuel ih5 =>
      intro i x hi hist hx
      have hx16 := hz i hist
      rw [← hx] at hx16
      refine xw_iload (pc := 5) C 4 dX1_staged_5 rfl ?_
      refine xw_iload_n (pc := 7) C 2 dX1_staged_7 rfl ?_
      refine xw_icmp_ge_N (pc := 8) (tgt := 21) C dX1_staged_8 (by decide) (by omega) (by omega) (fun c_1 => ?_) (fun c_1 => ?_)
      ·
        obtain rfl : st = i := by omega
        have hx4 : x = 1 ∨ x = 2 ∨ x = 4 ∨ x = 8 := by rw [hx]; exact hh
        have hx2 : 2 * x ≤ n := by rw [hx]; exact hh2
        have hx3 : n % (2 * x) = 0 := by rw [hx]; exact hh3
        clear hh hh2 hh3
        refine xw_aload_n (pc := 21) C 0 dX1_staged_21 rfl ?_
        refine xw_get (pc := 22) (T := TX1) (N := 4) (ref := "ToneButterfliesLaw$Sim") C hin qs 0 hs rfl (by decide) (by decide +kernel) rfl rfl dX1_staged_22 ?_
        refine xw_newI (pc := 25) C 0 rfl (by decide +kernel) (by show n * 4 ≤ 536870912; omega) (by show 0 + 1 ≤ 1; omega) (by show 0 + n ≤ 16; omega) dX1_staged_25 (fun q_2 => ?_)
        refine xw_wd (k' := 1) (n' := 16) (by omega) (by omega) ?_
        refine xw_astore (pc := 27) (lv' := [(0, .ref h), (1, .ref ra), (2, nV st), (3, nV x), (4, .ref q_2)]) C [1, 2, 3, 4, 0] dX1_staged_27 (by decide) rfl ?_
        refine xw_iconst_N (pc := 29) C 0 dX1_staged_29 rfl ?_
        refine xw_istore (pc := 30) (lv' := [(0, .ref h), (1, .ref ra), (2, nV st), (3, nV x), (4, .ref q_2), (5, nV 0)]) C [1, 2, 3, 4, 5, 0] dX1_staged_30 (by decide) rfl ?_
        have L32 : ∀ (fuel : Nat) (b c : Nat), n < b + fuel → b ≤ n → b = 2 * x * c → xw φ 1 16 (u ++ [(q_2, .inl (cI, n, .inl (fN (stm p n w R x b 0))))]) 32 [(0, .ref h), (1, .ref ra), (2, nV st), (3, nV x), (4, .ref q_2), (5, nV b)] [] := by
          intro fuel
          induction fuel with
          | zero =>
            intro b c hb hbn hbc
            omega
          | succ fuel ih32 =>
            intro b c hb hbn hbc
            refine xw_iload (pc := 32) C 5 dX1_staged_32 rfl ?_
            refine xw_aload_n (pc := 34) C 0 dX1_staged_34 rfl ?_
            refine xw_get (pc := 35) (T := TX1) (N := 4) (ref := "ToneButterfliesLaw$Sim") C hin qs 0 (gl_old hs) rfl (by decide) (by decide +kernel) rfl rfl dX1_staged_35 ?_
            refine xw_icmp_ge_N (pc := 38) (tgt := 156) C dX1_staged_38 (by decide) (by omega) (by omega) (fun c_3 => ?_) (fun c_3 => ?_)
            ·
              refine xw_aload (pc := 156) C 4 dX1_staged_156 rfl ?_
              exact xw_aret (pc := 158) C rX (Or.inr ⟨_, rfl⟩) (Nat.le_refl _) (Nat.le_refl _) dX1_staged_158 (PR.e (by rw [show b = n by omega, stm_n, hx]))
            ·
              have hbx : b + 2 * x ≤ n := by
                obtain ⟨t, ht⟩ := Nat.dvd_of_mod_eq_zero hx3
                have h9 : c < t := by
                  rcases Nat.lt_or_ge c t with z | z
                  · exact z
                  · have := Nat.mul_le_mul (Nat.le_refl (2 * x)) z; omega
                have h8 := Nat.mul_le_mul (Nat.le_refl (2 * x)) (show c + 1 ≤ t by omega)
                rw [Nat.mul_add, Nat.mul_one] at h8; omega
              refine xw_iconst_N (pc := 41) C 0 dX1_staged_41 rfl ?_
              refine xw_istore (pc := 42) (lv' := [(0, .ref h), (1, .ref ra), (2, nV st), (3, nV x), (4, .ref q_2), (5, nV b), (6, nV 0)]) C [1, 2, 3, 4, 5, 6, 0] dX1_staged_42 (by decide) rfl ?_
              have L44 : ∀ (fuel : Nat) (j : Nat), x < j + fuel → j ≤ x → xw φ 1 16 (u ++ [(q_2, .inl (cI, n, .inl (fN (stm p n w R x b j))))]) 44 [(0, .ref h), (1, .ref ra), (2, nV st), (3, nV x), (4, .ref q_2), (5, nV b), (6, nV j)] [] := by
                intro fuel
                induction fuel with
                | zero =>
                  intro j hj hjx
                  omega
                | succ fuel ih44 =>
                  intro j hj hjx
                  refine xw_iload (pc := 44) C 6 dX1_staged_44 rfl ?_
                  refine xw_iload_n (pc := 46) C 3 dX1_staged_46 rfl ?_
                  refine xw_icmp_ge_N (pc := 47) (tgt := 145) C dX1_staged_47 (by decide) (by omega) (by omega) (fun c_4 => ?_) (fun c_4 => ?_)
                  ·
                    refine xw_iload (pc := 145) C 5 dX1_staged_145 rfl ?_
                    refine xw_iconst_N (pc := 147) C 2 dX1_staged_147 rfl ?_
                    refine xw_iload_n (pc := 148) C 3 dX1_staged_148 rfl ?_
                    refine xw_imul_N (pc := 149) C dX1_staged_149 ?_
                    refine xw_iadd_N (pc := 150) C dX1_staged_150 ?_
                    refine xw_istore (pc := 151) (lv' := [(0, .ref h), (1, .ref ra), (2, nV st), (3, nV x), (4, .ref q_2), (5, nV (b + (2 * x))), (6, nV j)]) C [1, 2, 3, 4, 5, 0, 6] dX1_staged_151 (by decide) rfl ?_
                    refine xw_goto (pc := 153) (tgt := 32) C dX1_staged_153 (by decide) ?_
                    refine xw_lv (lv' := [(0, .ref h), (1, .ref ra), (2, nV st), (3, nV x), (4, .ref q_2), (5, nV (b + (2 * x)))]) [0, 1, 2, 3, 4, 5] rfl ?_
                    have hjx : j = x := by omega
                    subst hjx
                    refine xw_wo (w' := u ++ [(q_2, .inl (cI, n, .inl (fN (stm p n w R j (b + 2 * j) 0))))]) (by rw [stm_o (by omega)]) ?_
                    exact ih32 (b + 2 * j) (c + 1) (by omega) (by omega) (by rw [hbc, Nat.mul_add, Nat.mul_one])
                  ·
                    have hpe : pw p w (j * n / (2 * x)) = w ^ (j * (n / (2 * x))) % p := by rw [pw_pow hp, st_ex hx3]
                    have hb1 := hR (b + j + x)
                    have hb2 := pw_lt (p := p) (b := w) hp (j * n / (2 * x))
                    have hmb : R (b + j + x) * pw p w (j * n / (2 * x)) < 2147483648 := mb0 hb1 (by omega)
                    have hjn : j * n < 2147483648 := mb0 (by omega) (by omega)
                    have hb3 := hR (b + j)
                    have hde : j * n / (2 * x) < 500 := by
                      have h7 := Nat.div_le_self (j * n) (2 * x)
                      have h6 := Nat.mul_le_mul (show j ≤ 8 by omega) (show n ≤ 16 by omega)
                      omega
                    have hml := Nat.mod_lt (R (b + j + x) * pw p w (j * n / (2 * x))) hp0
                    refine xw_aload_n (pc := 50) C 1 dX1_staged_50 rfl ?_
                    refine xw_iload (pc := 51) C 5 dX1_staged_51 rfl ?_
                    refine xw_iload (pc := 53) C 6 dX1_staged_53 rfl ?_
                    refine xw_iadd_N (pc := 55) C dX1_staged_55 ?_
                    refine xw_iload_n (pc := 56) C 3 dX1_staged_56 rfl ?_
                    refine xw_iadd_N (pc := 57) C dX1_staged_57 ?_
                    refine xw_iald (pc := 58) C qa 0 ((b + j) + x) (gl_old hra) rfl (rfl) (by omega) (by omega) dX1_staged_58 ?_
                    refine xw_aload_n (pc := 59) C 0 dX1_staged_59 rfl ?_
                    refine xw_aload_n (pc := 60) C 0 dX1_staged_60 rfl ?_
                    refine xw_get (pc := 61) (T := TX1) (N := 4) (ref := "ToneButterfliesLaw$Sim") C hin qs 2 (gl_old hs) rfl (by decide) (by decide +kernel) rfl rfl dX1_staged_61 ?_
                    refine xw_iload (pc := 64) C 6 dX1_staged_64 rfl ?_
                    refine xw_aload_n (pc := 66) C 0 dX1_staged_66 rfl ?_
                    refine xw_get (pc := 67) (T := TX1) (N := 4) (ref := "ToneButterfliesLaw$Sim") C hin qs 0 (gl_old hs) rfl (by decide) (by decide +kernel) rfl rfl dX1_staged_67 ?_
                    refine xw_imul_N (pc := 70) C dX1_staged_70 ?_
                    refine xw_iconst_N (pc := 71) C 2 dX1_staged_71 rfl ?_
                    refine xw_iload_n (pc := 72) C 3 dX1_staged_72 rfl ?_
                    refine xw_imul_N (pc := 73) C dX1_staged_73 ?_
                    refine xw_idiv_N (pc := 74) C dX1_staged_74 (hjn) (by omega) ?_
                    refine xw_Vd (pc := 75) (q0 := qs) (na := 2) (rest := [nV (R ((b + j) + x))]) (st' := [nV (pw p w ((j * n) / (2 * x))), nV (R ((b + j) + x))]) C (m_X1_power (gl_old hs) (by omega) hp5 w ((j * n) / (2 * x)) (by omega) (hde)) gX1_staged_X1_power rfl rfl rfl rfl (by decide +kernel) ⟨(Nat.le_of_ble_eq_true rfl), (Nat.le_of_ble_eq_true rfl)⟩ (gl_old hs) rfl rfl (Nat.le_of_ble_eq_true rfl) dX1_staged_75 ⟨(Nat.le_of_ble_eq_true rfl), (Nat.le_of_ble_eq_true rfl)⟩ rfl ?_
                    refine xw_imul_N (pc := 78) C dX1_staged_78 ?_
                    refine xw_aload_n (pc := 79) C 0 dX1_staged_79 rfl ?_
                    refine xw_get (pc := 80) (T := TX1) (N := 4) (ref := "ToneButterfliesLaw$Sim") C hin qs 1 (gl_old hs) rfl (by decide) (by decide +kernel) rfl rfl dX1_staged_80 ?_
                    refine xw_irem_N (pc := 83) C dX1_staged_83 (hmb) (by omega) ?_
                    refine xw_istore (pc := 84) (lv' := [(0, .ref h), (1, .ref ra), (2, nV st), (3, nV x), (4, .ref q_2), (5, nV b), (6, nV j), (7, nV (((R ((b + j) + x)) * (pw p w ((j * n) / (2 * x)))) % p))]) C [1, 2, 3, 4, 5, 6, 7, 0] dX1_staged_84 (by decide) rfl ?_
                    refine xw_aload (pc := 86) C 4 dX1_staged_86 rfl ?_
                    refine xw_iload (pc := 88) C 5 dX1_staged_88 rfl ?_
                    refine xw_iload (pc := 90) C 6 dX1_staged_90 rfl ?_
                    refine xw_iadd_N (pc := 92) C dX1_staged_92 ?_
                    refine xw_aload_n (pc := 93) C 1 dX1_staged_93 rfl ?_
                    refine xw_iload (pc := 94) C 5 dX1_staged_94 rfl ?_
                    refine xw_iload (pc := 96) C 6 dX1_staged_96 rfl ?_
                    refine xw_iadd_N (pc := 98) C dX1_staged_98 ?_
                    refine xw_iald (pc := 99) C qa 0 (b + j) (gl_old hra) rfl (rfl) (by omega) (by omega) dX1_staged_99 ?_
                    refine xw_iload (pc := 100) C 7 dX1_staged_100 rfl ?_
                    refine xw_iadd_N (pc := 102) C dX1_staged_102 ?_
                    refine xw_aload_n (pc := 103) C 0 dX1_staged_103 rfl ?_
                    refine xw_get (pc := 104) (T := TX1) (N := 4) (ref := "ToneButterfliesLaw$Sim") C hin qs 1 (gl_old hs) rfl (by decide) (by decide +kernel) rfl rfl dX1_staged_104 ?_
                    refine xw_irem_N (pc := 107) C dX1_staged_107 (by omega) (by omega) ?_
                    refine xw_iast (pc := 108) (w' := u ++ [(q_2, .inl (cI, n, .inl (fN (va_up (stm p n w R x b j) (b + j) (((R (b + j)) + (((R ((b + j) + x)) * (pw p w ((j * n) / (2 * x)))) % p)) % p)))))]) C u.length 0 (b + j) (((R (b + j)) + (((R ((b + j) + x)) * (pw p w ((j * n) / (2 * x)))) % p)) % p) gl_new rfl (rfl) rfl (by omega) (by omega) gl_set dX1_staged_108 ?_
                    refine xw_aload (pc := 109) C 4 dX1_staged_109 rfl ?_
                    refine xw_iload (pc := 111) C 5 dX1_staged_111 rfl ?_
                    refine xw_iload (pc := 113) C 6 dX1_staged_113 rfl ?_
                    refine xw_iadd_N (pc := 115) C dX1_staged_115 ?_
                    refine xw_iload_n (pc := 116) C 3 dX1_staged_116 rfl ?_
                    refine xw_iadd_N (pc := 117) C dX1_staged_117 ?_
                    refine xw_aload_n (pc := 118) C 1 dX1_staged_118 rfl ?_
                    refine xw_iload (pc := 119) C 5 dX1_staged_119 rfl ?_
                    refine xw_iload (pc := 121) C 6 dX1_staged_121 rfl ?_
                    refine xw_iadd_N (pc := 123) C dX1_staged_123 ?_
                    refine xw_iald (pc := 124) C qa 0 (b + j) (gl_old hra) rfl (rfl) (by omega) (by omega) dX1_staged_124 ?_
                    refine xw_aload_n (pc := 125) C 0 dX1_staged_125 rfl ?_
                    refine xw_get (pc := 126) (T := TX1) (N := 4) (ref := "ToneButterfliesLaw$Sim") C hin qs 1 (gl_old hs) rfl (by decide) (by decide +kernel) rfl rfl dX1_staged_126 ?_
                    refine xw_iadd_N (pc := 129) C dX1_staged_129 ?_
                    refine xw_iload (pc := 130) C 7 dX1_staged_130 rfl ?_
                    refine xw_isub_N (pc := 132) C dX1_staged_132 (by omega) ?_
                    refine xw_aload_n (pc := 133) C 0 dX1_staged_133 rfl ?_
                    refine xw_get (pc := 134) (T := TX1) (N := 4) (ref := "ToneButterfliesLaw$Sim") C hin qs 1 (gl_old hs) rfl (by decide) (by decide +kernel) rfl rfl dX1_staged_134 ?_
                    refine xw_irem_N (pc := 137) C dX1_staged_137 (by omega) (by omega) ?_
                    refine xw_iast (pc := 138) (w' := u ++ [(q_2, .inl (cI, n, .inl (fN (va_up (va_up (stm p n w R x b j) (b + j) (((R (b + j)) + (((R ((b + j) + x)) * (pw p w ((j * n) / (2 * x)))) % p)) % p)) ((b + j) + x) ((((R (b + j)) + p) - (((R ((b + j) + x)) * (pw p w ((j * n) / (2 * x)))) % p)) % p)))))]) C u.length 0 ((b + j) + x) ((((R (b + j)) + p) - (((R ((b + j) + x)) * (pw p w ((j * n) / (2 * x)))) % p)) % p) gl_new rfl (rfl) rfl (by omega) (by omega) gl_set dX1_staged_138 ?_
                    refine xw_iinc_N (pc := 139) (b := j + 1) (lv' := [(0, .ref h), (1, .ref ra), (2, nV st), (3, nV x), (4, .ref q_2), (5, nV b), (6, nV (j + 1)), (7, nV (((R ((b + j) + x)) * (pw p w ((j * n) / (2 * x)))) % p))]) C 6 [1, 2, 3, 4, 5, 6, 0, 7] dX1_staged_139 rfl (by decide) rfl rfl ?_
                    refine xw_goto (pc := 142) (tgt := 44) C dX1_staged_142 (by decide) ?_
                    refine xw_lv (lv' := [(0, .ref h), (1, .ref ra), (2, nV st), (3, nV x), (4, .ref q_2), (5, nV b), (6, nV (j + 1))]) [0, 1, 2, 3, 4, 5, 6] rfl ?_
                    refine xw_wo (w' := u ++ [(q_2, .inl (cI, n, .inl (fN (stm p n w R x b (j + 1)))))]) (by rw [hpe, stm_s hx4 hbc (by omega) hbx]) ?_
                    exact ih44 (j + 1) (by omega) (by omega)
              exact L44 (x + 1) 0 (by omega) (by omega)
        refine xw_wo (w' := u ++ [(q_2, .inl (cI, n, .inl (fN (stm p n w R x 0 0))))]) (by rw [stm_0]) ?_
        exact L32 (n + 1) 0 0 (by omega) (by omega) (by omega)
      ·
        refine xw_iload_n (pc := 11) C 3 dX1_staged_11 rfl ?_
        refine xw_iconst_N (pc := 12) C 2 dX1_staged_12 rfl ?_
        refine xw_imul_N (pc := 13) C dX1_staged_13 ?_
        refine xw_istore_n (pc := 14) (lv' := [(0, .ref h), (1, .ref ra), (2, nV st), (3, nV (x * 2)), (4, nV i)]) C [1, 2, 3, 0, 4] dX1_staged_14 rfl (by decide) rfl ?_
        refine xw_iinc_N (pc := 15) (b := i + 1) (lv' := [(0, .ref h), (1, .ref ra), (2, nV st), (3, nV (x * 2)), (4, nV (i + 1))]) C 4 [1, 2, 3, 4, 0] dX1_staged_15 rfl (by decide) rfl rfl ?_
        refine xw_goto (pc := 18) (tgt := 5) C dX1_staged_18 (by decide) ?_
        exact ih5 (i + 1) _ (by omega) (by omega) (by rw [hx, Nat.pow_succ])
  exact L5 (st + 1) 0 1 (by omega) (by omega) rfl

set_option maxHeartbeats 4000000 in
set_option maxRecDepth 100000 in
theorem m_X1_folded {l : Launch} {D : va_G} {cI cQ : ClassId} {u : va_W} {h n p w rr qs : Nat} (hs : u[qs]? = some (h, .inr (1, [nV n, nV p, nV w, .ref rr]))) (hp : 1 < p) (hp5 : p < 500) (hn : n = 4 ∨ n = 8 ∨ n = 16) {R S : Nat → Nat} (hR : ∀ j, R j < 500) (hS : ∀ j, S j < 500) {qa ra : Nat} (hra : u[qa]? = some (ra, .inl (cI, n, .inl (fN R)))) {qb rb : Nat} (hrb : u[qb]? = some (rb, .inl (cI, n, .inl (fN S)))) : CT l yX1_folded wsX1_folded { frames := 0, cells := 1, slots := 16, locals := 0 } D vwCl [(cI, .int), (cQ, .array .int)] [.ref h, .ref ra, .ref rb] (u) (PR cI n u (mk (fun _ => 0) (fun m => fR p n R S m n) n)) 1 16 := by
  refine ct_of (plainFor_of_name (by decide)) rfl (Nat.le_of_ble_eq_true rfl) (fun φ C rX => ?_)
  have hin : ∀ w ∈ wsX10, w ∈ wsX1_folded := by decide +kernel
  refine xw_le (lv' := [(0, .ref h), (1, .ref ra), (2, .ref rb)]) rfl ?_
  have hn3 := lt3 hn
  have hp0 : 0 < p := by omega
  refine xw_aload_n (pc := 0) C 0 dX1_folded_0 rfl ?_
  refine xw_get (pc := 1) (T := TX1) (N := 4) (ref := "ToneButterfliesLaw$Sim") C hin qs 0 hs rfl (by decide) (by decide +kernel) rfl rfl dX1_folded_1 ?_
  refine xw_newI (pc := 4) C 0 rfl (by decide +kernel) (by show n * 4 ≤ 536870912; omega) (by show 0 + 1 ≤ 1; omega) (by show 0 + n ≤ 16; omega) dX1_folded_4 (fun q_1 => ?_)
  refine xw_wd (k' := 1) (n' := 16) (by omega) (by omega) ?_
  refine xw_astore_n (pc := 6) (lv' := [(0, .ref h), (1, .ref ra), (2, .ref rb), (3, .ref q_1)]) C [1, 2, 3, 0] dX1_folded_6 rfl (by decide) rfl ?_
  refine xw_iconst_N (pc := 7) C 0 dX1_folded_7 rfl ?_
  refine xw_istore (pc := 8) (lv' := [(0, .ref h), (1, .ref ra), (2, .ref rb), (3, .ref q_1), (4, nV 0)]) C [1, 2, 3, 4, 0] dX1_folded_8 (by decide) rfl ?_
  have L10 : ∀ (fuel : Nat) (i : Nat), n < i + fuel → i ≤ n → xw φ 1 16 (u ++ [(q_1, .inl (cI, n, .inl (fN (fkm p n R S i 0))))]) 10 [(0, .ref h), (1, .ref ra), (2, .ref rb), (3, .ref q_1), (4, nV i)] [] := by
    intro fuel
    induction fuel with
    | zero =>
      intro i hi hile
      omega
    | succ fuel ih10 =>
      intro i hi hile
      refine xw_iload (pc := 10) C 4 dX1_folded_10 rfl ?_
      refine xw_aload_n (pc := 12) C 0 dX1_folded_12 rfl ?_
      refine xw_get (pc := 13) (T := TX1) (N := 4) (ref := "ToneButterfliesLaw$Sim") C hin qs 0 (gl_old hs) rfl (by decide) (by decide +kernel) rfl rfl dX1_folded_13 ?_
      refine xw_icmp_ge_N (pc := 16) (tgt := 82) C dX1_folded_16 (by decide) (by omega) (by omega) (fun c_2 => ?_) (fun c_2 => ?_)
      ·
        refine xw_aload_n (pc := 82) C 3 dX1_folded_82 rfl ?_
        exact xw_aret (pc := 83) C rX (Or.inr ⟨_, rfl⟩) (Nat.le_refl _) (Nat.le_refl _) dX1_folded_83 (PR.e (by rw [show i = n by omega, fkm_e]))
      ·
        refine xw_iconst_N (pc := 19) C 0 dX1_folded_19 rfl ?_
        refine xw_istore (pc := 20) (lv' := [(0, .ref h), (1, .ref ra), (2, .ref rb), (3, .ref q_1), (4, nV i), (5, nV 0)]) C [1, 2, 3, 4, 5, 0] dX1_folded_20 (by decide) rfl ?_
        have L22 : ∀ (fuel : Nat) (k : Nat), n < k + fuel → k ≤ n → xw φ 1 16 (u ++ [(q_1, .inl (cI, n, .inl (fN (fkm p n R S i k))))]) 22 [(0, .ref h), (1, .ref ra), (2, .ref rb), (3, .ref q_1), (4, nV i), (5, nV k)] [] := by
          intro fuel
          induction fuel with
          | zero =>
            intro k hk hkn
            omega
          | succ fuel ih22 =>
            intro k hk hkn
            refine xw_iload (pc := 22) C 5 dX1_folded_22 rfl ?_
            refine xw_aload_n (pc := 24) C 0 dX1_folded_24 rfl ?_
            refine xw_get (pc := 25) (T := TX1) (N := 4) (ref := "ToneButterfliesLaw$Sim") C hin qs 0 (gl_old hs) rfl (by decide) (by decide +kernel) rfl rfl dX1_folded_25 ?_
            refine xw_icmp_ge_N (pc := 28) (tgt := 76) C dX1_folded_28 (by decide) (by omega) (by omega) (fun c_3 => ?_) (fun c_3 => ?_)
            ·
              refine xw_iinc_N (pc := 76) (b := i + 1) (lv' := [(0, .ref h), (1, .ref ra), (2, .ref rb), (3, .ref q_1), (4, nV (i + 1)), (5, nV k)]) C 4 [1, 2, 3, 4, 0, 5] dX1_folded_76 rfl (by decide) rfl rfl ?_
              refine xw_goto (pc := 79) (tgt := 10) C dX1_folded_79 (by decide) ?_
              refine xw_lv (lv' := [(0, .ref h), (1, .ref ra), (2, .ref rb), (3, .ref q_1), (4, nV (i + 1))]) [0, 1, 2, 3, 4] rfl ?_
              obtain rfl : k = n := by omega
              refine xw_wo (w' := u ++ [(q_1, .inl (cI, k, .inl (fN (fkm p k R S (i + 1) 0))))]) (by rw [fkm_n (by omega)]) ?_
              exact ih10 (i + 1) (by omega) (by omega)
            ·
              have hat := fkm_at (p := p) (R := R) (S := S) (i := i) (k := k) (n := n) (by omega) (by omega)
              have hal : fkm p n R S i k ((i + k) % n) < p := by rw [hat]; exact fR_lt hp0 i
              have hb1 := hR i
              have hb2 := hS k
              have hmb : fkm p n R S i k ((i + k) % n) + R i * S k < 2147483648 := mb' hb1 hb2 (by omega)
              have hml := Nat.mod_lt (i + k) (show n > 0 by omega)
              refine xw_aload_n (pc := 31) C 3 dX1_folded_31 rfl ?_
              refine xw_iload (pc := 32) C 4 dX1_folded_32 rfl ?_
              refine xw_iload (pc := 34) C 5 dX1_folded_34 rfl ?_
              refine xw_iadd_N (pc := 36) C dX1_folded_36 ?_
              refine xw_aload_n (pc := 37) C 0 dX1_folded_37 rfl ?_
              refine xw_get (pc := 38) (T := TX1) (N := 4) (ref := "ToneButterfliesLaw$Sim") C hin qs 0 (gl_old hs) rfl (by decide) (by decide +kernel) rfl rfl dX1_folded_38 ?_
              refine xw_irem_N (pc := 41) C dX1_folded_41 (by omega) (by omega) ?_
              refine xw_aload_n (pc := 42) C 3 dX1_folded_42 rfl ?_
              refine xw_iload (pc := 43) C 4 dX1_folded_43 rfl ?_
              refine xw_iload (pc := 45) C 5 dX1_folded_45 rfl ?_
              refine xw_iadd_N (pc := 47) C dX1_folded_47 ?_
              refine xw_aload_n (pc := 48) C 0 dX1_folded_48 rfl ?_
              refine xw_get (pc := 49) (T := TX1) (N := 4) (ref := "ToneButterfliesLaw$Sim") C hin qs 0 (gl_old hs) rfl (by decide) (by decide +kernel) rfl rfl dX1_folded_49 ?_
              refine xw_irem_N (pc := 52) C dX1_folded_52 (by omega) (by omega) ?_
              refine xw_iald (pc := 53) C u.length 0 ((i + k) % n) gl_new rfl (rfl) (by omega) (by omega) dX1_folded_53 ?_
              refine xw_aload_n (pc := 54) C 1 dX1_folded_54 rfl ?_
              refine xw_iload (pc := 55) C 4 dX1_folded_55 rfl ?_
              refine xw_iald (pc := 57) C qa 0 i (gl_old hra) rfl (rfl) (by omega) (by omega) dX1_folded_57 ?_
              refine xw_aload_n (pc := 58) C 2 dX1_folded_58 rfl ?_
              refine xw_iload (pc := 59) C 5 dX1_folded_59 rfl ?_
              refine xw_iald (pc := 61) C qb 0 k (gl_old hrb) rfl (rfl) (by omega) (by omega) dX1_folded_61 ?_
              refine xw_imul_N (pc := 62) C dX1_folded_62 ?_
              refine xw_iadd_N (pc := 63) C dX1_folded_63 ?_
              refine xw_aload_n (pc := 64) C 0 dX1_folded_64 rfl ?_
              refine xw_get (pc := 65) (T := TX1) (N := 4) (ref := "ToneButterfliesLaw$Sim") C hin qs 1 (gl_old hs) rfl (by decide) (by decide +kernel) rfl rfl dX1_folded_65 ?_
              refine xw_irem_N (pc := 68) C dX1_folded_68 (hmb) (by omega) ?_
              refine xw_iast (pc := 69) (w' := u ++ [(q_1, .inl (cI, n, .inl (fN (va_up (fkm p n R S i k) ((i + k) % n) ((((fkm p n R S i k) ((i + k) % n)) + ((R i) * (S k))) % p)))))]) C u.length 0 ((i + k) % n) ((((fkm p n R S i k) ((i + k) % n)) + ((R i) * (S k))) % p) gl_new rfl (rfl) rfl (by omega) (by omega) gl_set dX1_folded_69 ?_
              refine xw_iinc_N (pc := 70) (b := k + 1) (lv' := [(0, .ref h), (1, .ref ra), (2, .ref rb), (3, .ref q_1), (4, nV i), (5, nV (k + 1))]) C 5 [1, 2, 3, 4, 5, 0] dX1_folded_70 rfl (by decide) rfl rfl ?_
              refine xw_goto (pc := 73) (tgt := 22) C dX1_folded_73 (by decide) ?_
              refine xw_wo (w' := u ++ [(q_1, .inl (cI, n, .inl (fN (fkm p n R S i (k + 1)))))]) (by rw [hat, fkm_s (by omega) (by omega)]) ?_
              exact ih22 (k + 1) (by omega) (by omega)
        exact L22 (n + 1) 0 (by omega) (by omega)
  refine xw_wo (w' := u ++ [(q_1, .inl (cI, n, .inl (fN (fkm p n R S 0 0))))]) (by rw [fkm_0]) ?_
  exact L10 (n + 1) 0 (by omega) (by omega)

set_option maxHeartbeats 4000000 in
set_option maxRecDepth 100000 in
theorem m_X1_moved {l : Launch} {D : va_G} {cI cQ : ClassId} {u : va_W} {h n p w rr qs : Nat} (hs : u[qs]? = some (h, .inr (1, [nV n, nV p, nV w, .ref rr]))) (hp : 1 < p) (hp5 : p < 500) (hn : n = 4 ∨ n = 8 ∨ n = 16) {R : Nat → Nat} {qa ra : Nat} (hra : u[qa]? = some (ra, .inl (cI, n, .inl (fN R)))) (q : Nat) (hq : q ≤ n) : CT l yX1_moved wsX1_moved { frames := 0, cells := 1, slots := 16, locals := 0 } D vwCl [(cI, .int), (cQ, .array .int)] [.ref h, .ref ra, nV q] (u) (PR cI n u (mk (fun _ => 0) (mvR n q R) n)) 1 16 := by
  refine ct_of (plainFor_of_name (by decide)) rfl (Nat.le_of_ble_eq_true rfl) (fun φ C rX => ?_)
  have hin : ∀ w ∈ wsX10, w ∈ wsX1_moved := by decide +kernel
  refine xw_le (lv' := [(0, .ref h), (1, .ref ra), (2, nV q)]) rfl ?_
  have hn3 := lt3 hn
  refine xw_aload_n (pc := 0) C 0 dX1_moved_0 rfl ?_
  refine xw_get (pc := 1) (T := TX1) (N := 4) (ref := "ToneButterfliesLaw$Sim") C hin qs 0 hs rfl (by decide) (by decide +kernel) rfl rfl dX1_moved_1 ?_
  refine xw_newI (pc := 4) C 0 rfl (by decide +kernel) (by show n * 4 ≤ 536870912; omega) (by show 0 + 1 ≤ 1; omega) (by show 0 + n ≤ 16; omega) dX1_moved_4 (fun q_1 => ?_)
  refine xw_wd (k' := 1) (n' := 16) (by omega) (by omega) ?_
  refine xw_astore_n (pc := 6) (lv' := [(0, .ref h), (1, .ref ra), (2, nV q), (3, .ref q_1)]) C [1, 2, 3, 0] dX1_moved_6 rfl (by decide) rfl ?_
  refine xw_iconst_N (pc := 7) C 0 dX1_moved_7 rfl ?_
  refine xw_istore (pc := 8) (lv' := [(0, .ref h), (1, .ref ra), (2, nV q), (3, .ref q_1), (4, nV 0)]) C [1, 2, 3, 4, 0] dX1_moved_8 (by decide) rfl ?_
  have L10 : ∀ (fuel : Nat) (k : Nat), n < k + fuel → k ≤ n → xw φ 1 16 (u ++ [(q_1, .inl (cI, n, .inl (fN (mo (fun _ => 0) n (fun m => (m + n - q) % n) R k))))]) 10 [(0, .ref h), (1, .ref ra), (2, nV q), (3, .ref q_1), (4, nV k)] [] := by
    intro fuel
    induction fuel with
    | zero =>
      intro k hk hkn
      omega
    | succ fuel ih10 =>
      intro k hk hkn
      refine xw_iload (pc := 10) C 4 dX1_moved_10 rfl ?_
      refine xw_aload_n (pc := 12) C 0 dX1_moved_12 rfl ?_
      refine xw_get (pc := 13) (T := TX1) (N := 4) (ref := "ToneButterfliesLaw$Sim") C hin qs 0 (gl_old hs) rfl (by decide) (by decide +kernel) rfl rfl dX1_moved_13 ?_
      refine xw_icmp_ge_N (pc := 16) (tgt := 40) C dX1_moved_16 (by decide) (by omega) (by omega) (fun c_2 => ?_) (fun c_2 => ?_)
      ·
        refine xw_aload_n (pc := 40) C 3 dX1_moved_40 rfl ?_
        exact xw_aret (pc := 41) C rX (Or.inr ⟨_, rfl⟩) (Nat.le_refl _) (Nat.le_refl _) dX1_moved_41 (PR.e (by rw [show k = n by omega, mo_n (fun m hm => Nat.mod_lt _ (by omega))]; rfl))
      ·
        have hml := Nat.mod_lt (k + q) (show n > 0 by omega)
        have hmq := mv_q (k := k) hq (by omega)
        refine xw_aload_n (pc := 19) C 3 dX1_moved_19 rfl ?_
        refine xw_iload (pc := 20) C 4 dX1_moved_20 rfl ?_
        refine xw_iload_n (pc := 22) C 2 dX1_moved_22 rfl ?_
        refine xw_iadd_N (pc := 23) C dX1_moved_23 ?_
        refine xw_aload_n (pc := 24) C 0 dX1_moved_24 rfl ?_
        refine xw_get (pc := 25) (T := TX1) (N := 4) (ref := "ToneButterfliesLaw$Sim") C hin qs 0 (gl_old hs) rfl (by decide) (by decide +kernel) rfl rfl dX1_moved_25 ?_
        refine xw_irem_N (pc := 28) C dX1_moved_28 (by omega) (by omega) ?_
        refine xw_aload_n (pc := 29) C 1 dX1_moved_29 rfl ?_
        refine xw_iload (pc := 30) C 4 dX1_moved_30 rfl ?_
        refine xw_iald (pc := 32) C qa 0 k (gl_old hra) rfl (rfl) (by omega) (by omega) dX1_moved_32 ?_
        refine xw_iast (pc := 33) (w' := u ++ [(q_1, .inl (cI, n, .inl (fN (va_up (mo (fun _ => 0) n (fun m => (m + n - q) % n) R k) ((k + q) % n) (R k)))))]) C u.length 0 ((k + q) % n) (R k) gl_new rfl (rfl) rfl (by omega) (by omega) gl_set dX1_moved_33 ?_
        refine xw_iinc_N (pc := 34) (b := k + 1) (lv' := [(0, .ref h), (1, .ref ra), (2, nV q), (3, .ref q_1), (4, nV (k + 1))]) C 4 [1, 2, 3, 4, 0] dX1_moved_34 rfl (by decide) rfl rfl ?_
        refine xw_goto (pc := 37) (tgt := 10) C dX1_moved_37 (by decide) ?_
        refine xw_wo (w' := u ++ [(q_1, .inl (cI, n, .inl (fN (mo (fun _ => 0) n (fun m => (m + n - q) % n) R (k + 1)))))]) (by rw [mo_s rfl hml hmq.1 (fun m hm z => by rw [← z]; exact ((mv_q hq hm).2).symm)]) ?_
        exact ih10 (k + 1) (by omega) (by omega)
  refine xw_wo (w' := u ++ [(q_1, .inl (cI, n, .inl (fN (mo (fun _ => 0) n (fun m => (m + n - q) % n) R 0))))]) (by rw [mo_0]) ?_
  exact L10 (n + 1) 0 (by omega) (by omega)
