set_option maxHeartbeats 4000000 in
set_option maxRecDepth 100000 in
theorem m_X0_init {l : Launch} {D : va_G} {cI : ClassId} {h : Nat} : CT l yX0_init wsX0_init { frames := 5, cells := 1, slots := 80, locals := 112 } D vwCl [(cI, .int)] [.ref h] (w0X h) (fun v w1 => ∃ a : Nat, v = none ∧ w1 = wX cI h a 8 17 (bt 8) (rt 8 17) (rt 8 17 ^ (17 - 2) % 17) (8 ^ (17 - 2) % 17) (zf (fun _ => 0) 80)) 1 80 := by
  refine ct_ofI (plainFor_of_name (by decide)) rfl (Nat.le_of_ble_eq_true rfl) (fun φ C rX I => ?_)
  have hin : ∀ w ∈ wsX00, w ∈ wsX0_init := by decide +kernel
  refine xw_le (lv' := [(0, .ref h)]) rfl ?_
  refine xw_aload_n (pc := 0) C 0 dX0_init_0 rfl ?_
  refine xw_objInit (pc := 1) C (by decide +kernel) (by decide +kernel) (by decide +kernel) (Nat.le_of_ble_eq_true rfl) (Nat.le_of_ble_eq_true rfl) dX0_init_1 ?_
  refine xw_aload_n (pc := 4) C 0 dX0_init_4 rfl ?_
  refine xw_bipush_N (pc := 5) C 80 dX0_init_5 (by decide) ?_
  refine xw_newI (pc := 7) C 0 rfl (by decide +kernel) (by decide) (Nat.le_of_ble_eq_true rfl) (Nat.le_of_ble_eq_true rfl) dX0_init_7 (fun a => ?_)
  refine xw_putF (pc := 9) (T := TX0) (N := 7) (w' := wX cI h a 0 0 0 0 0 0 (fun _ => 0)) C (I rfl) hin tyX0 tyX0_ok nmX0 0 0 rfl rfl (by decide) (by decide +kernel) rfl rfl rfl rfl (Nat.le_of_ble_eq_true rfl) rfl dX0_init_9 ?_
  refine xw_aload_n (pc := 12) C 0 dX0_init_12 rfl ?_
  refine xw_bipush_N (pc := 13) C 8 dX0_init_13 (by decide) ?_
  refine xw_bipush_N (pc := 15) C 17 dX0_init_15 (by decide) ?_
  refine xw_Vd (pc := 17) (q0 := 0) (na := 2) (rest := []) (st' := []) C (m_X0_takeRing 8 17 (Or.inr (Or.inl rfl)) (by decide) (by decide)) gX0_init_X0_takeRing rfl rfl rfl rfl (by decide +kernel) ⟨Nat.le_of_ble_eq_true rfl, Nat.le_of_ble_eq_true rfl⟩ rfl rfl rfl (Nat.le_of_ble_eq_true rfl) dX0_init_17 ⟨Nat.le_of_ble_eq_true rfl, Nat.le_of_ble_eq_true rfl⟩ rfl ?_
  exact xw_vret (pc := 20) C rX (Nat.le_refl _) (Nat.le_refl _) dX0_init_20 (⟨a, rfl, rfl⟩)

set_option maxHeartbeats 4000000 in
set_option maxRecDepth 100000 in
theorem m_X1_init {l : Launch} {D : va_G} {cI : ClassId} {h : Nat} : CT l yX1_init wsX1_init { frames := 1, cells := 2, slots := 80, locals := 14 } D vwCl [(cI, .int)] [.ref h] (w0M h) (fun v w1 => ∃ r d : Nat, v = none ∧ w1 = wM cI h r d 0 8 17 2 3 (fun _ => 0) (fun _ => 0)) 2 80 := by
  refine ct_ofI (plainFor_of_name (by decide)) rfl (Nat.le_of_ble_eq_true rfl) (fun φ C rX I => ?_)
  have hin : ∀ w ∈ wsX10, w ∈ wsX1_init := by decide +kernel
  refine xw_le (lv' := [(0, .ref h)]) rfl ?_
  refine xw_aload_n (pc := 0) C 0 dX1_init_0 rfl ?_
  refine xw_objInit (pc := 1) C (by decide +kernel) (by decide +kernel) (by decide +kernel) (Nat.le_of_ble_eq_true rfl) (Nat.le_of_ble_eq_true rfl) dX1_init_1 ?_
  refine xw_aload_n (pc := 4) C 0 dX1_init_4 rfl ?_
  refine xw_bipush_N (pc := 5) C 8 dX1_init_5 (by decide) ?_
  refine xw_put (pc := 7) (T := TX1) (N := 7) (ref := "ToneButterfliesModel") (w' := [(h, .inr (1, [nV 0, nV 8, nV 0, nV 0, nV 0, .null, .null]))]) C hin tyX1 tyX1_ok nmX1 0 1 rfl rfl (by decide) (by decide +kernel) rfl rfl rfl rfl (Nat.le_of_ble_eq_true rfl) rfl dX1_init_7 ?_
  refine xw_aload_n (pc := 10) C 0 dX1_init_10 rfl ?_
  refine xw_bipush_N (pc := 11) C 17 dX1_init_11 (by decide) ?_
  refine xw_put (pc := 13) (T := TX1) (N := 7) (ref := "ToneButterfliesModel") (w' := [(h, .inr (1, [nV 0, nV 8, nV 17, nV 0, nV 0, .null, .null]))]) C hin tyX1 tyX1_ok nmX1 0 2 rfl rfl (by decide) (by decide +kernel) rfl rfl rfl rfl (Nat.le_of_ble_eq_true rfl) rfl dX1_init_13 ?_
  refine xw_aload_n (pc := 16) C 0 dX1_init_16 rfl ?_
  refine xw_iconst_N (pc := 17) C 2 dX1_init_17 rfl ?_
  refine xw_put (pc := 18) (T := TX1) (N := 7) (ref := "ToneButterfliesModel") (w' := [(h, .inr (1, [nV 0, nV 8, nV 17, nV 2, nV 0, .null, .null]))]) C hin tyX1 tyX1_ok nmX1 0 3 rfl rfl (by decide) (by decide +kernel) rfl rfl rfl rfl (Nat.le_of_ble_eq_true rfl) rfl dX1_init_18 ?_
  refine xw_aload_n (pc := 21) C 0 dX1_init_21 rfl ?_
  refine xw_iconst_N (pc := 22) C 3 dX1_init_22 rfl ?_
  refine xw_put (pc := 23) (T := TX1) (N := 7) (ref := "ToneButterfliesModel") (w' := [(h, .inr (1, [nV 0, nV 8, nV 17, nV 2, nV 3, .null, .null]))]) C hin tyX1 tyX1_ok nmX1 0 4 rfl rfl (by decide) (by decide +kernel) rfl rfl rfl rfl (Nat.le_of_ble_eq_true rfl) rfl dX1_init_23 ?_
  refine xw_aload_n (pc := 26) C 0 dX1_init_26 rfl ?_
  refine xw_bipush_N (pc := 27) C 64 dX1_init_27 (by decide) ?_
  refine xw_newI (pc := 29) C 0 rfl (by decide +kernel) (by decide) (Nat.le_of_ble_eq_true rfl) (Nat.le_of_ble_eq_true rfl) dX1_init_29 (fun r => ?_)
  refine xw_putF (pc := 31) (T := TX1) (N := 7) (w' := [(h, .inr (1, [nV 0, nV 8, nV 17, nV 2, nV 3, .ref r, .null]))] ++ [(r, .inl (cI, 64, .inl (fN (fun _ => 0))))]) C (I rfl) hin tyX1 tyX1_ok nmX1 0 5 rfl rfl (by decide) (by decide +kernel) rfl rfl rfl rfl (Nat.le_of_ble_eq_true rfl) rfl dX1_init_31 ?_
  refine xw_aload_n (pc := 34) C 0 dX1_init_34 rfl ?_
  refine xw_bipush_N (pc := 35) C 16 dX1_init_35 (by decide) ?_
  refine xw_newI (pc := 37) C 0 rfl (by decide +kernel) (by decide) (Nat.le_of_ble_eq_true rfl) (Nat.le_of_ble_eq_true rfl) dX1_init_37 (fun d => ?_)
  refine xw_putF (pc := 39) (T := TX1) (N := 7) (w' := wM cI h r d 0 8 17 2 3 (fun _ => 0) (fun _ => 0)) C (I rfl) hin tyX1 tyX1_ok nmX1 0 6 rfl rfl (by decide) (by decide +kernel) rfl rfl rfl rfl (Nat.le_of_ble_eq_true rfl) rfl dX1_init_39 ?_
  exact xw_vret (pc := 42) C rX (Nat.le_of_ble_eq_true rfl) (Nat.le_of_ble_eq_true rfl) dX1_init_42 ⟨r, d, rfl, rfl⟩

set_option maxHeartbeats 4000000 in
set_option maxRecDepth 100000 in
theorem m_L_order_ok {l : Launch} {D : va_G} {cI cJ cD : ClassId} {h a n p b w wi ni : Nat} {A : Nat → Nat} {o : Nat} {f : Nat → Int64} {g : Nat → UInt64} (z1 : Int) {W9 : va_W} (x : Int) (hM : CT l yX0_order wsX0_order (rmN 2 43) D vwCl [(cI, .int)] [.ref h, iV z1] (wX cI h a n p b w wi ni A) (PD (some (iV x)) W9) 0 0) : CZ l yL_order wsL_order (rmX 8 126) D vwCl [(cI, .int), (cJ, .long)] [.ref h, iV z1, .ref o] (wX cI h a n p b w wi ni A ++ wO cJ o f) (PD (some (nV 0)) (wO cJ o (vp_updL f 0 (iI x).toInt64) ++ W9)) 1 6 := by
  refine ct_ofH (by decide) rfl (Nat.le_of_ble_eq_true rfl) (fun φ C rX Zc Hh => ?_)
  refine xw_le (lv' := [(0, .ref h), (1, iV z1), (2, .ref o)]) rfl ?_
  refine xw_aload_n (pc := 0) C 2 dL_order_0 rfl ?_
  refine xw_iconst_N (pc := 1) C 0 dL_order_1 rfl ?_
  refine xw_aload_n (pc := 2) C 0 dL_order_2 rfl ?_
  refine xw_iload_n (pc := 3) C 1 dL_order_3 rfl ?_
  refine xw_VF (pc := 4) (q0 := 0) (na := 1) (rest := [nV 0, .ref o]) (wc := wX cI h a n p b w wi ni A) (wr := wO cJ o f) C [0, 1] [2] [0] hM gL_order_X0_order rfl rfl rfl rfl (by decide +kernel) ⟨(Nat.le_of_ble_eq_true rfl), (Nat.le_of_ble_eq_true rfl)⟩ rfl rfl rfl ⟨rfl, rfl⟩ (by decide) rfl rfl rfl rfl (Nat.le_of_ble_eq_true rfl) dL_order_4 ⟨(Nat.le_of_ble_eq_true rfl), (Nat.le_of_ble_eq_true rfl)⟩ (fun v1 w1 hp1 => ?_)
  obtain ⟨rfl, hw9⟩ := hp1
  refine xw_st (st' := [iV x, nV 0, .ref o]) rfl ?_
  refine xw_wo (w' := wO cJ o f ++ W9) (by rw [hw9]) ?_
  refine xw_i2l (pc := 7) C dL_order_7 ?_
  refine xw_last (pc := 8) (w' := wO cJ o (vp_updL f 0 (iI x).toInt64) ++ W9) C 0 1 rfl rfl rfl dL_order_8 ?_
  refine xw_goto (pc := 9) (tgt := 15) C dL_order_9 (by decide) ?_
  refine xw_iconst_N (pc := 15) C 0 dL_order_15 rfl ?_
  exact xw_iret (pc := 16) C rX (Nat.le_of_ble_eq_true rfl) (Nat.le_of_ble_eq_true rfl) dL_order_16 PD.i

set_option maxHeartbeats 4000000 in
set_option maxRecDepth 100000 in
theorem m_L_order_nIAE {l : Launch} {D : va_G} {cI cJ cD : ClassId} {h a n p b w wi ni : Nat} {A : Nat → Nat} {o : Nat} {f : Nat → Int64} {g : Nat → UInt64} (z1 : Int) (hM : CX l yX0_order wsX0_order (rmX 7 103) D vwCl [(cI, .int)] [.ref h, iV z1] (wX cI h a n p b w wi ni A) nIAE 1 6) : CZ l yL_order wsL_order (rmX 8 126) D vwCl [(cI, .int), (cJ, .long)] [.ref h, iV z1, .ref o] (wX cI h a n p b w wi ni A ++ wO cJ o f) (PD (some (nV 1)) (wO cJ o f ++ wX cI h a n p b w wi ni A)) 1 6 := by
  refine ct_ofH (by decide) rfl (Nat.le_of_ble_eq_true rfl) (fun φ C rX Zc Hh => ?_)
  refine xw_le (lv' := [(0, .ref h), (1, iV z1), (2, .ref o)]) rfl ?_
  refine xw_aload_n (pc := 0) C 2 dL_order_0 rfl ?_
  refine xw_iconst_N (pc := 1) C 0 dL_order_1 rfl ?_
  refine xw_aload_n (pc := 2) C 0 dL_order_2 rfl ?_
  refine xw_iload_n (pc := 3) C 1 dL_order_3 rfl ?_
  refine xw_VX (pc := 4) (q0 := 0) (na := 1) (rest := [nV 0, .ref o]) (wc := wX cI h a n p b w wi ni A) (wr := wO cJ o f) C Zc Hh [0, 1] [2] [0] hM gL_order_X0_order rfl rfl rfl rfl (by decide +kernel) ⟨(Nat.le_of_ble_eq_true rfl), (Nat.le_of_ble_eq_true rfl)⟩ rfl rfl rfl ⟨rfl, rfl⟩ (by decide) rfl rfl rfl rfl (Nat.le_of_ble_eq_true rfl) dL_order_4 ⟨(Nat.le_of_ble_eq_true rfl), (Nat.le_of_ble_eq_true rfl)⟩ [] ⟨0, 9, 12, 13⟩ [] rfl (fun z hz => nomatch hz) (by decide) (by decide) (name := nIAE) (by decide +kernel) (xzc_k Zc (by decide +kernel)) (hpc := 12) rfl (fun q => ?_)
  refine xw_astore_n (pc := 12) (lv' := [(0, .ref h), (1, iV z1), (2, .ref o), (3, .ref q)]) C [1, 2, 3, 0] dL_order_12 rfl (by decide) rfl ?_
  refine xw_iconst_N (pc := 13) C 1 dL_order_13 rfl ?_
  exact xw_iret (pc := 14) C rX (Nat.le_of_ble_eq_true rfl) (Nat.le_of_ble_eq_true rfl) dL_order_14 PD.i

set_option maxHeartbeats 4000000 in
set_option maxRecDepth 100000 in
theorem m_L_inverse_ok {l : Launch} {D : va_G} {cI cJ cD : ClassId} {h a n p b w wi ni : Nat} {A : Nat → Nat} {o : Nat} {f : Nat → Int64} {g : Nat → UInt64} (z1 : Int) {W9 : va_W} (x : Int) (hM : CT l yX0_inverse wsX0_inverse (rmN 4 89) D vwCl [(cI, .int)] [.ref h, iV z1] (wX cI h a n p b w wi ni A) (PD (some (iV x)) W9) 0 0) : CZ l yL_inverse wsL_inverse (rmX 8 124) D vwCl [(cI, .int), (cJ, .long)] [.ref h, iV z1, .ref o] (wX cI h a n p b w wi ni A ++ wO cJ o f) (PD (some (nV 0)) (wO cJ o (vp_updL f 0 (iI x).toInt64) ++ W9)) 1 6 := by
  refine ct_ofH (by decide) rfl (Nat.le_of_ble_eq_true rfl) (fun φ C rX Zc Hh => ?_)
  refine xw_le (lv' := [(0, .ref h), (1, iV z1), (2, .ref o)]) rfl ?_
  refine xw_aload_n (pc := 0) C 2 dL_inverse_0 rfl ?_
  refine xw_iconst_N (pc := 1) C 0 dL_inverse_1 rfl ?_
  refine xw_aload_n (pc := 2) C 0 dL_inverse_2 rfl ?_
  refine xw_iload_n (pc := 3) C 1 dL_inverse_3 rfl ?_
  refine xw_VF (pc := 4) (q0 := 0) (na := 1) (rest := [nV 0, .ref o]) (wc := wX cI h a n p b w wi ni A) (wr := wO cJ o f) C [0, 1] [2] [0] hM gL_inverse_X0_inverse rfl rfl rfl rfl (by decide +kernel) ⟨(Nat.le_of_ble_eq_true rfl), (Nat.le_of_ble_eq_true rfl)⟩ rfl rfl rfl ⟨rfl, rfl⟩ (by decide) rfl rfl rfl rfl (Nat.le_of_ble_eq_true rfl) dL_inverse_4 ⟨(Nat.le_of_ble_eq_true rfl), (Nat.le_of_ble_eq_true rfl)⟩ (fun v1 w1 hp1 => ?_)
  obtain ⟨rfl, hw9⟩ := hp1
  refine xw_st (st' := [iV x, nV 0, .ref o]) rfl ?_
  refine xw_wo (w' := wO cJ o f ++ W9) (by rw [hw9]) ?_
  refine xw_i2l (pc := 7) C dL_inverse_7 ?_
  refine xw_last (pc := 8) (w' := wO cJ o (vp_updL f 0 (iI x).toInt64) ++ W9) C 0 1 rfl rfl rfl dL_inverse_8 ?_
  refine xw_goto (pc := 9) (tgt := 15) C dL_inverse_9 (by decide) ?_
  refine xw_iconst_N (pc := 15) C 0 dL_inverse_15 rfl ?_
  exact xw_iret (pc := 16) C rX (Nat.le_of_ble_eq_true rfl) (Nat.le_of_ble_eq_true rfl) dL_inverse_16 PD.i

set_option maxHeartbeats 4000000 in
set_option maxRecDepth 100000 in
theorem m_L_inverse_nIAE {l : Launch} {D : va_G} {cI cJ cD : ClassId} {h a n p b w wi ni : Nat} {A : Nat → Nat} {o : Nat} {f : Nat → Int64} {g : Nat → UInt64} (z1 : Int) (hM : CX l yX0_inverse wsX0_inverse (rmX 7 103) D vwCl [(cI, .int)] [.ref h, iV z1] (wX cI h a n p b w wi ni A) nIAE 1 6) : CZ l yL_inverse wsL_inverse (rmX 8 124) D vwCl [(cI, .int), (cJ, .long)] [.ref h, iV z1, .ref o] (wX cI h a n p b w wi ni A ++ wO cJ o f) (PD (some (nV 1)) (wO cJ o f ++ wX cI h a n p b w wi ni A)) 1 6 := by
  refine ct_ofH (by decide) rfl (Nat.le_of_ble_eq_true rfl) (fun φ C rX Zc Hh => ?_)
  refine xw_le (lv' := [(0, .ref h), (1, iV z1), (2, .ref o)]) rfl ?_
  refine xw_aload_n (pc := 0) C 2 dL_inverse_0 rfl ?_
  refine xw_iconst_N (pc := 1) C 0 dL_inverse_1 rfl ?_
  refine xw_aload_n (pc := 2) C 0 dL_inverse_2 rfl ?_
  refine xw_iload_n (pc := 3) C 1 dL_inverse_3 rfl ?_
  refine xw_VX (pc := 4) (q0 := 0) (na := 1) (rest := [nV 0, .ref o]) (wc := wX cI h a n p b w wi ni A) (wr := wO cJ o f) C Zc Hh [0, 1] [2] [0] hM gL_inverse_X0_inverse rfl rfl rfl rfl (by decide +kernel) ⟨(Nat.le_of_ble_eq_true rfl), (Nat.le_of_ble_eq_true rfl)⟩ rfl rfl rfl ⟨rfl, rfl⟩ (by decide) rfl rfl rfl rfl (Nat.le_of_ble_eq_true rfl) dL_inverse_4 ⟨(Nat.le_of_ble_eq_true rfl), (Nat.le_of_ble_eq_true rfl)⟩ [] ⟨0, 9, 12, 13⟩ [] rfl (fun z hz => nomatch hz) (by decide) (by decide) (name := nIAE) (by decide +kernel) (xzc_k Zc (by decide +kernel)) (hpc := 12) rfl (fun q => ?_)
  refine xw_astore_n (pc := 12) (lv' := [(0, .ref h), (1, iV z1), (2, .ref o), (3, .ref q)]) C [1, 2, 3, 0] dL_inverse_12 rfl (by decide) rfl ?_
  refine xw_iconst_N (pc := 13) C 1 dL_inverse_13 rfl ?_
  exact xw_iret (pc := 14) C rX (Nat.le_of_ble_eq_true rfl) (Nat.le_of_ble_eq_true rfl) dL_inverse_14 PD.i

set_option maxHeartbeats 4000000 in
set_option maxRecDepth 100000 in
theorem m_L_set_ok {l : Launch} {D : va_G} {cI cJ cD : ClassId} {h a n p b w wi ni : Nat} {A : Nat → Nat} {o : Nat} {f : Nat → Int64} {g : Nat → UInt64} (z1 : Int) (z2 : Int) (z3 : Int) {W9 : va_W} (x : Int) (hM : CT l yX0_set wsX0_set (rmN 1 24) D vwCl [(cI, .int)] [.ref h, iV z1, iV z2, iV z3] (wX cI h a n p b w wi ni A) (PD (some (iV x)) W9) 0 0) : CZ l yL_set wsL_set (rmX 8 127) D vwCl [(cI, .int), (cJ, .long)] [.ref h, iV z1, iV z2, iV z3, .ref o] (wX cI h a n p b w wi ni A ++ wO cJ o f) (PD (some (nV 0)) (wO cJ o (vp_updL f 0 (iI x).toInt64) ++ W9)) 1 6 := by
  refine ct_ofH (by decide) rfl (Nat.le_of_ble_eq_true rfl) (fun φ C rX Zc Hh => ?_)
  refine xw_le (lv' := [(0, .ref h), (1, iV z1), (2, iV z2), (3, iV z3), (4, .ref o)]) rfl ?_
  refine xw_aload (pc := 0) C 4 dL_set_0 rfl ?_
  refine xw_iconst_N (pc := 2) C 0 dL_set_2 rfl ?_
  refine xw_aload_n (pc := 3) C 0 dL_set_3 rfl ?_
  refine xw_iload_n (pc := 4) C 1 dL_set_4 rfl ?_
  refine xw_iload_n (pc := 5) C 2 dL_set_5 rfl ?_
  refine xw_iload_n (pc := 6) C 3 dL_set_6 rfl ?_
  refine xw_VF (pc := 7) (q0 := 0) (na := 3) (rest := [nV 0, .ref o]) (wc := wX cI h a n p b w wi ni A) (wr := wO cJ o f) C [0, 1] [2] [0] hM gL_set_X0_set rfl rfl rfl rfl (by decide +kernel) ⟨(Nat.le_of_ble_eq_true rfl), (Nat.le_of_ble_eq_true rfl)⟩ rfl rfl rfl ⟨rfl, rfl⟩ (by decide) rfl rfl rfl rfl (Nat.le_of_ble_eq_true rfl) dL_set_7 ⟨(Nat.le_of_ble_eq_true rfl), (Nat.le_of_ble_eq_true rfl)⟩ (fun v1 w1 hp1 => ?_)
  obtain ⟨rfl, hw9⟩ := hp1
  refine xw_st (st' := [iV x, nV 0, .ref o]) rfl ?_
  refine xw_wo (w' := wO cJ o f ++ W9) (by rw [hw9]) ?_
  refine xw_i2l (pc := 10) C dL_set_10 ?_
  refine xw_last (pc := 11) (w' := wO cJ o (vp_updL f 0 (iI x).toInt64) ++ W9) C 0 1 rfl rfl rfl dL_set_11 ?_
  refine xw_goto (pc := 12) (tgt := 23) C dL_set_12 (by decide) ?_
  refine xw_iconst_N (pc := 23) C 0 dL_set_23 rfl ?_
  exact xw_iret (pc := 24) C rX (Nat.le_of_ble_eq_true rfl) (Nat.le_of_ble_eq_true rfl) dL_set_24 PD.i

set_option maxHeartbeats 4000000 in
set_option maxRecDepth 100000 in
theorem m_L_set_nIOB {l : Launch} {D : va_G} {cI cJ cD : ClassId} {h a n p b w wi ni : Nat} {A : Nat → Nat} {o : Nat} {f : Nat → Int64} {g : Nat → UInt64} (z1 : Int) (z2 : Int) (z3 : Int) (hM : CX l yX0_set wsX0_set (rmX 7 103) D vwCl [(cI, .int)] [.ref h, iV z1, iV z2, iV z3] (wX cI h a n p b w wi ni A) nIOB 1 6) : CZ l yL_set wsL_set (rmX 8 127) D vwCl [(cI, .int), (cJ, .long)] [.ref h, iV z1, iV z2, iV z3, .ref o] (wX cI h a n p b w wi ni A ++ wO cJ o f) (PD (some (nV 1)) (wO cJ o f ++ wX cI h a n p b w wi ni A)) 1 6 := by
  refine ct_ofH (by decide) rfl (Nat.le_of_ble_eq_true rfl) (fun φ C rX Zc Hh => ?_)
  refine xw_le (lv' := [(0, .ref h), (1, iV z1), (2, iV z2), (3, iV z3), (4, .ref o)]) rfl ?_
  refine xw_aload (pc := 0) C 4 dL_set_0 rfl ?_
  refine xw_iconst_N (pc := 2) C 0 dL_set_2 rfl ?_
  refine xw_aload_n (pc := 3) C 0 dL_set_3 rfl ?_
  refine xw_iload_n (pc := 4) C 1 dL_set_4 rfl ?_
  refine xw_iload_n (pc := 5) C 2 dL_set_5 rfl ?_
  refine xw_iload_n (pc := 6) C 3 dL_set_6 rfl ?_
  refine xw_VX (pc := 7) (q0 := 0) (na := 3) (rest := [nV 0, .ref o]) (wc := wX cI h a n p b w wi ni A) (wr := wO cJ o f) C Zc Hh [0, 1] [2] [0] hM gL_set_X0_set rfl rfl rfl rfl (by decide +kernel) ⟨(Nat.le_of_ble_eq_true rfl), (Nat.le_of_ble_eq_true rfl)⟩ rfl rfl rfl ⟨rfl, rfl⟩ (by decide) rfl rfl rfl rfl (Nat.le_of_ble_eq_true rfl) dL_set_7 ⟨(Nat.le_of_ble_eq_true rfl), (Nat.le_of_ble_eq_true rfl)⟩ [] ⟨0, 12, 15, 29⟩ [⟨0, 12, 19, 13⟩] rfl (fun z hz => nomatch hz) (by decide) (by decide) (name := nIOB) (by decide +kernel) (xzc_k Zc (by decide +kernel)) (hpc := 15) rfl (fun q => ?_)
  refine xw_astore (pc := 15) (lv' := [(0, .ref h), (1, iV z1), (2, iV z2), (3, iV z3), (4, .ref o), (5, .ref q)]) C [1, 2, 3, 4, 5, 0] dL_set_15 (by decide) rfl ?_
  refine xw_iconst_N (pc := 17) C 1 dL_set_17 rfl ?_
  exact xw_iret (pc := 18) C rX (Nat.le_of_ble_eq_true rfl) (Nat.le_of_ble_eq_true rfl) dL_set_18 PD.i

set_option maxHeartbeats 4000000 in
set_option maxRecDepth 100000 in
theorem m_L_set_nIAE {l : Launch} {D : va_G} {cI cJ cD : ClassId} {h a n p b w wi ni : Nat} {A : Nat → Nat} {o : Nat} {f : Nat → Int64} {g : Nat → UInt64} (z1 : Int) (z2 : Int) (z3 : Int) (hM : CX l yX0_set wsX0_set (rmX 7 103) D vwCl [(cI, .int)] [.ref h, iV z1, iV z2, iV z3] (wX cI h a n p b w wi ni A) nIAE 1 6) : CZ l yL_set wsL_set (rmX 8 127) D vwCl [(cI, .int), (cJ, .long)] [.ref h, iV z1, iV z2, iV z3, .ref o] (wX cI h a n p b w wi ni A ++ wO cJ o f) (PD (some (nV 2)) (wO cJ o f ++ wX cI h a n p b w wi ni A)) 1 6 := by
  refine ct_ofH (by decide) rfl (Nat.le_of_ble_eq_true rfl) (fun φ C rX Zc Hh => ?_)
  refine xw_le (lv' := [(0, .ref h), (1, iV z1), (2, iV z2), (3, iV z3), (4, .ref o)]) rfl ?_
  refine xw_aload (pc := 0) C 4 dL_set_0 rfl ?_
  refine xw_iconst_N (pc := 2) C 0 dL_set_2 rfl ?_
  refine xw_aload_n (pc := 3) C 0 dL_set_3 rfl ?_
  refine xw_iload_n (pc := 4) C 1 dL_set_4 rfl ?_
  refine xw_iload_n (pc := 5) C 2 dL_set_5 rfl ?_
  refine xw_iload_n (pc := 6) C 3 dL_set_6 rfl ?_
  refine xw_VX (pc := 7) (q0 := 0) (na := 3) (rest := [nV 0, .ref o]) (wc := wX cI h a n p b w wi ni A) (wr := wO cJ o f) C Zc Hh [0, 1] [2] [0] hM gL_set_X0_set rfl rfl rfl rfl (by decide +kernel) ⟨(Nat.le_of_ble_eq_true rfl), (Nat.le_of_ble_eq_true rfl)⟩ rfl rfl rfl ⟨rfl, rfl⟩ (by decide) rfl rfl rfl rfl (Nat.le_of_ble_eq_true rfl) dL_set_7 ⟨(Nat.le_of_ble_eq_true rfl), (Nat.le_of_ble_eq_true rfl)⟩ [⟨0, 12, 15, 29⟩] ⟨0, 12, 19, 13⟩ [] rfl (fun z hz => by rcases List.mem_cons.mp hz with rfl | h9; exact ⟨by decide, nIOB, by decide +kernel, xzc_n Zc⟩; exact nomatch h9) (by decide) (by decide) (name := nIAE) (by decide +kernel) (xzc_k Zc (by decide +kernel)) (hpc := 19) rfl (fun q => ?_)
  refine xw_astore (pc := 19) (lv' := [(0, .ref h), (1, iV z1), (2, iV z2), (3, iV z3), (4, .ref o), (5, .ref q)]) C [1, 2, 3, 4, 5, 0] dL_set_19 (by decide) rfl ?_
  refine xw_iconst_N (pc := 21) C 2 dL_set_21 rfl ?_
  exact xw_iret (pc := 22) C rX (Nat.le_of_ble_eq_true rfl) (Nat.le_of_ble_eq_true rfl) dL_set_22 PD.i

set_option maxHeartbeats 4000000 in
set_option maxRecDepth 100000 in
theorem m_L_copy_ok {l : Launch} {D : va_G} {cI cJ cD : ClassId} {h a n p b w wi ni : Nat} {A : Nat → Nat} {o : Nat} {f : Nat → Int64} {g : Nat → UInt64} (z1 : Int) (z2 : Int) {W9 : va_W} (x : Int) (hM : CT l yX0_copy wsX0_copy (rmN 2 49) D vwCl [(cI, .int)] [.ref h, iV z1, iV z2] (wX cI h a n p b w wi ni A) (PD (some (iV x)) W9) 0 0) : CZ l yL_copy wsL_copy (rmX 8 125) D vwCl [(cI, .int), (cJ, .long)] [.ref h, iV z1, iV z2, .ref o] (wX cI h a n p b w wi ni A ++ wO cJ o f) (PD (some (nV 0)) (wO cJ o (vp_updL f 0 (iI x).toInt64) ++ W9)) 1 6 := by
  refine ct_ofH (by decide) rfl (Nat.le_of_ble_eq_true rfl) (fun φ C rX Zc Hh => ?_)
  refine xw_le (lv' := [(0, .ref h), (1, iV z1), (2, iV z2), (3, .ref o)]) rfl ?_
  refine xw_aload_n (pc := 0) C 3 dL_copy_0 rfl ?_
  refine xw_iconst_N (pc := 1) C 0 dL_copy_1 rfl ?_
  refine xw_aload_n (pc := 2) C 0 dL_copy_2 rfl ?_
  refine xw_iload_n (pc := 3) C 1 dL_copy_3 rfl ?_
  refine xw_iload_n (pc := 4) C 2 dL_copy_4 rfl ?_
  refine xw_VF (pc := 5) (q0 := 0) (na := 2) (rest := [nV 0, .ref o]) (wc := wX cI h a n p b w wi ni A) (wr := wO cJ o f) C [0, 1] [2] [0] hM gL_copy_X0_copy rfl rfl rfl rfl (by decide +kernel) ⟨(Nat.le_of_ble_eq_true rfl), (Nat.le_of_ble_eq_true rfl)⟩ rfl rfl rfl ⟨rfl, rfl⟩ (by decide) rfl rfl rfl rfl (Nat.le_of_ble_eq_true rfl) dL_copy_5 ⟨(Nat.le_of_ble_eq_true rfl), (Nat.le_of_ble_eq_true rfl)⟩ (fun v1 w1 hp1 => ?_)
  obtain ⟨rfl, hw9⟩ := hp1
  refine xw_st (st' := [iV x, nV 0, .ref o]) rfl ?_
  refine xw_wo (w' := wO cJ o f ++ W9) (by rw [hw9]) ?_
  refine xw_i2l (pc := 8) C dL_copy_8 ?_
  refine xw_last (pc := 9) (w' := wO cJ o (vp_updL f 0 (iI x).toInt64) ++ W9) C 0 1 rfl rfl rfl dL_copy_9 ?_
  refine xw_goto (pc := 10) (tgt := 17) C dL_copy_10 (by decide) ?_
  refine xw_iconst_N (pc := 17) C 0 dL_copy_17 rfl ?_
  exact xw_iret (pc := 18) C rX (Nat.le_of_ble_eq_true rfl) (Nat.le_of_ble_eq_true rfl) dL_copy_18 PD.i

set_option maxHeartbeats 4000000 in
set_option maxRecDepth 100000 in
theorem m_L_copy_nIOB {l : Launch} {D : va_G} {cI cJ cD : ClassId} {h a n p b w wi ni : Nat} {A : Nat → Nat} {o : Nat} {f : Nat → Int64} {g : Nat → UInt64} (z1 : Int) (z2 : Int) (hM : CX l yX0_copy wsX0_copy (rmX 7 103) D vwCl [(cI, .int)] [.ref h, iV z1, iV z2] (wX cI h a n p b w wi ni A) nIOB 1 6) : CZ l yL_copy wsL_copy (rmX 8 125) D vwCl [(cI, .int), (cJ, .long)] [.ref h, iV z1, iV z2, .ref o] (wX cI h a n p b w wi ni A ++ wO cJ o f) (PD (some (nV 1)) (wO cJ o f ++ wX cI h a n p b w wi ni A)) 1 6 := by
  refine ct_ofH (by decide) rfl (Nat.le_of_ble_eq_true rfl) (fun φ C rX Zc Hh => ?_)
  refine xw_le (lv' := [(0, .ref h), (1, iV z1), (2, iV z2), (3, .ref o)]) rfl ?_
  refine xw_aload_n (pc := 0) C 3 dL_copy_0 rfl ?_
  refine xw_iconst_N (pc := 1) C 0 dL_copy_1 rfl ?_
  refine xw_aload_n (pc := 2) C 0 dL_copy_2 rfl ?_
  refine xw_iload_n (pc := 3) C 1 dL_copy_3 rfl ?_
  refine xw_iload_n (pc := 4) C 2 dL_copy_4 rfl ?_
  refine xw_VX (pc := 5) (q0 := 0) (na := 2) (rest := [nV 0, .ref o]) (wc := wX cI h a n p b w wi ni A) (wr := wO cJ o f) C Zc Hh [0, 1] [2] [0] hM gL_copy_X0_copy rfl rfl rfl rfl (by decide +kernel) ⟨(Nat.le_of_ble_eq_true rfl), (Nat.le_of_ble_eq_true rfl)⟩ rfl rfl rfl ⟨rfl, rfl⟩ (by decide) rfl rfl rfl rfl (Nat.le_of_ble_eq_true rfl) dL_copy_5 ⟨(Nat.le_of_ble_eq_true rfl), (Nat.le_of_ble_eq_true rfl)⟩ [] ⟨0, 10, 13, 29⟩ [] rfl (fun z hz => nomatch hz) (by decide) (by decide) (name := nIOB) (by decide +kernel) (xzc_k Zc (by decide +kernel)) (hpc := 13) rfl (fun q => ?_)
  refine xw_astore (pc := 13) (lv' := [(0, .ref h), (1, iV z1), (2, iV z2), (3, .ref o), (4, .ref q)]) C [1, 2, 3, 4, 0] dL_copy_13 (by decide) rfl ?_
  refine xw_iconst_N (pc := 15) C 1 dL_copy_15 rfl ?_
  exact xw_iret (pc := 16) C rX (Nat.le_of_ble_eq_true rfl) (Nat.le_of_ble_eq_true rfl) dL_copy_16 PD.i

set_option maxHeartbeats 4000000 in
set_option maxRecDepth 100000 in
theorem m_L_turn_ok {l : Launch} {D : va_G} {cI cJ cD : ClassId} {h a n p b w wi ni : Nat} {A : Nat → Nat} {o : Nat} {f : Nat → Int64} {g : Nat → UInt64} (z1 : Int) (z2 : Bool) {W9 : va_W} (x : Int) (hM : CT l yX0_turn wsX0_turn (rmN 5 113) D vwCl [(cI, .int)] [.ref h, iV z1, bV z2] (wX cI h a n p b w wi ni A) (PD (some (iV x)) W9) 0 0) : CZ l yL_turn wsL_turn (rmX 8 135) D vwCl [(cI, .int), (cJ, .long)] [.ref h, iV z1, bV z2, .ref o] (wX cI h a n p b w wi ni A ++ wO cJ o f) (PD (some (nV 0)) (wO cJ o (vp_updL f 0 (iI x).toInt64) ++ W9)) 1 6 := by
  refine ct_ofH (by decide) rfl (Nat.le_of_ble_eq_true rfl) (fun φ C rX Zc Hh => ?_)
  refine xw_le (lv' := [(0, .ref h), (1, iV z1), (2, bV z2), (3, .ref o)]) rfl ?_
  refine xw_aload_n (pc := 0) C 3 dL_turn_0 rfl ?_
  refine xw_iconst_N (pc := 1) C 0 dL_turn_1 rfl ?_
  refine xw_aload_n (pc := 2) C 0 dL_turn_2 rfl ?_
  refine xw_iload_n (pc := 3) C 1 dL_turn_3 rfl ?_
  refine xw_iload_n (pc := 4) C 2 dL_turn_4 rfl ?_
  refine xw_VF (pc := 5) (q0 := 0) (na := 2) (rest := [nV 0, .ref o]) (wc := wX cI h a n p b w wi ni A) (wr := wO cJ o f) C [0, 1] [2] [0] hM gL_turn_X0_turn rfl rfl rfl rfl (by decide +kernel) ⟨(Nat.le_of_ble_eq_true rfl), (Nat.le_of_ble_eq_true rfl)⟩ rfl rfl rfl ⟨rfl, rfl⟩ (by decide) rfl rfl rfl rfl (Nat.le_of_ble_eq_true rfl) dL_turn_5 ⟨(Nat.le_of_ble_eq_true rfl), (Nat.le_of_ble_eq_true rfl)⟩ (fun v1 w1 hp1 => ?_)
  obtain ⟨rfl, hw9⟩ := hp1
  refine xw_st (st' := [iV x, nV 0, .ref o]) rfl ?_
  refine xw_wo (w' := wO cJ o f ++ W9) (by rw [hw9]) ?_
  refine xw_i2l (pc := 8) C dL_turn_8 ?_
  refine xw_last (pc := 9) (w' := wO cJ o (vp_updL f 0 (iI x).toInt64) ++ W9) C 0 1 rfl rfl rfl dL_turn_9 ?_
  refine xw_goto (pc := 10) (tgt := 17) C dL_turn_10 (by decide) ?_
  refine xw_iconst_N (pc := 17) C 0 dL_turn_17 rfl ?_
  exact xw_iret (pc := 18) C rX (Nat.le_of_ble_eq_true rfl) (Nat.le_of_ble_eq_true rfl) dL_turn_18 PD.i

set_option maxHeartbeats 4000000 in
set_option maxRecDepth 100000 in
theorem m_L_turn_nIOB {l : Launch} {D : va_G} {cI cJ cD : ClassId} {h a n p b w wi ni : Nat} {A : Nat → Nat} {o : Nat} {f : Nat → Int64} {g : Nat → UInt64} (z1 : Int) (z2 : Bool) (hM : CX l yX0_turn wsX0_turn (rmX 7 103) D vwCl [(cI, .int)] [.ref h, iV z1, bV z2] (wX cI h a n p b w wi ni A) nIOB 1 6) : CZ l yL_turn wsL_turn (rmX 8 135) D vwCl [(cI, .int), (cJ, .long)] [.ref h, iV z1, bV z2, .ref o] (wX cI h a n p b w wi ni A ++ wO cJ o f) (PD (some (nV 1)) (wO cJ o f ++ wX cI h a n p b w wi ni A)) 1 6 := by
  refine ct_ofH (by decide) rfl (Nat.le_of_ble_eq_true rfl) (fun φ C rX Zc Hh => ?_)
  refine xw_le (lv' := [(0, .ref h), (1, iV z1), (2, bV z2), (3, .ref o)]) rfl ?_
  refine xw_aload_n (pc := 0) C 3 dL_turn_0 rfl ?_
  refine xw_iconst_N (pc := 1) C 0 dL_turn_1 rfl ?_
  refine xw_aload_n (pc := 2) C 0 dL_turn_2 rfl ?_
  refine xw_iload_n (pc := 3) C 1 dL_turn_3 rfl ?_
  refine xw_iload_n (pc := 4) C 2 dL_turn_4 rfl ?_
  refine xw_VX (pc := 5) (q0 := 0) (na := 2) (rest := [nV 0, .ref o]) (wc := wX cI h a n p b w wi ni A) (wr := wO cJ o f) C Zc Hh [0, 1] [2] [0] hM gL_turn_X0_turn rfl rfl rfl rfl (by decide +kernel) ⟨(Nat.le_of_ble_eq_true rfl), (Nat.le_of_ble_eq_true rfl)⟩ rfl rfl rfl ⟨rfl, rfl⟩ (by decide) rfl rfl rfl rfl (Nat.le_of_ble_eq_true rfl) dL_turn_5 ⟨(Nat.le_of_ble_eq_true rfl), (Nat.le_of_ble_eq_true rfl)⟩ [] ⟨0, 10, 13, 29⟩ [] rfl (fun z hz => nomatch hz) (by decide) (by decide) (name := nIOB) (by decide +kernel) (xzc_k Zc (by decide +kernel)) (hpc := 13) rfl (fun q => ?_)
  refine xw_astore (pc := 13) (lv' := [(0, .ref h), (1, iV z1), (2, bV z2), (3, .ref o), (4, .ref q)]) C [1, 2, 3, 4, 0] dL_turn_13 (by decide) rfl ?_
  refine xw_iconst_N (pc := 15) C 1 dL_turn_15 rfl ?_
  exact xw_iret (pc := 16) C rX (Nat.le_of_ble_eq_true rfl) (Nat.le_of_ble_eq_true rfl) dL_turn_16 PD.i

set_option maxHeartbeats 4000000 in
set_option maxRecDepth 100000 in
theorem m_L_mirror_ok {l : Launch} {D : va_G} {cI cJ cD : ClassId} {h a n p b w wi ni : Nat} {A : Nat → Nat} {o : Nat} {f : Nat → Int64} {g : Nat → UInt64} (z1 : Int) {W9 : va_W} (x : Int) (hM : CT l yX0_mirror wsX0_mirror (rmN 2 49) D vwCl [(cI, .int)] [.ref h, iV z1] (wX cI h a n p b w wi ni A) (PD (some (iV x)) W9) 0 0) : CZ l yL_mirror wsL_mirror (rmX 8 125) D vwCl [(cI, .int), (cJ, .long)] [.ref h, iV z1, .ref o] (wX cI h a n p b w wi ni A ++ wO cJ o f) (PD (some (nV 0)) (wO cJ o (vp_updL f 0 (iI x).toInt64) ++ W9)) 1 6 := by
  refine ct_ofH (by decide) rfl (Nat.le_of_ble_eq_true rfl) (fun φ C rX Zc Hh => ?_)
  refine xw_le (lv' := [(0, .ref h), (1, iV z1), (2, .ref o)]) rfl ?_
  refine xw_aload_n (pc := 0) C 2 dL_mirror_0 rfl ?_
  refine xw_iconst_N (pc := 1) C 0 dL_mirror_1 rfl ?_
  refine xw_aload_n (pc := 2) C 0 dL_mirror_2 rfl ?_
  refine xw_iload_n (pc := 3) C 1 dL_mirror_3 rfl ?_
  refine xw_VF (pc := 4) (q0 := 0) (na := 1) (rest := [nV 0, .ref o]) (wc := wX cI h a n p b w wi ni A) (wr := wO cJ o f) C [0, 1] [2] [0] hM gL_mirror_X0_mirror rfl rfl rfl rfl (by decide +kernel) ⟨(Nat.le_of_ble_eq_true rfl), (Nat.le_of_ble_eq_true rfl)⟩ rfl rfl rfl ⟨rfl, rfl⟩ (by decide) rfl rfl rfl rfl (Nat.le_of_ble_eq_true rfl) dL_mirror_4 ⟨(Nat.le_of_ble_eq_true rfl), (Nat.le_of_ble_eq_true rfl)⟩ (fun v1 w1 hp1 => ?_)
  obtain ⟨rfl, hw9⟩ := hp1
  refine xw_st (st' := [iV x, nV 0, .ref o]) rfl ?_
  refine xw_wo (w' := wO cJ o f ++ W9) (by rw [hw9]) ?_
  refine xw_i2l (pc := 7) C dL_mirror_7 ?_
  refine xw_last (pc := 8) (w' := wO cJ o (vp_updL f 0 (iI x).toInt64) ++ W9) C 0 1 rfl rfl rfl dL_mirror_8 ?_
  refine xw_goto (pc := 9) (tgt := 15) C dL_mirror_9 (by decide) ?_
  refine xw_iconst_N (pc := 15) C 0 dL_mirror_15 rfl ?_
  exact xw_iret (pc := 16) C rX (Nat.le_of_ble_eq_true rfl) (Nat.le_of_ble_eq_true rfl) dL_mirror_16 PD.i

set_option maxHeartbeats 4000000 in
set_option maxRecDepth 100000 in
theorem m_L_mirror_nIOB {l : Launch} {D : va_G} {cI cJ cD : ClassId} {h a n p b w wi ni : Nat} {A : Nat → Nat} {o : Nat} {f : Nat → Int64} {g : Nat → UInt64} (z1 : Int) (hM : CX l yX0_mirror wsX0_mirror (rmX 7 103) D vwCl [(cI, .int)] [.ref h, iV z1] (wX cI h a n p b w wi ni A) nIOB 1 6) : CZ l yL_mirror wsL_mirror (rmX 8 125) D vwCl [(cI, .int), (cJ, .long)] [.ref h, iV z1, .ref o] (wX cI h a n p b w wi ni A ++ wO cJ o f) (PD (some (nV 1)) (wO cJ o f ++ wX cI h a n p b w wi ni A)) 1 6 := by
  refine ct_ofH (by decide) rfl (Nat.le_of_ble_eq_true rfl) (fun φ C rX Zc Hh => ?_)
  refine xw_le (lv' := [(0, .ref h), (1, iV z1), (2, .ref o)]) rfl ?_
  refine xw_aload_n (pc := 0) C 2 dL_mirror_0 rfl ?_
  refine xw_iconst_N (pc := 1) C 0 dL_mirror_1 rfl ?_
  refine xw_aload_n (pc := 2) C 0 dL_mirror_2 rfl ?_
  refine xw_iload_n (pc := 3) C 1 dL_mirror_3 rfl ?_
  refine xw_VX (pc := 4) (q0 := 0) (na := 1) (rest := [nV 0, .ref o]) (wc := wX cI h a n p b w wi ni A) (wr := wO cJ o f) C Zc Hh [0, 1] [2] [0] hM gL_mirror_X0_mirror rfl rfl rfl rfl (by decide +kernel) ⟨(Nat.le_of_ble_eq_true rfl), (Nat.le_of_ble_eq_true rfl)⟩ rfl rfl rfl ⟨rfl, rfl⟩ (by decide) rfl rfl rfl rfl (Nat.le_of_ble_eq_true rfl) dL_mirror_4 ⟨(Nat.le_of_ble_eq_true rfl), (Nat.le_of_ble_eq_true rfl)⟩ [] ⟨0, 9, 12, 29⟩ [] rfl (fun z hz => nomatch hz) (by decide) (by decide) (name := nIOB) (by decide +kernel) (xzc_k Zc (by decide +kernel)) (hpc := 12) rfl (fun q => ?_)
  refine xw_astore_n (pc := 12) (lv' := [(0, .ref h), (1, iV z1), (2, .ref o), (3, .ref q)]) C [1, 2, 3, 0] dL_mirror_12 rfl (by decide) rfl ?_
  refine xw_iconst_N (pc := 13) C 1 dL_mirror_13 rfl ?_
  exact xw_iret (pc := 14) C rX (Nat.le_of_ble_eq_true rfl) (Nat.le_of_ble_eq_true rfl) dL_mirror_14 PD.i

set_option maxHeartbeats 4000000 in
set_option maxRecDepth 100000 in
theorem m_L_stage_ok {l : Launch} {D : va_G} {cI cJ cD : ClassId} {h a n p b w wi ni : Nat} {A : Nat → Nat} {o : Nat} {f : Nat → Int64} {g : Nat → UInt64} (z1 : Int) (z2 : Int) {W9 : va_W} (x : Int) (hM : CT l yX0_stage wsX0_stage (rmN 3 69) D vwCl [(cI, .int)] [.ref h, iV z1, iV z2] (wX cI h a n p b w wi ni A) (PD (some (iV x)) W9) 0 0) : CZ l yL_stage wsL_stage (rmX 8 129) D vwCl [(cI, .int), (cJ, .long)] [.ref h, iV z1, iV z2, .ref o] (wX cI h a n p b w wi ni A ++ wO cJ o f) (PD (some (nV 0)) (wO cJ o (vp_updL f 0 (iI x).toInt64) ++ W9)) 1 6 := by
  refine ct_ofH (by decide) rfl (Nat.le_of_ble_eq_true rfl) (fun φ C rX Zc Hh => ?_)
  refine xw_le (lv' := [(0, .ref h), (1, iV z1), (2, iV z2), (3, .ref o)]) rfl ?_
  refine xw_aload_n (pc := 0) C 3 dL_stage_0 rfl ?_
  refine xw_iconst_N (pc := 1) C 0 dL_stage_1 rfl ?_
  refine xw_aload_n (pc := 2) C 0 dL_stage_2 rfl ?_
  refine xw_iload_n (pc := 3) C 1 dL_stage_3 rfl ?_
  refine xw_iload_n (pc := 4) C 2 dL_stage_4 rfl ?_
  refine xw_VF (pc := 5) (q0 := 0) (na := 2) (rest := [nV 0, .ref o]) (wc := wX cI h a n p b w wi ni A) (wr := wO cJ o f) C [0, 1] [2] [0] hM gL_stage_X0_stage rfl rfl rfl rfl (by decide +kernel) ⟨(Nat.le_of_ble_eq_true rfl), (Nat.le_of_ble_eq_true rfl)⟩ rfl rfl rfl ⟨rfl, rfl⟩ (by decide) rfl rfl rfl rfl (Nat.le_of_ble_eq_true rfl) dL_stage_5 ⟨(Nat.le_of_ble_eq_true rfl), (Nat.le_of_ble_eq_true rfl)⟩ (fun v1 w1 hp1 => ?_)
  obtain ⟨rfl, hw9⟩ := hp1
  refine xw_st (st' := [iV x, nV 0, .ref o]) rfl ?_
  refine xw_wo (w' := wO cJ o f ++ W9) (by rw [hw9]) ?_
  refine xw_i2l (pc := 8) C dL_stage_8 ?_
  refine xw_last (pc := 9) (w' := wO cJ o (vp_updL f 0 (iI x).toInt64) ++ W9) C 0 1 rfl rfl rfl dL_stage_9 ?_
  refine xw_goto (pc := 10) (tgt := 17) C dL_stage_10 (by decide) ?_
  refine xw_iconst_N (pc := 17) C 0 dL_stage_17 rfl ?_
  exact xw_iret (pc := 18) C rX (Nat.le_of_ble_eq_true rfl) (Nat.le_of_ble_eq_true rfl) dL_stage_18 PD.i

set_option maxHeartbeats 4000000 in
set_option maxRecDepth 100000 in
theorem m_L_stage_nIOB {l : Launch} {D : va_G} {cI cJ cD : ClassId} {h a n p b w wi ni : Nat} {A : Nat → Nat} {o : Nat} {f : Nat → Int64} {g : Nat → UInt64} (z1 : Int) (z2 : Int) (hM : CX l yX0_stage wsX0_stage (rmX 7 103) D vwCl [(cI, .int)] [.ref h, iV z1, iV z2] (wX cI h a n p b w wi ni A) nIOB 1 6) : CZ l yL_stage wsL_stage (rmX 8 129) D vwCl [(cI, .int), (cJ, .long)] [.ref h, iV z1, iV z2, .ref o] (wX cI h a n p b w wi ni A ++ wO cJ o f) (PD (some (nV 1)) (wO cJ o f ++ wX cI h a n p b w wi ni A)) 1 6 := by
  refine ct_ofH (by decide) rfl (Nat.le_of_ble_eq_true rfl) (fun φ C rX Zc Hh => ?_)
  refine xw_le (lv' := [(0, .ref h), (1, iV z1), (2, iV z2), (3, .ref o)]) rfl ?_
  refine xw_aload_n (pc := 0) C 3 dL_stage_0 rfl ?_
  refine xw_iconst_N (pc := 1) C 0 dL_stage_1 rfl ?_
  refine xw_aload_n (pc := 2) C 0 dL_stage_2 rfl ?_
  refine xw_iload_n (pc := 3) C 1 dL_stage_3 rfl ?_
  refine xw_iload_n (pc := 4) C 2 dL_stage_4 rfl ?_
  refine xw_VX (pc := 5) (q0 := 0) (na := 2) (rest := [nV 0, .ref o]) (wc := wX cI h a n p b w wi ni A) (wr := wO cJ o f) C Zc Hh [0, 1] [2] [0] hM gL_stage_X0_stage rfl rfl rfl rfl (by decide +kernel) ⟨(Nat.le_of_ble_eq_true rfl), (Nat.le_of_ble_eq_true rfl)⟩ rfl rfl rfl ⟨rfl, rfl⟩ (by decide) rfl rfl rfl rfl (Nat.le_of_ble_eq_true rfl) dL_stage_5 ⟨(Nat.le_of_ble_eq_true rfl), (Nat.le_of_ble_eq_true rfl)⟩ [] ⟨0, 10, 13, 29⟩ [] rfl (fun z hz => nomatch hz) (by decide) (by decide) (name := nIOB) (by decide +kernel) (xzc_k Zc (by decide +kernel)) (hpc := 13) rfl (fun q => ?_)
  refine xw_astore (pc := 13) (lv' := [(0, .ref h), (1, iV z1), (2, iV z2), (3, .ref o), (4, .ref q)]) C [1, 2, 3, 4, 0] dL_stage_13 (by decide) rfl ?_
  refine xw_iconst_N (pc := 15) C 1 dL_stage_15 rfl ?_
  exact xw_iret (pc := 16) C rX (Nat.le_of_ble_eq_true rfl) (Nat.le_of_ble_eq_true rfl) dL_stage_16 PD.i

set_option maxHeartbeats 4000000 in
set_option maxRecDepth 100000 in
theorem m_L_fold_ok {l : Launch} {D : va_G} {cI cJ cD : ClassId} {h a n p b w wi ni : Nat} {A : Nat → Nat} {o : Nat} {f : Nat → Int64} {g : Nat → UInt64} (z1 : Int) (z2 : Int) {W9 : va_W} (x : Int) (hM : CT l yX0_fold wsX0_fold (rmN 3 68) D vwCl [(cI, .int)] [.ref h, iV z1, iV z2] (wX cI h a n p b w wi ni A) (PD (some (iV x)) W9) 0 0) : CZ l yL_fold wsL_fold (rmX 8 126) D vwCl [(cI, .int), (cJ, .long)] [.ref h, iV z1, iV z2, .ref o] (wX cI h a n p b w wi ni A ++ wO cJ o f) (PD (some (nV 0)) (wO cJ o (vp_updL f 0 (iI x).toInt64) ++ W9)) 1 6 := by
  refine ct_ofH (by decide) rfl (Nat.le_of_ble_eq_true rfl) (fun φ C rX Zc Hh => ?_)
  refine xw_le (lv' := [(0, .ref h), (1, iV z1), (2, iV z2), (3, .ref o)]) rfl ?_
  refine xw_aload_n (pc := 0) C 3 dL_fold_0 rfl ?_
  refine xw_iconst_N (pc := 1) C 0 dL_fold_1 rfl ?_
  refine xw_aload_n (pc := 2) C 0 dL_fold_2 rfl ?_
  refine xw_iload_n (pc := 3) C 1 dL_fold_3 rfl ?_
  refine xw_iload_n (pc := 4) C 2 dL_fold_4 rfl ?_
  refine xw_VF (pc := 5) (q0 := 0) (na := 2) (rest := [nV 0, .ref o]) (wc := wX cI h a n p b w wi ni A) (wr := wO cJ o f) C [0, 1] [2] [0] hM gL_fold_X0_fold rfl rfl rfl rfl (by decide +kernel) ⟨(Nat.le_of_ble_eq_true rfl), (Nat.le_of_ble_eq_true rfl)⟩ rfl rfl rfl ⟨rfl, rfl⟩ (by decide) rfl rfl rfl rfl (Nat.le_of_ble_eq_true rfl) dL_fold_5 ⟨(Nat.le_of_ble_eq_true rfl), (Nat.le_of_ble_eq_true rfl)⟩ (fun v1 w1 hp1 => ?_)
  obtain ⟨rfl, hw9⟩ := hp1
  refine xw_st (st' := [iV x, nV 0, .ref o]) rfl ?_
  refine xw_wo (w' := wO cJ o f ++ W9) (by rw [hw9]) ?_
  refine xw_i2l (pc := 8) C dL_fold_8 ?_
  refine xw_last (pc := 9) (w' := wO cJ o (vp_updL f 0 (iI x).toInt64) ++ W9) C 0 1 rfl rfl rfl dL_fold_9 ?_
  refine xw_goto (pc := 10) (tgt := 17) C dL_fold_10 (by decide) ?_
  refine xw_iconst_N (pc := 17) C 0 dL_fold_17 rfl ?_
  exact xw_iret (pc := 18) C rX (Nat.le_of_ble_eq_true rfl) (Nat.le_of_ble_eq_true rfl) dL_fold_18 PD.i

set_option maxHeartbeats 4000000 in
set_option maxRecDepth 100000 in
theorem m_L_fold_nIOB {l : Launch} {D : va_G} {cI cJ cD : ClassId} {h a n p b w wi ni : Nat} {A : Nat → Nat} {o : Nat} {f : Nat → Int64} {g : Nat → UInt64} (z1 : Int) (z2 : Int) (hM : CX l yX0_fold wsX0_fold (rmX 7 103) D vwCl [(cI, .int)] [.ref h, iV z1, iV z2] (wX cI h a n p b w wi ni A) nIOB 1 6) : CZ l yL_fold wsL_fold (rmX 8 126) D vwCl [(cI, .int), (cJ, .long)] [.ref h, iV z1, iV z2, .ref o] (wX cI h a n p b w wi ni A ++ wO cJ o f) (PD (some (nV 1)) (wO cJ o f ++ wX cI h a n p b w wi ni A)) 1 6 := by
  refine ct_ofH (by decide) rfl (Nat.le_of_ble_eq_true rfl) (fun φ C rX Zc Hh => ?_)
  refine xw_le (lv' := [(0, .ref h), (1, iV z1), (2, iV z2), (3, .ref o)]) rfl ?_
  refine xw_aload_n (pc := 0) C 3 dL_fold_0 rfl ?_
  refine xw_iconst_N (pc := 1) C 0 dL_fold_1 rfl ?_
  refine xw_aload_n (pc := 2) C 0 dL_fold_2 rfl ?_
  refine xw_iload_n (pc := 3) C 1 dL_fold_3 rfl ?_
  refine xw_iload_n (pc := 4) C 2 dL_fold_4 rfl ?_
  refine xw_VX (pc := 5) (q0 := 0) (na := 2) (rest := [nV 0, .ref o]) (wc := wX cI h a n p b w wi ni A) (wr := wO cJ o f) C Zc Hh [0, 1] [2] [0] hM gL_fold_X0_fold rfl rfl rfl rfl (by decide +kernel) ⟨(Nat.le_of_ble_eq_true rfl), (Nat.le_of_ble_eq_true rfl)⟩ rfl rfl rfl ⟨rfl, rfl⟩ (by decide) rfl rfl rfl rfl (Nat.le_of_ble_eq_true rfl) dL_fold_5 ⟨(Nat.le_of_ble_eq_true rfl), (Nat.le_of_ble_eq_true rfl)⟩ [] ⟨0, 10, 13, 29⟩ [] rfl (fun z hz => nomatch hz) (by decide) (by decide) (name := nIOB) (by decide +kernel) (xzc_k Zc (by decide +kernel)) (hpc := 13) rfl (fun q => ?_)
  refine xw_astore (pc := 13) (lv' := [(0, .ref h), (1, iV z1), (2, iV z2), (3, .ref o), (4, .ref q)]) C [1, 2, 3, 4, 0] dL_fold_13 (by decide) rfl ?_
  refine xw_iconst_N (pc := 15) C 1 dL_fold_15 rfl ?_
  exact xw_iret (pc := 16) C rX (Nat.le_of_ble_eq_true rfl) (Nat.le_of_ble_eq_true rfl) dL_fold_16 PD.i

set_option maxHeartbeats 4000000 in
set_option maxRecDepth 100000 in
theorem m_L_join_ok {l : Launch} {D : va_G} {cI cJ cD : ClassId} {h a n p b w wi ni : Nat} {A : Nat → Nat} {o : Nat} {f : Nat → Int64} {g : Nat → UInt64} (z1 : Int) (z2 : Int) (z3 : Int) {W9 : va_W} (x : Int) (hM : CT l yX0_join wsX0_join (rmN 3 66) D vwCl [(cI, .int)] [.ref h, iV z1, iV z2, iV z3] (wX cI h a n p b w wi ni A) (PD (some (iV x)) W9) 0 0) : CZ l yL_join wsL_join (rmX 8 127) D vwCl [(cI, .int), (cJ, .long)] [.ref h, iV z1, iV z2, iV z3, .ref o] (wX cI h a n p b w wi ni A ++ wO cJ o f) (PD (some (nV 0)) (wO cJ o (vp_updL f 0 (iI x).toInt64) ++ W9)) 1 6 := by
  refine ct_ofH (by decide) rfl (Nat.le_of_ble_eq_true rfl) (fun φ C rX Zc Hh => ?_)
  refine xw_le (lv' := [(0, .ref h), (1, iV z1), (2, iV z2), (3, iV z3), (4, .ref o)]) rfl ?_
  refine xw_aload (pc := 0) C 4 dL_join_0 rfl ?_
  refine xw_iconst_N (pc := 2) C 0 dL_join_2 rfl ?_
  refine xw_aload_n (pc := 3) C 0 dL_join_3 rfl ?_
  refine xw_iload_n (pc := 4) C 1 dL_join_4 rfl ?_
  refine xw_iload_n (pc := 5) C 2 dL_join_5 rfl ?_
  refine xw_iload_n (pc := 6) C 3 dL_join_6 rfl ?_
  refine xw_VF (pc := 7) (q0 := 0) (na := 3) (rest := [nV 0, .ref o]) (wc := wX cI h a n p b w wi ni A) (wr := wO cJ o f) C [0, 1] [2] [0] hM gL_join_X0_join rfl rfl rfl rfl (by decide +kernel) ⟨(Nat.le_of_ble_eq_true rfl), (Nat.le_of_ble_eq_true rfl)⟩ rfl rfl rfl ⟨rfl, rfl⟩ (by decide) rfl rfl rfl rfl (Nat.le_of_ble_eq_true rfl) dL_join_7 ⟨(Nat.le_of_ble_eq_true rfl), (Nat.le_of_ble_eq_true rfl)⟩ (fun v1 w1 hp1 => ?_)
  obtain ⟨rfl, hw9⟩ := hp1
  refine xw_st (st' := [iV x, nV 0, .ref o]) rfl ?_
  refine xw_wo (w' := wO cJ o f ++ W9) (by rw [hw9]) ?_
  refine xw_i2l (pc := 10) C dL_join_10 ?_
  refine xw_last (pc := 11) (w' := wO cJ o (vp_updL f 0 (iI x).toInt64) ++ W9) C 0 1 rfl rfl rfl dL_join_11 ?_
  refine xw_goto (pc := 12) (tgt := 19) C dL_join_12 (by decide) ?_
  refine xw_iconst_N (pc := 19) C 0 dL_join_19 rfl ?_
  exact xw_iret (pc := 20) C rX (Nat.le_of_ble_eq_true rfl) (Nat.le_of_ble_eq_true rfl) dL_join_20 PD.i

set_option maxHeartbeats 4000000 in
set_option maxRecDepth 100000 in
theorem m_L_join_nIOB {l : Launch} {D : va_G} {cI cJ cD : ClassId} {h a n p b w wi ni : Nat} {A : Nat → Nat} {o : Nat} {f : Nat → Int64} {g : Nat → UInt64} (z1 : Int) (z2 : Int) (z3 : Int) (hM : CX l yX0_join wsX0_join (rmX 7 103) D vwCl [(cI, .int)] [.ref h, iV z1, iV z2, iV z3] (wX cI h a n p b w wi ni A) nIOB 1 6) : CZ l yL_join wsL_join (rmX 8 127) D vwCl [(cI, .int), (cJ, .long)] [.ref h, iV z1, iV z2, iV z3, .ref o] (wX cI h a n p b w wi ni A ++ wO cJ o f) (PD (some (nV 1)) (wO cJ o f ++ wX cI h a n p b w wi ni A)) 1 6 := by
  refine ct_ofH (by decide) rfl (Nat.le_of_ble_eq_true rfl) (fun φ C rX Zc Hh => ?_)
  refine xw_le (lv' := [(0, .ref h), (1, iV z1), (2, iV z2), (3, iV z3), (4, .ref o)]) rfl ?_
  refine xw_aload (pc := 0) C 4 dL_join_0 rfl ?_
  refine xw_iconst_N (pc := 2) C 0 dL_join_2 rfl ?_
  refine xw_aload_n (pc := 3) C 0 dL_join_3 rfl ?_
  refine xw_iload_n (pc := 4) C 1 dL_join_4 rfl ?_
  refine xw_iload_n (pc := 5) C 2 dL_join_5 rfl ?_
  refine xw_iload_n (pc := 6) C 3 dL_join_6 rfl ?_
  refine xw_VX (pc := 7) (q0 := 0) (na := 3) (rest := [nV 0, .ref o]) (wc := wX cI h a n p b w wi ni A) (wr := wO cJ o f) C Zc Hh [0, 1] [2] [0] hM gL_join_X0_join rfl rfl rfl rfl (by decide +kernel) ⟨(Nat.le_of_ble_eq_true rfl), (Nat.le_of_ble_eq_true rfl)⟩ rfl rfl rfl ⟨rfl, rfl⟩ (by decide) rfl rfl rfl rfl (Nat.le_of_ble_eq_true rfl) dL_join_7 ⟨(Nat.le_of_ble_eq_true rfl), (Nat.le_of_ble_eq_true rfl)⟩ [] ⟨0, 12, 15, 29⟩ [] rfl (fun z hz => nomatch hz) (by decide) (by decide) (name := nIOB) (by decide +kernel) (xzc_k Zc (by decide +kernel)) (hpc := 15) rfl (fun q => ?_)
  refine xw_astore (pc := 15) (lv' := [(0, .ref h), (1, iV z1), (2, iV z2), (3, iV z3), (4, .ref o), (5, .ref q)]) C [1, 2, 3, 4, 5, 0] dL_join_15 (by decide) rfl ?_
  refine xw_iconst_N (pc := 17) C 1 dL_join_17 rfl ?_
  exact xw_iret (pc := 18) C rX (Nat.le_of_ble_eq_true rfl) (Nat.le_of_ble_eq_true rfl) dL_join_18 PD.i

set_option maxHeartbeats 4000000 in
set_option maxRecDepth 100000 in
theorem m_L_move_ok {l : Launch} {D : va_G} {cI cJ cD : ClassId} {h a n p b w wi ni : Nat} {A : Nat → Nat} {o : Nat} {f : Nat → Int64} {g : Nat → UInt64} (z1 : Int) (z2 : Int) {W9 : va_W} (x : Int) (hM : CT l yX0_move wsX0_move (rmN 2 49) D vwCl [(cI, .int)] [.ref h, iV z1, iV z2] (wX cI h a n p b w wi ni A) (PD (some (iV x)) W9) 0 0) : CZ l yL_move wsL_move (rmX 8 126) D vwCl [(cI, .int), (cJ, .long)] [.ref h, iV z1, iV z2, .ref o] (wX cI h a n p b w wi ni A ++ wO cJ o f) (PD (some (nV 0)) (wO cJ o (vp_updL f 0 (iI x).toInt64) ++ W9)) 1 6 := by
  refine ct_ofH (by decide) rfl (Nat.le_of_ble_eq_true rfl) (fun φ C rX Zc Hh => ?_)
  refine xw_le (lv' := [(0, .ref h), (1, iV z1), (2, iV z2), (3, .ref o)]) rfl ?_
  refine xw_aload_n (pc := 0) C 3 dL_move_0 rfl ?_
  refine xw_iconst_N (pc := 1) C 0 dL_move_1 rfl ?_
  refine xw_aload_n (pc := 2) C 0 dL_move_2 rfl ?_
  refine xw_iload_n (pc := 3) C 1 dL_move_3 rfl ?_
  refine xw_iload_n (pc := 4) C 2 dL_move_4 rfl ?_
  refine xw_VF (pc := 5) (q0 := 0) (na := 2) (rest := [nV 0, .ref o]) (wc := wX cI h a n p b w wi ni A) (wr := wO cJ o f) C [0, 1] [2] [0] hM gL_move_X0_move rfl rfl rfl rfl (by decide +kernel) ⟨(Nat.le_of_ble_eq_true rfl), (Nat.le_of_ble_eq_true rfl)⟩ rfl rfl rfl ⟨rfl, rfl⟩ (by decide) rfl rfl rfl rfl (Nat.le_of_ble_eq_true rfl) dL_move_5 ⟨(Nat.le_of_ble_eq_true rfl), (Nat.le_of_ble_eq_true rfl)⟩ (fun v1 w1 hp1 => ?_)
  obtain ⟨rfl, hw9⟩ := hp1
  refine xw_st (st' := [iV x, nV 0, .ref o]) rfl ?_
  refine xw_wo (w' := wO cJ o f ++ W9) (by rw [hw9]) ?_
  refine xw_i2l (pc := 8) C dL_move_8 ?_
  refine xw_last (pc := 9) (w' := wO cJ o (vp_updL f 0 (iI x).toInt64) ++ W9) C 0 1 rfl rfl rfl dL_move_9 ?_
  refine xw_goto (pc := 10) (tgt := 21) C dL_move_10 (by decide) ?_
  refine xw_iconst_N (pc := 21) C 0 dL_move_21 rfl ?_
  exact xw_iret (pc := 22) C rX (Nat.le_of_ble_eq_true rfl) (Nat.le_of_ble_eq_true rfl) dL_move_22 PD.i

set_option maxHeartbeats 4000000 in
set_option maxRecDepth 100000 in
theorem m_L_move_nIOB {l : Launch} {D : va_G} {cI cJ cD : ClassId} {h a n p b w wi ni : Nat} {A : Nat → Nat} {o : Nat} {f : Nat → Int64} {g : Nat → UInt64} (z1 : Int) (z2 : Int) (hM : CX l yX0_move wsX0_move (rmX 7 103) D vwCl [(cI, .int)] [.ref h, iV z1, iV z2] (wX cI h a n p b w wi ni A) nIOB 1 6) : CZ l yL_move wsL_move (rmX 8 126) D vwCl [(cI, .int), (cJ, .long)] [.ref h, iV z1, iV z2, .ref o] (wX cI h a n p b w wi ni A ++ wO cJ o f) (PD (some (nV 1)) (wO cJ o f ++ wX cI h a n p b w wi ni A)) 1 6 := by
  refine ct_ofH (by decide) rfl (Nat.le_of_ble_eq_true rfl) (fun φ C rX Zc Hh => ?_)
  refine xw_le (lv' := [(0, .ref h), (1, iV z1), (2, iV z2), (3, .ref o)]) rfl ?_
  refine xw_aload_n (pc := 0) C 3 dL_move_0 rfl ?_
  refine xw_iconst_N (pc := 1) C 0 dL_move_1 rfl ?_
  refine xw_aload_n (pc := 2) C 0 dL_move_2 rfl ?_
  refine xw_iload_n (pc := 3) C 1 dL_move_3 rfl ?_
  refine xw_iload_n (pc := 4) C 2 dL_move_4 rfl ?_
  refine xw_VX (pc := 5) (q0 := 0) (na := 2) (rest := [nV 0, .ref o]) (wc := wX cI h a n p b w wi ni A) (wr := wO cJ o f) C Zc Hh [0, 1] [2] [0] hM gL_move_X0_move rfl rfl rfl rfl (by decide +kernel) ⟨(Nat.le_of_ble_eq_true rfl), (Nat.le_of_ble_eq_true rfl)⟩ rfl rfl rfl ⟨rfl, rfl⟩ (by decide) rfl rfl rfl rfl (Nat.le_of_ble_eq_true rfl) dL_move_5 ⟨(Nat.le_of_ble_eq_true rfl), (Nat.le_of_ble_eq_true rfl)⟩ [] ⟨0, 10, 13, 29⟩ [⟨0, 10, 17, 13⟩] rfl (fun z hz => nomatch hz) (by decide) (by decide) (name := nIOB) (by decide +kernel) (xzc_k Zc (by decide +kernel)) (hpc := 13) rfl (fun q => ?_)
  refine xw_astore (pc := 13) (lv' := [(0, .ref h), (1, iV z1), (2, iV z2), (3, .ref o), (4, .ref q)]) C [1, 2, 3, 4, 0] dL_move_13 (by decide) rfl ?_
  refine xw_iconst_N (pc := 15) C 1 dL_move_15 rfl ?_
  exact xw_iret (pc := 16) C rX (Nat.le_of_ble_eq_true rfl) (Nat.le_of_ble_eq_true rfl) dL_move_16 PD.i

set_option maxHeartbeats 4000000 in
set_option maxRecDepth 100000 in
theorem m_L_move_nIAE {l : Launch} {D : va_G} {cI cJ cD : ClassId} {h a n p b w wi ni : Nat} {A : Nat → Nat} {o : Nat} {f : Nat → Int64} {g : Nat → UInt64} (z1 : Int) (z2 : Int) (hM : CX l yX0_move wsX0_move (rmX 7 103) D vwCl [(cI, .int)] [.ref h, iV z1, iV z2] (wX cI h a n p b w wi ni A) nIAE 1 6) : CZ l yL_move wsL_move (rmX 8 126) D vwCl [(cI, .int), (cJ, .long)] [.ref h, iV z1, iV z2, .ref o] (wX cI h a n p b w wi ni A ++ wO cJ o f) (PD (some (nV 2)) (wO cJ o f ++ wX cI h a n p b w wi ni A)) 1 6 := by
  refine ct_ofH (by decide) rfl (Nat.le_of_ble_eq_true rfl) (fun φ C rX Zc Hh => ?_)
  refine xw_le (lv' := [(0, .ref h), (1, iV z1), (2, iV z2), (3, .ref o)]) rfl ?_
  refine xw_aload_n (pc := 0) C 3 dL_move_0 rfl ?_
  refine xw_iconst_N (pc := 1) C 0 dL_move_1 rfl ?_
  refine xw_aload_n (pc := 2) C 0 dL_move_2 rfl ?_
  refine xw_iload_n (pc := 3) C 1 dL_move_3 rfl ?_
  refine xw_iload_n (pc := 4) C 2 dL_move_4 rfl ?_
  refine xw_VX (pc := 5) (q0 := 0) (na := 2) (rest := [nV 0, .ref o]) (wc := wX cI h a n p b w wi ni A) (wr := wO cJ o f) C Zc Hh [0, 1] [2] [0] hM gL_move_X0_move rfl rfl rfl rfl (by decide +kernel) ⟨(Nat.le_of_ble_eq_true rfl), (Nat.le_of_ble_eq_true rfl)⟩ rfl rfl rfl ⟨rfl, rfl⟩ (by decide) rfl rfl rfl rfl (Nat.le_of_ble_eq_true rfl) dL_move_5 ⟨(Nat.le_of_ble_eq_true rfl), (Nat.le_of_ble_eq_true rfl)⟩ [⟨0, 10, 13, 29⟩] ⟨0, 10, 17, 13⟩ [] rfl (fun z hz => by rcases List.mem_cons.mp hz with rfl | h9; exact ⟨by decide, nIOB, by decide +kernel, xzc_n Zc⟩; exact nomatch h9) (by decide) (by decide) (name := nIAE) (by decide +kernel) (xzc_k Zc (by decide +kernel)) (hpc := 17) rfl (fun q => ?_)
  refine xw_astore (pc := 17) (lv' := [(0, .ref h), (1, iV z1), (2, iV z2), (3, .ref o), (4, .ref q)]) C [1, 2, 3, 4, 0] dL_move_17 (by decide) rfl ?_
  refine xw_iconst_N (pc := 19) C 2 dL_move_19 rfl ?_
  exact xw_iret (pc := 20) C rX (Nat.le_of_ble_eq_true rfl) (Nat.le_of_ble_eq_true rfl) dL_move_20 PD.i

set_option maxHeartbeats 4000000 in
set_option maxRecDepth 100000 in
theorem m_L_times_ok {l : Launch} {D : va_G} {cI cJ cD : ClassId} {h a n p b w wi ni : Nat} {A : Nat → Nat} {o : Nat} {f : Nat → Int64} {g : Nat → UInt64} (z1 : Int) (z2 : Int) {W9 : va_W} (x : Int) (hM : CT l yX0_times wsX0_times (rmN 2 46) D vwCl [(cI, .int)] [.ref h, iV z1, iV z2] (wX cI h a n p b w wi ni A) (PD (some (iV x)) W9) 0 0) : CZ l yL_times wsL_times (rmX 8 126) D vwCl [(cI, .int), (cJ, .long)] [.ref h, iV z1, iV z2, .ref o] (wX cI h a n p b w wi ni A ++ wO cJ o f) (PD (some (nV 0)) (wO cJ o (vp_updL f 0 (iI x).toInt64) ++ W9)) 1 6 := by
  refine ct_ofH (by decide) rfl (Nat.le_of_ble_eq_true rfl) (fun φ C rX Zc Hh => ?_)
  refine xw_le (lv' := [(0, .ref h), (1, iV z1), (2, iV z2), (3, .ref o)]) rfl ?_
  refine xw_aload_n (pc := 0) C 3 dL_times_0 rfl ?_
  refine xw_iconst_N (pc := 1) C 0 dL_times_1 rfl ?_
  refine xw_aload_n (pc := 2) C 0 dL_times_2 rfl ?_
  refine xw_iload_n (pc := 3) C 1 dL_times_3 rfl ?_
  refine xw_iload_n (pc := 4) C 2 dL_times_4 rfl ?_
  refine xw_VF (pc := 5) (q0 := 0) (na := 2) (rest := [nV 0, .ref o]) (wc := wX cI h a n p b w wi ni A) (wr := wO cJ o f) C [0, 1] [2] [0] hM gL_times_X0_times rfl rfl rfl rfl (by decide +kernel) ⟨(Nat.le_of_ble_eq_true rfl), (Nat.le_of_ble_eq_true rfl)⟩ rfl rfl rfl ⟨rfl, rfl⟩ (by decide) rfl rfl rfl rfl (Nat.le_of_ble_eq_true rfl) dL_times_5 ⟨(Nat.le_of_ble_eq_true rfl), (Nat.le_of_ble_eq_true rfl)⟩ (fun v1 w1 hp1 => ?_)
  obtain ⟨rfl, hw9⟩ := hp1
  refine xw_st (st' := [iV x, nV 0, .ref o]) rfl ?_
  refine xw_wo (w' := wO cJ o f ++ W9) (by rw [hw9]) ?_
  refine xw_i2l (pc := 8) C dL_times_8 ?_
  refine xw_last (pc := 9) (w' := wO cJ o (vp_updL f 0 (iI x).toInt64) ++ W9) C 0 1 rfl rfl rfl dL_times_9 ?_
  refine xw_goto (pc := 10) (tgt := 21) C dL_times_10 (by decide) ?_
  refine xw_iconst_N (pc := 21) C 0 dL_times_21 rfl ?_
  exact xw_iret (pc := 22) C rX (Nat.le_of_ble_eq_true rfl) (Nat.le_of_ble_eq_true rfl) dL_times_22 PD.i

set_option maxHeartbeats 4000000 in
set_option maxRecDepth 100000 in
theorem m_L_times_nIOB {l : Launch} {D : va_G} {cI cJ cD : ClassId} {h a n p b w wi ni : Nat} {A : Nat → Nat} {o : Nat} {f : Nat → Int64} {g : Nat → UInt64} (z1 : Int) (z2 : Int) (hM : CX l yX0_times wsX0_times (rmX 7 103) D vwCl [(cI, .int)] [.ref h, iV z1, iV z2] (wX cI h a n p b w wi ni A) nIOB 1 6) : CZ l yL_times wsL_times (rmX 8 126) D vwCl [(cI, .int), (cJ, .long)] [.ref h, iV z1, iV z2, .ref o] (wX cI h a n p b w wi ni A ++ wO cJ o f) (PD (some (nV 1)) (wO cJ o f ++ wX cI h a n p b w wi ni A)) 1 6 := by
  refine ct_ofH (by decide) rfl (Nat.le_of_ble_eq_true rfl) (fun φ C rX Zc Hh => ?_)
  refine xw_le (lv' := [(0, .ref h), (1, iV z1), (2, iV z2), (3, .ref o)]) rfl ?_
  refine xw_aload_n (pc := 0) C 3 dL_times_0 rfl ?_
  refine xw_iconst_N (pc := 1) C 0 dL_times_1 rfl ?_
  refine xw_aload_n (pc := 2) C 0 dL_times_2 rfl ?_
  refine xw_iload_n (pc := 3) C 1 dL_times_3 rfl ?_
  refine xw_iload_n (pc := 4) C 2 dL_times_4 rfl ?_
  refine xw_VX (pc := 5) (q0 := 0) (na := 2) (rest := [nV 0, .ref o]) (wc := wX cI h a n p b w wi ni A) (wr := wO cJ o f) C Zc Hh [0, 1] [2] [0] hM gL_times_X0_times rfl rfl rfl rfl (by decide +kernel) ⟨(Nat.le_of_ble_eq_true rfl), (Nat.le_of_ble_eq_true rfl)⟩ rfl rfl rfl ⟨rfl, rfl⟩ (by decide) rfl rfl rfl rfl (Nat.le_of_ble_eq_true rfl) dL_times_5 ⟨(Nat.le_of_ble_eq_true rfl), (Nat.le_of_ble_eq_true rfl)⟩ [] ⟨0, 10, 13, 29⟩ [⟨0, 10, 17, 13⟩] rfl (fun z hz => nomatch hz) (by decide) (by decide) (name := nIOB) (by decide +kernel) (xzc_k Zc (by decide +kernel)) (hpc := 13) rfl (fun q => ?_)
  refine xw_astore (pc := 13) (lv' := [(0, .ref h), (1, iV z1), (2, iV z2), (3, .ref o), (4, .ref q)]) C [1, 2, 3, 4, 0] dL_times_13 (by decide) rfl ?_
  refine xw_iconst_N (pc := 15) C 1 dL_times_15 rfl ?_
  exact xw_iret (pc := 16) C rX (Nat.le_of_ble_eq_true rfl) (Nat.le_of_ble_eq_true rfl) dL_times_16 PD.i

set_option maxHeartbeats 4000000 in
set_option maxRecDepth 100000 in
theorem m_L_times_nIAE {l : Launch} {D : va_G} {cI cJ cD : ClassId} {h a n p b w wi ni : Nat} {A : Nat → Nat} {o : Nat} {f : Nat → Int64} {g : Nat → UInt64} (z1 : Int) (z2 : Int) (hM : CX l yX0_times wsX0_times (rmX 7 103) D vwCl [(cI, .int)] [.ref h, iV z1, iV z2] (wX cI h a n p b w wi ni A) nIAE 1 6) : CZ l yL_times wsL_times (rmX 8 126) D vwCl [(cI, .int), (cJ, .long)] [.ref h, iV z1, iV z2, .ref o] (wX cI h a n p b w wi ni A ++ wO cJ o f) (PD (some (nV 2)) (wO cJ o f ++ wX cI h a n p b w wi ni A)) 1 6 := by
  refine ct_ofH (by decide) rfl (Nat.le_of_ble_eq_true rfl) (fun φ C rX Zc Hh => ?_)
  refine xw_le (lv' := [(0, .ref h), (1, iV z1), (2, iV z2), (3, .ref o)]) rfl ?_
  refine xw_aload_n (pc := 0) C 3 dL_times_0 rfl ?_
  refine xw_iconst_N (pc := 1) C 0 dL_times_1 rfl ?_
  refine xw_aload_n (pc := 2) C 0 dL_times_2 rfl ?_
  refine xw_iload_n (pc := 3) C 1 dL_times_3 rfl ?_
  refine xw_iload_n (pc := 4) C 2 dL_times_4 rfl ?_
  refine xw_VX (pc := 5) (q0 := 0) (na := 2) (rest := [nV 0, .ref o]) (wc := wX cI h a n p b w wi ni A) (wr := wO cJ o f) C Zc Hh [0, 1] [2] [0] hM gL_times_X0_times rfl rfl rfl rfl (by decide +kernel) ⟨(Nat.le_of_ble_eq_true rfl), (Nat.le_of_ble_eq_true rfl)⟩ rfl rfl rfl ⟨rfl, rfl⟩ (by decide) rfl rfl rfl rfl (Nat.le_of_ble_eq_true rfl) dL_times_5 ⟨(Nat.le_of_ble_eq_true rfl), (Nat.le_of_ble_eq_true rfl)⟩ [⟨0, 10, 13, 29⟩] ⟨0, 10, 17, 13⟩ [] rfl (fun z hz => by rcases List.mem_cons.mp hz with rfl | h9; exact ⟨by decide, nIOB, by decide +kernel, xzc_n Zc⟩; exact nomatch h9) (by decide) (by decide) (name := nIAE) (by decide +kernel) (xzc_k Zc (by decide +kernel)) (hpc := 17) rfl (fun q => ?_)
  refine xw_astore (pc := 17) (lv' := [(0, .ref h), (1, iV z1), (2, iV z2), (3, .ref o), (4, .ref q)]) C [1, 2, 3, 4, 0] dL_times_17 (by decide) rfl ?_
  refine xw_iconst_N (pc := 19) C 2 dL_times_19 rfl ?_
  exact xw_iret (pc := 20) C rX (Nat.le_of_ble_eq_true rfl) (Nat.le_of_ble_eq_true rfl) dL_times_20 PD.i

set_option maxHeartbeats 4000000 in
set_option maxRecDepth 100000 in
theorem m_L_at_ok {l : Launch} {D : va_G} {cI cJ cD : ClassId} {h a n p b w wi ni : Nat} {A : Nat → Nat} {o : Nat} {f : Nat → Int64} {g : Nat → UInt64} (z1 : Int) (z2 : Int) {W9 : va_W} (x : Int) (hM : CT l yX0_at wsX0_at (rmN 1 23) D vwCl [(cI, .int)] [.ref h, iV z1, iV z2] (wX cI h a n p b w wi ni A) (PD (some (iV x)) W9) 0 0) : CZ l yL_at wsL_at (rmX 8 125) D vwCl [(cI, .int), (cJ, .long)] [.ref h, iV z1, iV z2, .ref o] (wX cI h a n p b w wi ni A ++ wO cJ o f) (PD (some (nV 0)) (wO cJ o (vp_updL f 0 (iI x).toInt64) ++ W9)) 1 6 := by
  refine ct_ofH (by decide) rfl (Nat.le_of_ble_eq_true rfl) (fun φ C rX Zc Hh => ?_)
  refine xw_le (lv' := [(0, .ref h), (1, iV z1), (2, iV z2), (3, .ref o)]) rfl ?_
  refine xw_aload_n (pc := 0) C 3 dL_at_0 rfl ?_
  refine xw_iconst_N (pc := 1) C 0 dL_at_1 rfl ?_
  refine xw_aload_n (pc := 2) C 0 dL_at_2 rfl ?_
  refine xw_iload_n (pc := 3) C 1 dL_at_3 rfl ?_
  refine xw_iload_n (pc := 4) C 2 dL_at_4 rfl ?_
  refine xw_VF (pc := 5) (q0 := 0) (na := 2) (rest := [nV 0, .ref o]) (wc := wX cI h a n p b w wi ni A) (wr := wO cJ o f) C [0, 1] [2] [0] hM gL_at_X0_at rfl rfl rfl rfl (by decide +kernel) ⟨(Nat.le_of_ble_eq_true rfl), (Nat.le_of_ble_eq_true rfl)⟩ rfl rfl rfl ⟨rfl, rfl⟩ (by decide) rfl rfl rfl rfl (Nat.le_of_ble_eq_true rfl) dL_at_5 ⟨(Nat.le_of_ble_eq_true rfl), (Nat.le_of_ble_eq_true rfl)⟩ (fun v1 w1 hp1 => ?_)
  obtain ⟨rfl, hw9⟩ := hp1
  refine xw_st (st' := [iV x, nV 0, .ref o]) rfl ?_
  refine xw_wo (w' := wO cJ o f ++ W9) (by rw [hw9]) ?_
  refine xw_i2l (pc := 8) C dL_at_8 ?_
  refine xw_last (pc := 9) (w' := wO cJ o (vp_updL f 0 (iI x).toInt64) ++ W9) C 0 1 rfl rfl rfl dL_at_9 ?_
  refine xw_goto (pc := 10) (tgt := 17) C dL_at_10 (by decide) ?_
  refine xw_iconst_N (pc := 17) C 0 dL_at_17 rfl ?_
  exact xw_iret (pc := 18) C rX (Nat.le_of_ble_eq_true rfl) (Nat.le_of_ble_eq_true rfl) dL_at_18 PD.i

set_option maxHeartbeats 4000000 in
set_option maxRecDepth 100000 in
theorem m_L_at_nIOB {l : Launch} {D : va_G} {cI cJ cD : ClassId} {h a n p b w wi ni : Nat} {A : Nat → Nat} {o : Nat} {f : Nat → Int64} {g : Nat → UInt64} (z1 : Int) (z2 : Int) (hM : CX l yX0_at wsX0_at (rmX 7 103) D vwCl [(cI, .int)] [.ref h, iV z1, iV z2] (wX cI h a n p b w wi ni A) nIOB 1 6) : CZ l yL_at wsL_at (rmX 8 125) D vwCl [(cI, .int), (cJ, .long)] [.ref h, iV z1, iV z2, .ref o] (wX cI h a n p b w wi ni A ++ wO cJ o f) (PD (some (nV 1)) (wO cJ o f ++ wX cI h a n p b w wi ni A)) 1 6 := by
  refine ct_ofH (by decide) rfl (Nat.le_of_ble_eq_true rfl) (fun φ C rX Zc Hh => ?_)
  refine xw_le (lv' := [(0, .ref h), (1, iV z1), (2, iV z2), (3, .ref o)]) rfl ?_
  refine xw_aload_n (pc := 0) C 3 dL_at_0 rfl ?_
  refine xw_iconst_N (pc := 1) C 0 dL_at_1 rfl ?_
  refine xw_aload_n (pc := 2) C 0 dL_at_2 rfl ?_
  refine xw_iload_n (pc := 3) C 1 dL_at_3 rfl ?_
  refine xw_iload_n (pc := 4) C 2 dL_at_4 rfl ?_
  refine xw_VX (pc := 5) (q0 := 0) (na := 2) (rest := [nV 0, .ref o]) (wc := wX cI h a n p b w wi ni A) (wr := wO cJ o f) C Zc Hh [0, 1] [2] [0] hM gL_at_X0_at rfl rfl rfl rfl (by decide +kernel) ⟨(Nat.le_of_ble_eq_true rfl), (Nat.le_of_ble_eq_true rfl)⟩ rfl rfl rfl ⟨rfl, rfl⟩ (by decide) rfl rfl rfl rfl (Nat.le_of_ble_eq_true rfl) dL_at_5 ⟨(Nat.le_of_ble_eq_true rfl), (Nat.le_of_ble_eq_true rfl)⟩ [] ⟨0, 10, 13, 29⟩ [] rfl (fun z hz => nomatch hz) (by decide) (by decide) (name := nIOB) (by decide +kernel) (xzc_k Zc (by decide +kernel)) (hpc := 13) rfl (fun q => ?_)
  refine xw_astore (pc := 13) (lv' := [(0, .ref h), (1, iV z1), (2, iV z2), (3, .ref o), (4, .ref q)]) C [1, 2, 3, 4, 0] dL_at_13 (by decide) rfl ?_
  refine xw_iconst_N (pc := 15) C 1 dL_at_15 rfl ?_
  exact xw_iret (pc := 16) C rX (Nat.le_of_ble_eq_true rfl) (Nat.le_of_ble_eq_true rfl) dL_at_16 PD.i

set_option maxHeartbeats 4000000 in
set_option maxRecDepth 100000 in
theorem m_L_point_ok {l : Launch} {D : va_G} {cI cJ cD : ClassId} {h a n p b w wi ni : Nat} {A : Nat → Nat} {o : Nat} {f : Nat → Int64} {g : Nat → UInt64} (z1 : Int) (z2 : Int) {W9 : va_W} (x : Int) (hM : CT l yX0_point wsX0_point (rmN 3 67) D vwCl [(cI, .int)] [.ref h, iV z1, iV z2] (wX cI h a n p b w wi ni A) (PD (some (iV x)) W9) 0 0) : CZ l yL_point wsL_point (rmX 8 125) D vwCl [(cI, .int), (cJ, .long)] [.ref h, iV z1, iV z2, .ref o] (wX cI h a n p b w wi ni A ++ wO cJ o f) (PD (some (nV 0)) (wO cJ o (vp_updL f 0 (iI x).toInt64) ++ W9)) 1 6 := by
  refine ct_ofH (by decide) rfl (Nat.le_of_ble_eq_true rfl) (fun φ C rX Zc Hh => ?_)
  refine xw_le (lv' := [(0, .ref h), (1, iV z1), (2, iV z2), (3, .ref o)]) rfl ?_
  refine xw_aload_n (pc := 0) C 3 dL_point_0 rfl ?_
  refine xw_iconst_N (pc := 1) C 0 dL_point_1 rfl ?_
  refine xw_aload_n (pc := 2) C 0 dL_point_2 rfl ?_
  refine xw_iload_n (pc := 3) C 1 dL_point_3 rfl ?_
  refine xw_iload_n (pc := 4) C 2 dL_point_4 rfl ?_
  refine xw_VF (pc := 5) (q0 := 0) (na := 2) (rest := [nV 0, .ref o]) (wc := wX cI h a n p b w wi ni A) (wr := wO cJ o f) C [0, 1] [2] [0] hM gL_point_X0_point rfl rfl rfl rfl (by decide +kernel) ⟨(Nat.le_of_ble_eq_true rfl), (Nat.le_of_ble_eq_true rfl)⟩ rfl rfl rfl ⟨rfl, rfl⟩ (by decide) rfl rfl rfl rfl (Nat.le_of_ble_eq_true rfl) dL_point_5 ⟨(Nat.le_of_ble_eq_true rfl), (Nat.le_of_ble_eq_true rfl)⟩ (fun v1 w1 hp1 => ?_)
  obtain ⟨rfl, hw9⟩ := hp1
  refine xw_st (st' := [iV x, nV 0, .ref o]) rfl ?_
  refine xw_wo (w' := wO cJ o f ++ W9) (by rw [hw9]) ?_
  refine xw_i2l (pc := 8) C dL_point_8 ?_
  refine xw_last (pc := 9) (w' := wO cJ o (vp_updL f 0 (iI x).toInt64) ++ W9) C 0 1 rfl rfl rfl dL_point_9 ?_
  refine xw_goto (pc := 10) (tgt := 21) C dL_point_10 (by decide) ?_
  refine xw_iconst_N (pc := 21) C 0 dL_point_21 rfl ?_
  exact xw_iret (pc := 22) C rX (Nat.le_of_ble_eq_true rfl) (Nat.le_of_ble_eq_true rfl) dL_point_22 PD.i

set_option maxHeartbeats 4000000 in
set_option maxRecDepth 100000 in
theorem m_L_point_nIOB {l : Launch} {D : va_G} {cI cJ cD : ClassId} {h a n p b w wi ni : Nat} {A : Nat → Nat} {o : Nat} {f : Nat → Int64} {g : Nat → UInt64} (z1 : Int) (z2 : Int) (hM : CX l yX0_point wsX0_point (rmX 7 103) D vwCl [(cI, .int)] [.ref h, iV z1, iV z2] (wX cI h a n p b w wi ni A) nIOB 1 6) : CZ l yL_point wsL_point (rmX 8 125) D vwCl [(cI, .int), (cJ, .long)] [.ref h, iV z1, iV z2, .ref o] (wX cI h a n p b w wi ni A ++ wO cJ o f) (PD (some (nV 1)) (wO cJ o f ++ wX cI h a n p b w wi ni A)) 1 6 := by
  refine ct_ofH (by decide) rfl (Nat.le_of_ble_eq_true rfl) (fun φ C rX Zc Hh => ?_)
  refine xw_le (lv' := [(0, .ref h), (1, iV z1), (2, iV z2), (3, .ref o)]) rfl ?_
  refine xw_aload_n (pc := 0) C 3 dL_point_0 rfl ?_
  refine xw_iconst_N (pc := 1) C 0 dL_point_1 rfl ?_
  refine xw_aload_n (pc := 2) C 0 dL_point_2 rfl ?_
  refine xw_iload_n (pc := 3) C 1 dL_point_3 rfl ?_
  refine xw_iload_n (pc := 4) C 2 dL_point_4 rfl ?_
  refine xw_VX (pc := 5) (q0 := 0) (na := 2) (rest := [nV 0, .ref o]) (wc := wX cI h a n p b w wi ni A) (wr := wO cJ o f) C Zc Hh [0, 1] [2] [0] hM gL_point_X0_point rfl rfl rfl rfl (by decide +kernel) ⟨(Nat.le_of_ble_eq_true rfl), (Nat.le_of_ble_eq_true rfl)⟩ rfl rfl rfl ⟨rfl, rfl⟩ (by decide) rfl rfl rfl rfl (Nat.le_of_ble_eq_true rfl) dL_point_5 ⟨(Nat.le_of_ble_eq_true rfl), (Nat.le_of_ble_eq_true rfl)⟩ [] ⟨0, 10, 13, 29⟩ [⟨0, 10, 17, 13⟩] rfl (fun z hz => nomatch hz) (by decide) (by decide) (name := nIOB) (by decide +kernel) (xzc_k Zc (by decide +kernel)) (hpc := 13) rfl (fun q => ?_)
  refine xw_astore (pc := 13) (lv' := [(0, .ref h), (1, iV z1), (2, iV z2), (3, .ref o), (4, .ref q)]) C [1, 2, 3, 4, 0] dL_point_13 (by decide) rfl ?_
  refine xw_iconst_N (pc := 15) C 1 dL_point_15 rfl ?_
  exact xw_iret (pc := 16) C rX (Nat.le_of_ble_eq_true rfl) (Nat.le_of_ble_eq_true rfl) dL_point_16 PD.i

set_option maxHeartbeats 4000000 in
set_option maxRecDepth 100000 in
theorem m_L_point_nIAE {l : Launch} {D : va_G} {cI cJ cD : ClassId} {h a n p b w wi ni : Nat} {A : Nat → Nat} {o : Nat} {f : Nat → Int64} {g : Nat → UInt64} (z1 : Int) (z2 : Int) (hM : CX l yX0_point wsX0_point (rmX 7 103) D vwCl [(cI, .int)] [.ref h, iV z1, iV z2] (wX cI h a n p b w wi ni A) nIAE 1 6) : CZ l yL_point wsL_point (rmX 8 125) D vwCl [(cI, .int), (cJ, .long)] [.ref h, iV z1, iV z2, .ref o] (wX cI h a n p b w wi ni A ++ wO cJ o f) (PD (some (nV 2)) (wO cJ o f ++ wX cI h a n p b w wi ni A)) 1 6 := by
  refine ct_ofH (by decide) rfl (Nat.le_of_ble_eq_true rfl) (fun φ C rX Zc Hh => ?_)
  refine xw_le (lv' := [(0, .ref h), (1, iV z1), (2, iV z2), (3, .ref o)]) rfl ?_
  refine xw_aload_n (pc := 0) C 3 dL_point_0 rfl ?_
  refine xw_iconst_N (pc := 1) C 0 dL_point_1 rfl ?_
  refine xw_aload_n (pc := 2) C 0 dL_point_2 rfl ?_
  refine xw_iload_n (pc := 3) C 1 dL_point_3 rfl ?_
  refine xw_iload_n (pc := 4) C 2 dL_point_4 rfl ?_
  refine xw_VX (pc := 5) (q0 := 0) (na := 2) (rest := [nV 0, .ref o]) (wc := wX cI h a n p b w wi ni A) (wr := wO cJ o f) C Zc Hh [0, 1] [2] [0] hM gL_point_X0_point rfl rfl rfl rfl (by decide +kernel) ⟨(Nat.le_of_ble_eq_true rfl), (Nat.le_of_ble_eq_true rfl)⟩ rfl rfl rfl ⟨rfl, rfl⟩ (by decide) rfl rfl rfl rfl (Nat.le_of_ble_eq_true rfl) dL_point_5 ⟨(Nat.le_of_ble_eq_true rfl), (Nat.le_of_ble_eq_true rfl)⟩ [⟨0, 10, 13, 29⟩] ⟨0, 10, 17, 13⟩ [] rfl (fun z hz => by rcases List.mem_cons.mp hz with rfl | h9; exact ⟨by decide, nIOB, by decide +kernel, xzc_n Zc⟩; exact nomatch h9) (by decide) (by decide) (name := nIAE) (by decide +kernel) (xzc_k Zc (by decide +kernel)) (hpc := 17) rfl (fun q => ?_)
  refine xw_astore (pc := 17) (lv' := [(0, .ref h), (1, iV z1), (2, iV z2), (3, .ref o), (4, .ref q)]) C [1, 2, 3, 4, 0] dL_point_17 (by decide) rfl ?_
  refine xw_iconst_N (pc := 19) C 2 dL_point_19 rfl ?_
  exact xw_iret (pc := 20) C rX (Nat.le_of_ble_eq_true rfl) (Nat.le_of_ble_eq_true rfl) dL_point_20 PD.i

set_option maxHeartbeats 4000000 in
set_option maxRecDepth 100000 in
theorem m_L_about_ok {l : Launch} {D : va_G} {cI cJ cD : ClassId} {h a n p b w wi ni : Nat} {A : Nat → Nat} {o : Nat} {f : Nat → Int64} {g : Nat → UInt64} (z1 : Int) (z2 : Int) {W9 : va_W} (x : Int) (hM : CT l yX0_about wsX0_about (rmN 4 91) D vwCl [(cI, .int)] [.ref h, iV z1, iV z2] (wX cI h a n p b w wi ni A) (PD (some (iV x)) W9) 0 0) : CZ l yL_about wsL_about (rmX 8 125) D vwCl [(cI, .int), (cJ, .long)] [.ref h, iV z1, iV z2, .ref o] (wX cI h a n p b w wi ni A ++ wO cJ o f) (PD (some (nV 0)) (wO cJ o (vp_updL f 0 (iI x).toInt64) ++ W9)) 1 6 := by
  refine ct_ofH (by decide) rfl (Nat.le_of_ble_eq_true rfl) (fun φ C rX Zc Hh => ?_)
  refine xw_le (lv' := [(0, .ref h), (1, iV z1), (2, iV z2), (3, .ref o)]) rfl ?_
  refine xw_aload_n (pc := 0) C 3 dL_about_0 rfl ?_
  refine xw_iconst_N (pc := 1) C 0 dL_about_1 rfl ?_
  refine xw_aload_n (pc := 2) C 0 dL_about_2 rfl ?_
  refine xw_iload_n (pc := 3) C 1 dL_about_3 rfl ?_
  refine xw_iload_n (pc := 4) C 2 dL_about_4 rfl ?_
  refine xw_VF (pc := 5) (q0 := 0) (na := 2) (rest := [nV 0, .ref o]) (wc := wX cI h a n p b w wi ni A) (wr := wO cJ o f) C [0, 1] [2] [0] hM gL_about_X0_about rfl rfl rfl rfl (by decide +kernel) ⟨(Nat.le_of_ble_eq_true rfl), (Nat.le_of_ble_eq_true rfl)⟩ rfl rfl rfl ⟨rfl, rfl⟩ (by decide) rfl rfl rfl rfl (Nat.le_of_ble_eq_true rfl) dL_about_5 ⟨(Nat.le_of_ble_eq_true rfl), (Nat.le_of_ble_eq_true rfl)⟩ (fun v1 w1 hp1 => ?_)
  obtain ⟨rfl, hw9⟩ := hp1
  refine xw_st (st' := [iV x, nV 0, .ref o]) rfl ?_
  refine xw_wo (w' := wO cJ o f ++ W9) (by rw [hw9]) ?_
  refine xw_i2l (pc := 8) C dL_about_8 ?_
  refine xw_last (pc := 9) (w' := wO cJ o (vp_updL f 0 (iI x).toInt64) ++ W9) C 0 1 rfl rfl rfl dL_about_9 ?_
  refine xw_goto (pc := 10) (tgt := 17) C dL_about_10 (by decide) ?_
  refine xw_iconst_N (pc := 17) C 0 dL_about_17 rfl ?_
  exact xw_iret (pc := 18) C rX (Nat.le_of_ble_eq_true rfl) (Nat.le_of_ble_eq_true rfl) dL_about_18 PD.i

set_option maxHeartbeats 4000000 in
set_option maxRecDepth 100000 in
theorem m_L_about_nIOB {l : Launch} {D : va_G} {cI cJ cD : ClassId} {h a n p b w wi ni : Nat} {A : Nat → Nat} {o : Nat} {f : Nat → Int64} {g : Nat → UInt64} (z1 : Int) (z2 : Int) (hM : CX l yX0_about wsX0_about (rmX 7 103) D vwCl [(cI, .int)] [.ref h, iV z1, iV z2] (wX cI h a n p b w wi ni A) nIOB 1 6) : CZ l yL_about wsL_about (rmX 8 125) D vwCl [(cI, .int), (cJ, .long)] [.ref h, iV z1, iV z2, .ref o] (wX cI h a n p b w wi ni A ++ wO cJ o f) (PD (some (nV 1)) (wO cJ o f ++ wX cI h a n p b w wi ni A)) 1 6 := by
  refine ct_ofH (by decide) rfl (Nat.le_of_ble_eq_true rfl) (fun φ C rX Zc Hh => ?_)
  refine xw_le (lv' := [(0, .ref h), (1, iV z1), (2, iV z2), (3, .ref o)]) rfl ?_
  refine xw_aload_n (pc := 0) C 3 dL_about_0 rfl ?_
  refine xw_iconst_N (pc := 1) C 0 dL_about_1 rfl ?_
  refine xw_aload_n (pc := 2) C 0 dL_about_2 rfl ?_
  refine xw_iload_n (pc := 3) C 1 dL_about_3 rfl ?_
  refine xw_iload_n (pc := 4) C 2 dL_about_4 rfl ?_
  refine xw_VX (pc := 5) (q0 := 0) (na := 2) (rest := [nV 0, .ref o]) (wc := wX cI h a n p b w wi ni A) (wr := wO cJ o f) C Zc Hh [0, 1] [2] [0] hM gL_about_X0_about rfl rfl rfl rfl (by decide +kernel) ⟨(Nat.le_of_ble_eq_true rfl), (Nat.le_of_ble_eq_true rfl)⟩ rfl rfl rfl ⟨rfl, rfl⟩ (by decide) rfl rfl rfl rfl (Nat.le_of_ble_eq_true rfl) dL_about_5 ⟨(Nat.le_of_ble_eq_true rfl), (Nat.le_of_ble_eq_true rfl)⟩ [] ⟨0, 10, 13, 29⟩ [] rfl (fun z hz => nomatch hz) (by decide) (by decide) (name := nIOB) (by decide +kernel) (xzc_k Zc (by decide +kernel)) (hpc := 13) rfl (fun q => ?_)
  refine xw_astore (pc := 13) (lv' := [(0, .ref h), (1, iV z1), (2, iV z2), (3, .ref o), (4, .ref q)]) C [1, 2, 3, 4, 0] dL_about_13 (by decide) rfl ?_
  refine xw_iconst_N (pc := 15) C 1 dL_about_15 rfl ?_
  exact xw_iret (pc := 16) C rX (Nat.le_of_ble_eq_true rfl) (Nat.le_of_ble_eq_true rfl) dL_about_16 PD.i

set_option maxHeartbeats 4000000 in
set_option maxRecDepth 100000 in
theorem m_L_count_ok {l : Launch} {D : va_G} {cI cJ cD : ClassId} {h a n p b w wi ni : Nat} {A : Nat → Nat} {o : Nat} {f : Nat → Int64} {g : Nat → UInt64} (z1 : Int) {W9 : va_W} (x : Int) (hM : CT l yX0_count wsX0_count (rmN 1 21) D vwCl [(cI, .int)] [.ref h, iV z1] (wX cI h a n p b w wi ni A) (PD (some (iV x)) W9) 0 0) : CZ l yL_count wsL_count (rmX 7 103) D vwCl [(cI, .int), (cJ, .long)] [.ref h, iV z1, .ref o] (wX cI h a n p b w wi ni A ++ wO cJ o f) (PD (some (nV 0)) (wO cJ o (vp_updL f 0 (iI x).toInt64) ++ W9)) 1 6 := by
  refine ct_ofH (by decide) rfl (Nat.le_of_ble_eq_true rfl) (fun φ C rX Zc Hh => ?_)
  refine xw_le (lv' := [(0, .ref h), (1, iV z1), (2, .ref o)]) rfl ?_
  refine xw_aload_n (pc := 0) C 2 dL_count_0 rfl ?_
  refine xw_iconst_N (pc := 1) C 0 dL_count_1 rfl ?_
  refine xw_aload_n (pc := 2) C 0 dL_count_2 rfl ?_
  refine xw_iload_n (pc := 3) C 1 dL_count_3 rfl ?_
  refine xw_VF (pc := 4) (q0 := 0) (na := 1) (rest := [nV 0, .ref o]) (wc := wX cI h a n p b w wi ni A) (wr := wO cJ o f) C [0, 1] [2] [0] hM gL_count_X0_count rfl rfl rfl rfl (by decide +kernel) ⟨(Nat.le_of_ble_eq_true rfl), (Nat.le_of_ble_eq_true rfl)⟩ rfl rfl rfl ⟨rfl, rfl⟩ (by decide) rfl rfl rfl rfl (Nat.le_of_ble_eq_true rfl) dL_count_4 ⟨(Nat.le_of_ble_eq_true rfl), (Nat.le_of_ble_eq_true rfl)⟩ (fun v1 w1 hp1 => ?_)
  obtain ⟨rfl, hw9⟩ := hp1
  refine xw_st (st' := [iV x, nV 0, .ref o]) rfl ?_
  refine xw_wo (w' := wO cJ o f ++ W9) (by rw [hw9]) ?_
  refine xw_i2l (pc := 7) C dL_count_7 ?_
  refine xw_last (pc := 8) (w' := wO cJ o (vp_updL f 0 (iI x).toInt64) ++ W9) C 0 1 rfl rfl rfl dL_count_8 ?_
  refine xw_goto (pc := 9) (tgt := 15) C dL_count_9 (by decide) ?_
  refine xw_iconst_N (pc := 15) C 0 dL_count_15 rfl ?_
  exact xw_iret (pc := 16) C rX (Nat.le_of_ble_eq_true rfl) (Nat.le_of_ble_eq_true rfl) dL_count_16 PD.i

set_option maxHeartbeats 4000000 in
set_option maxRecDepth 100000 in
theorem m_L_count_nIOB {l : Launch} {D : va_G} {cI cJ cD : ClassId} {h a n p b w wi ni : Nat} {A : Nat → Nat} {o : Nat} {f : Nat → Int64} {g : Nat → UInt64} (z1 : Int) (hM : CX l yX0_count wsX0_count (rmX 6 82) D vwCl [(cI, .int)] [.ref h, iV z1] (wX cI h a n p b w wi ni A) nIOB 1 6) : CZ l yL_count wsL_count (rmX 7 103) D vwCl [(cI, .int), (cJ, .long)] [.ref h, iV z1, .ref o] (wX cI h a n p b w wi ni A ++ wO cJ o f) (PD (some (nV 1)) (wO cJ o f ++ wX cI h a n p b w wi ni A)) 1 6 := by
  refine ct_ofH (by decide) rfl (Nat.le_of_ble_eq_true rfl) (fun φ C rX Zc Hh => ?_)
  refine xw_le (lv' := [(0, .ref h), (1, iV z1), (2, .ref o)]) rfl ?_
  refine xw_aload_n (pc := 0) C 2 dL_count_0 rfl ?_
  refine xw_iconst_N (pc := 1) C 0 dL_count_1 rfl ?_
  refine xw_aload_n (pc := 2) C 0 dL_count_2 rfl ?_
  refine xw_iload_n (pc := 3) C 1 dL_count_3 rfl ?_
  refine xw_VX (pc := 4) (q0 := 0) (na := 1) (rest := [nV 0, .ref o]) (wc := wX cI h a n p b w wi ni A) (wr := wO cJ o f) C Zc Hh [0, 1] [2] [0] hM gL_count_X0_count rfl rfl rfl rfl (by decide +kernel) ⟨(Nat.le_of_ble_eq_true rfl), (Nat.le_of_ble_eq_true rfl)⟩ rfl rfl rfl ⟨rfl, rfl⟩ (by decide) rfl rfl rfl rfl (Nat.le_of_ble_eq_true rfl) dL_count_4 ⟨(Nat.le_of_ble_eq_true rfl), (Nat.le_of_ble_eq_true rfl)⟩ [] ⟨0, 9, 12, 29⟩ [] rfl (fun z hz => nomatch hz) (by decide) (by decide) (name := nIOB) (by decide +kernel) (xzc_k Zc (by decide +kernel)) (hpc := 12) rfl (fun q => ?_)
  refine xw_astore_n (pc := 12) (lv' := [(0, .ref h), (1, iV z1), (2, .ref o), (3, .ref q)]) C [1, 2, 3, 0] dL_count_12 rfl (by decide) rfl ?_
  refine xw_iconst_N (pc := 13) C 1 dL_count_13 rfl ?_
  exact xw_iret (pc := 14) C rX (Nat.le_of_ble_eq_true rfl) (Nat.le_of_ble_eq_true rfl) dL_count_14 PD.i

set_option maxHeartbeats 4000000 in
set_option maxRecDepth 100000 in
theorem m_L_root_ok {l : Launch} {D : va_G} {cI cJ cD : ClassId} {h a n p b w wi ni : Nat} {A : Nat → Nat} {o : Nat} {f : Nat → Int64} {g : Nat → UInt64} (z1 : Int) {W9 : va_W} (x : Int) (hM : CT l yX0_root wsX0_root (rmN 3 68) D vwCl [(cI, .int)] [.ref h, iV z1] (wX cI h a n p b w wi ni A) (PD (some (iV x)) W9) 0 0) : CZ l yL_root wsL_root (rmX 7 103) D vwCl [(cI, .int), (cJ, .long)] [.ref h, iV z1, .ref o] (wX cI h a n p b w wi ni A ++ wO cJ o f) (PD (some (nV 0)) (wO cJ o (vp_updL f 0 (iI x).toInt64) ++ W9)) 1 6 := by
  refine ct_ofH (by decide) rfl (Nat.le_of_ble_eq_true rfl) (fun φ C rX Zc Hh => ?_)
  refine xw_le (lv' := [(0, .ref h), (1, iV z1), (2, .ref o)]) rfl ?_
  refine xw_aload_n (pc := 0) C 2 dL_root_0 rfl ?_
  refine xw_iconst_N (pc := 1) C 0 dL_root_1 rfl ?_
  refine xw_aload_n (pc := 2) C 0 dL_root_2 rfl ?_
  refine xw_iload_n (pc := 3) C 1 dL_root_3 rfl ?_
  refine xw_VF (pc := 4) (q0 := 0) (na := 1) (rest := [nV 0, .ref o]) (wc := wX cI h a n p b w wi ni A) (wr := wO cJ o f) C [0, 1] [2] [0] hM gL_root_X0_root rfl rfl rfl rfl (by decide +kernel) ⟨(Nat.le_of_ble_eq_true rfl), (Nat.le_of_ble_eq_true rfl)⟩ rfl rfl rfl ⟨rfl, rfl⟩ (by decide) rfl rfl rfl rfl (Nat.le_of_ble_eq_true rfl) dL_root_4 ⟨(Nat.le_of_ble_eq_true rfl), (Nat.le_of_ble_eq_true rfl)⟩ (fun v1 w1 hp1 => ?_)
  obtain ⟨rfl, hw9⟩ := hp1
  refine xw_st (st' := [iV x, nV 0, .ref o]) rfl ?_
  refine xw_wo (w' := wO cJ o f ++ W9) (by rw [hw9]) ?_
  refine xw_i2l (pc := 7) C dL_root_7 ?_
  refine xw_last (pc := 8) (w' := wO cJ o (vp_updL f 0 (iI x).toInt64) ++ W9) C 0 1 rfl rfl rfl dL_root_8 ?_
  refine xw_goto (pc := 9) (tgt := 15) C dL_root_9 (by decide) ?_
  refine xw_iconst_N (pc := 15) C 0 dL_root_15 rfl ?_
  exact xw_iret (pc := 16) C rX (Nat.le_of_ble_eq_true rfl) (Nat.le_of_ble_eq_true rfl) dL_root_16 PD.i

set_option maxHeartbeats 4000000 in
set_option maxRecDepth 100000 in
theorem m_L_root_nIAE {l : Launch} {D : va_G} {cI cJ cD : ClassId} {h a n p b w wi ni : Nat} {A : Nat → Nat} {o : Nat} {f : Nat → Int64} {g : Nat → UInt64} (z1 : Int) (hM : CX l yX0_root wsX0_root (rmX 6 82) D vwCl [(cI, .int)] [.ref h, iV z1] (wX cI h a n p b w wi ni A) nIAE 1 6) : CZ l yL_root wsL_root (rmX 7 103) D vwCl [(cI, .int), (cJ, .long)] [.ref h, iV z1, .ref o] (wX cI h a n p b w wi ni A ++ wO cJ o f) (PD (some (nV 1)) (wO cJ o f ++ wX cI h a n p b w wi ni A)) 1 6 := by
  refine ct_ofH (by decide) rfl (Nat.le_of_ble_eq_true rfl) (fun φ C rX Zc Hh => ?_)
  refine xw_le (lv' := [(0, .ref h), (1, iV z1), (2, .ref o)]) rfl ?_
  refine xw_aload_n (pc := 0) C 2 dL_root_0 rfl ?_
  refine xw_iconst_N (pc := 1) C 0 dL_root_1 rfl ?_
  refine xw_aload_n (pc := 2) C 0 dL_root_2 rfl ?_
  refine xw_iload_n (pc := 3) C 1 dL_root_3 rfl ?_
  refine xw_VX (pc := 4) (q0 := 0) (na := 1) (rest := [nV 0, .ref o]) (wc := wX cI h a n p b w wi ni A) (wr := wO cJ o f) C Zc Hh [0, 1] [2] [0] hM gL_root_X0_root rfl rfl rfl rfl (by decide +kernel) ⟨(Nat.le_of_ble_eq_true rfl), (Nat.le_of_ble_eq_true rfl)⟩ rfl rfl rfl ⟨rfl, rfl⟩ (by decide) rfl rfl rfl rfl (Nat.le_of_ble_eq_true rfl) dL_root_4 ⟨(Nat.le_of_ble_eq_true rfl), (Nat.le_of_ble_eq_true rfl)⟩ [] ⟨0, 9, 12, 13⟩ [] rfl (fun z hz => nomatch hz) (by decide) (by decide) (name := nIAE) (by decide +kernel) (xzc_k Zc (by decide +kernel)) (hpc := 12) rfl (fun q => ?_)
  refine xw_astore_n (pc := 12) (lv' := [(0, .ref h), (1, iV z1), (2, .ref o), (3, .ref q)]) C [1, 2, 3, 0] dL_root_12 rfl (by decide) rfl ?_
  refine xw_iconst_N (pc := 13) C 1 dL_root_13 rfl ?_
  exact xw_iret (pc := 14) C rX (Nat.le_of_ble_eq_true rfl) (Nat.le_of_ble_eq_true rfl) dL_root_14 PD.i

set_option maxHeartbeats 4000000 in
set_option maxRecDepth 100000 in
theorem m_L_would_ok {l : Launch} {D : va_G} {cI cJ cD : ClassId} {h a n p b w wi ni : Nat} {A : Nat → Nat} {o : Nat} {f : Nat → Int64} {g : Nat → UInt64} (z1 : Int) (z2 : Int) (z3 : Int) {W9 : va_W} (x : Int) (hM : CT l yX0_would wsX0_would (rmN 3 68) D vwCl [(cI, .int)] [.ref h, iV z1, iV z2, iV z3] (wX cI h a n p b w wi ni A) (PD (some (iV x)) W9) 0 0) : CZ l yL_would wsL_would (rmX 8 126) D vwCl [(cI, .int), (cJ, .long)] [.ref h, iV z1, iV z2, iV z3, .ref o] (wX cI h a n p b w wi ni A ++ wO cJ o f) (PD (some (nV 0)) (wO cJ o (vp_updL f 0 (iI x).toInt64) ++ W9)) 1 6 := by
  refine ct_ofH (by decide) rfl (Nat.le_of_ble_eq_true rfl) (fun φ C rX Zc Hh => ?_)
  refine xw_le (lv' := [(0, .ref h), (1, iV z1), (2, iV z2), (3, iV z3), (4, .ref o)]) rfl ?_
  refine xw_aload (pc := 0) C 4 dL_would_0 rfl ?_
  refine xw_iconst_N (pc := 2) C 0 dL_would_2 rfl ?_
  refine xw_aload_n (pc := 3) C 0 dL_would_3 rfl ?_
  refine xw_iload_n (pc := 4) C 1 dL_would_4 rfl ?_
  refine xw_iload_n (pc := 5) C 2 dL_would_5 rfl ?_
  refine xw_iload_n (pc := 6) C 3 dL_would_6 rfl ?_
  refine xw_VF (pc := 7) (q0 := 0) (na := 3) (rest := [nV 0, .ref o]) (wc := wX cI h a n p b w wi ni A) (wr := wO cJ o f) C [0, 1] [2] [0] hM gL_would_X0_would rfl rfl rfl rfl (by decide +kernel) ⟨(Nat.le_of_ble_eq_true rfl), (Nat.le_of_ble_eq_true rfl)⟩ rfl rfl rfl ⟨rfl, rfl⟩ (by decide) rfl rfl rfl rfl (Nat.le_of_ble_eq_true rfl) dL_would_7 ⟨(Nat.le_of_ble_eq_true rfl), (Nat.le_of_ble_eq_true rfl)⟩ (fun v1 w1 hp1 => ?_)
  obtain ⟨rfl, hw9⟩ := hp1
  refine xw_st (st' := [iV x, nV 0, .ref o]) rfl ?_
  refine xw_wo (w' := wO cJ o f ++ W9) (by rw [hw9]) ?_
  refine xw_i2l (pc := 10) C dL_would_10 ?_
  refine xw_last (pc := 11) (w' := wO cJ o (vp_updL f 0 (iI x).toInt64) ++ W9) C 0 1 rfl rfl rfl dL_would_11 ?_
  refine xw_goto (pc := 12) (tgt := 19) C dL_would_12 (by decide) ?_
  refine xw_iconst_N (pc := 19) C 0 dL_would_19 rfl ?_
  exact xw_iret (pc := 20) C rX (Nat.le_of_ble_eq_true rfl) (Nat.le_of_ble_eq_true rfl) dL_would_20 PD.i

set_option maxHeartbeats 4000000 in
set_option maxRecDepth 100000 in
theorem m_L_would_nIOB {l : Launch} {D : va_G} {cI cJ cD : ClassId} {h a n p b w wi ni : Nat} {A : Nat → Nat} {o : Nat} {f : Nat → Int64} {g : Nat → UInt64} (z1 : Int) (z2 : Int) (z3 : Int) (hM : CX l yX0_would wsX0_would (rmX 7 103) D vwCl [(cI, .int)] [.ref h, iV z1, iV z2, iV z3] (wX cI h a n p b w wi ni A) nIOB 1 6) : CZ l yL_would wsL_would (rmX 8 126) D vwCl [(cI, .int), (cJ, .long)] [.ref h, iV z1, iV z2, iV z3, .ref o] (wX cI h a n p b w wi ni A ++ wO cJ o f) (PD (some (nV 1)) (wO cJ o f ++ wX cI h a n p b w wi ni A)) 1 6 := by
  refine ct_ofH (by decide) rfl (Nat.le_of_ble_eq_true rfl) (fun φ C rX Zc Hh => ?_)
  refine xw_le (lv' := [(0, .ref h), (1, iV z1), (2, iV z2), (3, iV z3), (4, .ref o)]) rfl ?_
  refine xw_aload (pc := 0) C 4 dL_would_0 rfl ?_
  refine xw_iconst_N (pc := 2) C 0 dL_would_2 rfl ?_
  refine xw_aload_n (pc := 3) C 0 dL_would_3 rfl ?_
  refine xw_iload_n (pc := 4) C 1 dL_would_4 rfl ?_
  refine xw_iload_n (pc := 5) C 2 dL_would_5 rfl ?_
  refine xw_iload_n (pc := 6) C 3 dL_would_6 rfl ?_
  refine xw_VX (pc := 7) (q0 := 0) (na := 3) (rest := [nV 0, .ref o]) (wc := wX cI h a n p b w wi ni A) (wr := wO cJ o f) C Zc Hh [0, 1] [2] [0] hM gL_would_X0_would rfl rfl rfl rfl (by decide +kernel) ⟨(Nat.le_of_ble_eq_true rfl), (Nat.le_of_ble_eq_true rfl)⟩ rfl rfl rfl ⟨rfl, rfl⟩ (by decide) rfl rfl rfl rfl (Nat.le_of_ble_eq_true rfl) dL_would_7 ⟨(Nat.le_of_ble_eq_true rfl), (Nat.le_of_ble_eq_true rfl)⟩ [] ⟨0, 12, 15, 29⟩ [] rfl (fun z hz => nomatch hz) (by decide) (by decide) (name := nIOB) (by decide +kernel) (xzc_k Zc (by decide +kernel)) (hpc := 15) rfl (fun q => ?_)
  refine xw_astore (pc := 15) (lv' := [(0, .ref h), (1, iV z1), (2, iV z2), (3, iV z3), (4, .ref o), (5, .ref q)]) C [1, 2, 3, 4, 5, 0] dL_would_15 (by decide) rfl ?_
  refine xw_iconst_N (pc := 17) C 1 dL_would_17 rfl ?_
  exact xw_iret (pc := 18) C rX (Nat.le_of_ble_eq_true rfl) (Nat.le_of_ble_eq_true rfl) dL_would_18 PD.i

set_option maxHeartbeats 4000000 in
set_option maxRecDepth 100000 in
theorem m_L_comes_ok {l : Launch} {D : va_G} {cI cJ cD : ClassId} {h a n p b w wi ni : Nat} {A : Nat → Nat} {o : Nat} {f : Nat → Int64} {g : Nat → UInt64} (z1 : Int) (z2 : Int) {W9 : va_W} (x : Int) (hM : CT l yX0_comes wsX0_comes (rmN 2 47) D vwCl [(cI, .int)] [.ref h, iV z1, iV z2] (wX cI h a n p b w wi ni A) (PD (some (iV x)) W9) 0 0) : CZ l yL_comes wsL_comes (rmX 8 126) D vwCl [(cI, .int), (cJ, .long)] [.ref h, iV z1, iV z2, .ref o] (wX cI h a n p b w wi ni A ++ wO cJ o f) (PD (some (nV 0)) (wO cJ o (vp_updL f 0 (iI x).toInt64) ++ W9)) 1 6 := by
  refine ct_ofH (by decide) rfl (Nat.le_of_ble_eq_true rfl) (fun φ C rX Zc Hh => ?_)
  refine xw_le (lv' := [(0, .ref h), (1, iV z1), (2, iV z2), (3, .ref o)]) rfl ?_
  refine xw_aload_n (pc := 0) C 3 dL_comes_0 rfl ?_
  refine xw_iconst_N (pc := 1) C 0 dL_comes_1 rfl ?_
  refine xw_aload_n (pc := 2) C 0 dL_comes_2 rfl ?_
  refine xw_iload_n (pc := 3) C 1 dL_comes_3 rfl ?_
  refine xw_iload_n (pc := 4) C 2 dL_comes_4 rfl ?_
  refine xw_VF (pc := 5) (q0 := 0) (na := 2) (rest := [nV 0, .ref o]) (wc := wX cI h a n p b w wi ni A) (wr := wO cJ o f) C [0, 1] [2] [0] hM gL_comes_X0_comes rfl rfl rfl rfl (by decide +kernel) ⟨(Nat.le_of_ble_eq_true rfl), (Nat.le_of_ble_eq_true rfl)⟩ rfl rfl rfl ⟨rfl, rfl⟩ (by decide) rfl rfl rfl rfl (Nat.le_of_ble_eq_true rfl) dL_comes_5 ⟨(Nat.le_of_ble_eq_true rfl), (Nat.le_of_ble_eq_true rfl)⟩ (fun v1 w1 hp1 => ?_)
  obtain ⟨rfl, hw9⟩ := hp1
  refine xw_st (st' := [iV x, nV 0, .ref o]) rfl ?_
  refine xw_wo (w' := wO cJ o f ++ W9) (by rw [hw9]) ?_
  refine xw_i2l (pc := 8) C dL_comes_8 ?_
  refine xw_last (pc := 9) (w' := wO cJ o (vp_updL f 0 (iI x).toInt64) ++ W9) C 0 1 rfl rfl rfl dL_comes_9 ?_
  refine xw_goto (pc := 10) (tgt := 17) C dL_comes_10 (by decide) ?_
  refine xw_iconst_N (pc := 17) C 0 dL_comes_17 rfl ?_
  exact xw_iret (pc := 18) C rX (Nat.le_of_ble_eq_true rfl) (Nat.le_of_ble_eq_true rfl) dL_comes_18 PD.i

set_option maxHeartbeats 4000000 in
set_option maxRecDepth 100000 in
theorem m_L_comes_nIOB {l : Launch} {D : va_G} {cI cJ cD : ClassId} {h a n p b w wi ni : Nat} {A : Nat → Nat} {o : Nat} {f : Nat → Int64} {g : Nat → UInt64} (z1 : Int) (z2 : Int) (hM : CX l yX0_comes wsX0_comes (rmX 7 103) D vwCl [(cI, .int)] [.ref h, iV z1, iV z2] (wX cI h a n p b w wi ni A) nIOB 1 6) : CZ l yL_comes wsL_comes (rmX 8 126) D vwCl [(cI, .int), (cJ, .long)] [.ref h, iV z1, iV z2, .ref o] (wX cI h a n p b w wi ni A ++ wO cJ o f) (PD (some (nV 1)) (wO cJ o f ++ wX cI h a n p b w wi ni A)) 1 6 := by
  refine ct_ofH (by decide) rfl (Nat.le_of_ble_eq_true rfl) (fun φ C rX Zc Hh => ?_)
  refine xw_le (lv' := [(0, .ref h), (1, iV z1), (2, iV z2), (3, .ref o)]) rfl ?_
  refine xw_aload_n (pc := 0) C 3 dL_comes_0 rfl ?_
  refine xw_iconst_N (pc := 1) C 0 dL_comes_1 rfl ?_
  refine xw_aload_n (pc := 2) C 0 dL_comes_2 rfl ?_
  refine xw_iload_n (pc := 3) C 1 dL_comes_3 rfl ?_
  refine xw_iload_n (pc := 4) C 2 dL_comes_4 rfl ?_
  refine xw_VX (pc := 5) (q0 := 0) (na := 2) (rest := [nV 0, .ref o]) (wc := wX cI h a n p b w wi ni A) (wr := wO cJ o f) C Zc Hh [0, 1] [2] [0] hM gL_comes_X0_comes rfl rfl rfl rfl (by decide +kernel) ⟨(Nat.le_of_ble_eq_true rfl), (Nat.le_of_ble_eq_true rfl)⟩ rfl rfl rfl ⟨rfl, rfl⟩ (by decide) rfl rfl rfl rfl (Nat.le_of_ble_eq_true rfl) dL_comes_5 ⟨(Nat.le_of_ble_eq_true rfl), (Nat.le_of_ble_eq_true rfl)⟩ [] ⟨0, 10, 13, 29⟩ [] rfl (fun z hz => nomatch hz) (by decide) (by decide) (name := nIOB) (by decide +kernel) (xzc_k Zc (by decide +kernel)) (hpc := 13) rfl (fun q => ?_)
  refine xw_astore (pc := 13) (lv' := [(0, .ref h), (1, iV z1), (2, iV z2), (3, .ref o), (4, .ref q)]) C [1, 2, 3, 4, 0] dL_comes_13 (by decide) rfl ?_
  refine xw_iconst_N (pc := 15) C 1 dL_comes_15 rfl ?_
  exact xw_iret (pc := 16) C rX (Nat.le_of_ble_eq_true rfl) (Nat.le_of_ble_eq_true rfl) dL_comes_16 PD.i

set_option maxHeartbeats 4000000 in
set_option maxRecDepth 100000 in
theorem m_L_advise_ok {l : Launch} {D : va_G} {cI cJ cD : ClassId} {h a n p b w wi ni : Nat} {A : Nat → Nat} {o : Nat} {f : Nat → Int64} {g : Nat → UInt64} (z1 : Int) (z2 : Int) {W9 : va_W} (x : Int) (hM : CT l yX0_advise wsX0_advise (rmN 3 68) D vwCl [(cI, .int)] [.ref h, iV z1, iV z2] (wX cI h a n p b w wi ni A) (PD (some (iV x)) W9) 0 0) : CZ l yL_advise wsL_advise (rmX 8 129) D vwCl [(cI, .int), (cJ, .long)] [.ref h, iV z1, iV z2, .ref o] (wX cI h a n p b w wi ni A ++ wO cJ o f) (PD (some (nV 0)) (wO cJ o (vp_updL f 0 (iI x).toInt64) ++ W9)) 1 6 := by
  refine ct_ofH (by decide) rfl (Nat.le_of_ble_eq_true rfl) (fun φ C rX Zc Hh => ?_)
  refine xw_le (lv' := [(0, .ref h), (1, iV z1), (2, iV z2), (3, .ref o)]) rfl ?_
  refine xw_aload_n (pc := 0) C 3 dL_advise_0 rfl ?_
  refine xw_iconst_N (pc := 1) C 0 dL_advise_1 rfl ?_
  refine xw_aload_n (pc := 2) C 0 dL_advise_2 rfl ?_
  refine xw_iload_n (pc := 3) C 1 dL_advise_3 rfl ?_
  refine xw_iload_n (pc := 4) C 2 dL_advise_4 rfl ?_
  refine xw_VF (pc := 5) (q0 := 0) (na := 2) (rest := [nV 0, .ref o]) (wc := wX cI h a n p b w wi ni A) (wr := wO cJ o f) C [0, 1] [2] [0] hM gL_advise_X0_advise rfl rfl rfl rfl (by decide +kernel) ⟨(Nat.le_of_ble_eq_true rfl), (Nat.le_of_ble_eq_true rfl)⟩ rfl rfl rfl ⟨rfl, rfl⟩ (by decide) rfl rfl rfl rfl (Nat.le_of_ble_eq_true rfl) dL_advise_5 ⟨(Nat.le_of_ble_eq_true rfl), (Nat.le_of_ble_eq_true rfl)⟩ (fun v1 w1 hp1 => ?_)
  obtain ⟨rfl, hw9⟩ := hp1
  refine xw_st (st' := [iV x, nV 0, .ref o]) rfl ?_
  refine xw_wo (w' := wO cJ o f ++ W9) (by rw [hw9]) ?_
  refine xw_i2l (pc := 8) C dL_advise_8 ?_
  refine xw_last (pc := 9) (w' := wO cJ o (vp_updL f 0 (iI x).toInt64) ++ W9) C 0 1 rfl rfl rfl dL_advise_9 ?_
  refine xw_goto (pc := 10) (tgt := 17) C dL_advise_10 (by decide) ?_
  refine xw_iconst_N (pc := 17) C 0 dL_advise_17 rfl ?_
  exact xw_iret (pc := 18) C rX (Nat.le_of_ble_eq_true rfl) (Nat.le_of_ble_eq_true rfl) dL_advise_18 PD.i

set_option maxHeartbeats 4000000 in
set_option maxRecDepth 100000 in
theorem m_L_advise_nIOB {l : Launch} {D : va_G} {cI cJ cD : ClassId} {h a n p b w wi ni : Nat} {A : Nat → Nat} {o : Nat} {f : Nat → Int64} {g : Nat → UInt64} (z1 : Int) (z2 : Int) (hM : CX l yX0_advise wsX0_advise (rmX 7 103) D vwCl [(cI, .int)] [.ref h, iV z1, iV z2] (wX cI h a n p b w wi ni A) nIOB 1 6) : CZ l yL_advise wsL_advise (rmX 8 129) D vwCl [(cI, .int), (cJ, .long)] [.ref h, iV z1, iV z2, .ref o] (wX cI h a n p b w wi ni A ++ wO cJ o f) (PD (some (nV 1)) (wO cJ o f ++ wX cI h a n p b w wi ni A)) 1 6 := by
  refine ct_ofH (by decide) rfl (Nat.le_of_ble_eq_true rfl) (fun φ C rX Zc Hh => ?_)
  refine xw_le (lv' := [(0, .ref h), (1, iV z1), (2, iV z2), (3, .ref o)]) rfl ?_
  refine xw_aload_n (pc := 0) C 3 dL_advise_0 rfl ?_
  refine xw_iconst_N (pc := 1) C 0 dL_advise_1 rfl ?_
  refine xw_aload_n (pc := 2) C 0 dL_advise_2 rfl ?_
  refine xw_iload_n (pc := 3) C 1 dL_advise_3 rfl ?_
  refine xw_iload_n (pc := 4) C 2 dL_advise_4 rfl ?_
  refine xw_VX (pc := 5) (q0 := 0) (na := 2) (rest := [nV 0, .ref o]) (wc := wX cI h a n p b w wi ni A) (wr := wO cJ o f) C Zc Hh [0, 1] [2] [0] hM gL_advise_X0_advise rfl rfl rfl rfl (by decide +kernel) ⟨(Nat.le_of_ble_eq_true rfl), (Nat.le_of_ble_eq_true rfl)⟩ rfl rfl rfl ⟨rfl, rfl⟩ (by decide) rfl rfl rfl rfl (Nat.le_of_ble_eq_true rfl) dL_advise_5 ⟨(Nat.le_of_ble_eq_true rfl), (Nat.le_of_ble_eq_true rfl)⟩ [] ⟨0, 10, 13, 29⟩ [] rfl (fun z hz => nomatch hz) (by decide) (by decide) (name := nIOB) (by decide +kernel) (xzc_k Zc (by decide +kernel)) (hpc := 13) rfl (fun q => ?_)
  refine xw_astore (pc := 13) (lv' := [(0, .ref h), (1, iV z1), (2, iV z2), (3, .ref o), (4, .ref q)]) C [1, 2, 3, 4, 0] dL_advise_13 (by decide) rfl ?_
  refine xw_iconst_N (pc := 15) C 1 dL_advise_15 rfl ?_
  exact xw_iret (pc := 16) C rX (Nat.le_of_ble_eq_true rfl) (Nat.le_of_ble_eq_true rfl) dL_advise_16 PD.i

set_option maxHeartbeats 4000000 in
set_option maxRecDepth 100000 in
theorem m_L_tones_ok {l : Launch} {D : va_G} {cI cJ cD : ClassId} {h a n p b w wi ni : Nat} {A : Nat → Nat} {o : Nat} {f : Nat → Int64} {g : Nat → UInt64} (z1 : Int) (z2 : Int) {W9 : va_W} (t : Bool) (hM : CT l yX0_tones wsX0_tones (rmN 5 113) D vwCl [(cI, .int)] [.ref h, iV z1, iV z2] (wX cI h a n p b w wi ni A) (PD (some (bV t)) W9) 0 0) : CZ l yL_tones wsL_tones (rmX 8 135) D vwCl [(cI, .int), (cJ, .long)] [.ref h, iV z1, iV z2, .ref o] (wX cI h a n p b w wi ni A ++ wO cJ o f) (PD (some (nV 0)) (wO cJ o (vp_updL f 0 (if t = true then 1 else 0)) ++ W9)) 1 6 := by
  refine ct_ofH (by decide) rfl (Nat.le_of_ble_eq_true rfl) (fun φ C rX Zc Hh => ?_)
  refine xw_le (lv' := [(0, .ref h), (1, iV z1), (2, iV z2), (3, .ref o)]) rfl ?_
  refine xw_aload_n (pc := 0) C 3 dL_tones_0 rfl ?_
  refine xw_iconst_N (pc := 1) C 0 dL_tones_1 rfl ?_
  refine xw_aload_n (pc := 2) C 0 dL_tones_2 rfl ?_
  refine xw_iload_n (pc := 3) C 1 dL_tones_3 rfl ?_
  refine xw_iload_n (pc := 4) C 2 dL_tones_4 rfl ?_
  refine xw_VF (pc := 5) (q0 := 0) (na := 2) (rest := [nV 0, .ref o]) (wc := wX cI h a n p b w wi ni A) (wr := wO cJ o f) C [0, 1] [2] [0] hM gL_tones_X0_tones rfl rfl rfl rfl (by decide +kernel) ⟨(Nat.le_of_ble_eq_true rfl), (Nat.le_of_ble_eq_true rfl)⟩ rfl rfl rfl ⟨rfl, rfl⟩ (by decide) rfl rfl rfl rfl (Nat.le_of_ble_eq_true rfl) dL_tones_5 ⟨(Nat.le_of_ble_eq_true rfl), (Nat.le_of_ble_eq_true rfl)⟩ (fun v1 w1 hp1 => ?_)
  obtain ⟨rfl, hw9⟩ := hp1
  refine xw_st (st' := [bV t, nV 0, .ref o]) rfl ?_
  refine xw_wo (w' := wO cJ o f ++ W9) (by rw [hw9]) ?_
  refine xw_if_eq_B (pc := 8) (tgt := 15) C dL_tones_8 (by decide) (fun c1 => ?_) (fun c1 => ?_)
  · refine xw_lconst (pc := 15) (v := 0) C dL_tones_15 rfl ?_
    refine xw_last (pc := 16) (w' := wO cJ o (vp_updL f 0 0) ++ W9) C 0 1 rfl rfl rfl dL_tones_16 ?_
    refine xw_goto (pc := 17) (tgt := 24) C dL_tones_17 (by decide) ?_
    refine xw_iconst_N (pc := 24) C 0 dL_tones_24 rfl ?_
    exact xw_iret (pc := 25) C rX (Nat.le_of_ble_eq_true rfl) (Nat.le_of_ble_eq_true rfl) dL_tones_25 (PD.e rfl (by rw [c1]; rfl))
  · refine xw_lconst (pc := 11) (v := 1) C dL_tones_11 rfl ?_
    refine xw_goto (pc := 12) (tgt := 16) C dL_tones_12 (by decide) ?_
    refine xw_last (pc := 16) (w' := wO cJ o (vp_updL f 0 1) ++ W9) C 0 1 rfl rfl rfl dL_tones_16 ?_
    refine xw_goto (pc := 17) (tgt := 24) C dL_tones_17 (by decide) ?_
    refine xw_iconst_N (pc := 24) C 0 dL_tones_24 rfl ?_
    exact xw_iret (pc := 25) C rX (Nat.le_of_ble_eq_true rfl) (Nat.le_of_ble_eq_true rfl) dL_tones_25 (PD.e rfl (by rw [c1]; rfl))

set_option maxHeartbeats 4000000 in
set_option maxRecDepth 100000 in
theorem m_L_tones_nIOB {l : Launch} {D : va_G} {cI cJ cD : ClassId} {h a n p b w wi ni : Nat} {A : Nat → Nat} {o : Nat} {f : Nat → Int64} {g : Nat → UInt64} (z1 : Int) (z2 : Int) (hM : CX l yX0_tones wsX0_tones (rmX 7 103) D vwCl [(cI, .int)] [.ref h, iV z1, iV z2] (wX cI h a n p b w wi ni A) nIOB 1 6) : CZ l yL_tones wsL_tones (rmX 8 135) D vwCl [(cI, .int), (cJ, .long)] [.ref h, iV z1, iV z2, .ref o] (wX cI h a n p b w wi ni A ++ wO cJ o f) (PD (some (nV 1)) (wO cJ o f ++ wX cI h a n p b w wi ni A)) 1 6 := by
  refine ct_ofH (by decide) rfl (Nat.le_of_ble_eq_true rfl) (fun φ C rX Zc Hh => ?_)
  refine xw_le (lv' := [(0, .ref h), (1, iV z1), (2, iV z2), (3, .ref o)]) rfl ?_
  refine xw_aload_n (pc := 0) C 3 dL_tones_0 rfl ?_
  refine xw_iconst_N (pc := 1) C 0 dL_tones_1 rfl ?_
  refine xw_aload_n (pc := 2) C 0 dL_tones_2 rfl ?_
  refine xw_iload_n (pc := 3) C 1 dL_tones_3 rfl ?_
  refine xw_iload_n (pc := 4) C 2 dL_tones_4 rfl ?_
  refine xw_VX (pc := 5) (q0 := 0) (na := 2) (rest := [nV 0, .ref o]) (wc := wX cI h a n p b w wi ni A) (wr := wO cJ o f) C Zc Hh [0, 1] [2] [0] hM gL_tones_X0_tones rfl rfl rfl rfl (by decide +kernel) ⟨(Nat.le_of_ble_eq_true rfl), (Nat.le_of_ble_eq_true rfl)⟩ rfl rfl rfl ⟨rfl, rfl⟩ (by decide) rfl rfl rfl rfl (Nat.le_of_ble_eq_true rfl) dL_tones_5 ⟨(Nat.le_of_ble_eq_true rfl), (Nat.le_of_ble_eq_true rfl)⟩ [] ⟨0, 17, 20, 29⟩ [] rfl (fun z hz => nomatch hz) (by decide) (by decide) (name := nIOB) (by decide +kernel) (xzc_k Zc (by decide +kernel)) (hpc := 20) rfl (fun q => ?_)
  refine xw_astore (pc := 20) (lv' := [(0, .ref h), (1, iV z1), (2, iV z2), (3, .ref o), (4, .ref q)]) C [1, 2, 3, 4, 0] dL_tones_20 (by decide) rfl ?_
  refine xw_iconst_N (pc := 22) C 1 dL_tones_22 rfl ?_
  exact xw_iret (pc := 23) C rX (Nat.le_of_ble_eq_true rfl) (Nat.le_of_ble_eq_true rfl) dL_tones_23 PD.i

set_option maxHeartbeats 4000000 in
set_option maxRecDepth 100000 in
theorem m_L_mean_ok {l : Launch} {D : va_G} {cI cJ cD : ClassId} {h a n p b w wi ni : Nat} {A : Nat → Nat} {o : Nat} {f : Nat → Int64} {g : Nat → UInt64} (z1 : Int) {W9 : va_W} (x : UInt64) (hM : CT l yX0_mean wsX0_mean (rmN 2 46) D vwCl [(cI, .int)] [.ref h, iV z1] (wX cI h a n p b w wi ni A) (PD (some (.double x)) W9) 0 0) : CZ l yL_mean wsL_mean (rmX 8 124) D vwCl [(cI, .int), (cD, .double)] [.ref h, iV z1, .ref o] (wX cI h a n p b w wi ni A ++ wE cD o g) (PD (some (nV 0)) (wE cD o (vf_upd g 0 x) ++ W9)) 1 6 := by
  refine ct_ofH (by decide) rfl (Nat.le_of_ble_eq_true rfl) (fun φ C rX Zc Hh => ?_)
  refine xw_le (lv' := [(0, .ref h), (1, iV z1), (2, .ref o)]) rfl ?_
  refine xw_aload_n (pc := 0) C 2 dL_mean_0 rfl ?_
  refine xw_iconst_N (pc := 1) C 0 dL_mean_1 rfl ?_
  refine xw_aload_n (pc := 2) C 0 dL_mean_2 rfl ?_
  refine xw_iload_n (pc := 3) C 1 dL_mean_3 rfl ?_
  refine xw_VF (pc := 4) (q0 := 0) (na := 1) (rest := [nV 0, .ref o]) (wc := wX cI h a n p b w wi ni A) (wr := wE cD o g) C [0, 1] [2] [0] hM gL_mean_X0_mean rfl rfl rfl rfl (by decide +kernel) ⟨(Nat.le_of_ble_eq_true rfl), (Nat.le_of_ble_eq_true rfl)⟩ rfl rfl rfl ⟨rfl, rfl⟩ (by decide) rfl rfl rfl rfl (Nat.le_of_ble_eq_true rfl) dL_mean_4 ⟨(Nat.le_of_ble_eq_true rfl), (Nat.le_of_ble_eq_true rfl)⟩ (fun v1 w1 hp1 => ?_)
  obtain ⟨rfl, hw9⟩ := hp1
  refine xw_st (st' := [.double x, nV 0, .ref o]) rfl ?_
  refine xw_wo (w' := wE cD o g ++ W9) (by rw [hw9]) ?_
  refine xw_dast (pc := 7) (w' := wE cD o (vf_upd g 0 x) ++ W9) C 0 1 rfl rfl rfl dL_mean_7 ?_
  refine xw_goto (pc := 8) (tgt := 14) C dL_mean_8 (by decide) ?_
  refine xw_iconst_N (pc := 14) C 0 dL_mean_14 rfl ?_
  exact xw_iret (pc := 15) C rX (Nat.le_of_ble_eq_true rfl) (Nat.le_of_ble_eq_true rfl) dL_mean_15 PD.i

set_option maxHeartbeats 4000000 in
set_option maxRecDepth 100000 in
theorem m_L_mean_nIOB {l : Launch} {D : va_G} {cI cJ cD : ClassId} {h a n p b w wi ni : Nat} {A : Nat → Nat} {o : Nat} {f : Nat → Int64} {g : Nat → UInt64} (z1 : Int) (hM : CX l yX0_mean wsX0_mean (rmX 7 103) D vwCl [(cI, .int)] [.ref h, iV z1] (wX cI h a n p b w wi ni A) nIOB 1 6) : CZ l yL_mean wsL_mean (rmX 8 124) D vwCl [(cI, .int), (cD, .double)] [.ref h, iV z1, .ref o] (wX cI h a n p b w wi ni A ++ wE cD o g) (PD (some (nV 1)) (wE cD o g ++ wX cI h a n p b w wi ni A)) 1 6 := by
  refine ct_ofH (by decide) rfl (Nat.le_of_ble_eq_true rfl) (fun φ C rX Zc Hh => ?_)
  refine xw_le (lv' := [(0, .ref h), (1, iV z1), (2, .ref o)]) rfl ?_
  refine xw_aload_n (pc := 0) C 2 dL_mean_0 rfl ?_
  refine xw_iconst_N (pc := 1) C 0 dL_mean_1 rfl ?_
  refine xw_aload_n (pc := 2) C 0 dL_mean_2 rfl ?_
  refine xw_iload_n (pc := 3) C 1 dL_mean_3 rfl ?_
  refine xw_VX (pc := 4) (q0 := 0) (na := 1) (rest := [nV 0, .ref o]) (wc := wX cI h a n p b w wi ni A) (wr := wE cD o g) C Zc Hh [0, 1] [2] [0] hM gL_mean_X0_mean rfl rfl rfl rfl (by decide +kernel) ⟨(Nat.le_of_ble_eq_true rfl), (Nat.le_of_ble_eq_true rfl)⟩ rfl rfl rfl ⟨rfl, rfl⟩ (by decide) rfl rfl rfl rfl (Nat.le_of_ble_eq_true rfl) dL_mean_4 ⟨(Nat.le_of_ble_eq_true rfl), (Nat.le_of_ble_eq_true rfl)⟩ [] ⟨0, 8, 11, 29⟩ [] rfl (fun z hz => nomatch hz) (by decide) (by decide) (name := nIOB) (by decide +kernel) (xzc_k Zc (by decide +kernel)) (hpc := 11) rfl (fun q => ?_)
  refine xw_astore_n (pc := 11) (lv' := [(0, .ref h), (1, iV z1), (2, .ref o), (3, .ref q)]) C [1, 2, 3, 0] dL_mean_11 rfl (by decide) rfl ?_
  refine xw_iconst_N (pc := 12) C 1 dL_mean_12 rfl ?_
  exact xw_iret (pc := 13) C rX (Nat.le_of_ble_eq_true rfl) (Nat.le_of_ble_eq_true rfl) dL_mean_13 PD.i

set_option maxHeartbeats 4000000 in
set_option maxRecDepth 100000 in
theorem m_L_ring_ok {l : Launch} {D : va_G} {cI cJ cD : ClassId} {h a n p b w wi ni : Nat} {A : Nat → Nat} {o : Nat} {f : Nat → Int64} {g : Nat → UInt64} (z1 : Int) (z2 : Int) {W9 : va_W} (x : Int) (hM : CT l yX0_ring wsX0_ring (rmN 5 112) D vwCl [(cI, .int)] [.ref h, iV z1, iV z2] (wX cI h a n p b w wi ni A) (PD (some (iV x)) W9) 0 0) : CZ l yL_ring wsL_ring (rmX 7 134) D vwCl [(cI, .int), (cJ, .long)] [.ref h, iV z1, iV z2, .ref o] (wX cI h a n p b w wi ni A ++ wO cJ o f) (PD (some (nV 0)) (wO cJ o (vp_updL f 0 (iI x).toInt64) ++ W9)) 1 6 := by
  refine ct_ofH (by decide) rfl (Nat.le_of_ble_eq_true rfl) (fun φ C rX Zc Hh => ?_)
  refine xw_le (lv' := [(0, .ref h), (1, iV z1), (2, iV z2), (3, .ref o)]) rfl ?_
  refine xw_aload_n (pc := 0) C 3 dL_ring_0 rfl ?_
  refine xw_iconst_N (pc := 1) C 0 dL_ring_1 rfl ?_
  refine xw_aload_n (pc := 2) C 0 dL_ring_2 rfl ?_
  refine xw_iload_n (pc := 3) C 1 dL_ring_3 rfl ?_
  refine xw_iload_n (pc := 4) C 2 dL_ring_4 rfl ?_
  refine xw_VF (pc := 5) (q0 := 0) (na := 2) (rest := [nV 0, .ref o]) (wc := wX cI h a n p b w wi ni A) (wr := wO cJ o f) C [0, 1] [2] [0] hM gL_ring_X0_ring rfl rfl rfl rfl (by decide +kernel) ⟨(Nat.le_of_ble_eq_true rfl), (Nat.le_of_ble_eq_true rfl)⟩ rfl rfl rfl ⟨rfl, rfl⟩ (by decide) rfl rfl rfl rfl (Nat.le_of_ble_eq_true rfl) dL_ring_5 ⟨(Nat.le_of_ble_eq_true rfl), (Nat.le_of_ble_eq_true rfl)⟩ (fun v1 w1 hp1 => ?_)
  obtain ⟨rfl, hw9⟩ := hp1
  refine xw_st (st' := [iV x, nV 0, .ref o]) rfl ?_
  refine xw_wo (w' := wO cJ o f ++ W9) (by rw [hw9]) ?_
  refine xw_i2l (pc := 8) C dL_ring_8 ?_
  refine xw_last (pc := 9) (w' := wO cJ o (vp_updL f 0 (iI x).toInt64) ++ W9) C 0 1 rfl rfl rfl dL_ring_9 ?_
  refine xw_goto (pc := 10) (tgt := 17) C dL_ring_10 (by decide) ?_
  refine xw_iconst_N (pc := 17) C 0 dL_ring_17 rfl ?_
  exact xw_iret (pc := 18) C rX (Nat.le_of_ble_eq_true rfl) (Nat.le_of_ble_eq_true rfl) dL_ring_18 PD.i

set_option maxHeartbeats 4000000 in
set_option maxRecDepth 100000 in
theorem m_L_ring_nIAE {l : Launch} {D : va_G} {cI cJ cD : ClassId} {h a n p b w wi ni : Nat} {A : Nat → Nat} {o : Nat} {f : Nat → Int64} {g : Nat → UInt64} (z1 : Int) (z2 : Int) (hM : CX l yX0_ring wsX0_ring (rmX 6 82) D vwCl [(cI, .int)] [.ref h, iV z1, iV z2] (wX cI h a n p b w wi ni A) nIAE 1 6) : CZ l yL_ring wsL_ring (rmX 7 134) D vwCl [(cI, .int), (cJ, .long)] [.ref h, iV z1, iV z2, .ref o] (wX cI h a n p b w wi ni A ++ wO cJ o f) (PD (some (nV 1)) (wO cJ o f ++ wX cI h a n p b w wi ni A)) 1 6 := by
  refine ct_ofH (by decide) rfl (Nat.le_of_ble_eq_true rfl) (fun φ C rX Zc Hh => ?_)
  refine xw_le (lv' := [(0, .ref h), (1, iV z1), (2, iV z2), (3, .ref o)]) rfl ?_
  refine xw_aload_n (pc := 0) C 3 dL_ring_0 rfl ?_
  refine xw_iconst_N (pc := 1) C 0 dL_ring_1 rfl ?_
  refine xw_aload_n (pc := 2) C 0 dL_ring_2 rfl ?_
  refine xw_iload_n (pc := 3) C 1 dL_ring_3 rfl ?_
  refine xw_iload_n (pc := 4) C 2 dL_ring_4 rfl ?_
  refine xw_VX (pc := 5) (q0 := 0) (na := 2) (rest := [nV 0, .ref o]) (wc := wX cI h a n p b w wi ni A) (wr := wO cJ o f) C Zc Hh [0, 1] [2] [0] hM gL_ring_X0_ring rfl rfl rfl rfl (by decide +kernel) ⟨(Nat.le_of_ble_eq_true rfl), (Nat.le_of_ble_eq_true rfl)⟩ rfl rfl rfl ⟨rfl, rfl⟩ (by decide) rfl rfl rfl rfl (Nat.le_of_ble_eq_true rfl) dL_ring_5 ⟨(Nat.le_of_ble_eq_true rfl), (Nat.le_of_ble_eq_true rfl)⟩ [] ⟨0, 10, 13, 13⟩ [] rfl (fun z hz => nomatch hz) (by decide) (by decide) (name := nIAE) (by decide +kernel) (xzc_k Zc (by decide +kernel)) (hpc := 13) rfl (fun q => ?_)
  refine xw_astore (pc := 13) (lv' := [(0, .ref h), (1, iV z1), (2, iV z2), (3, .ref o), (4, .ref q)]) C [1, 2, 3, 4, 0] dL_ring_13 (by decide) rfl ?_
  refine xw_iconst_N (pc := 15) C 1 dL_ring_15 rfl ?_
  exact xw_iret (pc := 16) C rX (Nat.le_of_ble_eq_true rfl) (Nat.le_of_ble_eq_true rfl) dL_ring_16 PD.i
