set_option maxHeartbeats 4000000 in
set_option maxRecDepth 100000 in
theorem m_X0_init {l : Launch} {D : va_G} {cI : ClassId} {h : Nat} : CT l yX0_init wsX0_init { frames := 5, cells := 1, slots := 80, locals := 112 } D vwCl [(cI, .int)] [.ref h] (w0X h) (fun v w1 => ∃ a : Nat, v = none ∧ w1 = wX cI h a 8 17 (bt 8) (rt 8 17) (rt 8 17 ^ (17 - 2) % 17) (8 ^ (17 - 2) % 17) (zf (fun _ => 0) 80)) 1 80 := by
  refine ct_ofI (plainFor_of_name (by decide)) rfl (Nat.le_of_ble_eq_true rfl) (fun φ C rX I => ?_)
  have hin : ∀ w ∈ wsX00, w ∈ wsX0_init := by decide +kernel
  refine xw_le (lv' := [(0, .ref h)]) rfl ?_
  refine xw_aload_n (pc := 0) C 0 dX0_init_0 rfl ?_
  refine xw_objInit (pc := 1) C (by decide +kernel) (by decide +kernel) (by decide +kernel) (Nat.le_of_ble_eq_true rfl) (Nat.le_of_ble_eq_true rfl) dX0_init_1 ?_
  refine xw_aload_n (pc := 4) C 0 dX0_init_4 rfl ?_
  refine xw_bipush_N (pc := 5) C 80 dX0_init_5 (by decide) ?_
  refine xw_newI (pc := 7) C 0 rfl (by decide +kernel) (by decide) (Nat.le_of_ble_eq_true rfl) (Nat.le_of_ble_eq_true rfl) dX0_init_7 (fun a => ?_)
  refine xw_putF (pc := 9) (T := TX0) (N := 7) (w' := wX cI h a 0 0 0 0 0 0 (fun _ => 0)) C (I rfl) hin tyX0 tyX0_ok nmX0 0 0 rfl rfl (by decide) (by decide +kernel) rfl rfl rfl rfl (Nat.le_of_ble_eq_true rfl) rfl dX0_init_9 ?_
  refine xw_aload_n (pc := 12) C 0 dX0_init_12 rfl ?_
  refine xw_bipush_N (pc := 13) C 8 dX0_init_13 (by decide) ?_
  refine xw_bipush_N (pc := 15) C 17 dX0_init_15 (by decide) ?_
  refine xw_Vd (pc := 17) (q0 := 0) (na := 2) (rest := []) (st' := []) C (m_X0_takeRing 8 17 (Or.inr (Or.inl rfl)) (by decide) (by decide)) gX0_init_X0_takeRing rfl rfl rfl rfl (by decide +kernel) ⟨Nat.le_of_ble_eq_true rfl, Nat.le_of_ble_eq_true rfl⟩ rfl rfl rfl (Nat.le_of_ble_eq_true rfl) dX0_init_17 ⟨Nat.le_of_ble_eq_true rfl, Nat.le_of_ble_eq_true rfl⟩ rfl ?_
  exact xw_vret (pc := 20) C rX (Nat.le_refl _) (Nat.le_refl _) dX0_init_20 (⟨a, rfl, rfl⟩)
