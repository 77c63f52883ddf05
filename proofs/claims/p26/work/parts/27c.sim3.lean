set_option maxHeartbeats 4000000 in
set_option maxRecDepth 100000 in
theorem m_X1_init {l : Launch} {D : va_G} {cI cQ : ClassId} {sc h : Nat} : CY l yX1_init wsX1_init { frames := 1, cells := 5, slots := 68, locals := 14 } D vwCl [(cI, .int), (cQ, .array .int)] sc [.ref h] [(h, .inr (1, [nV 0, nV 0, nV 0, .null]))] (fun v w1 => ∃ (q : Nat) (r : Nat → Nat), v = none ∧ w1 = wS cI cQ h 8 17 2 q r (fun _ => 0)) 5 68 := by
  refine cy_ofI (plainFor_of_name (by decide)) rfl (Nat.le_of_ble_eq_true rfl) (fun φ C rX I Y => ?_)
  have hin : ∀ w ∈ wsX10, w ∈ wsX1_init := by decide +kernel
  refine xw_le (lv' := [(0, .ref h)]) rfl ?_
  refine xw_aload_n (pc := 0) C 0 dX1_init_0 rfl ?_
  refine xw_objInit (pc := 1) C (by decide +kernel) (by decide +kernel) (by decide +kernel) (Nat.le_of_ble_eq_true rfl) (Nat.le_of_ble_eq_true rfl) dX1_init_1 ?_
  refine xw_aload_n (pc := 4) C 0 dX1_init_4 rfl ?_
  refine xw_bipush_N (pc := 5) C 8 dX1_init_5 (by decide) ?_
  refine xw_put (pc := 7) (T := TX1) (N := 4) (ref := "ToneButterfliesLaw$Sim") (w' := [(h, .inr (1, [nV 8, nV 0, nV 0, .null]))]) C hin tyX1 tyX1_ok nmX1 0 0 rfl rfl (by decide) (by decide +kernel) rfl rfl rfl rfl (Nat.le_of_ble_eq_true rfl) rfl dX1_init_7 ?_
  refine xw_aload_n (pc := 10) C 0 dX1_init_10 rfl ?_
  refine xw_bipush_N (pc := 11) C 17 dX1_init_11 (by decide) ?_
  refine xw_put (pc := 13) (T := TX1) (N := 4) (ref := "ToneButterfliesLaw$Sim") (w' := [(h, .inr (1, [nV 8, nV 17, nV 0, .null]))]) C hin tyX1 tyX1_ok nmX1 0 1 rfl rfl (by decide) (by decide +kernel) rfl rfl rfl rfl (Nat.le_of_ble_eq_true rfl) rfl dX1_init_13 ?_
  refine xw_aload_n (pc := 16) C 0 dX1_init_16 rfl ?_
  refine xw_iconst_N (pc := 17) C 2 dX1_init_17 rfl ?_
  refine xw_put (pc := 18) (T := TX1) (N := 4) (ref := "ToneButterfliesLaw$Sim") (w' := [(h, .inr (1, [nV 8, nV 17, nV 2, .null]))]) C hin tyX1 tyX1_ok nmX1 0 2 rfl rfl (by decide) (by decide +kernel) rfl rfl rfl rfl (Nat.le_of_ble_eq_true rfl) rfl dX1_init_18 ?_
  refine xw_aload_n (pc := 21) C 0 dX1_init_21 rfl ?_
  refine xw_iconst_N (pc := 22) C 4 dX1_init_22 rfl ?_
  refine xw_bipush_N (pc := 23) C 8 dX1_init_23 (by decide) ?_
  refine xw_mna (pc := 25) (K := 8) (cI := cI) (cQ := cQ) C Y 0 1 rfl rfl (by decide +kernel) (by decide +kernel) (by decide) (Nat.le_of_ble_eq_true rfl) (Nat.le_of_ble_eq_true rfl) dX1_init_25 (fun q r => ?_)
  refine xw_put (pc := 29) (T := TX1) (N := 4) (ref := "ToneButterfliesLaw$Sim") (w' := wS cI cQ h 8 17 2 q r (fun _ => 0)) C hin tyX1 tyX1_ok nmX1 0 3 rfl rfl (by decide) (by decide +kernel) rfl rfl rfl rfl (Nat.le_of_ble_eq_true rfl) rfl dX1_init_29 ?_
  exact xw_vret (pc := 32) C rX (Nat.le_of_ble_eq_true rfl) (Nat.le_of_ble_eq_true rfl) dX1_init_32 ⟨q, r, rfl, rfl⟩

theorem od_lt {p v : Nat} (hp : 1 < p) : od p v ≤ p := by
  have h := (fs_le (P := fun k => decide (v ^ k % p = 1)) (p - 1) 1).2
  unfold od; omega
set_option maxHeartbeats 4000000 in
set_option maxRecDepth 100000 in
theorem m_X1_ring {l : Launch} {D : va_G} {cI cQ : ClassId} {sc h n p w rr : Nat} (n1 p1 : Nat) (hr : rok n1 p1) : CY l yX1_ring wsX1_ring { frames := 1, cells := 5, slots := 68, locals := 23 } D vwCl [(cI, .int), (cQ, .array .int)] sc [.ref h, nV n1, nV p1] (wH h n p w rr) (fun v w1 => ∃ (q : Nat) (r : Nat → Nat), v = some (nV (rt n1 p1)) ∧ w1 = wS cI cQ h n1 p1 (rt n1 p1) q r (fun _ => 0)) 5 68 := by
  refine cy_ofI (plainFor_of_name (by decide)) rfl (Nat.le_of_ble_eq_true rfl) (fun φ C rX I Y => ?_)
  have hin : ∀ w ∈ wsX10, w ∈ wsX1_ring := by decide +kernel
  refine xw_le (lv' := [(0, .ref h), (1, nV n1), (2, nV p1)]) rfl ?_
  obtain ⟨hn, hp, hp5, hprm, hdv⟩ := hr
  have hck := rck_of hn hp5 hp hprm hdv
  have hrl := rck_lt hck
  have hrt2 : 2 ≤ rt n1 p1 := (fs_le _ _).1
  have hfer : ∀ v, 1 ≤ v → v < p1 → v ^ (p1 - 1) % p1 = 1 := fun v h1 h2 => ck_fer (ck_of hp5 hp hprm h1 h2)
  have hn3 := lt3 hn
  refine xw_aload_n (pc := 0) C 0 dX1_ring_0 rfl ?_
  refine xw_iload_n (pc := 1) C 1 dX1_ring_1 rfl ?_
  refine xw_put (pc := 2) (T := TX1) (N := 4) (ref := "ToneButterfliesLaw$Sim") (w' := wH h n1 p w rr) C hin tyX1 tyX1_ok nmX1 0 0 rfl rfl (by decide) (by decide +kernel) rfl rfl rfl rfl (Nat.le_of_ble_eq_true rfl) rfl dX1_ring_2 ?_
  refine xw_aload_n (pc := 5) C 0 dX1_ring_5 rfl ?_
  refine xw_iload_n (pc := 6) C 2 dX1_ring_6 rfl ?_
  refine xw_put (pc := 7) (T := TX1) (N := 4) (ref := "ToneButterfliesLaw$Sim") (w' := wH h n1 p1 w rr) C hin tyX1 tyX1_ok nmX1 0 1 rfl rfl (by decide) (by decide +kernel) rfl rfl rfl rfl (Nat.le_of_ble_eq_true rfl) rfl dX1_ring_7 ?_
  refine xw_aload_n (pc := 10) C 0 dX1_ring_10 rfl ?_
  refine xw_iconst_N (pc := 11) C 2 dX1_ring_11 rfl ?_
  refine xw_put (pc := 12) (T := TX1) (N := 4) (ref := "ToneButterfliesLaw$Sim") (w' := wH h n1 p1 2 rr) C hin tyX1 tyX1_ok nmX1 0 2 rfl rfl (by decide) (by decide +kernel) rfl rfl rfl rfl (Nat.le_of_ble_eq_true rfl) rfl dX1_ring_12 ?_
  have L15 : ∀ (fuel : Nat) (c : Nat), rt n1 p1 < c + fuel → 2 ≤ c ∧ c ≤ rt n1 p1 → xw φ 0 0 (wH h n1 p1 c rr) 15 [(0, .ref h), (1, nV n1), (2, nV p1)] [] := by
    intro fuel
    induction fuel with
    | zero =>
      intro c hf hc
      omega
    | succ fuel ih15 =>
      intro c hf hc
      have hod := od_lt (p := p1) (v := c) (by omega)
      refine xw_aload_n (pc := 15) C 0 dX1_ring_15 rfl ?_
      refine xw_aload_n (pc := 16) C 0 dX1_ring_16 rfl ?_
      refine xw_get (pc := 17) (T := TX1) (N := 4) (ref := "ToneButterfliesLaw$Sim") C hin 0 2 wH_0 rfl (by decide) (by decide +kernel) rfl rfl dX1_ring_17 ?_
      refine xw_Vd (pc := 20) (q0 := 0) (na := 1) (rest := []) (st' := [nV (od p1 c)]) C (m_X1_order wH_0 (show 1 < p1 by omega) hp5 c (by omega) (by omega) (hfer _ (by omega) (by omega))) gX1_ring_X1_order rfl rfl rfl rfl (by decide +kernel) ⟨(Nat.le_of_ble_eq_true rfl), (Nat.le_of_ble_eq_true rfl)⟩ wH_0 rfl rfl (Nat.le_of_ble_eq_true rfl) dX1_ring_20 ⟨(Nat.le_of_ble_eq_true rfl), (Nat.le_of_ble_eq_true rfl)⟩ rfl ?_
      refine xw_aload_n (pc := 23) C 0 dX1_ring_23 rfl ?_
      refine xw_get (pc := 24) (T := TX1) (N := 4) (ref := "ToneButterfliesLaw$Sim") C hin 0 0 wH_0 rfl (by decide) (by decide +kernel) rfl rfl dX1_ring_24 ?_
      refine xw_icmp_eq_N (pc := 27) (tgt := 43) C dX1_ring_27 (by decide) (by omega) (by omega) (fun c_1 => ?_) (fun c_1 => ?_)
      ·
        have hcr : c = rt n1 p1 := by
          rcases Nat.lt_or_ge c (rt n1 p1) with z | z
          · exact absurd c_1 (rck_no hck (by omega) z)
          · omega
        subst hcr
        refine xw_aload_n (pc := 43) C 0 dX1_ring_43 rfl ?_
        refine xw_iconst_N (pc := 44) C 4 dX1_ring_44 rfl ?_
        refine xw_aload_n (pc := 45) C 0 dX1_ring_45 rfl ?_
        refine xw_get (pc := 46) (T := TX1) (N := 4) (ref := "ToneButterfliesLaw$Sim") C hin 0 0 wH_0 rfl (by decide) (by decide +kernel) rfl rfl dX1_ring_46 ?_
        refine xw_mna (pc := 49) (K := n1) (cI := cI) (cQ := cQ) C Y 0 1 rfl rfl (by decide +kernel) (by decide +kernel) (by omega) (Nat.le_of_ble_eq_true rfl) (by show 0 + (4 + 4 * n1) ≤ 68; omega) dX1_ring_49 (fun q r => ?_)
        refine xw_put (pc := 53) (T := TX1) (N := 4) (ref := "ToneButterfliesLaw$Sim") (w' := wS cI cQ h n1 p1 (rt n1 p1) q r (fun _ => 0)) C hin tyX1 tyX1_ok nmX1 0 3 rfl rfl (by decide) (by decide +kernel) rfl rfl rfl rfl (Nat.le_of_ble_eq_true rfl) rfl dX1_ring_53 ?_
        refine xw_aload_n (pc := 56) C 0 dX1_ring_56 rfl ?_
        refine xw_get (pc := 57) (T := TX1) (N := 4) (ref := "ToneButterfliesLaw$Sim") C hin 0 2 rfl rfl (by decide) (by decide +kernel) rfl rfl dX1_ring_57 ?_
        exact xw_iret (pc := 60) C rX (Nat.le_of_ble_eq_true rfl) (by show 0 + (4 + 4 * n1) ≤ 68; omega) dX1_ring_60 ⟨q, r, rfl, rfl⟩
      ·
        have hcl : c < rt n1 p1 := by
          rcases Nat.lt_or_ge c (rt n1 p1) with z | z
          · exact z
          · exact absurd (by rw [show c = rt n1 p1 by omega]; exact rck_is hck) c_1
        refine xw_aload_n (pc := 30) C 0 dX1_ring_30 rfl ?_
        refine xw_dup (pc := 31) C dX1_ring_31 rfl ?_
        refine xw_get (pc := 32) (T := TX1) (N := 4) (ref := "ToneButterfliesLaw$Sim") C hin 0 2 wH_0 rfl (by decide) (by decide +kernel) rfl rfl dX1_ring_32 ?_
        refine xw_iconst_N (pc := 35) C 1 dX1_ring_35 rfl ?_
        refine xw_iadd_N (pc := 36) C dX1_ring_36 ?_
        refine xw_put (pc := 37) (T := TX1) (N := 4) (ref := "ToneButterfliesLaw$Sim") (w' := wH h n1 p1 (c + 1) rr) C hin tyX1 tyX1_ok nmX1 0 2 rfl rfl (by decide) (by decide +kernel) rfl rfl rfl rfl (Nat.le_of_ble_eq_true rfl) rfl dX1_ring_37 ?_
        refine xw_goto (pc := 40) (tgt := 15) C dX1_ring_40 (by decide) ?_
        exact ih15 (c + 1) (by omega) (by omega)
  exact L15 (rt n1 p1) 2 (by omega) ⟨by omega, hrt2⟩
