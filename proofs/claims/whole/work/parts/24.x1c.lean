set_option maxHeartbeats 4000000 in
set_option maxRecDepth 100000 in
theorem m_X1_order {l : Launch} {D : va_G} {cI : ClassId} {h r d th n p w b : Nat} {B M : Nat → Nat} (hro : rok n p) (v : Nat) (h1 : 1 ≤ v) (hv : v < p) : CT l yX1_order wsX1_order (rmN 2 45) D vwCl [(cI, .int)] [.ref h, nV v] (wM cI h r d th n p w b B M) (PD (some (nV (od p v))) (wM cI h r d 0 n p w b B M)) 0 0 := by
  refine ct_of (plainFor_of_name (by decide)) rfl (Nat.le_of_ble_eq_true rfl) (fun φ C rX => ?_)
  have hin : ∀ w ∈ wsX10, w ∈ wsX1_order := by decide +kernel
  refine xw_le (lv' := [(0, .ref h), (1, nV v)]) rfl ?_
  obtain ⟨hn, hp4, hp5, hprm, hdv⟩ := id hro
  have hp : 0 < p := by omega
  have hp1 : 1 < p := by omega
  have hn3 := lt3 hn
  have hnp := rok_lt hro
  refine xw_aload_n (pc := 0) C 0 dX1_order_0 rfl ?_
  refine xw_iconst_N (pc := 1) C 0 dX1_order_1 rfl ?_
  refine xw_put (pc := 2) (T := TX1) (N := 7) (ref := "ToneButterfliesModel") (w' := wM cI h r d 0 n p w b B M) C hin tyX1 tyX1_ok nmX1 0 0 rfl rfl (by decide) (by decide +kernel) rfl rfl rfl rfl (Nat.le_of_ble_eq_true rfl) rfl dX1_order_2 ?_
  refine xw_aload_n (pc := 5) C 0 dX1_order_5 rfl ?_
  refine xw_iload_n (pc := 6) C 1 dX1_order_6 rfl ?_
  refine xw_Vd (pc := 7) (q0 := 0) (na := 1) (rest := []) (st' := [bV (decide (((1 : Nat) : Int) ≤ (((v : Nat) : Int)) ∧ (((v : Nat) : Int)) ≤ ((p : Nat) : Int) - ((1 : Nat) : Int)))]) C (m_X1_isUnit hp5 (((v : Nat) : Int)) (by omega)) gX1_order_X1_isUnit rfl rfl rfl rfl (by decide +kernel) ⟨Nat.le_of_ble_eq_true rfl, Nat.le_of_ble_eq_true rfl⟩ rfl rfl rfl (Nat.le_of_ble_eq_true rfl) dX1_order_7 ⟨Nat.le_of_ble_eq_true rfl, Nat.le_of_ble_eq_true rfl⟩ rfl ?_
  refine xw_if_eq_B (pc := 10) (tgt := 21) C dX1_order_10 (by decide)  (fun c_1 => (by have q9 := of_decide_eq_false c_1; exfalso; omega)) (fun c_1 => ?_)
  have q_c_1 := of_decide_eq_true c_1
  refine xw_aload_n (pc := 13) C 0 dX1_order_13 rfl ?_
  refine xw_iload_n (pc := 14) C 1 dX1_order_14 rfl ?_
  refine xw_Vd (pc := 15) (q0 := 0) (na := 1) (rest := []) (st' := [nV (od p v)]) C (m_X1_orderOf hp1 hp5 v (by omega) (by omega) (ck_fer (ck_of hp5 hp4 hprm h1 hv))) gX1_order_X1_orderOf rfl rfl rfl rfl (by decide +kernel) ⟨Nat.le_of_ble_eq_true rfl, Nat.le_of_ble_eq_true rfl⟩ rfl rfl rfl (Nat.le_of_ble_eq_true rfl) dX1_order_15 ⟨Nat.le_of_ble_eq_true rfl, Nat.le_of_ble_eq_true rfl⟩ rfl ?_
  refine xw_goto (pc := 18) (tgt := 26) C dX1_order_18 (by decide) ?_
  exact xw_iret (pc := 26) C rX (Nat.le_refl _) (Nat.le_refl _) dX1_order_26 (PD.i)

set_option maxHeartbeats 4000000 in
set_option maxRecDepth 100000 in
theorem m_X1_inverse {l : Launch} {D : va_G} {cI : ClassId} {h r d th n p w b : Nat} {B M : Nat → Nat} (hro : rok n p) (v : Nat) (h1 : 1 ≤ v) (hv : v < p) : CT l yX1_inverse wsX1_inverse (rmN 2 43) D vwCl [(cI, .int)] [.ref h, nV v] (wM cI h r d th n p w b B M) (PD (some (nV (v ^ (p - 2) % p))) (wM cI h r d 0 n p w b B M)) 0 0 := by
  refine ct_of (plainFor_of_name (by decide)) rfl (Nat.le_of_ble_eq_true rfl) (fun φ C rX => ?_)
  have hin : ∀ w ∈ wsX10, w ∈ wsX1_inverse := by decide +kernel
  refine xw_le (lv' := [(0, .ref h), (1, nV v)]) rfl ?_
  obtain ⟨hn, hp4, hp5, hprm, hdv⟩ := id hro
  have hp : 0 < p := by omega
  have hp1 : 1 < p := by omega
  have hn3 := lt3 hn
  have hnp := rok_lt hro
  refine xw_aload_n (pc := 0) C 0 dX1_inverse_0 rfl ?_
  refine xw_iconst_N (pc := 1) C 0 dX1_inverse_1 rfl ?_
  refine xw_put (pc := 2) (T := TX1) (N := 7) (ref := "ToneButterfliesModel") (w' := wM cI h r d 0 n p w b B M) C hin tyX1 tyX1_ok nmX1 0 0 rfl rfl (by decide) (by decide +kernel) rfl rfl rfl rfl (Nat.le_of_ble_eq_true rfl) rfl dX1_inverse_2 ?_
  refine xw_aload_n (pc := 5) C 0 dX1_inverse_5 rfl ?_
  refine xw_iload_n (pc := 6) C 1 dX1_inverse_6 rfl ?_
  refine xw_Vd (pc := 7) (q0 := 0) (na := 1) (rest := []) (st' := [bV (decide (((1 : Nat) : Int) ≤ (((v : Nat) : Int)) ∧ (((v : Nat) : Int)) ≤ ((p : Nat) : Int) - ((1 : Nat) : Int)))]) C (m_X1_isUnit hp5 (((v : Nat) : Int)) (by omega)) gX1_inverse_X1_isUnit rfl rfl rfl rfl (by decide +kernel) ⟨Nat.le_of_ble_eq_true rfl, Nat.le_of_ble_eq_true rfl⟩ rfl rfl rfl (Nat.le_of_ble_eq_true rfl) dX1_inverse_7 ⟨Nat.le_of_ble_eq_true rfl, Nat.le_of_ble_eq_true rfl⟩ rfl ?_
  refine xw_if_eq_B (pc := 10) (tgt := 21) C dX1_inverse_10 (by decide)  (fun c_1 => (by have q9 := of_decide_eq_false c_1; exfalso; omega)) (fun c_1 => ?_)
  have q_c_1 := of_decide_eq_true c_1
  refine xw_aload_n (pc := 13) C 0 dX1_inverse_13 rfl ?_
  refine xw_iload_n (pc := 14) C 1 dX1_inverse_14 rfl ?_
  refine xw_Vd (pc := 15) (q0 := 0) (na := 1) (rest := []) (st' := [nV (v ^ (p - 2) % p)]) C (m_X1_inverseOf hp hp5 v (by omega) (ck_of hp5 hp4 hprm h1 hv)) gX1_inverse_X1_inverseOf rfl rfl rfl rfl (by decide +kernel) ⟨Nat.le_of_ble_eq_true rfl, Nat.le_of_ble_eq_true rfl⟩ rfl rfl rfl (Nat.le_of_ble_eq_true rfl) dX1_inverse_15 ⟨Nat.le_of_ble_eq_true rfl, Nat.le_of_ble_eq_true rfl⟩ rfl ?_
  refine xw_goto (pc := 18) (tgt := 26) C dX1_inverse_18 (by decide) ?_
  exact xw_iret (pc := 26) C rX (Nat.le_refl _) (Nat.le_refl _) dX1_inverse_26 (PD.i)

set_option maxHeartbeats 4000000 in
set_option maxRecDepth 100000 in
theorem m_X1_root {l : Launch} {D : va_G} {cI : ClassId} {h r d th n p w b : Nat} {B M : Nat → Nat} (hp1 : 1 < p) (hp5 : p < 500) (hw : w < 500) (e : Nat) (he : e ≤ 9999) : CT l yX1_root wsX1_root (rmN 2 47) D vwCl [(cI, .int)] [.ref h, nV e] (wM cI h r d th n p w b B M) (PD (some (nV (w ^ e % p))) (wM cI h r d 0 n p w b B M)) 0 0 := by
  refine ct_of (plainFor_of_name (by decide)) rfl (Nat.le_of_ble_eq_true rfl) (fun φ C rX => ?_)
  have hin : ∀ w ∈ wsX10, w ∈ wsX1_root := by decide +kernel
  refine xw_le (lv' := [(0, .ref h), (1, nV e)]) rfl ?_
  refine xw_aload_n (pc := 0) C 0 dX1_root_0 rfl ?_
  refine xw_iconst_N (pc := 1) C 0 dX1_root_1 rfl ?_
  refine xw_put (pc := 2) (T := TX1) (N := 7) (ref := "ToneButterfliesModel") (w' := wM cI h r d 0 n p w b B M) C hin tyX1 tyX1_ok nmX1 0 0 rfl rfl (by decide) (by decide +kernel) rfl rfl rfl rfl (Nat.le_of_ble_eq_true rfl) rfl dX1_root_2 ?_
  refine xw_iload_n (pc := 5) C 1 dX1_root_5 rfl ?_
  refine xw_iconst_N (pc := 6) C 0 dX1_root_6 rfl ?_
  refine xw_sipush_N (pc := 7) C 9999 dX1_root_7 (by decide) ?_
  refine xw_Sd (pc := 10) (na := 3) (rest := []) (st' := [bV (decide ((((0 : Nat) : Int)) ≤ (((e : Nat) : Int)) ∧ (((e : Nat) : Int)) ≤ (((9999 : Nat) : Int))))]) C (m_X1_isIn (((e : Nat) : Int)) (((0 : Nat) : Int)) (((9999 : Nat) : Int)) (by omega) (by omega) (by omega)) gX1_root_X1_isIn rfl rfl rfl rfl (by decide +kernel) ⟨Nat.le_of_ble_eq_true rfl, Nat.le_of_ble_eq_true rfl⟩ rfl (Nat.le_of_ble_eq_true rfl) dX1_root_10 ⟨Nat.le_of_ble_eq_true rfl, Nat.le_of_ble_eq_true rfl⟩ rfl ?_
  refine xw_if_eq_B (pc := 13) (tgt := 28) C dX1_root_13 (by decide)  (fun c_1 => (by have q9 := of_decide_eq_false c_1; exfalso; omega)) (fun c_1 => ?_)
  have q_c_1 := of_decide_eq_true c_1
  refine xw_aload_n (pc := 16) C 0 dX1_root_16 rfl ?_
  refine xw_aload_n (pc := 17) C 0 dX1_root_17 rfl ?_
  refine xw_get (pc := 18) (T := TX1) (N := 7) (ref := "ToneButterfliesModel") C hin 0 3 rfl rfl (by decide) (by decide +kernel) rfl rfl dX1_root_18 ?_
  refine xw_iload_n (pc := 21) C 1 dX1_root_21 rfl ?_
  refine xw_Vd (pc := 22) (q0 := 0) (na := 2) (rest := []) (st' := [nV (w ^ e % p)]) C (m_X1_power hp1 hp5 w e (by omega) (by omega)) gX1_root_X1_power rfl rfl rfl rfl (by decide +kernel) ⟨Nat.le_of_ble_eq_true rfl, Nat.le_of_ble_eq_true rfl⟩ rfl rfl rfl (Nat.le_of_ble_eq_true rfl) dX1_root_22 ⟨Nat.le_of_ble_eq_true rfl, Nat.le_of_ble_eq_true rfl⟩ rfl ?_
  refine xw_goto (pc := 25) (tgt := 33) C dX1_root_25 (by decide) ?_
  exact xw_iret (pc := 33) C rX (Nat.le_refl _) (Nat.le_refl _) dX1_root_33 (PD.i)

set_option maxHeartbeats 4000000 in
set_option maxRecDepth 100000 in
theorem m_X1_ring_4 {l : Launch} {D : va_G} {cI : ClassId} {h r d th n p w b : Nat} {B M : Nat → Nat} (p1 : Nat) (hro : rok 4 p1) : CT l yX1_ring wsX1_ring (rmN 3 66) D vwCl [(cI, .int)] [.ref h, nV 4, nV p1] (wM cI h r d th n p w b B M) (PD (some (nV (rt 4 p1))) (wM cI h r d 0 4 p1 (rt 4 p1) 2 (zf B 64) M)) 0 0 := by
  refine ct_of (plainFor_of_name (by decide)) rfl (Nat.le_of_ble_eq_true rfl) (fun φ C rX => ?_)
  have hin : ∀ w ∈ wsX10, w ∈ wsX1_ring := by decide +kernel
  refine xw_le (lv' := [(0, .ref h), (1, nV 4), (2, nV p1)]) rfl ?_
  obtain ⟨hn, hp4, hp5, hprm, hdv⟩ := id hro
  have hp : 0 < p1 := by omega
  refine xw_aload_n (pc := 0) C 0 dX1_ring_0 rfl ?_
  refine xw_iconst_N (pc := 1) C 0 dX1_ring_1 rfl ?_
  refine xw_put (pc := 2) (T := TX1) (N := 7) (ref := "ToneButterfliesModel") (w' := wM cI h r d 0 n p w b B M) C hin tyX1 tyX1_ok nmX1 0 0 rfl rfl (by decide) (by decide +kernel) rfl rfl rfl rfl (Nat.le_of_ble_eq_true rfl) rfl dX1_ring_2 ?_
  refine xw_iload_n (pc := 5) C 1 dX1_ring_5 rfl ?_
  refine xw_iconst_N (pc := 6) C 4 dX1_ring_6 rfl ?_
  refine xw_icmp_eq_N (pc := 7) (tgt := 22) C dX1_ring_7 (by decide) (by omega) (by omega) (fun c_1 => ?_) (fun c_1 => (by exact absurd rfl c_1))
  refine xw_iload_n (pc := 22) C 2 dX1_ring_22 rfl ?_
  refine xw_iconst_N (pc := 23) C 5 dX1_ring_23 rfl ?_
  refine xw_sipush_N (pc := 24) C 499 dX1_ring_24 (by decide) ?_
  refine xw_Sd (pc := 27) (na := 3) (rest := []) (st' := [bV (decide ((((5 : Nat) : Int)) ≤ (((p1 : Nat) : Int)) ∧ (((p1 : Nat) : Int)) ≤ (((499 : Nat) : Int))))]) C (m_X1_isIn (((p1 : Nat) : Int)) (((5 : Nat) : Int)) (((499 : Nat) : Int)) (by omega) (by omega) (by omega)) gX1_ring_X1_isIn rfl rfl rfl rfl (by decide +kernel) ⟨Nat.le_of_ble_eq_true rfl, Nat.le_of_ble_eq_true rfl⟩ rfl (Nat.le_of_ble_eq_true rfl) dX1_ring_27 ⟨Nat.le_of_ble_eq_true rfl, Nat.le_of_ble_eq_true rfl⟩ rfl ?_
  refine xw_if_eq_B (pc := 30) (tgt := 48) C dX1_ring_30 (by decide)  (fun c_2 => (by have q9 := of_decide_eq_false c_2; exfalso; omega)) (fun c_2 => ?_)
  have q_c_2 := of_decide_eq_true c_2
  
  refine xw_iload_n (pc := 33) C 2 dX1_ring_33 rfl ?_
  refine xw_Sd (pc := 34) (na := 1) (rest := []) (st' := [bV (prm p1)]) C (m_X1_isPrime p1 (by omega)) gX1_ring_X1_isPrime rfl rfl rfl rfl (by decide +kernel) ⟨Nat.le_of_ble_eq_true rfl, Nat.le_of_ble_eq_true rfl⟩ rfl (Nat.le_of_ble_eq_true rfl) dX1_ring_34 ⟨Nat.le_of_ble_eq_true rfl, Nat.le_of_ble_eq_true rfl⟩ rfl ?_
  refine xw_if_eq_B (pc := 37) (tgt := 48) C dX1_ring_37 (by decide)  (fun c_3 => (by rw [hprm] at c_3; exact absurd c_3 (by decide))) (fun c_3 => ?_)
  refine xw_iload_n (pc := 40) C 2 dX1_ring_40 rfl ?_
  refine xw_iconst_N (pc := 41) C 1 dX1_ring_41 rfl ?_
  refine xw_isub_N (pc := 42) C dX1_ring_42 (by omega) ?_
  refine xw_iload_n (pc := 43) C 1 dX1_ring_43 rfl ?_
  refine xw_irem_N (pc := 44) C dX1_ring_44 (by omega) (by omega) ?_
  refine xw_if_le_N (pc := 45) (tgt := 54) C dX1_ring_45 (by decide) (by omega) (fun c_4 => ?_) (fun c_4 => (by exfalso; omega))
  refine xw_aload_n (pc := 54) C 0 dX1_ring_54 rfl ?_
  refine xw_iload_n (pc := 55) C 1 dX1_ring_55 rfl ?_
  refine xw_put (pc := 56) (T := TX1) (N := 7) (ref := "ToneButterfliesModel") (w' := wM cI h r d 0 4 p w b B M) C hin tyX1 tyX1_ok nmX1 0 1 rfl rfl (by decide) (by decide +kernel) rfl rfl rfl rfl (Nat.le_of_ble_eq_true rfl) rfl dX1_ring_56 ?_
  refine xw_aload_n (pc := 59) C 0 dX1_ring_59 rfl ?_
  refine xw_iload_n (pc := 60) C 2 dX1_ring_60 rfl ?_
  refine xw_put (pc := 61) (T := TX1) (N := 7) (ref := "ToneButterfliesModel") (w' := wM cI h r d 0 4 p1 w b B M) C hin tyX1 tyX1_ok nmX1 0 2 rfl rfl (by decide) (by decide +kernel) rfl rfl rfl rfl (Nat.le_of_ble_eq_true rfl) rfl dX1_ring_61 ?_
  refine xw_aload_n (pc := 64) C 0 dX1_ring_64 rfl ?_
  refine xw_aload_n (pc := 65) C 0 dX1_ring_65 rfl ?_
  refine xw_Vd (pc := 66) (q0 := 0) (na := 0) (rest := [.ref h]) (st' := [nV (rt 4 p1), .ref h]) C (m_X1_rootOf (hro)) gX1_ring_X1_rootOf rfl rfl rfl rfl (by decide +kernel) ⟨Nat.le_of_ble_eq_true rfl, Nat.le_of_ble_eq_true rfl⟩ rfl rfl rfl (Nat.le_of_ble_eq_true rfl) dX1_ring_66 ⟨Nat.le_of_ble_eq_true rfl, Nat.le_of_ble_eq_true rfl⟩ rfl ?_
  refine xw_put (pc := 69) (T := TX1) (N := 7) (ref := "ToneButterfliesModel") (w' := wM cI h r d 0 4 p1 (rt 4 p1) b B M) C hin tyX1 tyX1_ok nmX1 0 3 rfl rfl (by decide) (by decide +kernel) rfl rfl rfl rfl (Nat.le_of_ble_eq_true rfl) rfl dX1_ring_69 ?_
  refine xw_aload_n (pc := 72) C 0 dX1_ring_72 rfl ?_
  refine xw_aload_n (pc := 73) C 0 dX1_ring_73 rfl ?_
  refine xw_get (pc := 74) (T := TX1) (N := 7) (ref := "ToneButterfliesModel") C hin 0 1 rfl rfl (by decide) (by decide +kernel) rfl rfl dX1_ring_74 ?_
  refine xw_iconst_N (pc := 77) C 4 dX1_ring_77 rfl ?_
  refine xw_icmp_ne_N (pc := 78) (tgt := 85) C dX1_ring_78 (by decide) (by omega) (by omega) (fun c_5 => (by exact absurd rfl c_5)) (fun c_5 => ?_)
  refine xw_iconst_N (pc := 81) C 2 dX1_ring_81 rfl ?_
  refine xw_goto (pc := 82) (tgt := 99) C dX1_ring_82 (by decide) ?_
  refine xw_put (pc := 99) (T := TX1) (N := 7) (ref := "ToneButterfliesModel") (w' := wM cI h r d 0 4 p1 (rt 4 p1) 2 B M) C hin tyX1 tyX1_ok nmX1 0 4 rfl rfl (by decide) (by decide +kernel) rfl rfl rfl rfl (Nat.le_of_ble_eq_true rfl) rfl dX1_ring_99 ?_
  refine xw_iconst_N (pc := 102) C 0 dX1_ring_102 rfl ?_
  refine xw_istore_n (pc := 103) (lv' := [(0, .ref h), (1, nV 4), (2, nV p1), (3, nV 0)]) C [1, 2, 3, 0] dX1_ring_103 rfl (by decide) rfl ?_
  have L104 : ∀ (fuel : Nat) (k : Nat), 64 < k + fuel → k ≤ 64 → xw φ 0 0 (wM cI h r d 0 4 p1 (rt 4 p1) 2 (zf B k) M) 104 [(0, .ref h), (1, nV 4), (2, nV p1), (3, nV k)] [] := by
    intro fuel
    induction fuel with
    | zero =>
      intro k hk hk8
      omega
    | succ fuel ih104 =>
      intro k hk hk8
      refine xw_iload_n (pc := 104) C 3 dX1_ring_104 rfl ?_
      refine xw_aload_n (pc := 105) C 0 dX1_ring_105 rfl ?_
      refine xw_get (pc := 106) (T := TX1) (N := 7) (ref := "ToneButterfliesModel") C hin 0 5 rfl rfl (by decide) (by decide +kernel) rfl rfl dX1_ring_106 ?_
      refine xw_alen (pc := 109) C 1 0 rfl rfl dX1_ring_109 ?_
      refine xw_icmp_ge_N (pc := 110) (tgt := 126) C dX1_ring_110 (by decide) (by omega) (by omega) (fun c_6 => ?_) (fun c_6 => ?_)
      ·
        obtain rfl : k = 64 := by omega
        refine xw_aload_n (pc := 126) C 0 dX1_ring_126 rfl ?_
        refine xw_get (pc := 127) (T := TX1) (N := 7) (ref := "ToneButterfliesModel") C hin 0 3 rfl rfl (by decide) (by decide +kernel) rfl rfl dX1_ring_127 ?_
        exact xw_iret (pc := 130) C rX (Nat.le_refl _) (Nat.le_refl _) dX1_ring_130 (PD.i)
      ·
        refine xw_aload_n (pc := 113) C 0 dX1_ring_113 rfl ?_
        refine xw_get (pc := 114) (T := TX1) (N := 7) (ref := "ToneButterfliesModel") C hin 0 5 rfl rfl (by decide) (by decide +kernel) rfl rfl dX1_ring_114 ?_
        refine xw_iload_n (pc := 117) C 3 dX1_ring_117 rfl ?_
        refine xw_iconst_N (pc := 118) C 0 dX1_ring_118 rfl ?_
        refine xw_iast (pc := 119) (w' := wM cI h r d 0 4 p1 (rt 4 p1) 2 (va_up (zf B k) k 0) M) C 1 0 k 0 rfl rfl (rfl) rfl (by omega) (by decide) rfl dX1_ring_119 ?_
        refine xw_wo (w' := wM cI h r d 0 4 p1 (rt 4 p1) 2 (zf B (k + 1)) M) (by rw [zf_s]) ?_
        refine xw_iinc_N (pc := 120) (b := k + 1) (lv' := [(0, .ref h), (1, nV 4), (2, nV p1), (3, nV (k + 1))]) C 3 [1, 2, 3, 0] dX1_ring_120 rfl (by decide) rfl rfl ?_
        refine xw_goto (pc := 123) (tgt := 104) C dX1_ring_123 (by decide) ?_
        exact ih104 (k + 1) (by omega) (by omega)
  refine xw_wo (w' := wM cI h r d 0 4 p1 (rt 4 p1) 2 (zf B 0) M) (by rw [zf_0]) ?_
  exact L104 65 0 (by omega) (by omega)

set_option maxHeartbeats 4000000 in
set_option maxRecDepth 100000 in
theorem m_X1_ring_8 {l : Launch} {D : va_G} {cI : ClassId} {h r d th n p w b : Nat} {B M : Nat → Nat} (p1 : Nat) (hro : rok 8 p1) : CT l yX1_ring wsX1_ring (rmN 3 66) D vwCl [(cI, .int)] [.ref h, nV 8, nV p1] (wM cI h r d th n p w b B M) (PD (some (nV (rt 8 p1))) (wM cI h r d 0 8 p1 (rt 8 p1) 3 (zf B 64) M)) 0 0 := by
  refine ct_of (plainFor_of_name (by decide)) rfl (Nat.le_of_ble_eq_true rfl) (fun φ C rX => ?_)
  have hin : ∀ w ∈ wsX10, w ∈ wsX1_ring := by decide +kernel
  refine xw_le (lv' := [(0, .ref h), (1, nV 8), (2, nV p1)]) rfl ?_
  obtain ⟨hn, hp4, hp5, hprm, hdv⟩ := id hro
  have hp : 0 < p1 := by omega
  refine xw_aload_n (pc := 0) C 0 dX1_ring_0 rfl ?_
  refine xw_iconst_N (pc := 1) C 0 dX1_ring_1 rfl ?_
  refine xw_put (pc := 2) (T := TX1) (N := 7) (ref := "ToneButterfliesModel") (w' := wM cI h r d 0 n p w b B M) C hin tyX1 tyX1_ok nmX1 0 0 rfl rfl (by decide) (by decide +kernel) rfl rfl rfl rfl (Nat.le_of_ble_eq_true rfl) rfl dX1_ring_2 ?_
  refine xw_iload_n (pc := 5) C 1 dX1_ring_5 rfl ?_
  refine xw_iconst_N (pc := 6) C 4 dX1_ring_6 rfl ?_
  refine xw_icmp_eq_N (pc := 7) (tgt := 22) C dX1_ring_7 (by decide) (by omega) (by omega) (fun c_1 => (by exact absurd c_1 (by decide))) (fun c_1 => ?_)
  refine xw_iload_n (pc := 10) C 1 dX1_ring_10 rfl ?_
  refine xw_bipush_N (pc := 11) C 8 dX1_ring_11 (by decide) ?_
  refine xw_icmp_eq_N (pc := 13) (tgt := 22) C dX1_ring_13 (by decide) (by omega) (by omega) (fun c_2 => ?_) (fun c_2 => (by exact absurd rfl c_2))
  refine xw_iload_n (pc := 22) C 2 dX1_ring_22 rfl ?_
  refine xw_iconst_N (pc := 23) C 5 dX1_ring_23 rfl ?_
  refine xw_sipush_N (pc := 24) C 499 dX1_ring_24 (by decide) ?_
  refine xw_Sd (pc := 27) (na := 3) (rest := []) (st' := [bV (decide ((((5 : Nat) : Int)) ≤ (((p1 : Nat) : Int)) ∧ (((p1 : Nat) : Int)) ≤ (((499 : Nat) : Int))))]) C (m_X1_isIn (((p1 : Nat) : Int)) (((5 : Nat) : Int)) (((499 : Nat) : Int)) (by omega) (by omega) (by omega)) gX1_ring_X1_isIn rfl rfl rfl rfl (by decide +kernel) ⟨Nat.le_of_ble_eq_true rfl, Nat.le_of_ble_eq_true rfl⟩ rfl (Nat.le_of_ble_eq_true rfl) dX1_ring_27 ⟨Nat.le_of_ble_eq_true rfl, Nat.le_of_ble_eq_true rfl⟩ rfl ?_
  refine xw_if_eq_B (pc := 30) (tgt := 48) C dX1_ring_30 (by decide)  (fun c_3 => (by have q9 := of_decide_eq_false c_3; exfalso; omega)) (fun c_3 => ?_)
  have q_c_3 := of_decide_eq_true c_3
  
  refine xw_iload_n (pc := 33) C 2 dX1_ring_33 rfl ?_
  refine xw_Sd (pc := 34) (na := 1) (rest := []) (st' := [bV (prm p1)]) C (m_X1_isPrime p1 (by omega)) gX1_ring_X1_isPrime rfl rfl rfl rfl (by decide +kernel) ⟨Nat.le_of_ble_eq_true rfl, Nat.le_of_ble_eq_true rfl⟩ rfl (Nat.le_of_ble_eq_true rfl) dX1_ring_34 ⟨Nat.le_of_ble_eq_true rfl, Nat.le_of_ble_eq_true rfl⟩ rfl ?_
  refine xw_if_eq_B (pc := 37) (tgt := 48) C dX1_ring_37 (by decide)  (fun c_4 => (by rw [hprm] at c_4; exact absurd c_4 (by decide))) (fun c_4 => ?_)
  refine xw_iload_n (pc := 40) C 2 dX1_ring_40 rfl ?_
  refine xw_iconst_N (pc := 41) C 1 dX1_ring_41 rfl ?_
  refine xw_isub_N (pc := 42) C dX1_ring_42 (by omega) ?_
  refine xw_iload_n (pc := 43) C 1 dX1_ring_43 rfl ?_
  refine xw_irem_N (pc := 44) C dX1_ring_44 (by omega) (by omega) ?_
  refine xw_if_le_N (pc := 45) (tgt := 54) C dX1_ring_45 (by decide) (by omega) (fun c_5 => ?_) (fun c_5 => (by exfalso; omega))
  refine xw_aload_n (pc := 54) C 0 dX1_ring_54 rfl ?_
  refine xw_iload_n (pc := 55) C 1 dX1_ring_55 rfl ?_
  refine xw_put (pc := 56) (T := TX1) (N := 7) (ref := "ToneButterfliesModel") (w' := wM cI h r d 0 8 p w b B M) C hin tyX1 tyX1_ok nmX1 0 1 rfl rfl (by decide) (by decide +kernel) rfl rfl rfl rfl (Nat.le_of_ble_eq_true rfl) rfl dX1_ring_56 ?_
  refine xw_aload_n (pc := 59) C 0 dX1_ring_59 rfl ?_
  refine xw_iload_n (pc := 60) C 2 dX1_ring_60 rfl ?_
  refine xw_put (pc := 61) (T := TX1) (N := 7) (ref := "ToneButterfliesModel") (w' := wM cI h r d 0 8 p1 w b B M) C hin tyX1 tyX1_ok nmX1 0 2 rfl rfl (by decide) (by decide +kernel) rfl rfl rfl rfl (Nat.le_of_ble_eq_true rfl) rfl dX1_ring_61 ?_
  refine xw_aload_n (pc := 64) C 0 dX1_ring_64 rfl ?_
  refine xw_aload_n (pc := 65) C 0 dX1_ring_65 rfl ?_
  refine xw_Vd (pc := 66) (q0 := 0) (na := 0) (rest := [.ref h]) (st' := [nV (rt 8 p1), .ref h]) C (m_X1_rootOf (hro)) gX1_ring_X1_rootOf rfl rfl rfl rfl (by decide +kernel) ⟨Nat.le_of_ble_eq_true rfl, Nat.le_of_ble_eq_true rfl⟩ rfl rfl rfl (Nat.le_of_ble_eq_true rfl) dX1_ring_66 ⟨Nat.le_of_ble_eq_true rfl, Nat.le_of_ble_eq_true rfl⟩ rfl ?_
  refine xw_put (pc := 69) (T := TX1) (N := 7) (ref := "ToneButterfliesModel") (w' := wM cI h r d 0 8 p1 (rt 8 p1) b B M) C hin tyX1 tyX1_ok nmX1 0 3 rfl rfl (by decide) (by decide +kernel) rfl rfl rfl rfl (Nat.le_of_ble_eq_true rfl) rfl dX1_ring_69 ?_
  refine xw_aload_n (pc := 72) C 0 dX1_ring_72 rfl ?_
  refine xw_aload_n (pc := 73) C 0 dX1_ring_73 rfl ?_
  refine xw_get (pc := 74) (T := TX1) (N := 7) (ref := "ToneButterfliesModel") C hin 0 1 rfl rfl (by decide) (by decide +kernel) rfl rfl dX1_ring_74 ?_
  refine xw_iconst_N (pc := 77) C 4 dX1_ring_77 rfl ?_
  refine xw_icmp_ne_N (pc := 78) (tgt := 85) C dX1_ring_78 (by decide) (by omega) (by omega) (fun c_6 => ?_) (fun c_6 => (by exact absurd c_6 (by decide)))
  refine xw_aload_n (pc := 85) C 0 dX1_ring_85 rfl ?_
  refine xw_get (pc := 86) (T := TX1) (N := 7) (ref := "ToneButterfliesModel") C hin 0 1 rfl rfl (by decide) (by decide +kernel) rfl rfl dX1_ring_86 ?_
  refine xw_bipush_N (pc := 89) C 8 dX1_ring_89 (by decide) ?_
  refine xw_icmp_ne_N (pc := 91) (tgt := 98) C dX1_ring_91 (by decide) (by omega) (by omega) (fun c_7 => (by exact absurd rfl c_7)) (fun c_7 => ?_)
  refine xw_iconst_N (pc := 94) C 3 dX1_ring_94 rfl ?_
  refine xw_goto (pc := 95) (tgt := 99) C dX1_ring_95 (by decide) ?_
  refine xw_put (pc := 99) (T := TX1) (N := 7) (ref := "ToneButterfliesModel") (w' := wM cI h r d 0 8 p1 (rt 8 p1) 3 B M) C hin tyX1 tyX1_ok nmX1 0 4 rfl rfl (by decide) (by decide +kernel) rfl rfl rfl rfl (Nat.le_of_ble_eq_true rfl) rfl dX1_ring_99 ?_
  refine xw_iconst_N (pc := 102) C 0 dX1_ring_102 rfl ?_
  refine xw_istore_n (pc := 103) (lv' := [(0, .ref h), (1, nV 8), (2, nV p1), (3, nV 0)]) C [1, 2, 3, 0] dX1_ring_103 rfl (by decide) rfl ?_
  have L104 : ∀ (fuel : Nat) (k : Nat), 64 < k + fuel → k ≤ 64 → xw φ 0 0 (wM cI h r d 0 8 p1 (rt 8 p1) 3 (zf B k) M) 104 [(0, .ref h), (1, nV 8), (2, nV p1), (3, nV k)] [] := by
    intro fuel
    induction fuel with
    | zero =>
      intro k hk hk8
      omega
    | succ fuel ih104 =>
      intro k hk hk8
      refine xw_iload_n (pc := 104) C 3 dX1_ring_104 rfl ?_
      refine xw_aload_n (pc := 105) C 0 dX1_ring_105 rfl ?_
      refine xw_get (pc := 106) (T := TX1) (N := 7) (ref := "ToneButterfliesModel") C hin 0 5 rfl rfl (by decide) (by decide +kernel) rfl rfl dX1_ring_106 ?_
      refine xw_alen (pc := 109) C 1 0 rfl rfl dX1_ring_109 ?_
      refine xw_icmp_ge_N (pc := 110) (tgt := 126) C dX1_ring_110 (by decide) (by omega) (by omega) (fun c_8 => ?_) (fun c_8 => ?_)
      ·
        obtain rfl : k = 64 := by omega
        refine xw_aload_n (pc := 126) C 0 dX1_ring_126 rfl ?_
        refine xw_get (pc := 127) (T := TX1) (N := 7) (ref := "ToneButterfliesModel") C hin 0 3 rfl rfl (by decide) (by decide +kernel) rfl rfl dX1_ring_127 ?_
        exact xw_iret (pc := 130) C rX (Nat.le_refl _) (Nat.le_refl _) dX1_ring_130 (PD.i)
      ·
        refine xw_aload_n (pc := 113) C 0 dX1_ring_113 rfl ?_
        refine xw_get (pc := 114) (T := TX1) (N := 7) (ref := "ToneButterfliesModel") C hin 0 5 rfl rfl (by decide) (by decide +kernel) rfl rfl dX1_ring_114 ?_
        refine xw_iload_n (pc := 117) C 3 dX1_ring_117 rfl ?_
        refine xw_iconst_N (pc := 118) C 0 dX1_ring_118 rfl ?_
        refine xw_iast (pc := 119) (w' := wM cI h r d 0 8 p1 (rt 8 p1) 3 (va_up (zf B k) k 0) M) C 1 0 k 0 rfl rfl (rfl) rfl (by omega) (by decide) rfl dX1_ring_119 ?_
        refine xw_wo (w' := wM cI h r d 0 8 p1 (rt 8 p1) 3 (zf B (k + 1)) M) (by rw [zf_s]) ?_
        refine xw_iinc_N (pc := 120) (b := k + 1) (lv' := [(0, .ref h), (1, nV 8), (2, nV p1), (3, nV (k + 1))]) C 3 [1, 2, 3, 0] dX1_ring_120 rfl (by decide) rfl rfl ?_
        refine xw_goto (pc := 123) (tgt := 104) C dX1_ring_123 (by decide) ?_
        exact ih104 (k + 1) (by omega) (by omega)
  refine xw_wo (w' := wM cI h r d 0 8 p1 (rt 8 p1) 3 (zf B 0) M) (by rw [zf_0]) ?_
  exact L104 65 0 (by omega) (by omega)

set_option maxHeartbeats 4000000 in
set_option maxRecDepth 100000 in
theorem m_X1_ring_16 {l : Launch} {D : va_G} {cI : ClassId} {h r d th n p w b : Nat} {B M : Nat → Nat} (p1 : Nat) (hro : rok 16 p1) : CT l yX1_ring wsX1_ring (rmN 3 66) D vwCl [(cI, .int)] [.ref h, nV 16, nV p1] (wM cI h r d th n p w b B M) (PD (some (nV (rt 16 p1))) (wM cI h r d 0 16 p1 (rt 16 p1) 4 (zf B 64) M)) 0 0 := by
  refine ct_of (plainFor_of_name (by decide)) rfl (Nat.le_of_ble_eq_true rfl) (fun φ C rX => ?_)
  have hin : ∀ w ∈ wsX10, w ∈ wsX1_ring := by decide +kernel
  refine xw_le (lv' := [(0, .ref h), (1, nV 16), (2, nV p1)]) rfl ?_
  obtain ⟨hn, hp4, hp5, hprm, hdv⟩ := id hro
  have hp : 0 < p1 := by omega
  refine xw_aload_n (pc := 0) C 0 dX1_ring_0 rfl ?_
  refine xw_iconst_N (pc := 1) C 0 dX1_ring_1 rfl ?_
  refine xw_put (pc := 2) (T := TX1) (N := 7) (ref := "ToneButterfliesModel") (w' := wM cI h r d 0 n p w b B M) C hin tyX1 tyX1_ok nmX1 0 0 rfl rfl (by decide) (by decide +kernel) rfl rfl rfl rfl (Nat.le_of_ble_eq_true rfl) rfl dX1_ring_2 ?_
  refine xw_iload_n (pc := 5) C 1 dX1_ring_5 rfl ?_
  refine xw_iconst_N (pc := 6) C 4 dX1_ring_6 rfl ?_
  refine xw_icmp_eq_N (pc := 7) (tgt := 22) C dX1_ring_7 (by decide) (by omega) (by omega) (fun c_1 => (by exact absurd c_1 (by decide))) (fun c_1 => ?_)
  refine xw_iload_n (pc := 10) C 1 dX1_ring_10 rfl ?_
  refine xw_bipush_N (pc := 11) C 8 dX1_ring_11 (by decide) ?_
  refine xw_icmp_eq_N (pc := 13) (tgt := 22) C dX1_ring_13 (by decide) (by omega) (by omega) (fun c_2 => (by exact absurd c_2 (by decide))) (fun c_2 => ?_)
  refine xw_iload_n (pc := 16) C 1 dX1_ring_16 rfl ?_
  refine xw_bipush_N (pc := 17) C 16 dX1_ring_17 (by decide) ?_
  refine xw_icmp_ne_N (pc := 19) (tgt := 48) C dX1_ring_19 (by decide) (by omega) (by omega) (fun c_3 => (by exact absurd rfl c_3)) (fun c_3 => ?_)
  refine xw_iload_n (pc := 22) C 2 dX1_ring_22 rfl ?_
  refine xw_iconst_N (pc := 23) C 5 dX1_ring_23 rfl ?_
  refine xw_sipush_N (pc := 24) C 499 dX1_ring_24 (by decide) ?_
  refine xw_Sd (pc := 27) (na := 3) (rest := []) (st' := [bV (decide ((((5 : Nat) : Int)) ≤ (((p1 : Nat) : Int)) ∧ (((p1 : Nat) : Int)) ≤ (((499 : Nat) : Int))))]) C (m_X1_isIn (((p1 : Nat) : Int)) (((5 : Nat) : Int)) (((499 : Nat) : Int)) (by omega) (by omega) (by omega)) gX1_ring_X1_isIn rfl rfl rfl rfl (by decide +kernel) ⟨Nat.le_of_ble_eq_true rfl, Nat.le_of_ble_eq_true rfl⟩ rfl (Nat.le_of_ble_eq_true rfl) dX1_ring_27 ⟨Nat.le_of_ble_eq_true rfl, Nat.le_of_ble_eq_true rfl⟩ rfl ?_
  refine xw_if_eq_B (pc := 30) (tgt := 48) C dX1_ring_30 (by decide)  (fun c_4 => (by have q9 := of_decide_eq_false c_4; exfalso; omega)) (fun c_4 => ?_)
  have q_c_4 := of_decide_eq_true c_4
  
  refine xw_iload_n (pc := 33) C 2 dX1_ring_33 rfl ?_
  refine xw_Sd (pc := 34) (na := 1) (rest := []) (st' := [bV (prm p1)]) C (m_X1_isPrime p1 (by omega)) gX1_ring_X1_isPrime rfl rfl rfl rfl (by decide +kernel) ⟨Nat.le_of_ble_eq_true rfl, Nat.le_of_ble_eq_true rfl⟩ rfl (Nat.le_of_ble_eq_true rfl) dX1_ring_34 ⟨Nat.le_of_ble_eq_true rfl, Nat.le_of_ble_eq_true rfl⟩ rfl ?_
  refine xw_if_eq_B (pc := 37) (tgt := 48) C dX1_ring_37 (by decide)  (fun c_5 => (by rw [hprm] at c_5; exact absurd c_5 (by decide))) (fun c_5 => ?_)
  refine xw_iload_n (pc := 40) C 2 dX1_ring_40 rfl ?_
  refine xw_iconst_N (pc := 41) C 1 dX1_ring_41 rfl ?_
  refine xw_isub_N (pc := 42) C dX1_ring_42 (by omega) ?_
  refine xw_iload_n (pc := 43) C 1 dX1_ring_43 rfl ?_
  refine xw_irem_N (pc := 44) C dX1_ring_44 (by omega) (by omega) ?_
  refine xw_if_le_N (pc := 45) (tgt := 54) C dX1_ring_45 (by decide) (by omega) (fun c_6 => ?_) (fun c_6 => (by exfalso; omega))
  refine xw_aload_n (pc := 54) C 0 dX1_ring_54 rfl ?_
  refine xw_iload_n (pc := 55) C 1 dX1_ring_55 rfl ?_
  refine xw_put (pc := 56) (T := TX1) (N := 7) (ref := "ToneButterfliesModel") (w' := wM cI h r d 0 16 p w b B M) C hin tyX1 tyX1_ok nmX1 0 1 rfl rfl (by decide) (by decide +kernel) rfl rfl rfl rfl (Nat.le_of_ble_eq_true rfl) rfl dX1_ring_56 ?_
  refine xw_aload_n (pc := 59) C 0 dX1_ring_59 rfl ?_
  refine xw_iload_n (pc := 60) C 2 dX1_ring_60 rfl ?_
  refine xw_put (pc := 61) (T := TX1) (N := 7) (ref := "ToneButterfliesModel") (w' := wM cI h r d 0 16 p1 w b B M) C hin tyX1 tyX1_ok nmX1 0 2 rfl rfl (by decide) (by decide +kernel) rfl rfl rfl rfl (Nat.le_of_ble_eq_true rfl) rfl dX1_ring_61 ?_
  refine xw_aload_n (pc := 64) C 0 dX1_ring_64 rfl ?_
  refine xw_aload_n (pc := 65) C 0 dX1_ring_65 rfl ?_
  refine xw_Vd (pc := 66) (q0 := 0) (na := 0) (rest := [.ref h]) (st' := [nV (rt 16 p1), .ref h]) C (m_X1_rootOf (hro)) gX1_ring_X1_rootOf rfl rfl rfl rfl (by decide +kernel) ⟨Nat.le_of_ble_eq_true rfl, Nat.le_of_ble_eq_true rfl⟩ rfl rfl rfl (Nat.le_of_ble_eq_true rfl) dX1_ring_66 ⟨Nat.le_of_ble_eq_true rfl, Nat.le_of_ble_eq_true rfl⟩ rfl ?_
  refine xw_put (pc := 69) (T := TX1) (N := 7) (ref := "ToneButterfliesModel") (w' := wM cI h r d 0 16 p1 (rt 16 p1) b B M) C hin tyX1 tyX1_ok nmX1 0 3 rfl rfl (by decide) (by decide +kernel) rfl rfl rfl rfl (Nat.le_of_ble_eq_true rfl) rfl dX1_ring_69 ?_
  refine xw_aload_n (pc := 72) C 0 dX1_ring_72 rfl ?_
  refine xw_aload_n (pc := 73) C 0 dX1_ring_73 rfl ?_
  refine xw_get (pc := 74) (T := TX1) (N := 7) (ref := "ToneButterfliesModel") C hin 0 1 rfl rfl (by decide) (by decide +kernel) rfl rfl dX1_ring_74 ?_
  refine xw_iconst_N (pc := 77) C 4 dX1_ring_77 rfl ?_
  refine xw_icmp_ne_N (pc := 78) (tgt := 85) C dX1_ring_78 (by decide) (by omega) (by omega) (fun c_7 => ?_) (fun c_7 => (by exact absurd c_7 (by decide)))
  refine xw_aload_n (pc := 85) C 0 dX1_ring_85 rfl ?_
  refine xw_get (pc := 86) (T := TX1) (N := 7) (ref := "ToneButterfliesModel") C hin 0 1 rfl rfl (by decide) (by decide +kernel) rfl rfl dX1_ring_86 ?_
  refine xw_bipush_N (pc := 89) C 8 dX1_ring_89 (by decide) ?_
  refine xw_icmp_ne_N (pc := 91) (tgt := 98) C dX1_ring_91 (by decide) (by omega) (by omega) (fun c_8 => ?_) (fun c_8 => (by exact absurd c_8 (by decide)))
  refine xw_iconst_N (pc := 98) C 4 dX1_ring_98 rfl ?_
  refine xw_put (pc := 99) (T := TX1) (N := 7) (ref := "ToneButterfliesModel") (w' := wM cI h r d 0 16 p1 (rt 16 p1) 4 B M) C hin tyX1 tyX1_ok nmX1 0 4 rfl rfl (by decide) (by decide +kernel) rfl rfl rfl rfl (Nat.le_of_ble_eq_true rfl) rfl dX1_ring_99 ?_
  refine xw_iconst_N (pc := 102) C 0 dX1_ring_102 rfl ?_
  refine xw_istore_n (pc := 103) (lv' := [(0, .ref h), (1, nV 16), (2, nV p1), (3, nV 0)]) C [1, 2, 3, 0] dX1_ring_103 rfl (by decide) rfl ?_
  have L104 : ∀ (fuel : Nat) (k : Nat), 64 < k + fuel → k ≤ 64 → xw φ 0 0 (wM cI h r d 0 16 p1 (rt 16 p1) 4 (zf B k) M) 104 [(0, .ref h), (1, nV 16), (2, nV p1), (3, nV k)] [] := by
    intro fuel
    induction fuel with
    | zero =>
      intro k hk hk8
      omega
    | succ fuel ih104 =>
      intro k hk hk8
      refine xw_iload_n (pc := 104) C 3 dX1_ring_104 rfl ?_
      refine xw_aload_n (pc := 105) C 0 dX1_ring_105 rfl ?_
      refine xw_get (pc := 106) (T := TX1) (N := 7) (ref := "ToneButterfliesModel") C hin 0 5 rfl rfl (by decide) (by decide +kernel) rfl rfl dX1_ring_106 ?_
      refine xw_alen (pc := 109) C 1 0 rfl rfl dX1_ring_109 ?_
      refine xw_icmp_ge_N (pc := 110) (tgt := 126) C dX1_ring_110 (by decide) (by omega) (by omega) (fun c_9 => ?_) (fun c_9 => ?_)
      ·
        obtain rfl : k = 64 := by omega
        refine xw_aload_n (pc := 126) C 0 dX1_ring_126 rfl ?_
        refine xw_get (pc := 127) (T := TX1) (N := 7) (ref := "ToneButterfliesModel") C hin 0 3 rfl rfl (by decide) (by decide +kernel) rfl rfl dX1_ring_127 ?_
        exact xw_iret (pc := 130) C rX (Nat.le_refl _) (Nat.le_refl _) dX1_ring_130 (PD.i)
      ·
        refine xw_aload_n (pc := 113) C 0 dX1_ring_113 rfl ?_
        refine xw_get (pc := 114) (T := TX1) (N := 7) (ref := "ToneButterfliesModel") C hin 0 5 rfl rfl (by decide) (by decide +kernel) rfl rfl dX1_ring_114 ?_
        refine xw_iload_n (pc := 117) C 3 dX1_ring_117 rfl ?_
        refine xw_iconst_N (pc := 118) C 0 dX1_ring_118 rfl ?_
        refine xw_iast (pc := 119) (w' := wM cI h r d 0 16 p1 (rt 16 p1) 4 (va_up (zf B k) k 0) M) C 1 0 k 0 rfl rfl (rfl) rfl (by omega) (by decide) rfl dX1_ring_119 ?_
        refine xw_wo (w' := wM cI h r d 0 16 p1 (rt 16 p1) 4 (zf B (k + 1)) M) (by rw [zf_s]) ?_
        refine xw_iinc_N (pc := 120) (b := k + 1) (lv' := [(0, .ref h), (1, nV 16), (2, nV p1), (3, nV (k + 1))]) C 3 [1, 2, 3, 0] dX1_ring_120 rfl (by decide) rfl rfl ?_
        refine xw_goto (pc := 123) (tgt := 104) C dX1_ring_123 (by decide) ?_
        exact ih104 (k + 1) (by omega) (by omega)
  refine xw_wo (w' := wM cI h r d 0 16 p1 (rt 16 p1) 4 (zf B 0) M) (by rw [zf_0]) ?_
  exact L104 65 0 (by omega) (by omega)

set_option maxHeartbeats 4000000 in
set_option maxRecDepth 100000 in
theorem m_X1_digest {l : Launch} {D : va_G} {cI : ClassId} {h r d th n p w b : Nat} {B M : Nat → Nat} (hro : rok n p) (hB : ∀ j, B j < 500) (hM : ∀ j, M j < 500) (hw1 : 1 ≤ w) (hw : w < p) : CT l yX1_digest wsX1_digest (rmN 3 71) D vwCl [(cI, .int)] [.ref h] (wM cI h r d th n p w b B M) (fun v w1 => ∃ M9 : Nat → Nat, (∀ j, M9 j < 500) ∧ v = some (.long (drs p n w B (dgc (fun k => ((ct n p b w (w ^ (p - 2) % p) (n ^ (p - 2) % p) k : Nat) : Int)) 1777 6) 4)) ∧ w1 = wM cI h r d 0 n p w b B M9) 0 0 := by
  refine ct_of (plainFor_of_name (by decide)) rfl (Nat.le_of_ble_eq_true rfl) (fun φ C rX => ?_)
  have hin : ∀ w ∈ wsX10, w ∈ wsX1_digest := by decide +kernel
  refine xw_le (lv' := [(0, .ref h)]) rfl ?_
  obtain ⟨hn, hp4, hp5, hprm, hdv⟩ := id hro
  have hp : 0 < p := by omega
  have hp1 : 1 < p := by omega
  have hn3 := lt3 hn
  have hnp := rok_lt hro
  refine xw_aload_n (pc := 0) C 0 dX1_digest_0 rfl ?_
  refine xw_iconst_N (pc := 1) C 0 dX1_digest_1 rfl ?_
  refine xw_put (pc := 2) (T := TX1) (N := 7) (ref := "ToneButterfliesModel") (w' := wM cI h r d 0 n p w b B M) C hin tyX1 tyX1_ok nmX1 0 0 rfl rfl (by decide) (by decide +kernel) rfl rfl rfl rfl (Nat.le_of_ble_eq_true rfl) rfl dX1_digest_2 ?_
  refine xw_ldc2 (pc := 5) (v := 1777) C (by decide +kernel) dX1_digest_5 ?_
  refine xw_lstore_n (pc := 8) (lv' := [(0, .ref h), (1, .long 1777)]) C [1, 0] dX1_digest_8 rfl (by decide) rfl ?_
  refine xw_iconst_N (pc := 9) C 0 dX1_digest_9 rfl ?_
  refine xw_istore_n (pc := 10) (lv' := [(0, .ref h), (1, .long 1777), (3, nV 0)]) C [1, 2, 0] dX1_digest_10 rfl (by decide) rfl ?_
  have L11 : ∀ (fuel : Nat) (k : Nat) (d9 : Int64), 6 < k + fuel → k ≤ 6 → d9 = dgc (fun k => ((ct n p b w (w ^ (p - 2) % p) (n ^ (p - 2) % p) k : Nat) : Int)) 1777 k → xw φ 0 0 (wM cI h r d 0 n p w b B M) 11 [(0, .ref h), (1, .long d9), (3, nV k)] [] := by
    intro fuel
    induction fuel with
    | zero =>
      intro k d9 hk hkn hd
      omega
    | succ fuel ih11 =>
      intro k d9 hk hkn hd
      refine xw_iload_n (pc := 11) C 2 dX1_digest_11 rfl ?_
      refine xw_iconst_N (pc := 12) C 5 dX1_digest_12 rfl ?_
      refine xw_icmp_gt_N (pc := 13) (tgt := 35) C dX1_digest_13 (by decide) (by omega) (by omega) (fun c_1 => ?_) (fun c_1 => ?_)
      ·
        refine xw_iconst_N (pc := 35) C 0 dX1_digest_35 rfl ?_
        refine xw_istore_n (pc := 36) (lv' := [(0, .ref h), (1, .long d9), (3, nV 0)]) C [1, 2, 0] dX1_digest_36 rfl (by decide) rfl ?_
        have L37 : ∀ (fuel : Nat) (row : Nat) (M9 : Nat → Nat) (d9 : Int64), 4 < row + fuel → row ≤ 4 → (∀ j, M9 j < 500) → d9 = drs p n w B (dgc (fun k => ((ct n p b w (w ^ (p - 2) % p) (n ^ (p - 2) % p) k : Nat) : Int)) 1777 6) row → xw φ 0 0 (wM cI h r d 0 n p w b B M9) 37 [(0, .ref h), (1, .long d9), (3, nV row)] [] := by
          intro fuel
          induction fuel with
          | zero =>
            intro row M9 d9 hk hkn hM9 hd
            omega
          | succ fuel ih37 =>
            intro row M9 d9 hk hkn hM9 hd
            refine xw_iload_n (pc := 37) C 2 dX1_digest_37 rfl ?_
            refine xw_iconst_N (pc := 38) C 4 dX1_digest_38 rfl ?_
            refine xw_icmp_ge_N (pc := 39) (tgt := 154) C dX1_digest_39 (by decide) (by omega) (by omega) (fun c_2 => ?_) (fun c_2 => ?_)
            ·
              refine xw_lload_n (pc := 154) C 1 dX1_digest_154 rfl ?_
              exact xw_lret (pc := 155) C rX (Nat.le_refl _) (Nat.le_refl _) dX1_digest_155 (⟨M9, hM9, by rw [hd, show row = 4 by omega], rfl⟩)
            ·
              refine xw_iconst_N (pc := 42) C 0 dX1_digest_42 rfl ?_
              refine xw_istore (pc := 43) (lv' := [(0, .ref h), (1, .long d9), (3, nV row), (4, nV 0)]) C [1, 2, 3, 0] dX1_digest_43 (by decide) rfl ?_
              have L45 : ∀ (fuel : Nat) (k9 : Nat) (e1 : Int64), n < k9 + fuel → k9 ≤ n → e1 = dgc (fun k => ((B (16 * row + k) : Nat) : Int)) d9 k9 → xw φ 0 0 (wM cI h r d 0 n p w b B M9) 45 [(0, .ref h), (1, .long e1), (3, nV row), (4, nV k9)] [] := by
                intro fuel
                induction fuel with
                | zero =>
                  intro k9 e1 hq hqn he1
                  omega
                | succ fuel ih45 =>
                  intro k9 e1 hq hqn he1
                  refine xw_iload (pc := 45) C 3 dX1_digest_45 rfl ?_
                  refine xw_aload_n (pc := 47) C 0 dX1_digest_47 rfl ?_
                  refine xw_get (pc := 48) (T := TX1) (N := 7) (ref := "ToneButterfliesModel") C hin 0 1 rfl rfl (by decide) (by decide +kernel) rfl rfl dX1_digest_48 ?_
                  refine xw_icmp_ge_N (pc := 51) (tgt := 75) C dX1_digest_51 (by decide) (by omega) (by omega) (fun c_3 => ?_) (fun c_3 => ?_)
                  ·
                    refine xw_iconst_N (pc := 75) C 0 dX1_digest_75 rfl ?_
                    refine xw_istore (pc := 76) (lv' := [(0, .ref h), (1, .long e1), (3, nV row), (4, nV 0)]) C [1, 2, 3, 0] dX1_digest_76 (by decide) rfl ?_
                    have L78 : ∀ (fuel : Nat) (q : Nat) (e2 : Int64), 5 < q + fuel → q ≤ 5 → e2 = dgc (tl p n B row) e1 q → xw φ 0 0 (wM cI h r d 0 n p w b B M9) 78 [(0, .ref h), (1, .long e2), (3, nV row), (4, nV q)] [] := by
                      intro fuel
                      induction fuel with
                      | zero =>
                        intro q e2 hq hqn he2
                        omega
                      | succ fuel ih78 =>
                        intro q e2 hq hqn he2
                        refine xw_iload (pc := 78) C 3 dX1_digest_78 rfl ?_
                        refine xw_iconst_N (pc := 80) C 4 dX1_digest_80 rfl ?_
                        refine xw_icmp_gt_N (pc := 81) (tgt := 105) C dX1_digest_81 (by decide) (by omega) (by omega) (fun c_4 => ?_) (fun c_4 => ?_)
                        ·
                          refine xw_aload_n (pc := 105) C 0 dX1_digest_105 rfl ?_
                          refine xw_iload_n (pc := 106) C 2 dX1_digest_106 rfl ?_
                          refine xw_aload_n (pc := 107) C 0 dX1_digest_107 rfl ?_
                          refine xw_get (pc := 108) (T := TX1) (N := 7) (ref := "ToneButterfliesModel") C hin 0 3 rfl rfl (by decide) (by decide +kernel) rfl rfl dX1_digest_108 ?_
                          refine xw_iconst_N (pc := 111) C 1 dX1_digest_111 rfl ?_
                          refine xw_Vd (pc := 112) (q0 := 0) (na := 3) (rest := []) (st' := []) C (m_X1_makeTones hp hp5 hn (hB) row w 1 (by omega) (by omega) (by omega)) gX1_digest_X1_makeTones rfl rfl rfl rfl (by decide +kernel) ⟨Nat.le_of_ble_eq_true rfl, Nat.le_of_ble_eq_true rfl⟩ rfl rfl rfl (Nat.le_of_ble_eq_true rfl) dX1_digest_112 ⟨Nat.le_of_ble_eq_true rfl, Nat.le_of_ble_eq_true rfl⟩ rfl ?_
                          refine xw_iconst_N (pc := 115) C 0 dX1_digest_115 rfl ?_
                          refine xw_istore (pc := 116) (lv' := [(0, .ref h), (1, .long e2), (3, nV row), (4, nV 0)]) C [1, 2, 3, 0] dX1_digest_116 (by decide) rfl ?_
                          have L118 : ∀ (fuel : Nat) (u : Nat) (e3 : Int64), n < u + fuel → u ≤ n → e3 = dgc (fun k => ((tn p n B row w 1 k : Nat) : Int)) e2 u → xw φ 0 0 (wM cI h r d 0 n p w b B (mk M9 (tn p n B row w 1) n)) 118 [(0, .ref h), (1, .long e3), (3, nV row), (4, nV u)] [] := by
                            intro fuel
                            induction fuel with
                            | zero =>
                              intro u e3 hq hqn he3
                              omega
                            | succ fuel ih118 =>
                              intro u e3 hq hqn he3
                              refine xw_iload (pc := 118) C 3 dX1_digest_118 rfl ?_
                              refine xw_aload_n (pc := 120) C 0 dX1_digest_120 rfl ?_
                              refine xw_get (pc := 121) (T := TX1) (N := 7) (ref := "ToneButterfliesModel") C hin 0 1 rfl rfl (by decide) (by decide +kernel) rfl rfl dX1_digest_121 ?_
                              refine xw_icmp_ge_N (pc := 124) (tgt := 148) C dX1_digest_124 (by decide) (by omega) (by omega) (fun c_5 => ?_) (fun c_5 => ?_)
                              ·
                                refine xw_iinc_N (pc := 148) (b := row + 1) (lv' := [(0, .ref h), (1, .long e3), (3, nV (row + 1)), (4, nV u)]) C 2 [1, 2, 0, 3] dX1_digest_148 rfl (by decide) rfl rfl ?_
                                refine xw_goto (pc := 151) (tgt := 37) C dX1_digest_151 (by decide) ?_
                                refine xw_lv (lv' := [(0, .ref h), (1, .long e3), (3, nV (row + 1))]) [0, 1, 2] rfl ?_
                                exact ih37 (row + 1) _ _ (by omega) (by omega) (mk_lt (g := tn p n B row w 1) hM9 (fun j _ => ml hp hp5)) (by rw [drs, ← hd]; unfold dro; rw [he3, show u = n by omega, he2, show q = 5 by omega, he1, show k9 = n by omega])
                              ·
                                refine xw_lload_n (pc := 127) C 1 dX1_digest_127 rfl ?_
                                refine xw_ldc2 (pc := 128) (v := 31) C (by decide +kernel) dX1_digest_128 ?_
                                refine xw_lmul (pc := 131) C dX1_digest_131 ?_
                                refine xw_aload_n (pc := 132) C 0 dX1_digest_132 rfl ?_
                                refine xw_get (pc := 133) (T := TX1) (N := 7) (ref := "ToneButterfliesModel") C hin 0 6 rfl rfl (by decide) (by decide +kernel) rfl rfl dX1_digest_133 ?_
                                refine xw_iload (pc := 136) C 3 dX1_digest_136 rfl ?_
                                refine xw_iald (pc := 138) C 2 0 u rfl rfl (rfl) (by omega) (by decide) dX1_digest_138 ?_
                                refine xw_st (st' := [nV (tn p n B row w 1 u), .long (e3 * 31)]) (by rw [mk_in (show u < n by omega)]) ?_
                                refine xw_i2l (pc := 139) C dX1_digest_139 ?_
                                refine xw_ladd (pc := 140) C dX1_digest_140 ?_
                                refine xw_lstore_n (pc := 141) (lv' := [(0, .ref h), (1, .long ((e3 * 31) + ((iI ((tn p n B row w 1 u : Nat) : Int)).toInt64))), (3, nV row), (4, nV u)]) C [1, 0, 2, 3] dX1_digest_141 rfl (by decide) rfl ?_
                                refine xw_iinc_N (pc := 142) (b := u + 1) (lv' := [(0, .ref h), (1, .long ((e3 * 31) + ((iI ((tn p n B row w 1 u : Nat) : Int)).toInt64))), (3, nV row), (4, nV (u + 1))]) C 3 [1, 2, 3, 0] dX1_digest_142 rfl (by decide) rfl rfl ?_
                                refine xw_goto (pc := 145) (tgt := 118) C dX1_digest_145 (by decide) ?_
                                exact ih118 (u + 1) _ (by omega) (by omega) (by rw [dgc, ← he3]; rfl)
                          exact L118 (n + 1) 0 _ (by omega) (by omega) rfl
                        ·
                          refine xw_lload_n (pc := 84) C 1 dX1_digest_84 rfl ?_
                          refine xw_ldc2 (pc := 85) (v := 31) C (by decide +kernel) dX1_digest_85 ?_
                          refine xw_lmul (pc := 88) C dX1_digest_88 ?_
                          refine xw_aload_n (pc := 89) C 0 dX1_digest_89 rfl ?_
                          refine xw_iload_n (pc := 90) C 2 dX1_digest_90 rfl ?_
                          refine xw_iload (pc := 91) C 3 dX1_digest_91 rfl ?_
                          refine xw_Vd (pc := 93) (q0 := 0) (na := 2) (rest := [.long (e2 * 31)]) (st' := [iV (tl p n B row q), .long (e2 * 31)]) C (m_X1_aboutTold hp hp5 hn (hB) row q (by omega) (by omega)) gX1_digest_X1_aboutTold rfl rfl rfl rfl (by decide +kernel) ⟨Nat.le_of_ble_eq_true rfl, Nat.le_of_ble_eq_true rfl⟩ rfl rfl rfl (Nat.le_of_ble_eq_true rfl) dX1_digest_93 ⟨Nat.le_of_ble_eq_true rfl, Nat.le_of_ble_eq_true rfl⟩ rfl ?_
                          refine xw_i2l (pc := 96) C dX1_digest_96 ?_
                          refine xw_ladd (pc := 97) C dX1_digest_97 ?_
                          refine xw_lstore_n (pc := 98) (lv' := [(0, .ref h), (1, .long ((e2 * 31) + ((iI (tl p n B row q)).toInt64))), (3, nV row), (4, nV q)]) C [1, 0, 2, 3] dX1_digest_98 rfl (by decide) rfl ?_
                          refine xw_iinc_N (pc := 99) (b := q + 1) (lv' := [(0, .ref h), (1, .long ((e2 * 31) + ((iI (tl p n B row q)).toInt64))), (3, nV row), (4, nV (q + 1))]) C 3 [1, 2, 3, 0] dX1_digest_99 rfl (by decide) rfl rfl ?_
                          refine xw_goto (pc := 102) (tgt := 78) C dX1_digest_102 (by decide) ?_
                          exact ih78 (q + 1) _ (by omega) (by omega) (by rw [dgc, ← he2]; rfl)
                    exact L78 6 0 _ (by omega) (by omega) rfl
                  ·
                    refine xw_lload_n (pc := 54) C 1 dX1_digest_54 rfl ?_
                    refine xw_ldc2 (pc := 55) (v := 31) C (by decide +kernel) dX1_digest_55 ?_
                    refine xw_lmul (pc := 58) C dX1_digest_58 ?_
                    refine xw_aload_n (pc := 59) C 0 dX1_digest_59 rfl ?_
                    refine xw_iload_n (pc := 60) C 2 dX1_digest_60 rfl ?_
                    refine xw_iload (pc := 61) C 3 dX1_digest_61 rfl ?_
                    refine xw_Vd (pc := 63) (q0 := 0) (na := 2) (rest := [.long (e1 * 31)]) (st' := [nV (B (16 * row + k9)), .long (e1 * 31)]) C (m_X1_its row k9 (by omega) (by omega)) gX1_digest_X1_its rfl rfl rfl rfl (by decide +kernel) ⟨Nat.le_of_ble_eq_true rfl, Nat.le_of_ble_eq_true rfl⟩ rfl rfl rfl (Nat.le_of_ble_eq_true rfl) dX1_digest_63 ⟨Nat.le_of_ble_eq_true rfl, Nat.le_of_ble_eq_true rfl⟩ rfl ?_
                    refine xw_i2l (pc := 66) C dX1_digest_66 ?_
                    refine xw_ladd (pc := 67) C dX1_digest_67 ?_
                    refine xw_lstore_n (pc := 68) (lv' := [(0, .ref h), (1, .long ((e1 * 31) + ((iI ((B (16 * row + k9) : Nat) : Int)).toInt64))), (3, nV row), (4, nV k9)]) C [1, 0, 2, 3] dX1_digest_68 rfl (by decide) rfl ?_
                    refine xw_iinc_N (pc := 69) (b := k9 + 1) (lv' := [(0, .ref h), (1, .long ((e1 * 31) + ((iI ((B (16 * row + k9) : Nat) : Int)).toInt64))), (3, nV row), (4, nV (k9 + 1))]) C 3 [1, 2, 3, 0] dX1_digest_69 rfl (by decide) rfl rfl ?_
                    refine xw_goto (pc := 72) (tgt := 45) C dX1_digest_72 (by decide) ?_
                    exact ih45 (k9 + 1) _ (by omega) (by omega) (by rw [dgc, ← he1]; rfl)
              exact L45 (n + 1) 0 _ (by omega) (by omega) rfl
        exact L37 5 0 M d9 (by omega) (by omega) hM (by rw [hd, show k = 6 by omega]; rfl)
      ·
        refine xw_lload_n (pc := 16) C 1 dX1_digest_16 rfl ?_
        refine xw_ldc2 (pc := 17) (v := 31) C (by decide +kernel) dX1_digest_17 ?_
        refine xw_lmul (pc := 20) C dX1_digest_20 ?_
        refine xw_aload_n (pc := 21) C 0 dX1_digest_21 rfl ?_
        refine xw_iload_n (pc := 22) C 2 dX1_digest_22 rfl ?_
        refine xw_Vd (pc := 23) (q0 := 0) (na := 1) (rest := [.long (d9 * 31)]) (st' := [nV (ct n p b w (w ^ (p - 2) % p) (n ^ (p - 2) % p) k), .long (d9 * 31)]) C (m_X1_counted hro hw1 hw k (by omega)) gX1_digest_X1_counted rfl rfl rfl rfl (by decide +kernel) ⟨Nat.le_of_ble_eq_true rfl, Nat.le_of_ble_eq_true rfl⟩ rfl rfl rfl (Nat.le_of_ble_eq_true rfl) dX1_digest_23 ⟨Nat.le_of_ble_eq_true rfl, Nat.le_of_ble_eq_true rfl⟩ rfl ?_
        refine xw_i2l (pc := 26) C dX1_digest_26 ?_
        refine xw_ladd (pc := 27) C dX1_digest_27 ?_
        refine xw_lstore_n (pc := 28) (lv' := [(0, .ref h), (1, .long ((d9 * 31) + ((iI ((ct n p b w (w ^ (p - 2) % p) (n ^ (p - 2) % p) k : Nat) : Int)).toInt64))), (3, nV k)]) C [1, 0, 2] dX1_digest_28 rfl (by decide) rfl ?_
        refine xw_iinc_N (pc := 29) (b := k + 1) (lv' := [(0, .ref h), (1, .long ((d9 * 31) + ((iI ((ct n p b w (w ^ (p - 2) % p) (n ^ (p - 2) % p) k : Nat) : Int)).toInt64))), (3, nV (k + 1))]) C 2 [1, 2, 0] dX1_digest_29 rfl (by decide) rfl rfl ?_
        refine xw_goto (pc := 32) (tgt := 11) C dX1_digest_32 (by decide) ?_
        exact ih11 (k + 1) _ (by omega) (by omega) (by rw [dgc, ← hd]; rfl)
  exact L11 7 0 _ (by omega) (by omega) rfl

set_option maxHeartbeats 4000000 in
set_option maxRecDepth 100000 in
theorem m_X1_order_no1 {l : Launch} {D : va_G} {cI : ClassId} {h r d th n p w b : Nat} {B M : Nat → Nat} (hn : n = 4 ∨ n = 8 ∨ n = 16) (hp5 : p < 500) (hb5 : b < 5) (zv : Int) (hr_zv : (-2147483648 ≤ zv ∧ zv < 2147483648)) (hbad : ¬ ((1 ≤ zv ∧ zv < (p : Int)))) : CT l yX1_order wsX1_order (rmN 2 43) D vwCl [(cI, .int)] [.ref h, iV zv] (wM cI h r d th n p w b B M) (PD (some (nV 0)) (wM cI h r d 1 n p w b B M)) 0 0 := by
  refine ct_of (plainFor_of_name (by decide)) rfl (Nat.le_of_ble_eq_true rfl) (fun φ C rX => ?_)
  have hin : ∀ w ∈ wsX10, w ∈ wsX1_order := by decide +kernel
  refine xw_le (lv' := [(0, .ref h), (1, iV zv)]) rfl ?_
  have hn3 := lt3 hn
  refine xw_aload_n (pc := 0) C 0 dX1_order_0 rfl ?_
  refine xw_iconst_N (pc := 1) C 0 dX1_order_1 rfl ?_
  refine xw_put (pc := 2) (T := TX1) (N := 7) (ref := "ToneButterfliesModel") (w' := wM cI h r d 0 n p w b B M) C hin tyX1 tyX1_ok nmX1 0 0 rfl rfl (by decide) (by decide +kernel) rfl rfl rfl rfl (Nat.le_of_ble_eq_true rfl) rfl dX1_order_2 ?_
  refine xw_aload_n (pc := 5) C 0 dX1_order_5 rfl ?_
  refine xw_iload_n (pc := 6) C 1 dX1_order_6 rfl ?_
  refine xw_Vd (pc := 7) (q0 := 0) (na := 1) (rest := []) (st' := [bV (decide (((1 : Nat) : Int) ≤ zv ∧ zv ≤ ((p : Nat) : Int) - ((1 : Nat) : Int)))]) C (m_X1_isUnit hp5 zv (by omega)) gX1_order_X1_isUnit rfl rfl rfl rfl (by decide +kernel) ⟨Nat.le_of_ble_eq_true rfl, Nat.le_of_ble_eq_true rfl⟩ rfl rfl rfl (Nat.le_of_ble_eq_true rfl) dX1_order_7 ⟨Nat.le_of_ble_eq_true rfl, Nat.le_of_ble_eq_true rfl⟩ rfl ?_
  refine xw_if_eq_B (pc := 10) (tgt := 21) C dX1_order_10 (by decide)  (fun c_1 => ?_) (fun c_1 => ?_)
  ·
    have q_c_1 := of_decide_eq_false c_1
    refine xw_aload_n (pc := 21) C 0 dX1_order_21 rfl ?_
    refine xw_iconst_N (pc := 22) C 1 dX1_order_22 rfl ?_
    refine xw_Vd (pc := 23) (q0 := 0) (na := 1) (rest := []) (st' := [nV 0]) C (m_X1_no 1) gX1_order_X1_no rfl rfl rfl rfl (by decide +kernel) ⟨Nat.le_of_ble_eq_true rfl, Nat.le_of_ble_eq_true rfl⟩ rfl rfl rfl (Nat.le_of_ble_eq_true rfl) dX1_order_23 ⟨Nat.le_of_ble_eq_true rfl, Nat.le_of_ble_eq_true rfl⟩ rfl ?_
    exact xw_iret (pc := 26) C rX (Nat.le_refl _) (Nat.le_refl _) dX1_order_26 (PD.i)
  ·
    have q_c_1 := of_decide_eq_true c_1
    exfalso; omega

set_option maxHeartbeats 4000000 in
set_option maxRecDepth 100000 in
theorem m_X1_inverse_no1 {l : Launch} {D : va_G} {cI : ClassId} {h r d th n p w b : Nat} {B M : Nat → Nat} (hn : n = 4 ∨ n = 8 ∨ n = 16) (hp5 : p < 500) (hb5 : b < 5) (zv : Int) (hr_zv : (-2147483648 ≤ zv ∧ zv < 2147483648)) (hbad : ¬ ((1 ≤ zv ∧ zv < (p : Int)))) : CT l yX1_inverse wsX1_inverse (rmN 2 43) D vwCl [(cI, .int)] [.ref h, iV zv] (wM cI h r d th n p w b B M) (PD (some (nV 0)) (wM cI h r d 1 n p w b B M)) 0 0 := by
  refine ct_of (plainFor_of_name (by decide)) rfl (Nat.le_of_ble_eq_true rfl) (fun φ C rX => ?_)
  have hin : ∀ w ∈ wsX10, w ∈ wsX1_inverse := by decide +kernel
  refine xw_le (lv' := [(0, .ref h), (1, iV zv)]) rfl ?_
  have hn3 := lt3 hn
  refine xw_aload_n (pc := 0) C 0 dX1_inverse_0 rfl ?_
  refine xw_iconst_N (pc := 1) C 0 dX1_inverse_1 rfl ?_
  refine xw_put (pc := 2) (T := TX1) (N := 7) (ref := "ToneButterfliesModel") (w' := wM cI h r d 0 n p w b B M) C hin tyX1 tyX1_ok nmX1 0 0 rfl rfl (by decide) (by decide +kernel) rfl rfl rfl rfl (Nat.le_of_ble_eq_true rfl) rfl dX1_inverse_2 ?_
  refine xw_aload_n (pc := 5) C 0 dX1_inverse_5 rfl ?_
  refine xw_iload_n (pc := 6) C 1 dX1_inverse_6 rfl ?_
  refine xw_Vd (pc := 7) (q0 := 0) (na := 1) (rest := []) (st' := [bV (decide (((1 : Nat) : Int) ≤ zv ∧ zv ≤ ((p : Nat) : Int) - ((1 : Nat) : Int)))]) C (m_X1_isUnit hp5 zv (by omega)) gX1_inverse_X1_isUnit rfl rfl rfl rfl (by decide +kernel) ⟨Nat.le_of_ble_eq_true rfl, Nat.le_of_ble_eq_true rfl⟩ rfl rfl rfl (Nat.le_of_ble_eq_true rfl) dX1_inverse_7 ⟨Nat.le_of_ble_eq_true rfl, Nat.le_of_ble_eq_true rfl⟩ rfl ?_
  refine xw_if_eq_B (pc := 10) (tgt := 21) C dX1_inverse_10 (by decide)  (fun c_1 => ?_) (fun c_1 => ?_)
  ·
    have q_c_1 := of_decide_eq_false c_1
    refine xw_aload_n (pc := 21) C 0 dX1_inverse_21 rfl ?_
    refine xw_iconst_N (pc := 22) C 1 dX1_inverse_22 rfl ?_
    refine xw_Vd (pc := 23) (q0 := 0) (na := 1) (rest := []) (st' := [nV 0]) C (m_X1_no 1) gX1_inverse_X1_no rfl rfl rfl rfl (by decide +kernel) ⟨Nat.le_of_ble_eq_true rfl, Nat.le_of_ble_eq_true rfl⟩ rfl rfl rfl (Nat.le_of_ble_eq_true rfl) dX1_inverse_23 ⟨Nat.le_of_ble_eq_true rfl, Nat.le_of_ble_eq_true rfl⟩ rfl ?_
    exact xw_iret (pc := 26) C rX (Nat.le_refl _) (Nat.le_refl _) dX1_inverse_26 (PD.i)
  ·
    have q_c_1 := of_decide_eq_true c_1
    exfalso; omega

set_option maxHeartbeats 4000000 in
set_option maxRecDepth 100000 in
theorem m_X1_set_no1 {l : Launch} {D : va_G} {cI : ClassId} {h r d th n p w b : Nat} {B M : Nat → Nat} (hn : n = 4 ∨ n = 8 ∨ n = 16) (hp5 : p < 500) (hb5 : b < 5) (zr : Int) (hr_zr : (-2147483648 ≤ zr ∧ zr < 2147483648)) (zq : Int) (hr_zq : (-2147483648 ≤ zq ∧ zq < 2147483648)) (zv : Int) (hr_zv : (-2147483648 ≤ zv ∧ zv < 2147483648)) (hbad : ¬ ((0 ≤ zr ∧ zr < 4) ∧ (0 ≤ zq ∧ zq < (n : Int)))) : CT l yX1_set wsX1_set (rmN 2 43) D vwCl [(cI, .int)] [.ref h, iV zr, iV zq, iV zv] (wM cI h r d th n p w b B M) (PD (some (nV 0)) (wM cI h r d 1 n p w b B M)) 0 0 := by
  refine ct_of (plainFor_of_name (by decide)) rfl (Nat.le_of_ble_eq_true rfl) (fun φ C rX => ?_)
  have hin : ∀ w ∈ wsX10, w ∈ wsX1_set := by decide +kernel
  refine xw_le (lv' := [(0, .ref h), (1, iV zr), (2, iV zq), (3, iV zv)]) rfl ?_
  have hn3 := lt3 hn
  refine xw_aload_n (pc := 0) C 0 dX1_set_0 rfl ?_
  refine xw_iconst_N (pc := 1) C 0 dX1_set_1 rfl ?_
  refine xw_put (pc := 2) (T := TX1) (N := 7) (ref := "ToneButterfliesModel") (w' := wM cI h r d 0 n p w b B M) C hin tyX1 tyX1_ok nmX1 0 0 rfl rfl (by decide) (by decide +kernel) rfl rfl rfl rfl (Nat.le_of_ble_eq_true rfl) rfl dX1_set_2 ?_
  refine xw_iload_n (pc := 5) C 1 dX1_set_5 rfl ?_
  refine xw_Sd (pc := 6) (na := 1) (rest := []) (st' := [bV (decide (((0 : Nat) : Int) ≤ zr ∧ zr ≤ ((3 : Nat) : Int)))]) C (m_X1_isRow zr (by omega)) gX1_set_X1_isRow rfl rfl rfl rfl (by decide +kernel) ⟨Nat.le_of_ble_eq_true rfl, Nat.le_of_ble_eq_true rfl⟩ rfl (Nat.le_of_ble_eq_true rfl) dX1_set_6 ⟨Nat.le_of_ble_eq_true rfl, Nat.le_of_ble_eq_true rfl⟩ rfl ?_
  refine xw_if_eq_B (pc := 9) (tgt := 20) C dX1_set_9 (by decide)  (fun c_1 => ?_) (fun c_1 => ?_)
  ·
    have q_c_1 := of_decide_eq_false c_1
    refine xw_aload_n (pc := 20) C 0 dX1_set_20 rfl ?_
    refine xw_iconst_N (pc := 21) C 1 dX1_set_21 rfl ?_
    refine xw_Vd (pc := 22) (q0 := 0) (na := 1) (rest := []) (st' := [nV 0]) C (m_X1_no 1) gX1_set_X1_no rfl rfl rfl rfl (by decide +kernel) ⟨Nat.le_of_ble_eq_true rfl, Nat.le_of_ble_eq_true rfl⟩ rfl rfl rfl (Nat.le_of_ble_eq_true rfl) dX1_set_22 ⟨Nat.le_of_ble_eq_true rfl, Nat.le_of_ble_eq_true rfl⟩ rfl ?_
    exact xw_iret (pc := 25) C rX (Nat.le_refl _) (Nat.le_refl _) dX1_set_25 (PD.i)
  ·
    have q_c_1 := of_decide_eq_true c_1
    refine xw_aload_n (pc := 12) C 0 dX1_set_12 rfl ?_
    refine xw_iload_n (pc := 13) C 2 dX1_set_13 rfl ?_
    refine xw_Vd (pc := 14) (q0 := 0) (na := 1) (rest := []) (st' := [bV (decide (((0 : Nat) : Int) ≤ zq ∧ zq ≤ ((n : Nat) : Int) - ((1 : Nat) : Int)))]) C (m_X1_isPlace (by omega) zq (by omega)) gX1_set_X1_isPlace rfl rfl rfl rfl (by decide +kernel) ⟨Nat.le_of_ble_eq_true rfl, Nat.le_of_ble_eq_true rfl⟩ rfl rfl rfl (Nat.le_of_ble_eq_true rfl) dX1_set_14 ⟨Nat.le_of_ble_eq_true rfl, Nat.le_of_ble_eq_true rfl⟩ rfl ?_
    refine xw_if_ne_B (pc := 17) (tgt := 26) C dX1_set_17 (by decide)  (fun c_2 => ?_) (fun c_2 => ?_)
    ·
      have q_c_2 := of_decide_eq_true c_2
      exfalso; omega
    ·
      have q_c_2 := of_decide_eq_false c_2
      refine xw_aload_n (pc := 20) C 0 dX1_set_20 rfl ?_
      refine xw_iconst_N (pc := 21) C 1 dX1_set_21 rfl ?_
      refine xw_Vd (pc := 22) (q0 := 0) (na := 1) (rest := []) (st' := [nV 0]) C (m_X1_no 1) gX1_set_X1_no rfl rfl rfl rfl (by decide +kernel) ⟨Nat.le_of_ble_eq_true rfl, Nat.le_of_ble_eq_true rfl⟩ rfl rfl rfl (Nat.le_of_ble_eq_true rfl) dX1_set_22 ⟨Nat.le_of_ble_eq_true rfl, Nat.le_of_ble_eq_true rfl⟩ rfl ?_
      exact xw_iret (pc := 25) C rX (Nat.le_refl _) (Nat.le_refl _) dX1_set_25 (PD.i)

set_option maxHeartbeats 4000000 in
set_option maxRecDepth 100000 in
theorem m_X1_set_no2 {l : Launch} {D : va_G} {cI : ClassId} {h r d th n p w b : Nat} {B M : Nat → Nat} (hn : n = 4 ∨ n = 8 ∨ n = 16) (hp5 : p < 500) (hb5 : b < 5) (zr : Int) (hr_zr : (-2147483648 ≤ zr ∧ zr < 2147483648)) (zq : Int) (hr_zq : (-2147483648 ≤ zq ∧ zq < 2147483648)) (zv : Int) (hr_zv : (-2147483648 ≤ zv ∧ zv < 2147483648)) (hok_zr : (0 ≤ zr ∧ zr < 4)) (hok_zq : (0 ≤ zq ∧ zq < (n : Int))) (hbad : ¬ ((0 ≤ zv ∧ zv < (p : Int)))) : CT l yX1_set wsX1_set (rmN 2 43) D vwCl [(cI, .int)] [.ref h, iV zr, iV zq, iV zv] (wM cI h r d th n p w b B M) (PD (some (nV 0)) (wM cI h r d 2 n p w b B M)) 0 0 := by
  refine ct_of (plainFor_of_name (by decide)) rfl (Nat.le_of_ble_eq_true rfl) (fun φ C rX => ?_)
  have hin : ∀ w ∈ wsX10, w ∈ wsX1_set := by decide +kernel
  refine xw_le (lv' := [(0, .ref h), (1, iV zr), (2, iV zq), (3, iV zv)]) rfl ?_
  have hn3 := lt3 hn
  refine xw_aload_n (pc := 0) C 0 dX1_set_0 rfl ?_
  refine xw_iconst_N (pc := 1) C 0 dX1_set_1 rfl ?_
  refine xw_put (pc := 2) (T := TX1) (N := 7) (ref := "ToneButterfliesModel") (w' := wM cI h r d 0 n p w b B M) C hin tyX1 tyX1_ok nmX1 0 0 rfl rfl (by decide) (by decide +kernel) rfl rfl rfl rfl (Nat.le_of_ble_eq_true rfl) rfl dX1_set_2 ?_
  refine xw_iload_n (pc := 5) C 1 dX1_set_5 rfl ?_
  refine xw_Sd (pc := 6) (na := 1) (rest := []) (st' := [bV (decide (((0 : Nat) : Int) ≤ zr ∧ zr ≤ ((3 : Nat) : Int)))]) C (m_X1_isRow zr (by omega)) gX1_set_X1_isRow rfl rfl rfl rfl (by decide +kernel) ⟨Nat.le_of_ble_eq_true rfl, Nat.le_of_ble_eq_true rfl⟩ rfl (Nat.le_of_ble_eq_true rfl) dX1_set_6 ⟨Nat.le_of_ble_eq_true rfl, Nat.le_of_ble_eq_true rfl⟩ rfl ?_
  refine xw_if_eq_B (pc := 9) (tgt := 20) C dX1_set_9 (by decide)  (fun c_1 => (by have q9 := of_decide_eq_false c_1; exfalso; omega)) (fun c_1 => ?_)
  have q_c_1 := of_decide_eq_true c_1
  refine xw_aload_n (pc := 12) C 0 dX1_set_12 rfl ?_
  refine xw_iload_n (pc := 13) C 2 dX1_set_13 rfl ?_
  refine xw_Vd (pc := 14) (q0 := 0) (na := 1) (rest := []) (st' := [bV (decide (((0 : Nat) : Int) ≤ zq ∧ zq ≤ ((n : Nat) : Int) - ((1 : Nat) : Int)))]) C (m_X1_isPlace (by omega) zq (by omega)) gX1_set_X1_isPlace rfl rfl rfl rfl (by decide +kernel) ⟨Nat.le_of_ble_eq_true rfl, Nat.le_of_ble_eq_true rfl⟩ rfl rfl rfl (Nat.le_of_ble_eq_true rfl) dX1_set_14 ⟨Nat.le_of_ble_eq_true rfl, Nat.le_of_ble_eq_true rfl⟩ rfl ?_
  refine xw_if_ne_B (pc := 17) (tgt := 26) C dX1_set_17 (by decide)  (fun c_2 => ?_) (fun c_2 => (by have q9 := of_decide_eq_false c_2; exfalso; omega))
  have q_c_2 := of_decide_eq_true c_2
  refine xw_iload_n (pc := 26) C 3 dX1_set_26 rfl ?_
  refine xw_iconst_N (pc := 27) C 0 dX1_set_27 rfl ?_
  refine xw_aload_n (pc := 28) C 0 dX1_set_28 rfl ?_
  refine xw_get (pc := 29) (T := TX1) (N := 7) (ref := "ToneButterfliesModel") C hin 0 2 rfl rfl (by decide) (by decide +kernel) rfl rfl dX1_set_29 ?_
  refine xw_iconst_N (pc := 32) C 1 dX1_set_32 rfl ?_
  refine xw_isub (pc := 33) C dX1_set_33 ?_
  refine xw_Sd (pc := 34) (na := 3) (rest := []) (st' := [bV (decide ((((0 : Nat) : Int)) ≤ zv ∧ zv ≤ ((((p : Nat) : Int)) - (((1 : Nat) : Int)))))]) C (m_X1_isIn zv (((0 : Nat) : Int)) ((((p : Nat) : Int)) - (((1 : Nat) : Int))) (by omega) (by omega) (by omega)) gX1_set_X1_isIn rfl rfl rfl rfl (by decide +kernel) ⟨Nat.le_of_ble_eq_true rfl, Nat.le_of_ble_eq_true rfl⟩ rfl (Nat.le_of_ble_eq_true rfl) dX1_set_34 ⟨Nat.le_of_ble_eq_true rfl, Nat.le_of_ble_eq_true rfl⟩ rfl ?_
  refine xw_if_ne_B (pc := 37) (tgt := 46) C dX1_set_37 (by decide)  (fun c_3 => ?_) (fun c_3 => ?_)
  ·
    have q_c_3 := of_decide_eq_true c_3
    exfalso; omega
  ·
    have q_c_3 := of_decide_eq_false c_3
    refine xw_aload_n (pc := 40) C 0 dX1_set_40 rfl ?_
    refine xw_iconst_N (pc := 41) C 2 dX1_set_41 rfl ?_
    refine xw_Vd (pc := 42) (q0 := 0) (na := 1) (rest := []) (st' := [nV 0]) C (m_X1_no 2) gX1_set_X1_no rfl rfl rfl rfl (by decide +kernel) ⟨Nat.le_of_ble_eq_true rfl, Nat.le_of_ble_eq_true rfl⟩ rfl rfl rfl (Nat.le_of_ble_eq_true rfl) dX1_set_42 ⟨Nat.le_of_ble_eq_true rfl, Nat.le_of_ble_eq_true rfl⟩ rfl ?_
    exact xw_iret (pc := 45) C rX (Nat.le_refl _) (Nat.le_refl _) dX1_set_45 (PD.i)

set_option maxHeartbeats 4000000 in
set_option maxRecDepth 100000 in
theorem m_X1_copy_no1 {l : Launch} {D : va_G} {cI : ClassId} {h r d th n p w b : Nat} {B M : Nat → Nat} (hn : n = 4 ∨ n = 8 ∨ n = 16) (hp5 : p < 500) (hb5 : b < 5) (za1 : Int) (hr_za1 : (-2147483648 ≤ za1 ∧ za1 < 2147483648)) (zb1 : Int) (hr_zb1 : (-2147483648 ≤ zb1 ∧ zb1 < 2147483648)) (hbad : ¬ ((0 ≤ za1 ∧ za1 < 4) ∧ (0 ≤ zb1 ∧ zb1 < 4))) : CT l yX1_copy wsX1_copy (rmN 2 42) D vwCl [(cI, .int)] [.ref h, iV za1, iV zb1] (wM cI h r d th n p w b B M) (PD (some (nV 0)) (wM cI h r d 1 n p w b B M)) 0 0 := by
  refine ct_of (plainFor_of_name (by decide)) rfl (Nat.le_of_ble_eq_true rfl) (fun φ C rX => ?_)
  have hin : ∀ w ∈ wsX10, w ∈ wsX1_copy := by decide +kernel
  refine xw_le (lv' := [(0, .ref h), (1, iV za1), (2, iV zb1)]) rfl ?_
  have hn3 := lt3 hn
  refine xw_aload_n (pc := 0) C 0 dX1_copy_0 rfl ?_
  refine xw_iconst_N (pc := 1) C 0 dX1_copy_1 rfl ?_
  refine xw_put (pc := 2) (T := TX1) (N := 7) (ref := "ToneButterfliesModel") (w' := wM cI h r d 0 n p w b B M) C hin tyX1 tyX1_ok nmX1 0 0 rfl rfl (by decide) (by decide +kernel) rfl rfl rfl rfl (Nat.le_of_ble_eq_true rfl) rfl dX1_copy_2 ?_
  refine xw_iload_n (pc := 5) C 1 dX1_copy_5 rfl ?_
  refine xw_Sd (pc := 6) (na := 1) (rest := []) (st' := [bV (decide (((0 : Nat) : Int) ≤ za1 ∧ za1 ≤ ((3 : Nat) : Int)))]) C (m_X1_isRow za1 (by omega)) gX1_copy_X1_isRow rfl rfl rfl rfl (by decide +kernel) ⟨Nat.le_of_ble_eq_true rfl, Nat.le_of_ble_eq_true rfl⟩ rfl (Nat.le_of_ble_eq_true rfl) dX1_copy_6 ⟨Nat.le_of_ble_eq_true rfl, Nat.le_of_ble_eq_true rfl⟩ rfl ?_
  refine xw_if_eq_B (pc := 9) (tgt := 19) C dX1_copy_9 (by decide)  (fun c_1 => ?_) (fun c_1 => ?_)
  ·
    have q_c_1 := of_decide_eq_false c_1
    refine xw_aload_n (pc := 19) C 0 dX1_copy_19 rfl ?_
    refine xw_iconst_N (pc := 20) C 1 dX1_copy_20 rfl ?_
    refine xw_Vd (pc := 21) (q0 := 0) (na := 1) (rest := []) (st' := [nV 0]) C (m_X1_no 1) gX1_copy_X1_no rfl rfl rfl rfl (by decide +kernel) ⟨Nat.le_of_ble_eq_true rfl, Nat.le_of_ble_eq_true rfl⟩ rfl rfl rfl (Nat.le_of_ble_eq_true rfl) dX1_copy_21 ⟨Nat.le_of_ble_eq_true rfl, Nat.le_of_ble_eq_true rfl⟩ rfl ?_
    exact xw_iret (pc := 24) C rX (Nat.le_refl _) (Nat.le_refl _) dX1_copy_24 (PD.i)
  ·
    have q_c_1 := of_decide_eq_true c_1
    refine xw_iload_n (pc := 12) C 2 dX1_copy_12 rfl ?_
    refine xw_Sd (pc := 13) (na := 1) (rest := []) (st' := [bV (decide (((0 : Nat) : Int) ≤ zb1 ∧ zb1 ≤ ((3 : Nat) : Int)))]) C (m_X1_isRow zb1 (by omega)) gX1_copy_X1_isRow rfl rfl rfl rfl (by decide +kernel) ⟨Nat.le_of_ble_eq_true rfl, Nat.le_of_ble_eq_true rfl⟩ rfl (Nat.le_of_ble_eq_true rfl) dX1_copy_13 ⟨Nat.le_of_ble_eq_true rfl, Nat.le_of_ble_eq_true rfl⟩ rfl ?_
    refine xw_if_ne_B (pc := 16) (tgt := 25) C dX1_copy_16 (by decide)  (fun c_2 => ?_) (fun c_2 => ?_)
    ·
      have q_c_2 := of_decide_eq_true c_2
      exfalso; omega
    ·
      have q_c_2 := of_decide_eq_false c_2
      refine xw_aload_n (pc := 19) C 0 dX1_copy_19 rfl ?_
      refine xw_iconst_N (pc := 20) C 1 dX1_copy_20 rfl ?_
      refine xw_Vd (pc := 21) (q0 := 0) (na := 1) (rest := []) (st' := [nV 0]) C (m_X1_no 1) gX1_copy_X1_no rfl rfl rfl rfl (by decide +kernel) ⟨Nat.le_of_ble_eq_true rfl, Nat.le_of_ble_eq_true rfl⟩ rfl rfl rfl (Nat.le_of_ble_eq_true rfl) dX1_copy_21 ⟨Nat.le_of_ble_eq_true rfl, Nat.le_of_ble_eq_true rfl⟩ rfl ?_
      exact xw_iret (pc := 24) C rX (Nat.le_refl _) (Nat.le_refl _) dX1_copy_24 (PD.i)

set_option maxHeartbeats 4000000 in
set_option maxRecDepth 100000 in
theorem m_X1_turn_no1 {l : Launch} {D : va_G} {cI : ClassId} {h r d th n p w b : Nat} {B M : Nat → Nat} (hn : n = 4 ∨ n = 8 ∨ n = 16) (hp5 : p < 500) (hb5 : b < 5) (zr : Int) (hr_zr : (-2147483648 ≤ zr ∧ zr < 2147483648)) (zbk : Bool) (hbad : ¬ ((0 ≤ zr ∧ zr < 4))) : CT l yX1_turn wsX1_turn (rmN 2 42) D vwCl [(cI, .int)] [.ref h, iV zr, bV zbk] (wM cI h r d th n p w b B M) (PD (some (nV 0)) (wM cI h r d 1 n p w b B M)) 0 0 := by
  refine ct_of (plainFor_of_name (by decide)) rfl (Nat.le_of_ble_eq_true rfl) (fun φ C rX => ?_)
  have hin : ∀ w ∈ wsX10, w ∈ wsX1_turn := by decide +kernel
  refine xw_le (lv' := [(0, .ref h), (1, iV zr), (2, bV zbk)]) rfl ?_
  have hn3 := lt3 hn
  refine xw_aload_n (pc := 0) C 0 dX1_turn_0 rfl ?_
  refine xw_iconst_N (pc := 1) C 0 dX1_turn_1 rfl ?_
  refine xw_put (pc := 2) (T := TX1) (N := 7) (ref := "ToneButterfliesModel") (w' := wM cI h r d 0 n p w b B M) C hin tyX1 tyX1_ok nmX1 0 0 rfl rfl (by decide) (by decide +kernel) rfl rfl rfl rfl (Nat.le_of_ble_eq_true rfl) rfl dX1_turn_2 ?_
  refine xw_iload_n (pc := 5) C 1 dX1_turn_5 rfl ?_
  refine xw_Sd (pc := 6) (na := 1) (rest := []) (st' := [bV (decide (((0 : Nat) : Int) ≤ zr ∧ zr ≤ ((3 : Nat) : Int)))]) C (m_X1_isRow zr (by omega)) gX1_turn_X1_isRow rfl rfl rfl rfl (by decide +kernel) ⟨Nat.le_of_ble_eq_true rfl, Nat.le_of_ble_eq_true rfl⟩ rfl (Nat.le_of_ble_eq_true rfl) dX1_turn_6 ⟨Nat.le_of_ble_eq_true rfl, Nat.le_of_ble_eq_true rfl⟩ rfl ?_
  refine xw_if_ne_B (pc := 9) (tgt := 18) C dX1_turn_9 (by decide)  (fun c_1 => ?_) (fun c_1 => ?_)
  ·
    have q_c_1 := of_decide_eq_true c_1
    exfalso; omega
  ·
    have q_c_1 := of_decide_eq_false c_1
    refine xw_aload_n (pc := 12) C 0 dX1_turn_12 rfl ?_
    refine xw_iconst_N (pc := 13) C 1 dX1_turn_13 rfl ?_
    refine xw_Vd (pc := 14) (q0 := 0) (na := 1) (rest := []) (st' := [nV 0]) C (m_X1_no 1) gX1_turn_X1_no rfl rfl rfl rfl (by decide +kernel) ⟨Nat.le_of_ble_eq_true rfl, Nat.le_of_ble_eq_true rfl⟩ rfl rfl rfl (Nat.le_of_ble_eq_true rfl) dX1_turn_14 ⟨Nat.le_of_ble_eq_true rfl, Nat.le_of_ble_eq_true rfl⟩ rfl ?_
    exact xw_iret (pc := 17) C rX (Nat.le_refl _) (Nat.le_refl _) dX1_turn_17 (PD.i)

set_option maxHeartbeats 4000000 in
set_option maxRecDepth 100000 in
theorem m_X1_mirror_no1 {l : Launch} {D : va_G} {cI : ClassId} {h r d th n p w b : Nat} {B M : Nat → Nat} (hn : n = 4 ∨ n = 8 ∨ n = 16) (hp5 : p < 500) (hb5 : b < 5) (zr : Int) (hr_zr : (-2147483648 ≤ zr ∧ zr < 2147483648)) (hbad : ¬ ((0 ≤ zr ∧ zr < 4))) : CT l yX1_mirror wsX1_mirror (rmN 2 42) D vwCl [(cI, .int)] [.ref h, iV zr] (wM cI h r d th n p w b B M) (PD (some (nV 0)) (wM cI h r d 1 n p w b B M)) 0 0 := by
  refine ct_of (plainFor_of_name (by decide)) rfl (Nat.le_of_ble_eq_true rfl) (fun φ C rX => ?_)
  have hin : ∀ w ∈ wsX10, w ∈ wsX1_mirror := by decide +kernel
  refine xw_le (lv' := [(0, .ref h), (1, iV zr)]) rfl ?_
  have hn3 := lt3 hn
  refine xw_aload_n (pc := 0) C 0 dX1_mirror_0 rfl ?_
  refine xw_iconst_N (pc := 1) C 0 dX1_mirror_1 rfl ?_
  refine xw_put (pc := 2) (T := TX1) (N := 7) (ref := "ToneButterfliesModel") (w' := wM cI h r d 0 n p w b B M) C hin tyX1 tyX1_ok nmX1 0 0 rfl rfl (by decide) (by decide +kernel) rfl rfl rfl rfl (Nat.le_of_ble_eq_true rfl) rfl dX1_mirror_2 ?_
  refine xw_iload_n (pc := 5) C 1 dX1_mirror_5 rfl ?_
  refine xw_Sd (pc := 6) (na := 1) (rest := []) (st' := [bV (decide (((0 : Nat) : Int) ≤ zr ∧ zr ≤ ((3 : Nat) : Int)))]) C (m_X1_isRow zr (by omega)) gX1_mirror_X1_isRow rfl rfl rfl rfl (by decide +kernel) ⟨Nat.le_of_ble_eq_true rfl, Nat.le_of_ble_eq_true rfl⟩ rfl (Nat.le_of_ble_eq_true rfl) dX1_mirror_6 ⟨Nat.le_of_ble_eq_true rfl, Nat.le_of_ble_eq_true rfl⟩ rfl ?_
  refine xw_if_ne_B (pc := 9) (tgt := 18) C dX1_mirror_9 (by decide)  (fun c_1 => ?_) (fun c_1 => ?_)
  ·
    have q_c_1 := of_decide_eq_true c_1
    exfalso; omega
  ·
    have q_c_1 := of_decide_eq_false c_1
    refine xw_aload_n (pc := 12) C 0 dX1_mirror_12 rfl ?_
    refine xw_iconst_N (pc := 13) C 1 dX1_mirror_13 rfl ?_
    refine xw_Vd (pc := 14) (q0 := 0) (na := 1) (rest := []) (st' := [nV 0]) C (m_X1_no 1) gX1_mirror_X1_no rfl rfl rfl rfl (by decide +kernel) ⟨Nat.le_of_ble_eq_true rfl, Nat.le_of_ble_eq_true rfl⟩ rfl rfl rfl (Nat.le_of_ble_eq_true rfl) dX1_mirror_14 ⟨Nat.le_of_ble_eq_true rfl, Nat.le_of_ble_eq_true rfl⟩ rfl ?_
    exact xw_iret (pc := 17) C rX (Nat.le_refl _) (Nat.le_refl _) dX1_mirror_17 (PD.i)

set_option maxHeartbeats 4000000 in
set_option maxRecDepth 100000 in
theorem m_X1_stage_no1 {l : Launch} {D : va_G} {cI : ClassId} {h r d th n p w b : Nat} {B M : Nat → Nat} (hn : n = 4 ∨ n = 8 ∨ n = 16) (hp5 : p < 500) (hb5 : b < 5) (zr : Int) (hr_zr : (-2147483648 ≤ zr ∧ zr < 2147483648)) (zs : Int) (hr_zs : (-2147483648 ≤ zs ∧ zs < 2147483648)) (hbad : ¬ ((0 ≤ zr ∧ zr < 4) ∧ (0 ≤ zs ∧ zs < (b : Int)))) : CT l yX1_stage wsX1_stage (rmN 2 42) D vwCl [(cI, .int)] [.ref h, iV zr, iV zs] (wM cI h r d th n p w b B M) (PD (some (nV 0)) (wM cI h r d 1 n p w b B M)) 0 0 := by
  refine ct_of (plainFor_of_name (by decide)) rfl (Nat.le_of_ble_eq_true rfl) (fun φ C rX => ?_)
  have hin : ∀ w ∈ wsX10, w ∈ wsX1_stage := by decide +kernel
  refine xw_le (lv' := [(0, .ref h), (1, iV zr), (2, iV zs)]) rfl ?_
  have hn3 := lt3 hn
  refine xw_aload_n (pc := 0) C 0 dX1_stage_0 rfl ?_
  refine xw_iconst_N (pc := 1) C 0 dX1_stage_1 rfl ?_
  refine xw_put (pc := 2) (T := TX1) (N := 7) (ref := "ToneButterfliesModel") (w' := wM cI h r d 0 n p w b B M) C hin tyX1 tyX1_ok nmX1 0 0 rfl rfl (by decide) (by decide +kernel) rfl rfl rfl rfl (Nat.le_of_ble_eq_true rfl) rfl dX1_stage_2 ?_
  refine xw_iload_n (pc := 5) C 1 dX1_stage_5 rfl ?_
  refine xw_Sd (pc := 6) (na := 1) (rest := []) (st' := [bV (decide (((0 : Nat) : Int) ≤ zr ∧ zr ≤ ((3 : Nat) : Int)))]) C (m_X1_isRow zr (by omega)) gX1_stage_X1_isRow rfl rfl rfl rfl (by decide +kernel) ⟨Nat.le_of_ble_eq_true rfl, Nat.le_of_ble_eq_true rfl⟩ rfl (Nat.le_of_ble_eq_true rfl) dX1_stage_6 ⟨Nat.le_of_ble_eq_true rfl, Nat.le_of_ble_eq_true rfl⟩ rfl ?_
  refine xw_if_eq_B (pc := 9) (tgt := 26) C dX1_stage_9 (by decide)  (fun c_1 => ?_) (fun c_1 => ?_)
  ·
    have q_c_1 := of_decide_eq_false c_1
    refine xw_aload_n (pc := 26) C 0 dX1_stage_26 rfl ?_
    refine xw_iconst_N (pc := 27) C 1 dX1_stage_27 rfl ?_
    refine xw_Vd (pc := 28) (q0 := 0) (na := 1) (rest := []) (st' := [nV 0]) C (m_X1_no 1) gX1_stage_X1_no rfl rfl rfl rfl (by decide +kernel) ⟨Nat.le_of_ble_eq_true rfl, Nat.le_of_ble_eq_true rfl⟩ rfl rfl rfl (Nat.le_of_ble_eq_true rfl) dX1_stage_28 ⟨Nat.le_of_ble_eq_true rfl, Nat.le_of_ble_eq_true rfl⟩ rfl ?_
    exact xw_iret (pc := 31) C rX (Nat.le_refl _) (Nat.le_refl _) dX1_stage_31 (PD.i)
  ·
    have q_c_1 := of_decide_eq_true c_1
    refine xw_iload_n (pc := 12) C 2 dX1_stage_12 rfl ?_
    refine xw_iconst_N (pc := 13) C 0 dX1_stage_13 rfl ?_
    refine xw_aload_n (pc := 14) C 0 dX1_stage_14 rfl ?_
    refine xw_get (pc := 15) (T := TX1) (N := 7) (ref := "ToneButterfliesModel") C hin 0 4 rfl rfl (by decide) (by decide +kernel) rfl rfl dX1_stage_15 ?_
    refine xw_iconst_N (pc := 18) C 1 dX1_stage_18 rfl ?_
    refine xw_isub (pc := 19) C dX1_stage_19 ?_
    refine xw_Sd (pc := 20) (na := 3) (rest := []) (st' := [bV (decide ((((0 : Nat) : Int)) ≤ zs ∧ zs ≤ ((((b : Nat) : Int)) - (((1 : Nat) : Int)))))]) C (m_X1_isIn zs (((0 : Nat) : Int)) ((((b : Nat) : Int)) - (((1 : Nat) : Int))) (by omega) (by omega) (by omega)) gX1_stage_X1_isIn rfl rfl rfl rfl (by decide +kernel) ⟨Nat.le_of_ble_eq_true rfl, Nat.le_of_ble_eq_true rfl⟩ rfl (Nat.le_of_ble_eq_true rfl) dX1_stage_20 ⟨Nat.le_of_ble_eq_true rfl, Nat.le_of_ble_eq_true rfl⟩ rfl ?_
    refine xw_if_ne_B (pc := 23) (tgt := 32) C dX1_stage_23 (by decide)  (fun c_2 => ?_) (fun c_2 => ?_)
    ·
      have q_c_2 := of_decide_eq_true c_2
      exfalso; omega
    ·
      have q_c_2 := of_decide_eq_false c_2
      refine xw_aload_n (pc := 26) C 0 dX1_stage_26 rfl ?_
      refine xw_iconst_N (pc := 27) C 1 dX1_stage_27 rfl ?_
      refine xw_Vd (pc := 28) (q0 := 0) (na := 1) (rest := []) (st' := [nV 0]) C (m_X1_no 1) gX1_stage_X1_no rfl rfl rfl rfl (by decide +kernel) ⟨Nat.le_of_ble_eq_true rfl, Nat.le_of_ble_eq_true rfl⟩ rfl rfl rfl (Nat.le_of_ble_eq_true rfl) dX1_stage_28 ⟨Nat.le_of_ble_eq_true rfl, Nat.le_of_ble_eq_true rfl⟩ rfl ?_
      exact xw_iret (pc := 31) C rX (Nat.le_refl _) (Nat.le_refl _) dX1_stage_31 (PD.i)

set_option maxHeartbeats 4000000 in
set_option maxRecDepth 100000 in
theorem m_X1_fold_no1 {l : Launch} {D : va_G} {cI : ClassId} {h r d th n p w b : Nat} {B M : Nat → Nat} (hn : n = 4 ∨ n = 8 ∨ n = 16) (hp5 : p < 500) (hb5 : b < 5) (za1 : Int) (hr_za1 : (-2147483648 ≤ za1 ∧ za1 < 2147483648)) (zb1 : Int) (hr_zb1 : (-2147483648 ≤ zb1 ∧ zb1 < 2147483648)) (hbad : ¬ ((0 ≤ za1 ∧ za1 < 4) ∧ (0 ≤ zb1 ∧ zb1 < 4))) : CT l yX1_fold wsX1_fold (rmN 2 42) D vwCl [(cI, .int)] [.ref h, iV za1, iV zb1] (wM cI h r d th n p w b B M) (PD (some (nV 0)) (wM cI h r d 1 n p w b B M)) 0 0 := by
  refine ct_of (plainFor_of_name (by decide)) rfl (Nat.le_of_ble_eq_true rfl) (fun φ C rX => ?_)
  have hin : ∀ w ∈ wsX10, w ∈ wsX1_fold := by decide +kernel
  refine xw_le (lv' := [(0, .ref h), (1, iV za1), (2, iV zb1)]) rfl ?_
  have hn3 := lt3 hn
  refine xw_aload_n (pc := 0) C 0 dX1_fold_0 rfl ?_
  refine xw_iconst_N (pc := 1) C 0 dX1_fold_1 rfl ?_
  refine xw_put (pc := 2) (T := TX1) (N := 7) (ref := "ToneButterfliesModel") (w' := wM cI h r d 0 n p w b B M) C hin tyX1 tyX1_ok nmX1 0 0 rfl rfl (by decide) (by decide +kernel) rfl rfl rfl rfl (Nat.le_of_ble_eq_true rfl) rfl dX1_fold_2 ?_
  refine xw_iload_n (pc := 5) C 1 dX1_fold_5 rfl ?_
  refine xw_Sd (pc := 6) (na := 1) (rest := []) (st' := [bV (decide (((0 : Nat) : Int) ≤ za1 ∧ za1 ≤ ((3 : Nat) : Int)))]) C (m_X1_isRow za1 (by omega)) gX1_fold_X1_isRow rfl rfl rfl rfl (by decide +kernel) ⟨Nat.le_of_ble_eq_true rfl, Nat.le_of_ble_eq_true rfl⟩ rfl (Nat.le_of_ble_eq_true rfl) dX1_fold_6 ⟨Nat.le_of_ble_eq_true rfl, Nat.le_of_ble_eq_true rfl⟩ rfl ?_
  refine xw_if_eq_B (pc := 9) (tgt := 19) C dX1_fold_9 (by decide)  (fun c_1 => ?_) (fun c_1 => ?_)
  ·
    have q_c_1 := of_decide_eq_false c_1
    refine xw_aload_n (pc := 19) C 0 dX1_fold_19 rfl ?_
    refine xw_iconst_N (pc := 20) C 1 dX1_fold_20 rfl ?_
    refine xw_Vd (pc := 21) (q0 := 0) (na := 1) (rest := []) (st' := [nV 0]) C (m_X1_no 1) gX1_fold_X1_no rfl rfl rfl rfl (by decide +kernel) ⟨Nat.le_of_ble_eq_true rfl, Nat.le_of_ble_eq_true rfl⟩ rfl rfl rfl (Nat.le_of_ble_eq_true rfl) dX1_fold_21 ⟨Nat.le_of_ble_eq_true rfl, Nat.le_of_ble_eq_true rfl⟩ rfl ?_
    exact xw_iret (pc := 24) C rX (Nat.le_refl _) (Nat.le_refl _) dX1_fold_24 (PD.i)
  ·
    have q_c_1 := of_decide_eq_true c_1
    refine xw_iload_n (pc := 12) C 2 dX1_fold_12 rfl ?_
    refine xw_Sd (pc := 13) (na := 1) (rest := []) (st' := [bV (decide (((0 : Nat) : Int) ≤ zb1 ∧ zb1 ≤ ((3 : Nat) : Int)))]) C (m_X1_isRow zb1 (by omega)) gX1_fold_X1_isRow rfl rfl rfl rfl (by decide +kernel) ⟨Nat.le_of_ble_eq_true rfl, Nat.le_of_ble_eq_true rfl⟩ rfl (Nat.le_of_ble_eq_true rfl) dX1_fold_13 ⟨Nat.le_of_ble_eq_true rfl, Nat.le_of_ble_eq_true rfl⟩ rfl ?_
    refine xw_if_ne_B (pc := 16) (tgt := 25) C dX1_fold_16 (by decide)  (fun c_2 => ?_) (fun c_2 => ?_)
    ·
      have q_c_2 := of_decide_eq_true c_2
      exfalso; omega
    ·
      have q_c_2 := of_decide_eq_false c_2
      refine xw_aload_n (pc := 19) C 0 dX1_fold_19 rfl ?_
      refine xw_iconst_N (pc := 20) C 1 dX1_fold_20 rfl ?_
      refine xw_Vd (pc := 21) (q0 := 0) (na := 1) (rest := []) (st' := [nV 0]) C (m_X1_no 1) gX1_fold_X1_no rfl rfl rfl rfl (by decide +kernel) ⟨Nat.le_of_ble_eq_true rfl, Nat.le_of_ble_eq_true rfl⟩ rfl rfl rfl (Nat.le_of_ble_eq_true rfl) dX1_fold_21 ⟨Nat.le_of_ble_eq_true rfl, Nat.le_of_ble_eq_true rfl⟩ rfl ?_
      exact xw_iret (pc := 24) C rX (Nat.le_refl _) (Nat.le_refl _) dX1_fold_24 (PD.i)

set_option maxHeartbeats 4000000 in
set_option maxRecDepth 100000 in
theorem m_X1_join_no1 {l : Launch} {D : va_G} {cI : ClassId} {h r d th n p w b : Nat} {B M : Nat → Nat} (hn : n = 4 ∨ n = 8 ∨ n = 16) (hp5 : p < 500) (hb5 : b < 5) (za1 : Int) (hr_za1 : (-2147483648 ≤ za1 ∧ za1 < 2147483648)) (zb1 : Int) (hr_zb1 : (-2147483648 ≤ zb1 ∧ zb1 < 2147483648)) (zu : Int) (hr_zu : (-2147483648 ≤ zu ∧ zu < 2147483648)) (hbad : ¬ ((0 ≤ za1 ∧ za1 < 4) ∧ (0 ≤ zb1 ∧ zb1 < 4) ∧ (0 ≤ zu ∧ zu < 3))) : CT l yX1_join wsX1_join (rmN 2 42) D vwCl [(cI, .int)] [.ref h, iV za1, iV zb1, iV zu] (wM cI h r d th n p w b B M) (PD (some (nV 0)) (wM cI h r d 1 n p w b B M)) 0 0 := by
  refine ct_of (plainFor_of_name (by decide)) rfl (Nat.le_of_ble_eq_true rfl) (fun φ C rX => ?_)
  have hin : ∀ w ∈ wsX10, w ∈ wsX1_join := by decide +kernel
  refine xw_le (lv' := [(0, .ref h), (1, iV za1), (2, iV zb1), (3, iV zu)]) rfl ?_
  have hn3 := lt3 hn
  refine xw_aload_n (pc := 0) C 0 dX1_join_0 rfl ?_
  refine xw_iconst_N (pc := 1) C 0 dX1_join_1 rfl ?_
  refine xw_put (pc := 2) (T := TX1) (N := 7) (ref := "ToneButterfliesModel") (w' := wM cI h r d 0 n p w b B M) C hin tyX1 tyX1_ok nmX1 0 0 rfl rfl (by decide) (by decide +kernel) rfl rfl rfl rfl (Nat.le_of_ble_eq_true rfl) rfl dX1_join_2 ?_
  refine xw_iload_n (pc := 5) C 1 dX1_join_5 rfl ?_
  refine xw_Sd (pc := 6) (na := 1) (rest := []) (st' := [bV (decide (((0 : Nat) : Int) ≤ za1 ∧ za1 ≤ ((3 : Nat) : Int)))]) C (m_X1_isRow za1 (by omega)) gX1_join_X1_isRow rfl rfl rfl rfl (by decide +kernel) ⟨Nat.le_of_ble_eq_true rfl, Nat.le_of_ble_eq_true rfl⟩ rfl (Nat.le_of_ble_eq_true rfl) dX1_join_6 ⟨Nat.le_of_ble_eq_true rfl, Nat.le_of_ble_eq_true rfl⟩ rfl ?_
  refine xw_if_eq_B (pc := 9) (tgt := 28) C dX1_join_9 (by decide)  (fun c_1 => ?_) (fun c_1 => ?_)
  ·
    have q_c_1 := of_decide_eq_false c_1
    refine xw_aload_n (pc := 28) C 0 dX1_join_28 rfl ?_
    refine xw_iconst_N (pc := 29) C 1 dX1_join_29 rfl ?_
    refine xw_Vd (pc := 30) (q0 := 0) (na := 1) (rest := []) (st' := [nV 0]) C (m_X1_no 1) gX1_join_X1_no rfl rfl rfl rfl (by decide +kernel) ⟨Nat.le_of_ble_eq_true rfl, Nat.le_of_ble_eq_true rfl⟩ rfl rfl rfl (Nat.le_of_ble_eq_true rfl) dX1_join_30 ⟨Nat.le_of_ble_eq_true rfl, Nat.le_of_ble_eq_true rfl⟩ rfl ?_
    exact xw_iret (pc := 33) C rX (Nat.le_refl _) (Nat.le_refl _) dX1_join_33 (PD.i)
  ·
    have q_c_1 := of_decide_eq_true c_1
    refine xw_iload_n (pc := 12) C 2 dX1_join_12 rfl ?_
    refine xw_Sd (pc := 13) (na := 1) (rest := []) (st' := [bV (decide (((0 : Nat) : Int) ≤ zb1 ∧ zb1 ≤ ((3 : Nat) : Int)))]) C (m_X1_isRow zb1 (by omega)) gX1_join_X1_isRow rfl rfl rfl rfl (by decide +kernel) ⟨Nat.le_of_ble_eq_true rfl, Nat.le_of_ble_eq_true rfl⟩ rfl (Nat.le_of_ble_eq_true rfl) dX1_join_13 ⟨Nat.le_of_ble_eq_true rfl, Nat.le_of_ble_eq_true rfl⟩ rfl ?_
    refine xw_if_eq_B (pc := 16) (tgt := 28) C dX1_join_16 (by decide)  (fun c_2 => ?_) (fun c_2 => ?_)
    ·
      have q_c_2 := of_decide_eq_false c_2
      refine xw_aload_n (pc := 28) C 0 dX1_join_28 rfl ?_
      refine xw_iconst_N (pc := 29) C 1 dX1_join_29 rfl ?_
      refine xw_Vd (pc := 30) (q0 := 0) (na := 1) (rest := []) (st' := [nV 0]) C (m_X1_no 1) gX1_join_X1_no rfl rfl rfl rfl (by decide +kernel) ⟨Nat.le_of_ble_eq_true rfl, Nat.le_of_ble_eq_true rfl⟩ rfl rfl rfl (Nat.le_of_ble_eq_true rfl) dX1_join_30 ⟨Nat.le_of_ble_eq_true rfl, Nat.le_of_ble_eq_true rfl⟩ rfl ?_
      exact xw_iret (pc := 33) C rX (Nat.le_refl _) (Nat.le_refl _) dX1_join_33 (PD.i)
    ·
      have q_c_2 := of_decide_eq_true c_2
      refine xw_iload_n (pc := 19) C 3 dX1_join_19 rfl ?_
      refine xw_iconst_N (pc := 20) C 0 dX1_join_20 rfl ?_
      refine xw_iconst_N (pc := 21) C 2 dX1_join_21 rfl ?_
      refine xw_Sd (pc := 22) (na := 3) (rest := []) (st' := [bV (decide ((((0 : Nat) : Int)) ≤ zu ∧ zu ≤ (((2 : Nat) : Int))))]) C (m_X1_isIn zu (((0 : Nat) : Int)) (((2 : Nat) : Int)) (by omega) (by omega) (by omega)) gX1_join_X1_isIn rfl rfl rfl rfl (by decide +kernel) ⟨Nat.le_of_ble_eq_true rfl, Nat.le_of_ble_eq_true rfl⟩ rfl (Nat.le_of_ble_eq_true rfl) dX1_join_22 ⟨Nat.le_of_ble_eq_true rfl, Nat.le_of_ble_eq_true rfl⟩ rfl ?_
      refine xw_if_ne_B (pc := 25) (tgt := 34) C dX1_join_25 (by decide)  (fun c_3 => ?_) (fun c_3 => ?_)
      ·
        have q_c_3 := of_decide_eq_true c_3
        exfalso; omega
      ·
        have q_c_3 := of_decide_eq_false c_3
        refine xw_aload_n (pc := 28) C 0 dX1_join_28 rfl ?_
        refine xw_iconst_N (pc := 29) C 1 dX1_join_29 rfl ?_
        refine xw_Vd (pc := 30) (q0 := 0) (na := 1) (rest := []) (st' := [nV 0]) C (m_X1_no 1) gX1_join_X1_no rfl rfl rfl rfl (by decide +kernel) ⟨Nat.le_of_ble_eq_true rfl, Nat.le_of_ble_eq_true rfl⟩ rfl rfl rfl (Nat.le_of_ble_eq_true rfl) dX1_join_30 ⟨Nat.le_of_ble_eq_true rfl, Nat.le_of_ble_eq_true rfl⟩ rfl ?_
        exact xw_iret (pc := 33) C rX (Nat.le_refl _) (Nat.le_refl _) dX1_join_33 (PD.i)

set_option maxHeartbeats 4000000 in
set_option maxRecDepth 100000 in
theorem m_X1_move_no1 {l : Launch} {D : va_G} {cI : ClassId} {h r d th n p w b : Nat} {B M : Nat → Nat} (hn : n = 4 ∨ n = 8 ∨ n = 16) (hp5 : p < 500) (hb5 : b < 5) (zr : Int) (hr_zr : (-2147483648 ≤ zr ∧ zr < 2147483648)) (zq : Int) (hr_zq : (-2147483648 ≤ zq ∧ zq < 2147483648)) (hbad : ¬ ((0 ≤ zr ∧ zr < 4))) : CT l yX1_move wsX1_move (rmN 2 42) D vwCl [(cI, .int)] [.ref h, iV zr, iV zq] (wM cI h r d th n p w b B M) (PD (some (nV 0)) (wM cI h r d 1 n p w b B M)) 0 0 := by
  refine ct_of (plainFor_of_name (by decide)) rfl (Nat.le_of_ble_eq_true rfl) (fun φ C rX => ?_)
  have hin : ∀ w ∈ wsX10, w ∈ wsX1_move := by decide +kernel
  refine xw_le (lv' := [(0, .ref h), (1, iV zr), (2, iV zq)]) rfl ?_
  have hn3 := lt3 hn
  refine xw_aload_n (pc := 0) C 0 dX1_move_0 rfl ?_
  refine xw_iconst_N (pc := 1) C 0 dX1_move_1 rfl ?_
  refine xw_put (pc := 2) (T := TX1) (N := 7) (ref := "ToneButterfliesModel") (w' := wM cI h r d 0 n p w b B M) C hin tyX1 tyX1_ok nmX1 0 0 rfl rfl (by decide) (by decide +kernel) rfl rfl rfl rfl (Nat.le_of_ble_eq_true rfl) rfl dX1_move_2 ?_
  refine xw_iload_n (pc := 5) C 1 dX1_move_5 rfl ?_
  refine xw_Sd (pc := 6) (na := 1) (rest := []) (st' := [bV (decide (((0 : Nat) : Int) ≤ zr ∧ zr ≤ ((3 : Nat) : Int)))]) C (m_X1_isRow zr (by omega)) gX1_move_X1_isRow rfl rfl rfl rfl (by decide +kernel) ⟨Nat.le_of_ble_eq_true rfl, Nat.le_of_ble_eq_true rfl⟩ rfl (Nat.le_of_ble_eq_true rfl) dX1_move_6 ⟨Nat.le_of_ble_eq_true rfl, Nat.le_of_ble_eq_true rfl⟩ rfl ?_
  refine xw_if_ne_B (pc := 9) (tgt := 18) C dX1_move_9 (by decide)  (fun c_1 => ?_) (fun c_1 => ?_)
  ·
    have q_c_1 := of_decide_eq_true c_1
    exfalso; omega
  ·
    have q_c_1 := of_decide_eq_false c_1
    refine xw_aload_n (pc := 12) C 0 dX1_move_12 rfl ?_
    refine xw_iconst_N (pc := 13) C 1 dX1_move_13 rfl ?_
    refine xw_Vd (pc := 14) (q0 := 0) (na := 1) (rest := []) (st' := [nV 0]) C (m_X1_no 1) gX1_move_X1_no rfl rfl rfl rfl (by decide +kernel) ⟨Nat.le_of_ble_eq_true rfl, Nat.le_of_ble_eq_true rfl⟩ rfl rfl rfl (Nat.le_of_ble_eq_true rfl) dX1_move_14 ⟨Nat.le_of_ble_eq_true rfl, Nat.le_of_ble_eq_true rfl⟩ rfl ?_
    exact xw_iret (pc := 17) C rX (Nat.le_refl _) (Nat.le_refl _) dX1_move_17 (PD.i)

set_option maxHeartbeats 4000000 in
set_option maxRecDepth 100000 in
theorem m_X1_move_no2 {l : Launch} {D : va_G} {cI : ClassId} {h r d th n p w b : Nat} {B M : Nat → Nat} (hn : n = 4 ∨ n = 8 ∨ n = 16) (hp5 : p < 500) (hb5 : b < 5) (zr : Int) (hr_zr : (-2147483648 ≤ zr ∧ zr < 2147483648)) (zq : Int) (hr_zq : (-2147483648 ≤ zq ∧ zq < 2147483648)) (hok_zr : (0 ≤ zr ∧ zr < 4)) (hbad : ¬ ((0 ≤ zq ∧ zq < (n : Int)))) : CT l yX1_move wsX1_move (rmN 2 43) D vwCl [(cI, .int)] [.ref h, iV zr, iV zq] (wM cI h r d th n p w b B M) (PD (some (nV 0)) (wM cI h r d 2 n p w b B M)) 0 0 := by
  refine ct_of (plainFor_of_name (by decide)) rfl (Nat.le_of_ble_eq_true rfl) (fun φ C rX => ?_)
  have hin : ∀ w ∈ wsX10, w ∈ wsX1_move := by decide +kernel
  refine xw_le (lv' := [(0, .ref h), (1, iV zr), (2, iV zq)]) rfl ?_
  have hn3 := lt3 hn
  refine xw_aload_n (pc := 0) C 0 dX1_move_0 rfl ?_
  refine xw_iconst_N (pc := 1) C 0 dX1_move_1 rfl ?_
  refine xw_put (pc := 2) (T := TX1) (N := 7) (ref := "ToneButterfliesModel") (w' := wM cI h r d 0 n p w b B M) C hin tyX1 tyX1_ok nmX1 0 0 rfl rfl (by decide) (by decide +kernel) rfl rfl rfl rfl (Nat.le_of_ble_eq_true rfl) rfl dX1_move_2 ?_
  refine xw_iload_n (pc := 5) C 1 dX1_move_5 rfl ?_
  refine xw_Sd (pc := 6) (na := 1) (rest := []) (st' := [bV (decide (((0 : Nat) : Int) ≤ zr ∧ zr ≤ ((3 : Nat) : Int)))]) C (m_X1_isRow zr (by omega)) gX1_move_X1_isRow rfl rfl rfl rfl (by decide +kernel) ⟨Nat.le_of_ble_eq_true rfl, Nat.le_of_ble_eq_true rfl⟩ rfl (Nat.le_of_ble_eq_true rfl) dX1_move_6 ⟨Nat.le_of_ble_eq_true rfl, Nat.le_of_ble_eq_true rfl⟩ rfl ?_
  refine xw_if_ne_B (pc := 9) (tgt := 18) C dX1_move_9 (by decide)  (fun c_1 => ?_) (fun c_1 => (by have q9 := of_decide_eq_false c_1; exfalso; omega))
  have q_c_1 := of_decide_eq_true c_1
  refine xw_aload_n (pc := 18) C 0 dX1_move_18 rfl ?_
  refine xw_iload_n (pc := 19) C 2 dX1_move_19 rfl ?_
  refine xw_Vd (pc := 20) (q0 := 0) (na := 1) (rest := []) (st' := [bV (decide (((0 : Nat) : Int) ≤ zq ∧ zq ≤ ((n : Nat) : Int) - ((1 : Nat) : Int)))]) C (m_X1_isPlace (by omega) zq (by omega)) gX1_move_X1_isPlace rfl rfl rfl rfl (by decide +kernel) ⟨Nat.le_of_ble_eq_true rfl, Nat.le_of_ble_eq_true rfl⟩ rfl rfl rfl (Nat.le_of_ble_eq_true rfl) dX1_move_20 ⟨Nat.le_of_ble_eq_true rfl, Nat.le_of_ble_eq_true rfl⟩ rfl ?_
  refine xw_if_ne_B (pc := 23) (tgt := 32) C dX1_move_23 (by decide)  (fun c_2 => ?_) (fun c_2 => ?_)
  ·
    have q_c_2 := of_decide_eq_true c_2
    exfalso; omega
  ·
    have q_c_2 := of_decide_eq_false c_2
    refine xw_aload_n (pc := 26) C 0 dX1_move_26 rfl ?_
    refine xw_iconst_N (pc := 27) C 2 dX1_move_27 rfl ?_
    refine xw_Vd (pc := 28) (q0 := 0) (na := 1) (rest := []) (st' := [nV 0]) C (m_X1_no 2) gX1_move_X1_no rfl rfl rfl rfl (by decide +kernel) ⟨Nat.le_of_ble_eq_true rfl, Nat.le_of_ble_eq_true rfl⟩ rfl rfl rfl (Nat.le_of_ble_eq_true rfl) dX1_move_28 ⟨Nat.le_of_ble_eq_true rfl, Nat.le_of_ble_eq_true rfl⟩ rfl ?_
    exact xw_iret (pc := 31) C rX (Nat.le_refl _) (Nat.le_refl _) dX1_move_31 (PD.i)

set_option maxHeartbeats 4000000 in
set_option maxRecDepth 100000 in
theorem m_X1_times_no1 {l : Launch} {D : va_G} {cI : ClassId} {h r d th n p w b : Nat} {B M : Nat → Nat} (hn : n = 4 ∨ n = 8 ∨ n = 16) (hp5 : p < 500) (hb5 : b < 5) (zr : Int) (hr_zr : (-2147483648 ≤ zr ∧ zr < 2147483648)) (zv : Int) (hr_zv : (-2147483648 ≤ zv ∧ zv < 2147483648)) (hbad : ¬ ((0 ≤ zr ∧ zr < 4))) : CT l yX1_times wsX1_times (rmN 2 42) D vwCl [(cI, .int)] [.ref h, iV zr, iV zv] (wM cI h r d th n p w b B M) (PD (some (nV 0)) (wM cI h r d 1 n p w b B M)) 0 0 := by
  refine ct_of (plainFor_of_name (by decide)) rfl (Nat.le_of_ble_eq_true rfl) (fun φ C rX => ?_)
  have hin : ∀ w ∈ wsX10, w ∈ wsX1_times := by decide +kernel
  refine xw_le (lv' := [(0, .ref h), (1, iV zr), (2, iV zv)]) rfl ?_
  have hn3 := lt3 hn
  refine xw_aload_n (pc := 0) C 0 dX1_times_0 rfl ?_
  refine xw_iconst_N (pc := 1) C 0 dX1_times_1 rfl ?_
  refine xw_put (pc := 2) (T := TX1) (N := 7) (ref := "ToneButterfliesModel") (w' := wM cI h r d 0 n p w b B M) C hin tyX1 tyX1_ok nmX1 0 0 rfl rfl (by decide) (by decide +kernel) rfl rfl rfl rfl (Nat.le_of_ble_eq_true rfl) rfl dX1_times_2 ?_
  refine xw_iload_n (pc := 5) C 1 dX1_times_5 rfl ?_
  refine xw_Sd (pc := 6) (na := 1) (rest := []) (st' := [bV (decide (((0 : Nat) : Int) ≤ zr ∧ zr ≤ ((3 : Nat) : Int)))]) C (m_X1_isRow zr (by omega)) gX1_times_X1_isRow rfl rfl rfl rfl (by decide +kernel) ⟨Nat.le_of_ble_eq_true rfl, Nat.le_of_ble_eq_true rfl⟩ rfl (Nat.le_of_ble_eq_true rfl) dX1_times_6 ⟨Nat.le_of_ble_eq_true rfl, Nat.le_of_ble_eq_true rfl⟩ rfl ?_
  refine xw_if_ne_B (pc := 9) (tgt := 18) C dX1_times_9 (by decide)  (fun c_1 => ?_) (fun c_1 => ?_)
  ·
    have q_c_1 := of_decide_eq_true c_1
    exfalso; omega
  ·
    have q_c_1 := of_decide_eq_false c_1
    refine xw_aload_n (pc := 12) C 0 dX1_times_12 rfl ?_
    refine xw_iconst_N (pc := 13) C 1 dX1_times_13 rfl ?_
    refine xw_Vd (pc := 14) (q0 := 0) (na := 1) (rest := []) (st' := [nV 0]) C (m_X1_no 1) gX1_times_X1_no rfl rfl rfl rfl (by decide +kernel) ⟨Nat.le_of_ble_eq_true rfl, Nat.le_of_ble_eq_true rfl⟩ rfl rfl rfl (Nat.le_of_ble_eq_true rfl) dX1_times_14 ⟨Nat.le_of_ble_eq_true rfl, Nat.le_of_ble_eq_true rfl⟩ rfl ?_
    exact xw_iret (pc := 17) C rX (Nat.le_refl _) (Nat.le_refl _) dX1_times_17 (PD.i)

set_option maxHeartbeats 4000000 in
set_option maxRecDepth 100000 in
theorem m_X1_times_no2 {l : Launch} {D : va_G} {cI : ClassId} {h r d th n p w b : Nat} {B M : Nat → Nat} (hn : n = 4 ∨ n = 8 ∨ n = 16) (hp5 : p < 500) (hb5 : b < 5) (zr : Int) (hr_zr : (-2147483648 ≤ zr ∧ zr < 2147483648)) (zv : Int) (hr_zv : (-2147483648 ≤ zv ∧ zv < 2147483648)) (hok_zr : (0 ≤ zr ∧ zr < 4)) (hbad : ¬ ((0 ≤ zv ∧ zv < (p : Int)))) : CT l yX1_times wsX1_times (rmN 2 42) D vwCl [(cI, .int)] [.ref h, iV zr, iV zv] (wM cI h r d th n p w b B M) (PD (some (nV 0)) (wM cI h r d 2 n p w b B M)) 0 0 := by
  refine ct_of (plainFor_of_name (by decide)) rfl (Nat.le_of_ble_eq_true rfl) (fun φ C rX => ?_)
  have hin : ∀ w ∈ wsX10, w ∈ wsX1_times := by decide +kernel
  refine xw_le (lv' := [(0, .ref h), (1, iV zr), (2, iV zv)]) rfl ?_
  have hn3 := lt3 hn
  refine xw_aload_n (pc := 0) C 0 dX1_times_0 rfl ?_
  refine xw_iconst_N (pc := 1) C 0 dX1_times_1 rfl ?_
  refine xw_put (pc := 2) (T := TX1) (N := 7) (ref := "ToneButterfliesModel") (w' := wM cI h r d 0 n p w b B M) C hin tyX1 tyX1_ok nmX1 0 0 rfl rfl (by decide) (by decide +kernel) rfl rfl rfl rfl (Nat.le_of_ble_eq_true rfl) rfl dX1_times_2 ?_
  refine xw_iload_n (pc := 5) C 1 dX1_times_5 rfl ?_
  refine xw_Sd (pc := 6) (na := 1) (rest := []) (st' := [bV (decide (((0 : Nat) : Int) ≤ zr ∧ zr ≤ ((3 : Nat) : Int)))]) C (m_X1_isRow zr (by omega)) gX1_times_X1_isRow rfl rfl rfl rfl (by decide +kernel) ⟨Nat.le_of_ble_eq_true rfl, Nat.le_of_ble_eq_true rfl⟩ rfl (Nat.le_of_ble_eq_true rfl) dX1_times_6 ⟨Nat.le_of_ble_eq_true rfl, Nat.le_of_ble_eq_true rfl⟩ rfl ?_
  refine xw_if_ne_B (pc := 9) (tgt := 18) C dX1_times_9 (by decide)  (fun c_1 => ?_) (fun c_1 => (by have q9 := of_decide_eq_false c_1; exfalso; omega))
  have q_c_1 := of_decide_eq_true c_1
  refine xw_iload_n (pc := 18) C 2 dX1_times_18 rfl ?_
  refine xw_iconst_N (pc := 19) C 0 dX1_times_19 rfl ?_
  refine xw_aload_n (pc := 20) C 0 dX1_times_20 rfl ?_
  refine xw_get (pc := 21) (T := TX1) (N := 7) (ref := "ToneButterfliesModel") C hin 0 2 rfl rfl (by decide) (by decide +kernel) rfl rfl dX1_times_21 ?_
  refine xw_iconst_N (pc := 24) C 1 dX1_times_24 rfl ?_
  refine xw_isub (pc := 25) C dX1_times_25 ?_
  refine xw_Sd (pc := 26) (na := 3) (rest := []) (st' := [bV (decide ((((0 : Nat) : Int)) ≤ zv ∧ zv ≤ ((((p : Nat) : Int)) - (((1 : Nat) : Int)))))]) C (m_X1_isIn zv (((0 : Nat) : Int)) ((((p : Nat) : Int)) - (((1 : Nat) : Int))) (by omega) (by omega) (by omega)) gX1_times_X1_isIn rfl rfl rfl rfl (by decide +kernel) ⟨Nat.le_of_ble_eq_true rfl, Nat.le_of_ble_eq_true rfl⟩ rfl (Nat.le_of_ble_eq_true rfl) dX1_times_26 ⟨Nat.le_of_ble_eq_true rfl, Nat.le_of_ble_eq_true rfl⟩ rfl ?_
  refine xw_if_ne_B (pc := 29) (tgt := 38) C dX1_times_29 (by decide)  (fun c_2 => ?_) (fun c_2 => ?_)
  ·
    have q_c_2 := of_decide_eq_true c_2
    exfalso; omega
  ·
    have q_c_2 := of_decide_eq_false c_2
    refine xw_aload_n (pc := 32) C 0 dX1_times_32 rfl ?_
    refine xw_iconst_N (pc := 33) C 2 dX1_times_33 rfl ?_
    refine xw_Vd (pc := 34) (q0 := 0) (na := 1) (rest := []) (st' := [nV 0]) C (m_X1_no 2) gX1_times_X1_no rfl rfl rfl rfl (by decide +kernel) ⟨Nat.le_of_ble_eq_true rfl, Nat.le_of_ble_eq_true rfl⟩ rfl rfl rfl (Nat.le_of_ble_eq_true rfl) dX1_times_34 ⟨Nat.le_of_ble_eq_true rfl, Nat.le_of_ble_eq_true rfl⟩ rfl ?_
    exact xw_iret (pc := 37) C rX (Nat.le_refl _) (Nat.le_refl _) dX1_times_37 (PD.i)

set_option maxHeartbeats 4000000 in
set_option maxRecDepth 100000 in
theorem m_X1_at_no1 {l : Launch} {D : va_G} {cI : ClassId} {h r d th n p w b : Nat} {B M : Nat → Nat} (hn : n = 4 ∨ n = 8 ∨ n = 16) (hp5 : p < 500) (hb5 : b < 5) (zr : Int) (hr_zr : (-2147483648 ≤ zr ∧ zr < 2147483648)) (zq : Int) (hr_zq : (-2147483648 ≤ zq ∧ zq < 2147483648)) (hbad : ¬ ((0 ≤ zr ∧ zr < 4) ∧ (0 ≤ zq ∧ zq < (n : Int)))) : CT l yX1_at wsX1_at (rmN 2 43) D vwCl [(cI, .int)] [.ref h, iV zr, iV zq] (wM cI h r d th n p w b B M) (PD (some (nV 0)) (wM cI h r d 1 n p w b B M)) 0 0 := by
  refine ct_of (plainFor_of_name (by decide)) rfl (Nat.le_of_ble_eq_true rfl) (fun φ C rX => ?_)
  have hin : ∀ w ∈ wsX10, w ∈ wsX1_at := by decide +kernel
  refine xw_le (lv' := [(0, .ref h), (1, iV zr), (2, iV zq)]) rfl ?_
  have hn3 := lt3 hn
  refine xw_aload_n (pc := 0) C 0 dX1_at_0 rfl ?_
  refine xw_iconst_N (pc := 1) C 0 dX1_at_1 rfl ?_
  refine xw_put (pc := 2) (T := TX1) (N := 7) (ref := "ToneButterfliesModel") (w' := wM cI h r d 0 n p w b B M) C hin tyX1 tyX1_ok nmX1 0 0 rfl rfl (by decide) (by decide +kernel) rfl rfl rfl rfl (Nat.le_of_ble_eq_true rfl) rfl dX1_at_2 ?_
  refine xw_iload_n (pc := 5) C 1 dX1_at_5 rfl ?_
  refine xw_Sd (pc := 6) (na := 1) (rest := []) (st' := [bV (decide (((0 : Nat) : Int) ≤ zr ∧ zr ≤ ((3 : Nat) : Int)))]) C (m_X1_isRow zr (by omega)) gX1_at_X1_isRow rfl rfl rfl rfl (by decide +kernel) ⟨Nat.le_of_ble_eq_true rfl, Nat.le_of_ble_eq_true rfl⟩ rfl (Nat.le_of_ble_eq_true rfl) dX1_at_6 ⟨Nat.le_of_ble_eq_true rfl, Nat.le_of_ble_eq_true rfl⟩ rfl ?_
  refine xw_if_eq_B (pc := 9) (tgt := 29) C dX1_at_9 (by decide)  (fun c_1 => ?_) (fun c_1 => ?_)
  ·
    have q_c_1 := of_decide_eq_false c_1
    refine xw_aload_n (pc := 29) C 0 dX1_at_29 rfl ?_
    refine xw_iconst_N (pc := 30) C 1 dX1_at_30 rfl ?_
    refine xw_Vd (pc := 31) (q0 := 0) (na := 1) (rest := []) (st' := [nV 0]) C (m_X1_no 1) gX1_at_X1_no rfl rfl rfl rfl (by decide +kernel) ⟨Nat.le_of_ble_eq_true rfl, Nat.le_of_ble_eq_true rfl⟩ rfl rfl rfl (Nat.le_of_ble_eq_true rfl) dX1_at_31 ⟨Nat.le_of_ble_eq_true rfl, Nat.le_of_ble_eq_true rfl⟩ rfl ?_
    exact xw_iret (pc := 34) C rX (Nat.le_refl _) (Nat.le_refl _) dX1_at_34 (PD.i)
  ·
    have q_c_1 := of_decide_eq_true c_1
    refine xw_aload_n (pc := 12) C 0 dX1_at_12 rfl ?_
    refine xw_iload_n (pc := 13) C 2 dX1_at_13 rfl ?_
    refine xw_Vd (pc := 14) (q0 := 0) (na := 1) (rest := []) (st' := [bV (decide (((0 : Nat) : Int) ≤ zq ∧ zq ≤ ((n : Nat) : Int) - ((1 : Nat) : Int)))]) C (m_X1_isPlace (by omega) zq (by omega)) gX1_at_X1_isPlace rfl rfl rfl rfl (by decide +kernel) ⟨Nat.le_of_ble_eq_true rfl, Nat.le_of_ble_eq_true rfl⟩ rfl rfl rfl (Nat.le_of_ble_eq_true rfl) dX1_at_14 ⟨Nat.le_of_ble_eq_true rfl, Nat.le_of_ble_eq_true rfl⟩ rfl ?_
    refine xw_if_eq_B (pc := 17) (tgt := 29) C dX1_at_17 (by decide)  (fun c_2 => ?_) (fun c_2 => ?_)
    ·
      have q_c_2 := of_decide_eq_false c_2
      refine xw_aload_n (pc := 29) C 0 dX1_at_29 rfl ?_
      refine xw_iconst_N (pc := 30) C 1 dX1_at_30 rfl ?_
      refine xw_Vd (pc := 31) (q0 := 0) (na := 1) (rest := []) (st' := [nV 0]) C (m_X1_no 1) gX1_at_X1_no rfl rfl rfl rfl (by decide +kernel) ⟨Nat.le_of_ble_eq_true rfl, Nat.le_of_ble_eq_true rfl⟩ rfl rfl rfl (Nat.le_of_ble_eq_true rfl) dX1_at_31 ⟨Nat.le_of_ble_eq_true rfl, Nat.le_of_ble_eq_true rfl⟩ rfl ?_
      exact xw_iret (pc := 34) C rX (Nat.le_refl _) (Nat.le_refl _) dX1_at_34 (PD.i)
    ·
      have q_c_2 := of_decide_eq_true c_2
      exfalso; omega

set_option maxHeartbeats 4000000 in
set_option maxRecDepth 100000 in
theorem m_X1_point_no1 {l : Launch} {D : va_G} {cI : ClassId} {h r d th n p w b : Nat} {B M : Nat → Nat} (hn : n = 4 ∨ n = 8 ∨ n = 16) (hp5 : p < 500) (hb5 : b < 5) (zr : Int) (hr_zr : (-2147483648 ≤ zr ∧ zr < 2147483648)) (zv : Int) (hr_zv : (-2147483648 ≤ zv ∧ zv < 2147483648)) (hbad : ¬ ((0 ≤ zr ∧ zr < 4))) : CT l yX1_point wsX1_point (rmN 2 42) D vwCl [(cI, .int)] [.ref h, iV zr, iV zv] (wM cI h r d th n p w b B M) (PD (some (nV 0)) (wM cI h r d 1 n p w b B M)) 0 0 := by
  refine ct_of (plainFor_of_name (by decide)) rfl (Nat.le_of_ble_eq_true rfl) (fun φ C rX => ?_)
  have hin : ∀ w ∈ wsX10, w ∈ wsX1_point := by decide +kernel
  refine xw_le (lv' := [(0, .ref h), (1, iV zr), (2, iV zv)]) rfl ?_
  have hn3 := lt3 hn
  refine xw_aload_n (pc := 0) C 0 dX1_point_0 rfl ?_
  refine xw_iconst_N (pc := 1) C 0 dX1_point_1 rfl ?_
  refine xw_put (pc := 2) (T := TX1) (N := 7) (ref := "ToneButterfliesModel") (w' := wM cI h r d 0 n p w b B M) C hin tyX1 tyX1_ok nmX1 0 0 rfl rfl (by decide) (by decide +kernel) rfl rfl rfl rfl (Nat.le_of_ble_eq_true rfl) rfl dX1_point_2 ?_
  refine xw_iload_n (pc := 5) C 1 dX1_point_5 rfl ?_
  refine xw_Sd (pc := 6) (na := 1) (rest := []) (st' := [bV (decide (((0 : Nat) : Int) ≤ zr ∧ zr ≤ ((3 : Nat) : Int)))]) C (m_X1_isRow zr (by omega)) gX1_point_X1_isRow rfl rfl rfl rfl (by decide +kernel) ⟨Nat.le_of_ble_eq_true rfl, Nat.le_of_ble_eq_true rfl⟩ rfl (Nat.le_of_ble_eq_true rfl) dX1_point_6 ⟨Nat.le_of_ble_eq_true rfl, Nat.le_of_ble_eq_true rfl⟩ rfl ?_
  refine xw_if_ne_B (pc := 9) (tgt := 18) C dX1_point_9 (by decide)  (fun c_1 => ?_) (fun c_1 => ?_)
  ·
    have q_c_1 := of_decide_eq_true c_1
    exfalso; omega
  ·
    have q_c_1 := of_decide_eq_false c_1
    refine xw_aload_n (pc := 12) C 0 dX1_point_12 rfl ?_
    refine xw_iconst_N (pc := 13) C 1 dX1_point_13 rfl ?_
    refine xw_Vd (pc := 14) (q0 := 0) (na := 1) (rest := []) (st' := [nV 0]) C (m_X1_no 1) gX1_point_X1_no rfl rfl rfl rfl (by decide +kernel) ⟨Nat.le_of_ble_eq_true rfl, Nat.le_of_ble_eq_true rfl⟩ rfl rfl rfl (Nat.le_of_ble_eq_true rfl) dX1_point_14 ⟨Nat.le_of_ble_eq_true rfl, Nat.le_of_ble_eq_true rfl⟩ rfl ?_
    exact xw_iret (pc := 17) C rX (Nat.le_refl _) (Nat.le_refl _) dX1_point_17 (PD.i)

set_option maxHeartbeats 4000000 in
set_option maxRecDepth 100000 in
theorem m_X1_point_no2 {l : Launch} {D : va_G} {cI : ClassId} {h r d th n p w b : Nat} {B M : Nat → Nat} (hn : n = 4 ∨ n = 8 ∨ n = 16) (hp5 : p < 500) (hb5 : b < 5) (zr : Int) (hr_zr : (-2147483648 ≤ zr ∧ zr < 2147483648)) (zv : Int) (hr_zv : (-2147483648 ≤ zv ∧ zv < 2147483648)) (hok_zr : (0 ≤ zr ∧ zr < 4)) (hbad : ¬ ((0 ≤ zv ∧ zv < (p : Int)))) : CT l yX1_point wsX1_point (rmN 2 42) D vwCl [(cI, .int)] [.ref h, iV zr, iV zv] (wM cI h r d th n p w b B M) (PD (some (nV 0)) (wM cI h r d 2 n p w b B M)) 0 0 := by
  refine ct_of (plainFor_of_name (by decide)) rfl (Nat.le_of_ble_eq_true rfl) (fun φ C rX => ?_)
  have hin : ∀ w ∈ wsX10, w ∈ wsX1_point := by decide +kernel
  refine xw_le (lv' := [(0, .ref h), (1, iV zr), (2, iV zv)]) rfl ?_
  have hn3 := lt3 hn
  refine xw_aload_n (pc := 0) C 0 dX1_point_0 rfl ?_
  refine xw_iconst_N (pc := 1) C 0 dX1_point_1 rfl ?_
  refine xw_put (pc := 2) (T := TX1) (N := 7) (ref := "ToneButterfliesModel") (w' := wM cI h r d 0 n p w b B M) C hin tyX1 tyX1_ok nmX1 0 0 rfl rfl (by decide) (by decide +kernel) rfl rfl rfl rfl (Nat.le_of_ble_eq_true rfl) rfl dX1_point_2 ?_
  refine xw_iload_n (pc := 5) C 1 dX1_point_5 rfl ?_
  refine xw_Sd (pc := 6) (na := 1) (rest := []) (st' := [bV (decide (((0 : Nat) : Int) ≤ zr ∧ zr ≤ ((3 : Nat) : Int)))]) C (m_X1_isRow zr (by omega)) gX1_point_X1_isRow rfl rfl rfl rfl (by decide +kernel) ⟨Nat.le_of_ble_eq_true rfl, Nat.le_of_ble_eq_true rfl⟩ rfl (Nat.le_of_ble_eq_true rfl) dX1_point_6 ⟨Nat.le_of_ble_eq_true rfl, Nat.le_of_ble_eq_true rfl⟩ rfl ?_
  refine xw_if_ne_B (pc := 9) (tgt := 18) C dX1_point_9 (by decide)  (fun c_1 => ?_) (fun c_1 => (by have q9 := of_decide_eq_false c_1; exfalso; omega))
  have q_c_1 := of_decide_eq_true c_1
  refine xw_iload_n (pc := 18) C 2 dX1_point_18 rfl ?_
  refine xw_iconst_N (pc := 19) C 0 dX1_point_19 rfl ?_
  refine xw_aload_n (pc := 20) C 0 dX1_point_20 rfl ?_
  refine xw_get (pc := 21) (T := TX1) (N := 7) (ref := "ToneButterfliesModel") C hin 0 2 rfl rfl (by decide) (by decide +kernel) rfl rfl dX1_point_21 ?_
  refine xw_iconst_N (pc := 24) C 1 dX1_point_24 rfl ?_
  refine xw_isub (pc := 25) C dX1_point_25 ?_
  refine xw_Sd (pc := 26) (na := 3) (rest := []) (st' := [bV (decide ((((0 : Nat) : Int)) ≤ zv ∧ zv ≤ ((((p : Nat) : Int)) - (((1 : Nat) : Int)))))]) C (m_X1_isIn zv (((0 : Nat) : Int)) ((((p : Nat) : Int)) - (((1 : Nat) : Int))) (by omega) (by omega) (by omega)) gX1_point_X1_isIn rfl rfl rfl rfl (by decide +kernel) ⟨Nat.le_of_ble_eq_true rfl, Nat.le_of_ble_eq_true rfl⟩ rfl (Nat.le_of_ble_eq_true rfl) dX1_point_26 ⟨Nat.le_of_ble_eq_true rfl, Nat.le_of_ble_eq_true rfl⟩ rfl ?_
  refine xw_if_eq_B (pc := 29) (tgt := 41) C dX1_point_29 (by decide)  (fun c_2 => ?_) (fun c_2 => ?_)
  ·
    have q_c_2 := of_decide_eq_false c_2
    refine xw_aload_n (pc := 41) C 0 dX1_point_41 rfl ?_
    refine xw_iconst_N (pc := 42) C 2 dX1_point_42 rfl ?_
    refine xw_Vd (pc := 43) (q0 := 0) (na := 1) (rest := []) (st' := [nV 0]) C (m_X1_no 2) gX1_point_X1_no rfl rfl rfl rfl (by decide +kernel) ⟨Nat.le_of_ble_eq_true rfl, Nat.le_of_ble_eq_true rfl⟩ rfl rfl rfl (Nat.le_of_ble_eq_true rfl) dX1_point_43 ⟨Nat.le_of_ble_eq_true rfl, Nat.le_of_ble_eq_true rfl⟩ rfl ?_
    exact xw_iret (pc := 46) C rX (Nat.le_refl _) (Nat.le_refl _) dX1_point_46 (PD.i)
  ·
    have q_c_2 := of_decide_eq_true c_2
    exfalso; omega

set_option maxHeartbeats 4000000 in
set_option maxRecDepth 100000 in
theorem m_X1_about_no1 {l : Launch} {D : va_G} {cI : ClassId} {h r d th n p w b : Nat} {B M : Nat → Nat} (hn : n = 4 ∨ n = 8 ∨ n = 16) (hp5 : p < 500) (hb5 : b < 5) (zr : Int) (hr_zr : (-2147483648 ≤ zr ∧ zr < 2147483648)) (zu : Int) (hr_zu : (-2147483648 ≤ zu ∧ zu < 2147483648)) (hbad : ¬ ((0 ≤ zr ∧ zr < 4) ∧ (0 ≤ zu ∧ zu < 5))) : CT l yX1_about wsX1_about (rmN 2 42) D vwCl [(cI, .int)] [.ref h, iV zr, iV zu] (wM cI h r d th n p w b B M) (PD (some (nV 0)) (wM cI h r d 1 n p w b B M)) 0 0 := by
  refine ct_of (plainFor_of_name (by decide)) rfl (Nat.le_of_ble_eq_true rfl) (fun φ C rX => ?_)
  have hin : ∀ w ∈ wsX10, w ∈ wsX1_about := by decide +kernel
  refine xw_le (lv' := [(0, .ref h), (1, iV zr), (2, iV zu)]) rfl ?_
  have hn3 := lt3 hn
  refine xw_aload_n (pc := 0) C 0 dX1_about_0 rfl ?_
  refine xw_iconst_N (pc := 1) C 0 dX1_about_1 rfl ?_
  refine xw_put (pc := 2) (T := TX1) (N := 7) (ref := "ToneButterfliesModel") (w' := wM cI h r d 0 n p w b B M) C hin tyX1 tyX1_ok nmX1 0 0 rfl rfl (by decide) (by decide +kernel) rfl rfl rfl rfl (Nat.le_of_ble_eq_true rfl) rfl dX1_about_2 ?_
  refine xw_iload_n (pc := 5) C 1 dX1_about_5 rfl ?_
  refine xw_Sd (pc := 6) (na := 1) (rest := []) (st' := [bV (decide (((0 : Nat) : Int) ≤ zr ∧ zr ≤ ((3 : Nat) : Int)))]) C (m_X1_isRow zr (by omega)) gX1_about_X1_isRow rfl rfl rfl rfl (by decide +kernel) ⟨Nat.le_of_ble_eq_true rfl, Nat.le_of_ble_eq_true rfl⟩ rfl (Nat.le_of_ble_eq_true rfl) dX1_about_6 ⟨Nat.le_of_ble_eq_true rfl, Nat.le_of_ble_eq_true rfl⟩ rfl ?_
  refine xw_if_eq_B (pc := 9) (tgt := 30) C dX1_about_9 (by decide)  (fun c_1 => ?_) (fun c_1 => ?_)
  ·
    have q_c_1 := of_decide_eq_false c_1
    refine xw_aload_n (pc := 30) C 0 dX1_about_30 rfl ?_
    refine xw_iconst_N (pc := 31) C 1 dX1_about_31 rfl ?_
    refine xw_Vd (pc := 32) (q0 := 0) (na := 1) (rest := []) (st' := [nV 0]) C (m_X1_no 1) gX1_about_X1_no rfl rfl rfl rfl (by decide +kernel) ⟨Nat.le_of_ble_eq_true rfl, Nat.le_of_ble_eq_true rfl⟩ rfl rfl rfl (Nat.le_of_ble_eq_true rfl) dX1_about_32 ⟨Nat.le_of_ble_eq_true rfl, Nat.le_of_ble_eq_true rfl⟩ rfl ?_
    exact xw_iret (pc := 35) C rX (Nat.le_refl _) (Nat.le_refl _) dX1_about_35 (PD.i)
  ·
    have q_c_1 := of_decide_eq_true c_1
    refine xw_iload_n (pc := 12) C 2 dX1_about_12 rfl ?_
    refine xw_iconst_N (pc := 13) C 0 dX1_about_13 rfl ?_
    refine xw_iconst_N (pc := 14) C 4 dX1_about_14 rfl ?_
    refine xw_Sd (pc := 15) (na := 3) (rest := []) (st' := [bV (decide ((((0 : Nat) : Int)) ≤ zu ∧ zu ≤ (((4 : Nat) : Int))))]) C (m_X1_isIn zu (((0 : Nat) : Int)) (((4 : Nat) : Int)) (by omega) (by omega) (by omega)) gX1_about_X1_isIn rfl rfl rfl rfl (by decide +kernel) ⟨Nat.le_of_ble_eq_true rfl, Nat.le_of_ble_eq_true rfl⟩ rfl (Nat.le_of_ble_eq_true rfl) dX1_about_15 ⟨Nat.le_of_ble_eq_true rfl, Nat.le_of_ble_eq_true rfl⟩ rfl ?_
    refine xw_if_eq_B (pc := 18) (tgt := 30) C dX1_about_18 (by decide)  (fun c_2 => ?_) (fun c_2 => ?_)
    ·
      have q_c_2 := of_decide_eq_false c_2
      refine xw_aload_n (pc := 30) C 0 dX1_about_30 rfl ?_
      refine xw_iconst_N (pc := 31) C 1 dX1_about_31 rfl ?_
      refine xw_Vd (pc := 32) (q0 := 0) (na := 1) (rest := []) (st' := [nV 0]) C (m_X1_no 1) gX1_about_X1_no rfl rfl rfl rfl (by decide +kernel) ⟨Nat.le_of_ble_eq_true rfl, Nat.le_of_ble_eq_true rfl⟩ rfl rfl rfl (Nat.le_of_ble_eq_true rfl) dX1_about_32 ⟨Nat.le_of_ble_eq_true rfl, Nat.le_of_ble_eq_true rfl⟩ rfl ?_
      exact xw_iret (pc := 35) C rX (Nat.le_refl _) (Nat.le_refl _) dX1_about_35 (PD.i)
    ·
      have q_c_2 := of_decide_eq_true c_2
      exfalso; omega

set_option maxHeartbeats 4000000 in
set_option maxRecDepth 100000 in
theorem m_X1_count_no1 {l : Launch} {D : va_G} {cI : ClassId} {h r d th n p w b : Nat} {B M : Nat → Nat} (hn : n = 4 ∨ n = 8 ∨ n = 16) (hp5 : p < 500) (hb5 : b < 5) (zu : Int) (hr_zu : (-2147483648 ≤ zu ∧ zu < 2147483648)) (hbad : ¬ ((0 ≤ zu ∧ zu < 6))) : CT l yX1_count wsX1_count (rmN 1 22) D vwCl [(cI, .int)] [.ref h, iV zu] (wM cI h r d th n p w b B M) (PD (some (nV 0)) (wM cI h r d 1 n p w b B M)) 0 0 := by
  refine ct_of (plainFor_of_name (by decide)) rfl (Nat.le_of_ble_eq_true rfl) (fun φ C rX => ?_)
  have hin : ∀ w ∈ wsX10, w ∈ wsX1_count := by decide +kernel
  refine xw_le (lv' := [(0, .ref h), (1, iV zu)]) rfl ?_
  have hn3 := lt3 hn
  refine xw_aload_n (pc := 0) C 0 dX1_count_0 rfl ?_
  refine xw_iconst_N (pc := 1) C 0 dX1_count_1 rfl ?_
  refine xw_put (pc := 2) (T := TX1) (N := 7) (ref := "ToneButterfliesModel") (w' := wM cI h r d 0 n p w b B M) C hin tyX1 tyX1_ok nmX1 0 0 rfl rfl (by decide) (by decide +kernel) rfl rfl rfl rfl (Nat.le_of_ble_eq_true rfl) rfl dX1_count_2 ?_
  refine xw_iload_n (pc := 5) C 1 dX1_count_5 rfl ?_
  refine xw_iconst_N (pc := 6) C 0 dX1_count_6 rfl ?_
  refine xw_iconst_N (pc := 7) C 5 dX1_count_7 rfl ?_
  refine xw_Sd (pc := 8) (na := 3) (rest := []) (st' := [bV (decide ((((0 : Nat) : Int)) ≤ zu ∧ zu ≤ (((5 : Nat) : Int))))]) C (m_X1_isIn zu (((0 : Nat) : Int)) (((5 : Nat) : Int)) (by omega) (by omega) (by omega)) gX1_count_X1_isIn rfl rfl rfl rfl (by decide +kernel) ⟨Nat.le_of_ble_eq_true rfl, Nat.le_of_ble_eq_true rfl⟩ rfl (Nat.le_of_ble_eq_true rfl) dX1_count_8 ⟨Nat.le_of_ble_eq_true rfl, Nat.le_of_ble_eq_true rfl⟩ rfl ?_
  refine xw_if_eq_B (pc := 11) (tgt := 22) C dX1_count_11 (by decide)  (fun c_1 => ?_) (fun c_1 => ?_)
  ·
    have q_c_1 := of_decide_eq_false c_1
    refine xw_aload_n (pc := 22) C 0 dX1_count_22 rfl ?_
    refine xw_iconst_N (pc := 23) C 1 dX1_count_23 rfl ?_
    refine xw_Vd (pc := 24) (q0 := 0) (na := 1) (rest := []) (st' := [nV 0]) C (m_X1_no 1) gX1_count_X1_no rfl rfl rfl rfl (by decide +kernel) ⟨Nat.le_of_ble_eq_true rfl, Nat.le_of_ble_eq_true rfl⟩ rfl rfl rfl (Nat.le_of_ble_eq_true rfl) dX1_count_24 ⟨Nat.le_of_ble_eq_true rfl, Nat.le_of_ble_eq_true rfl⟩ rfl ?_
    exact xw_iret (pc := 27) C rX (Nat.le_refl _) (Nat.le_refl _) dX1_count_27 (PD.i)
  ·
    have q_c_1 := of_decide_eq_true c_1
    exfalso; omega

set_option maxHeartbeats 4000000 in
set_option maxRecDepth 100000 in
theorem m_X1_root_no1 {l : Launch} {D : va_G} {cI : ClassId} {h r d th n p w b : Nat} {B M : Nat → Nat} (hn : n = 4 ∨ n = 8 ∨ n = 16) (hp5 : p < 500) (hb5 : b < 5) (zu : Int) (hr_zu : (-2147483648 ≤ zu ∧ zu < 2147483648)) (hbad : ¬ ((0 ≤ zu ∧ zu ≤ 9999))) : CT l yX1_root wsX1_root (rmN 1 22) D vwCl [(cI, .int)] [.ref h, iV zu] (wM cI h r d th n p w b B M) (PD (some (nV 0)) (wM cI h r d 1 n p w b B M)) 0 0 := by
  refine ct_of (plainFor_of_name (by decide)) rfl (Nat.le_of_ble_eq_true rfl) (fun φ C rX => ?_)
  have hin : ∀ w ∈ wsX10, w ∈ wsX1_root := by decide +kernel
  refine xw_le (lv' := [(0, .ref h), (1, iV zu)]) rfl ?_
  have hn3 := lt3 hn
  refine xw_aload_n (pc := 0) C 0 dX1_root_0 rfl ?_
  refine xw_iconst_N (pc := 1) C 0 dX1_root_1 rfl ?_
  refine xw_put (pc := 2) (T := TX1) (N := 7) (ref := "ToneButterfliesModel") (w' := wM cI h r d 0 n p w b B M) C hin tyX1 tyX1_ok nmX1 0 0 rfl rfl (by decide) (by decide +kernel) rfl rfl rfl rfl (Nat.le_of_ble_eq_true rfl) rfl dX1_root_2 ?_
  refine xw_iload_n (pc := 5) C 1 dX1_root_5 rfl ?_
  refine xw_iconst_N (pc := 6) C 0 dX1_root_6 rfl ?_
  refine xw_sipush_N (pc := 7) C 9999 dX1_root_7 (by decide) ?_
  refine xw_Sd (pc := 10) (na := 3) (rest := []) (st' := [bV (decide ((((0 : Nat) : Int)) ≤ zu ∧ zu ≤ (((9999 : Nat) : Int))))]) C (m_X1_isIn zu (((0 : Nat) : Int)) (((9999 : Nat) : Int)) (by omega) (by omega) (by omega)) gX1_root_X1_isIn rfl rfl rfl rfl (by decide +kernel) ⟨Nat.le_of_ble_eq_true rfl, Nat.le_of_ble_eq_true rfl⟩ rfl (Nat.le_of_ble_eq_true rfl) dX1_root_10 ⟨Nat.le_of_ble_eq_true rfl, Nat.le_of_ble_eq_true rfl⟩ rfl ?_
  refine xw_if_eq_B (pc := 13) (tgt := 28) C dX1_root_13 (by decide)  (fun c_1 => ?_) (fun c_1 => ?_)
  ·
    have q_c_1 := of_decide_eq_false c_1
    refine xw_aload_n (pc := 28) C 0 dX1_root_28 rfl ?_
    refine xw_iconst_N (pc := 29) C 1 dX1_root_29 rfl ?_
    refine xw_Vd (pc := 30) (q0 := 0) (na := 1) (rest := []) (st' := [nV 0]) C (m_X1_no 1) gX1_root_X1_no rfl rfl rfl rfl (by decide +kernel) ⟨Nat.le_of_ble_eq_true rfl, Nat.le_of_ble_eq_true rfl⟩ rfl rfl rfl (Nat.le_of_ble_eq_true rfl) dX1_root_30 ⟨Nat.le_of_ble_eq_true rfl, Nat.le_of_ble_eq_true rfl⟩ rfl ?_
    exact xw_iret (pc := 33) C rX (Nat.le_refl _) (Nat.le_refl _) dX1_root_33 (PD.i)
  ·
    have q_c_1 := of_decide_eq_true c_1
    exfalso; omega

set_option maxHeartbeats 4000000 in
set_option maxRecDepth 100000 in
theorem m_X1_would_no1 {l : Launch} {D : va_G} {cI : ClassId} {h r d th n p w b : Nat} {B M : Nat → Nat} (hn : n = 4 ∨ n = 8 ∨ n = 16) (hp5 : p < 500) (hb5 : b < 5) (za1 : Int) (hr_za1 : (-2147483648 ≤ za1 ∧ za1 < 2147483648)) (zb1 : Int) (hr_zb1 : (-2147483648 ≤ zb1 ∧ zb1 < 2147483648)) (zq : Int) (hr_zq : (-2147483648 ≤ zq ∧ zq < 2147483648)) (hbad : ¬ ((0 ≤ za1 ∧ za1 < 4) ∧ (0 ≤ zb1 ∧ zb1 < 4) ∧ (0 ≤ zq ∧ zq < (n : Int)))) : CT l yX1_would wsX1_would (rmN 2 43) D vwCl [(cI, .int)] [.ref h, iV za1, iV zb1, iV zq] (wM cI h r d th n p w b B M) (PD (some (nV 0)) (wM cI h r d 1 n p w b B M)) 0 0 := by
  refine ct_of (plainFor_of_name (by decide)) rfl (Nat.le_of_ble_eq_true rfl) (fun φ C rX => ?_)
  have hin : ∀ w ∈ wsX10, w ∈ wsX1_would := by decide +kernel
  refine xw_le (lv' := [(0, .ref h), (1, iV za1), (2, iV zb1), (3, iV zq)]) rfl ?_
  have hn3 := lt3 hn
  refine xw_aload_n (pc := 0) C 0 dX1_would_0 rfl ?_
  refine xw_iconst_N (pc := 1) C 0 dX1_would_1 rfl ?_
  refine xw_put (pc := 2) (T := TX1) (N := 7) (ref := "ToneButterfliesModel") (w' := wM cI h r d 0 n p w b B M) C hin tyX1 tyX1_ok nmX1 0 0 rfl rfl (by decide) (by decide +kernel) rfl rfl rfl rfl (Nat.le_of_ble_eq_true rfl) rfl dX1_would_2 ?_
  refine xw_iload_n (pc := 5) C 1 dX1_would_5 rfl ?_
  refine xw_Sd (pc := 6) (na := 1) (rest := []) (st' := [bV (decide (((0 : Nat) : Int) ≤ za1 ∧ za1 ≤ ((3 : Nat) : Int)))]) C (m_X1_isRow za1 (by omega)) gX1_would_X1_isRow rfl rfl rfl rfl (by decide +kernel) ⟨Nat.le_of_ble_eq_true rfl, Nat.le_of_ble_eq_true rfl⟩ rfl (Nat.le_of_ble_eq_true rfl) dX1_would_6 ⟨Nat.le_of_ble_eq_true rfl, Nat.le_of_ble_eq_true rfl⟩ rfl ?_
  refine xw_if_eq_B (pc := 9) (tgt := 37) C dX1_would_9 (by decide)  (fun c_1 => ?_) (fun c_1 => ?_)
  ·
    have q_c_1 := of_decide_eq_false c_1
    refine xw_aload_n (pc := 37) C 0 dX1_would_37 rfl ?_
    refine xw_iconst_N (pc := 38) C 1 dX1_would_38 rfl ?_
    refine xw_Vd (pc := 39) (q0 := 0) (na := 1) (rest := []) (st' := [nV 0]) C (m_X1_no 1) gX1_would_X1_no rfl rfl rfl rfl (by decide +kernel) ⟨Nat.le_of_ble_eq_true rfl, Nat.le_of_ble_eq_true rfl⟩ rfl rfl rfl (Nat.le_of_ble_eq_true rfl) dX1_would_39 ⟨Nat.le_of_ble_eq_true rfl, Nat.le_of_ble_eq_true rfl⟩ rfl ?_
    exact xw_iret (pc := 42) C rX (Nat.le_refl _) (Nat.le_refl _) dX1_would_42 (PD.i)
  ·
    have q_c_1 := of_decide_eq_true c_1
    refine xw_iload_n (pc := 12) C 2 dX1_would_12 rfl ?_
    refine xw_Sd (pc := 13) (na := 1) (rest := []) (st' := [bV (decide (((0 : Nat) : Int) ≤ zb1 ∧ zb1 ≤ ((3 : Nat) : Int)))]) C (m_X1_isRow zb1 (by omega)) gX1_would_X1_isRow rfl rfl rfl rfl (by decide +kernel) ⟨Nat.le_of_ble_eq_true rfl, Nat.le_of_ble_eq_true rfl⟩ rfl (Nat.le_of_ble_eq_true rfl) dX1_would_13 ⟨Nat.le_of_ble_eq_true rfl, Nat.le_of_ble_eq_true rfl⟩ rfl ?_
    refine xw_if_eq_B (pc := 16) (tgt := 37) C dX1_would_16 (by decide)  (fun c_2 => ?_) (fun c_2 => ?_)
    ·
      have q_c_2 := of_decide_eq_false c_2
      refine xw_aload_n (pc := 37) C 0 dX1_would_37 rfl ?_
      refine xw_iconst_N (pc := 38) C 1 dX1_would_38 rfl ?_
      refine xw_Vd (pc := 39) (q0 := 0) (na := 1) (rest := []) (st' := [nV 0]) C (m_X1_no 1) gX1_would_X1_no rfl rfl rfl rfl (by decide +kernel) ⟨Nat.le_of_ble_eq_true rfl, Nat.le_of_ble_eq_true rfl⟩ rfl rfl rfl (Nat.le_of_ble_eq_true rfl) dX1_would_39 ⟨Nat.le_of_ble_eq_true rfl, Nat.le_of_ble_eq_true rfl⟩ rfl ?_
      exact xw_iret (pc := 42) C rX (Nat.le_refl _) (Nat.le_refl _) dX1_would_42 (PD.i)
    ·
      have q_c_2 := of_decide_eq_true c_2
      refine xw_aload_n (pc := 19) C 0 dX1_would_19 rfl ?_
      refine xw_iload_n (pc := 20) C 3 dX1_would_20 rfl ?_
      refine xw_Vd (pc := 21) (q0 := 0) (na := 1) (rest := []) (st' := [bV (decide (((0 : Nat) : Int) ≤ zq ∧ zq ≤ ((n : Nat) : Int) - ((1 : Nat) : Int)))]) C (m_X1_isPlace (by omega) zq (by omega)) gX1_would_X1_isPlace rfl rfl rfl rfl (by decide +kernel) ⟨Nat.le_of_ble_eq_true rfl, Nat.le_of_ble_eq_true rfl⟩ rfl rfl rfl (Nat.le_of_ble_eq_true rfl) dX1_would_21 ⟨Nat.le_of_ble_eq_true rfl, Nat.le_of_ble_eq_true rfl⟩ rfl ?_
      refine xw_if_eq_B (pc := 24) (tgt := 37) C dX1_would_24 (by decide)  (fun c_3 => ?_) (fun c_3 => ?_)
      ·
        have q_c_3 := of_decide_eq_false c_3
        refine xw_aload_n (pc := 37) C 0 dX1_would_37 rfl ?_
        refine xw_iconst_N (pc := 38) C 1 dX1_would_38 rfl ?_
        refine xw_Vd (pc := 39) (q0 := 0) (na := 1) (rest := []) (st' := [nV 0]) C (m_X1_no 1) gX1_would_X1_no rfl rfl rfl rfl (by decide +kernel) ⟨Nat.le_of_ble_eq_true rfl, Nat.le_of_ble_eq_true rfl⟩ rfl rfl rfl (Nat.le_of_ble_eq_true rfl) dX1_would_39 ⟨Nat.le_of_ble_eq_true rfl, Nat.le_of_ble_eq_true rfl⟩ rfl ?_
        exact xw_iret (pc := 42) C rX (Nat.le_refl _) (Nat.le_refl _) dX1_would_42 (PD.i)
      ·
        have q_c_3 := of_decide_eq_true c_3
        exfalso; omega

set_option maxHeartbeats 4000000 in
set_option maxRecDepth 100000 in
theorem m_X1_comes_no1 {l : Launch} {D : va_G} {cI : ClassId} {h r d th n p w b : Nat} {B M : Nat → Nat} (hn : n = 4 ∨ n = 8 ∨ n = 16) (hp5 : p < 500) (hb5 : b < 5) (za1 : Int) (hr_za1 : (-2147483648 ≤ za1 ∧ za1 < 2147483648)) (zb1 : Int) (hr_zb1 : (-2147483648 ≤ zb1 ∧ zb1 < 2147483648)) (hbad : ¬ ((0 ≤ za1 ∧ za1 < 4) ∧ (0 ≤ zb1 ∧ zb1 < 4))) : CT l yX1_comes wsX1_comes (rmN 2 42) D vwCl [(cI, .int)] [.ref h, iV za1, iV zb1] (wM cI h r d th n p w b B M) (PD (some (nV 0)) (wM cI h r d 1 n p w b B M)) 0 0 := by
  refine ct_of (plainFor_of_name (by decide)) rfl (Nat.le_of_ble_eq_true rfl) (fun φ C rX => ?_)
  have hin : ∀ w ∈ wsX10, w ∈ wsX1_comes := by decide +kernel
  refine xw_le (lv' := [(0, .ref h), (1, iV za1), (2, iV zb1)]) rfl ?_
  have hn3 := lt3 hn
  refine xw_aload_n (pc := 0) C 0 dX1_comes_0 rfl ?_
  refine xw_iconst_N (pc := 1) C 0 dX1_comes_1 rfl ?_
  refine xw_put (pc := 2) (T := TX1) (N := 7) (ref := "ToneButterfliesModel") (w' := wM cI h r d 0 n p w b B M) C hin tyX1 tyX1_ok nmX1 0 0 rfl rfl (by decide) (by decide +kernel) rfl rfl rfl rfl (Nat.le_of_ble_eq_true rfl) rfl dX1_comes_2 ?_
  refine xw_iload_n (pc := 5) C 1 dX1_comes_5 rfl ?_
  refine xw_Sd (pc := 6) (na := 1) (rest := []) (st' := [bV (decide (((0 : Nat) : Int) ≤ za1 ∧ za1 ≤ ((3 : Nat) : Int)))]) C (m_X1_isRow za1 (by omega)) gX1_comes_X1_isRow rfl rfl rfl rfl (by decide +kernel) ⟨Nat.le_of_ble_eq_true rfl, Nat.le_of_ble_eq_true rfl⟩ rfl (Nat.le_of_ble_eq_true rfl) dX1_comes_6 ⟨Nat.le_of_ble_eq_true rfl, Nat.le_of_ble_eq_true rfl⟩ rfl ?_
  refine xw_if_eq_B (pc := 9) (tgt := 28) C dX1_comes_9 (by decide)  (fun c_1 => ?_) (fun c_1 => ?_)
  ·
    have q_c_1 := of_decide_eq_false c_1
    refine xw_aload_n (pc := 28) C 0 dX1_comes_28 rfl ?_
    refine xw_iconst_N (pc := 29) C 1 dX1_comes_29 rfl ?_
    refine xw_Vd (pc := 30) (q0 := 0) (na := 1) (rest := []) (st' := [nV 0]) C (m_X1_no 1) gX1_comes_X1_no rfl rfl rfl rfl (by decide +kernel) ⟨Nat.le_of_ble_eq_true rfl, Nat.le_of_ble_eq_true rfl⟩ rfl rfl rfl (Nat.le_of_ble_eq_true rfl) dX1_comes_30 ⟨Nat.le_of_ble_eq_true rfl, Nat.le_of_ble_eq_true rfl⟩ rfl ?_
    exact xw_iret (pc := 33) C rX (Nat.le_refl _) (Nat.le_refl _) dX1_comes_33 (PD.i)
  ·
    have q_c_1 := of_decide_eq_true c_1
    refine xw_iload_n (pc := 12) C 2 dX1_comes_12 rfl ?_
    refine xw_Sd (pc := 13) (na := 1) (rest := []) (st' := [bV (decide (((0 : Nat) : Int) ≤ zb1 ∧ zb1 ≤ ((3 : Nat) : Int)))]) C (m_X1_isRow zb1 (by omega)) gX1_comes_X1_isRow rfl rfl rfl rfl (by decide +kernel) ⟨Nat.le_of_ble_eq_true rfl, Nat.le_of_ble_eq_true rfl⟩ rfl (Nat.le_of_ble_eq_true rfl) dX1_comes_13 ⟨Nat.le_of_ble_eq_true rfl, Nat.le_of_ble_eq_true rfl⟩ rfl ?_
    refine xw_if_eq_B (pc := 16) (tgt := 28) C dX1_comes_16 (by decide)  (fun c_2 => ?_) (fun c_2 => ?_)
    ·
      have q_c_2 := of_decide_eq_false c_2
      refine xw_aload_n (pc := 28) C 0 dX1_comes_28 rfl ?_
      refine xw_iconst_N (pc := 29) C 1 dX1_comes_29 rfl ?_
      refine xw_Vd (pc := 30) (q0 := 0) (na := 1) (rest := []) (st' := [nV 0]) C (m_X1_no 1) gX1_comes_X1_no rfl rfl rfl rfl (by decide +kernel) ⟨Nat.le_of_ble_eq_true rfl, Nat.le_of_ble_eq_true rfl⟩ rfl rfl rfl (Nat.le_of_ble_eq_true rfl) dX1_comes_30 ⟨Nat.le_of_ble_eq_true rfl, Nat.le_of_ble_eq_true rfl⟩ rfl ?_
      exact xw_iret (pc := 33) C rX (Nat.le_refl _) (Nat.le_refl _) dX1_comes_33 (PD.i)
    ·
      have q_c_2 := of_decide_eq_true c_2
      exfalso; omega

set_option maxHeartbeats 4000000 in
set_option maxRecDepth 100000 in
theorem m_X1_advise_no1 {l : Launch} {D : va_G} {cI : ClassId} {h r d th n p w b : Nat} {B M : Nat → Nat} (hn : n = 4 ∨ n = 8 ∨ n = 16) (hp5 : p < 500) (hb5 : b < 5) (za1 : Int) (hr_za1 : (-2147483648 ≤ za1 ∧ za1 < 2147483648)) (zb1 : Int) (hr_zb1 : (-2147483648 ≤ zb1 ∧ zb1 < 2147483648)) (hbad : ¬ ((0 ≤ za1 ∧ za1 < 4) ∧ (0 ≤ zb1 ∧ zb1 < 4))) : CT l yX1_advise wsX1_advise (rmN 2 42) D vwCl [(cI, .int)] [.ref h, iV za1, iV zb1] (wM cI h r d th n p w b B M) (PD (some (nV 0)) (wM cI h r d 1 n p w b B M)) 0 0 := by
  refine ct_of (plainFor_of_name (by decide)) rfl (Nat.le_of_ble_eq_true rfl) (fun φ C rX => ?_)
  have hin : ∀ w ∈ wsX10, w ∈ wsX1_advise := by decide +kernel
  refine xw_le (lv' := [(0, .ref h), (1, iV za1), (2, iV zb1)]) rfl ?_
  have hn3 := lt3 hn
  refine xw_aload_n (pc := 0) C 0 dX1_advise_0 rfl ?_
  refine xw_iconst_N (pc := 1) C 0 dX1_advise_1 rfl ?_
  refine xw_put (pc := 2) (T := TX1) (N := 7) (ref := "ToneButterfliesModel") (w' := wM cI h r d 0 n p w b B M) C hin tyX1 tyX1_ok nmX1 0 0 rfl rfl (by decide) (by decide +kernel) rfl rfl rfl rfl (Nat.le_of_ble_eq_true rfl) rfl dX1_advise_2 ?_
  refine xw_iload_n (pc := 5) C 1 dX1_advise_5 rfl ?_
  refine xw_Sd (pc := 6) (na := 1) (rest := []) (st' := [bV (decide (((0 : Nat) : Int) ≤ za1 ∧ za1 ≤ ((3 : Nat) : Int)))]) C (m_X1_isRow za1 (by omega)) gX1_advise_X1_isRow rfl rfl rfl rfl (by decide +kernel) ⟨Nat.le_of_ble_eq_true rfl, Nat.le_of_ble_eq_true rfl⟩ rfl (Nat.le_of_ble_eq_true rfl) dX1_advise_6 ⟨Nat.le_of_ble_eq_true rfl, Nat.le_of_ble_eq_true rfl⟩ rfl ?_
  refine xw_if_eq_B (pc := 9) (tgt := 19) C dX1_advise_9 (by decide)  (fun c_1 => ?_) (fun c_1 => ?_)
  ·
    have q_c_1 := of_decide_eq_false c_1
    refine xw_aload_n (pc := 19) C 0 dX1_advise_19 rfl ?_
    refine xw_iconst_N (pc := 20) C 1 dX1_advise_20 rfl ?_
    refine xw_Vd (pc := 21) (q0 := 0) (na := 1) (rest := []) (st' := [nV 0]) C (m_X1_no 1) gX1_advise_X1_no rfl rfl rfl rfl (by decide +kernel) ⟨Nat.le_of_ble_eq_true rfl, Nat.le_of_ble_eq_true rfl⟩ rfl rfl rfl (Nat.le_of_ble_eq_true rfl) dX1_advise_21 ⟨Nat.le_of_ble_eq_true rfl, Nat.le_of_ble_eq_true rfl⟩ rfl ?_
    exact xw_iret (pc := 24) C rX (Nat.le_refl _) (Nat.le_refl _) dX1_advise_24 (PD.i)
  ·
    have q_c_1 := of_decide_eq_true c_1
    refine xw_iload_n (pc := 12) C 2 dX1_advise_12 rfl ?_
    refine xw_Sd (pc := 13) (na := 1) (rest := []) (st' := [bV (decide (((0 : Nat) : Int) ≤ zb1 ∧ zb1 ≤ ((3 : Nat) : Int)))]) C (m_X1_isRow zb1 (by omega)) gX1_advise_X1_isRow rfl rfl rfl rfl (by decide +kernel) ⟨Nat.le_of_ble_eq_true rfl, Nat.le_of_ble_eq_true rfl⟩ rfl (Nat.le_of_ble_eq_true rfl) dX1_advise_13 ⟨Nat.le_of_ble_eq_true rfl, Nat.le_of_ble_eq_true rfl⟩ rfl ?_
    refine xw_if_ne_B (pc := 16) (tgt := 25) C dX1_advise_16 (by decide)  (fun c_2 => ?_) (fun c_2 => ?_)
    ·
      have q_c_2 := of_decide_eq_true c_2
      exfalso; omega
    ·
      have q_c_2 := of_decide_eq_false c_2
      refine xw_aload_n (pc := 19) C 0 dX1_advise_19 rfl ?_
      refine xw_iconst_N (pc := 20) C 1 dX1_advise_20 rfl ?_
      refine xw_Vd (pc := 21) (q0 := 0) (na := 1) (rest := []) (st' := [nV 0]) C (m_X1_no 1) gX1_advise_X1_no rfl rfl rfl rfl (by decide +kernel) ⟨Nat.le_of_ble_eq_true rfl, Nat.le_of_ble_eq_true rfl⟩ rfl rfl rfl (Nat.le_of_ble_eq_true rfl) dX1_advise_21 ⟨Nat.le_of_ble_eq_true rfl, Nat.le_of_ble_eq_true rfl⟩ rfl ?_
      exact xw_iret (pc := 24) C rX (Nat.le_refl _) (Nat.le_refl _) dX1_advise_24 (PD.i)

set_option maxHeartbeats 4000000 in
set_option maxRecDepth 100000 in
theorem m_X1_tones_no1 {l : Launch} {D : va_G} {cI : ClassId} {h r d th n p w b : Nat} {B M : Nat → Nat} (hn : n = 4 ∨ n = 8 ∨ n = 16) (hp5 : p < 500) (hb5 : b < 5) (za1 : Int) (hr_za1 : (-2147483648 ≤ za1 ∧ za1 < 2147483648)) (zb1 : Int) (hr_zb1 : (-2147483648 ≤ zb1 ∧ zb1 < 2147483648)) (hbad : ¬ ((0 ≤ za1 ∧ za1 < 4) ∧ (0 ≤ zb1 ∧ zb1 < 4))) : CT l yX1_tones wsX1_tones (rmN 2 42) D vwCl [(cI, .int)] [.ref h, iV za1, iV zb1] (wM cI h r d th n p w b B M) (PD (some (bV false)) (wM cI h r d 1 n p w b B M)) 0 0 := by
  refine ct_of (plainFor_of_name (by decide)) rfl (Nat.le_of_ble_eq_true rfl) (fun φ C rX => ?_)
  have hin : ∀ w ∈ wsX10, w ∈ wsX1_tones := by decide +kernel
  refine xw_le (lv' := [(0, .ref h), (1, iV za1), (2, iV zb1)]) rfl ?_
  have hn3 := lt3 hn
  refine xw_aload_n (pc := 0) C 0 dX1_tones_0 rfl ?_
  refine xw_iload_n (pc := 1) C 1 dX1_tones_1 rfl ?_
  refine xw_Sd (pc := 2) (na := 1) (rest := [.ref h]) (st' := [bV (decide (((0 : Nat) : Int) ≤ za1 ∧ za1 ≤ ((3 : Nat) : Int))), .ref h]) C (m_X1_isRow za1 (by omega)) gX1_tones_X1_isRow rfl rfl rfl rfl (by decide +kernel) ⟨Nat.le_of_ble_eq_true rfl, Nat.le_of_ble_eq_true rfl⟩ rfl (Nat.le_of_ble_eq_true rfl) dX1_tones_2 ⟨Nat.le_of_ble_eq_true rfl, Nat.le_of_ble_eq_true rfl⟩ rfl ?_
  refine xw_if_eq_B (pc := 5) (tgt := 19) C dX1_tones_5 (by decide)  (fun c_1 => ?_) (fun c_1 => ?_)
  ·
    have q_c_1 := of_decide_eq_false c_1
    refine xw_iconst_N (pc := 19) C 1 dX1_tones_19 rfl ?_
    refine xw_put (pc := 20) (T := TX1) (N := 7) (ref := "ToneButterfliesModel") (w' := wM cI h r d 1 n p w b B M) C hin tyX1 tyX1_ok nmX1 0 0 rfl rfl (by decide) (by decide +kernel) rfl rfl rfl rfl (Nat.le_of_ble_eq_true rfl) rfl dX1_tones_20 ?_
    refine xw_aload_n (pc := 23) C 0 dX1_tones_23 rfl ?_
    refine xw_get (pc := 24) (T := TX1) (N := 7) (ref := "ToneButterfliesModel") C hin 0 0 rfl rfl (by decide) (by decide +kernel) rfl rfl dX1_tones_24 ?_
    refine xw_if_ne_N (pc := 27) (tgt := 43) C dX1_tones_27 (by decide) (by omega) (fun c_2 => ?_) (fun c_2 => (by exact absurd c_2 (by decide)))
    refine xw_iconst_N (pc := 43) C 0 dX1_tones_43 rfl ?_
    refine xw_st (st' := [bV false]) rfl ?_
    exact xw_bret (pc := 44) C rX (Nat.le_refl _) (Nat.le_refl _) dX1_tones_44 (PD.i)
  ·
    have q_c_1 := of_decide_eq_true c_1
    refine xw_iload_n (pc := 8) C 2 dX1_tones_8 rfl ?_
    refine xw_Sd (pc := 9) (na := 1) (rest := [.ref h]) (st' := [bV (decide (((0 : Nat) : Int) ≤ zb1 ∧ zb1 ≤ ((3 : Nat) : Int))), .ref h]) C (m_X1_isRow zb1 (by omega)) gX1_tones_X1_isRow rfl rfl rfl rfl (by decide +kernel) ⟨Nat.le_of_ble_eq_true rfl, Nat.le_of_ble_eq_true rfl⟩ rfl (Nat.le_of_ble_eq_true rfl) dX1_tones_9 ⟨Nat.le_of_ble_eq_true rfl, Nat.le_of_ble_eq_true rfl⟩ rfl ?_
    refine xw_if_eq_B (pc := 12) (tgt := 19) C dX1_tones_12 (by decide)  (fun c_3 => ?_) (fun c_3 => ?_)
    ·
      have q_c_3 := of_decide_eq_false c_3
      refine xw_iconst_N (pc := 19) C 1 dX1_tones_19 rfl ?_
      refine xw_put (pc := 20) (T := TX1) (N := 7) (ref := "ToneButterfliesModel") (w' := wM cI h r d 1 n p w b B M) C hin tyX1 tyX1_ok nmX1 0 0 rfl rfl (by decide) (by decide +kernel) rfl rfl rfl rfl (Nat.le_of_ble_eq_true rfl) rfl dX1_tones_20 ?_
      refine xw_aload_n (pc := 23) C 0 dX1_tones_23 rfl ?_
      refine xw_get (pc := 24) (T := TX1) (N := 7) (ref := "ToneButterfliesModel") C hin 0 0 rfl rfl (by decide) (by decide +kernel) rfl rfl dX1_tones_24 ?_
      refine xw_if_ne_N (pc := 27) (tgt := 43) C dX1_tones_27 (by decide) (by omega) (fun c_4 => ?_) (fun c_4 => (by exact absurd c_4 (by decide)))
      refine xw_iconst_N (pc := 43) C 0 dX1_tones_43 rfl ?_
      refine xw_st (st' := [bV false]) rfl ?_
      exact xw_bret (pc := 44) C rX (Nat.le_refl _) (Nat.le_refl _) dX1_tones_44 (PD.i)
    ·
      have q_c_3 := of_decide_eq_true c_3
      exfalso; omega

set_option maxHeartbeats 4000000 in
set_option maxRecDepth 100000 in
theorem m_X1_mean_no1 {l : Launch} {D : va_G} {cI : ClassId} {h r d th n p w b : Nat} {B M : Nat → Nat} (hn : n = 4 ∨ n = 8 ∨ n = 16) (hp5 : p < 500) (hb5 : b < 5) (zr : Int) (hr_zr : (-2147483648 ≤ zr ∧ zr < 2147483648)) (hbad : ¬ ((0 ≤ zr ∧ zr < 4))) : CT l yX1_mean wsX1_mean (rmN 2 42) D vwCl [(cI, .int)] [.ref h, iV zr] (wM cI h r d th n p w b B M) (PD (some (.double (dq 0 n))) (wM cI h r d 1 n p w b B M)) 0 0 := by
  refine ct_of (plainFor_of_name (by decide)) rfl (Nat.le_of_ble_eq_true rfl) (fun φ C rX => ?_)
  have hin : ∀ w ∈ wsX10, w ∈ wsX1_mean := by decide +kernel
  refine xw_le (lv' := [(0, .ref h), (1, iV zr)]) rfl ?_
  have hn3 := lt3 hn
  refine xw_aload_n (pc := 0) C 0 dX1_mean_0 rfl ?_
  refine xw_iload_n (pc := 1) C 1 dX1_mean_1 rfl ?_
  refine xw_Sd (pc := 2) (na := 1) (rest := [.ref h]) (st' := [bV (decide (((0 : Nat) : Int) ≤ zr ∧ zr ≤ ((3 : Nat) : Int))), .ref h]) C (m_X1_isRow zr (by omega)) gX1_mean_X1_isRow rfl rfl rfl rfl (by decide +kernel) ⟨Nat.le_of_ble_eq_true rfl, Nat.le_of_ble_eq_true rfl⟩ rfl (Nat.le_of_ble_eq_true rfl) dX1_mean_2 ⟨Nat.le_of_ble_eq_true rfl, Nat.le_of_ble_eq_true rfl⟩ rfl ?_
  refine xw_if_eq_B (pc := 5) (tgt := 12) C dX1_mean_5 (by decide)  (fun c_1 => ?_) (fun c_1 => ?_)
  ·
    have q_c_1 := of_decide_eq_false c_1
    refine xw_iconst_N (pc := 12) C 1 dX1_mean_12 rfl ?_
    refine xw_put (pc := 13) (T := TX1) (N := 7) (ref := "ToneButterfliesModel") (w' := wM cI h r d 1 n p w b B M) C hin tyX1 tyX1_ok nmX1 0 0 rfl rfl (by decide) (by decide +kernel) rfl rfl rfl rfl (Nat.le_of_ble_eq_true rfl) rfl dX1_mean_13 ?_
    refine xw_iconst_N (pc := 16) C 0 dX1_mean_16 rfl ?_
    refine xw_istore_n (pc := 17) (lv' := [(0, .ref h), (1, iV zr), (2, nV 0)]) C [1, 2, 0] dX1_mean_17 rfl (by decide) rfl ?_
    refine xw_iconst_N (pc := 18) C 0 dX1_mean_18 rfl ?_
    refine xw_istore_n (pc := 19) (lv' := [(0, .ref h), (1, iV zr), (2, nV 0), (3, nV 0)]) C [1, 2, 3, 0] dX1_mean_19 rfl (by decide) rfl ?_
    refine xw_iload_n (pc := 20) C 3 dX1_mean_20 rfl ?_
    refine xw_aload_n (pc := 21) C 0 dX1_mean_21 rfl ?_
    refine xw_get (pc := 22) (T := TX1) (N := 7) (ref := "ToneButterfliesModel") C hin 0 1 rfl rfl (by decide) (by decide +kernel) rfl rfl dX1_mean_22 ?_
    refine xw_icmp_ge_N (pc := 25) (tgt := 50) C dX1_mean_25 (by decide) (by omega) (by omega) (fun c_2 => (by exfalso; omega)) (fun c_2 => ?_)
    refine xw_aload_n (pc := 28) C 0 dX1_mean_28 rfl ?_
    refine xw_get (pc := 29) (T := TX1) (N := 7) (ref := "ToneButterfliesModel") C hin 0 0 rfl rfl (by decide) (by decide +kernel) rfl rfl dX1_mean_29 ?_
    refine xw_if_ne_N (pc := 32) (tgt := 50) C dX1_mean_32 (by decide) (by omega) (fun c_3 => ?_) (fun c_3 => (by exact absurd c_3 (by decide)))
    refine xw_iload_n (pc := 50) C 2 dX1_mean_50 rfl ?_
    refine xw_i2d (pc := 51) C dX1_mean_51 ?_
    refine xw_aload_n (pc := 52) C 0 dX1_mean_52 rfl ?_
    refine xw_get (pc := 53) (T := TX1) (N := 7) (ref := "ToneButterfliesModel") C hin 0 1 rfl rfl (by decide) (by decide +kernel) rfl rfl dX1_mean_53 ?_
    refine xw_i2d (pc := 56) C dX1_mean_56 ?_
    refine xw_ddiv (pc := 57) C dX1_mean_57 (dq_n (s := 0) (by omega) hn) ?_
    exact xw_dret (pc := 58) C rX (Nat.le_refl _) (Nat.le_refl _) dX1_mean_58 (PD.i)
  ·
    have q_c_1 := of_decide_eq_true c_1
    exfalso; omega

set_option maxHeartbeats 4000000 in
set_option maxRecDepth 100000 in
theorem m_X1_ring_no1 {l : Launch} {D : va_G} {cI : ClassId} {h r d th n p w b : Nat} {B M : Nat → Nat} (z1 z2 : Int) (h1 : (-2147483648 ≤ z1 ∧ z1 < 2147483648)) (h2 : (-2147483648 ≤ z2 ∧ z2 < 2147483648)) (hbad : ¬ ((z1 = 4 ∨ z1 = 8 ∨ z1 = 16) ∧ (5 ≤ z2 ∧ z2 ≤ 499) ∧ prm z2.toNat = true ∧ (z2 - 1) % z1 = 0)) : CT l yX1_ring wsX1_ring (rmN 1 22) D vwCl [(cI, .int)] [.ref h, iV z1, iV z2] (wM cI h r d th n p w b B M) (PD (some (nV 0)) (wM cI h r d 1 n p w b B M)) 0 0 := by
  refine ct_of (plainFor_of_name (by decide)) rfl (Nat.le_of_ble_eq_true rfl) (fun φ C rX => ?_)
  have hin : ∀ w ∈ wsX10, w ∈ wsX1_ring := by decide +kernel
  refine xw_le (lv' := [(0, .ref h), (1, iV z1), (2, iV z2)]) rfl ?_
  refine xw_aload_n (pc := 0) C 0 dX1_ring_0 rfl ?_
  refine xw_iconst_N (pc := 1) C 0 dX1_ring_1 rfl ?_
  refine xw_put (pc := 2) (T := TX1) (N := 7) (ref := "ToneButterfliesModel") (w' := wM cI h r d 0 n p w b B M) C hin tyX1 tyX1_ok nmX1 0 0 rfl rfl (by decide) (by decide +kernel) rfl rfl rfl rfl (Nat.le_of_ble_eq_true rfl) rfl dX1_ring_2 ?_
  refine xw_iload_n (pc := 5) C 1 dX1_ring_5 rfl ?_
  refine xw_iconst_N (pc := 6) C 4 dX1_ring_6 rfl ?_
  refine xw_icmp_eq (pc := 7) (tgt := 22) C dX1_ring_7 (by decide) (by omega) (by omega) (fun c_1 => ?_) (fun c_1 => ?_)
  ·
    obtain ⟨n1, rfl⟩ : ∃ n1 : Nat, z1 = (n1 : Int) := ⟨z1.toNat, by omega⟩
    refine xw_iload_n (pc := 22) C 2 dX1_ring_22 rfl ?_
    refine xw_iconst_N (pc := 23) C 5 dX1_ring_23 rfl ?_
    refine xw_sipush_N (pc := 24) C 499 dX1_ring_24 (by decide) ?_
    refine xw_Sd (pc := 27) (na := 3) (rest := []) (st' := [bV (decide ((((5 : Nat) : Int)) ≤ z2 ∧ z2 ≤ (((499 : Nat) : Int))))]) C (m_X1_isIn z2 (((5 : Nat) : Int)) (((499 : Nat) : Int)) (by omega) (by omega) (by omega)) gX1_ring_X1_isIn rfl rfl rfl rfl (by decide +kernel) ⟨Nat.le_of_ble_eq_true rfl, Nat.le_of_ble_eq_true rfl⟩ rfl (Nat.le_of_ble_eq_true rfl) dX1_ring_27 ⟨Nat.le_of_ble_eq_true rfl, Nat.le_of_ble_eq_true rfl⟩ rfl ?_
    refine xw_if_eq_B (pc := 30) (tgt := 48) C dX1_ring_30 (by decide)  (fun c_2 => ?_) (fun c_2 => ?_)
    ·
      have q_c_2 := of_decide_eq_false c_2
      refine xw_aload_n (pc := 48) C 0 dX1_ring_48 rfl ?_
      refine xw_iconst_N (pc := 49) C 1 dX1_ring_49 rfl ?_
      refine xw_Vd (pc := 50) (q0 := 0) (na := 1) (rest := []) (st' := [nV 0]) C (m_X1_no 1) gX1_ring_X1_no rfl rfl rfl rfl (by decide +kernel) ⟨Nat.le_of_ble_eq_true rfl, Nat.le_of_ble_eq_true rfl⟩ rfl rfl rfl (Nat.le_of_ble_eq_true rfl) dX1_ring_50 ⟨Nat.le_of_ble_eq_true rfl, Nat.le_of_ble_eq_true rfl⟩ rfl ?_
      exact xw_iret (pc := 53) C rX (Nat.le_refl _) (Nat.le_refl _) dX1_ring_53 (PD.i)
    ·
      have q_c_2 := of_decide_eq_true c_2
      obtain ⟨p1, rfl⟩ : ∃ p1 : Nat, z2 = (p1 : Int) := ⟨z2.toNat, by omega⟩
      refine xw_iload_n (pc := 33) C 2 dX1_ring_33 rfl ?_
      refine xw_Sd (pc := 34) (na := 1) (rest := []) (st' := [bV (prm p1)]) C (m_X1_isPrime p1 (by omega)) gX1_ring_X1_isPrime rfl rfl rfl rfl (by decide +kernel) ⟨Nat.le_of_ble_eq_true rfl, Nat.le_of_ble_eq_true rfl⟩ rfl (Nat.le_of_ble_eq_true rfl) dX1_ring_34 ⟨Nat.le_of_ble_eq_true rfl, Nat.le_of_ble_eq_true rfl⟩ rfl ?_
      refine xw_if_eq_B (pc := 37) (tgt := 48) C dX1_ring_37 (by decide)  (fun c_3 => ?_) (fun c_3 => ?_)
      ·
        refine xw_aload_n (pc := 48) C 0 dX1_ring_48 rfl ?_
        refine xw_iconst_N (pc := 49) C 1 dX1_ring_49 rfl ?_
        refine xw_Vd (pc := 50) (q0 := 0) (na := 1) (rest := []) (st' := [nV 0]) C (m_X1_no 1) gX1_ring_X1_no rfl rfl rfl rfl (by decide +kernel) ⟨Nat.le_of_ble_eq_true rfl, Nat.le_of_ble_eq_true rfl⟩ rfl rfl rfl (Nat.le_of_ble_eq_true rfl) dX1_ring_50 ⟨Nat.le_of_ble_eq_true rfl, Nat.le_of_ble_eq_true rfl⟩ rfl ?_
        exact xw_iret (pc := 53) C rX (Nat.le_refl _) (Nat.le_refl _) dX1_ring_53 (PD.i)
      ·
        refine xw_iload_n (pc := 40) C 2 dX1_ring_40 rfl ?_
        refine xw_iconst_N (pc := 41) C 1 dX1_ring_41 rfl ?_
        refine xw_isub_N (pc := 42) C dX1_ring_42 (by omega) ?_
        refine xw_iload_n (pc := 43) C 1 dX1_ring_43 rfl ?_
        refine xw_irem_N (pc := 44) C dX1_ring_44 (by omega) (by omega) ?_
        have hmd := Nat.mod_lt (p1 - 1) (show n1 > 0 by omega)
        refine xw_if_le_N (pc := 45) (tgt := 54) C dX1_ring_45 (by decide) (by omega) (fun c_4 => ?_) (fun c_4 => ?_)
        ·
          exact absurd ⟨by omega, by omega, c_3, rgP (by omega) (by omega)⟩ hbad
        ·
          refine xw_aload_n (pc := 48) C 0 dX1_ring_48 rfl ?_
          refine xw_iconst_N (pc := 49) C 1 dX1_ring_49 rfl ?_
          refine xw_Vd (pc := 50) (q0 := 0) (na := 1) (rest := []) (st' := [nV 0]) C (m_X1_no 1) gX1_ring_X1_no rfl rfl rfl rfl (by decide +kernel) ⟨Nat.le_of_ble_eq_true rfl, Nat.le_of_ble_eq_true rfl⟩ rfl rfl rfl (Nat.le_of_ble_eq_true rfl) dX1_ring_50 ⟨Nat.le_of_ble_eq_true rfl, Nat.le_of_ble_eq_true rfl⟩ rfl ?_
          exact xw_iret (pc := 53) C rX (Nat.le_refl _) (Nat.le_refl _) dX1_ring_53 (PD.i)
  ·
    refine xw_iload_n (pc := 10) C 1 dX1_ring_10 rfl ?_
    refine xw_bipush_N (pc := 11) C 8 dX1_ring_11 (by decide) ?_
    refine xw_icmp_eq (pc := 13) (tgt := 22) C dX1_ring_13 (by decide) (by omega) (by omega) (fun c_5 => ?_) (fun c_5 => ?_)
    ·
      obtain ⟨n1, rfl⟩ : ∃ n1 : Nat, z1 = (n1 : Int) := ⟨z1.toNat, by omega⟩
      refine xw_iload_n (pc := 22) C 2 dX1_ring_22 rfl ?_
      refine xw_iconst_N (pc := 23) C 5 dX1_ring_23 rfl ?_
      refine xw_sipush_N (pc := 24) C 499 dX1_ring_24 (by decide) ?_
      refine xw_Sd (pc := 27) (na := 3) (rest := []) (st' := [bV (decide ((((5 : Nat) : Int)) ≤ z2 ∧ z2 ≤ (((499 : Nat) : Int))))]) C (m_X1_isIn z2 (((5 : Nat) : Int)) (((499 : Nat) : Int)) (by omega) (by omega) (by omega)) gX1_ring_X1_isIn rfl rfl rfl rfl (by decide +kernel) ⟨Nat.le_of_ble_eq_true rfl, Nat.le_of_ble_eq_true rfl⟩ rfl (Nat.le_of_ble_eq_true rfl) dX1_ring_27 ⟨Nat.le_of_ble_eq_true rfl, Nat.le_of_ble_eq_true rfl⟩ rfl ?_
      refine xw_if_eq_B (pc := 30) (tgt := 48) C dX1_ring_30 (by decide)  (fun c_6 => ?_) (fun c_6 => ?_)
      ·
        have q_c_6 := of_decide_eq_false c_6
        refine xw_aload_n (pc := 48) C 0 dX1_ring_48 rfl ?_
        refine xw_iconst_N (pc := 49) C 1 dX1_ring_49 rfl ?_
        refine xw_Vd (pc := 50) (q0 := 0) (na := 1) (rest := []) (st' := [nV 0]) C (m_X1_no 1) gX1_ring_X1_no rfl rfl rfl rfl (by decide +kernel) ⟨Nat.le_of_ble_eq_true rfl, Nat.le_of_ble_eq_true rfl⟩ rfl rfl rfl (Nat.le_of_ble_eq_true rfl) dX1_ring_50 ⟨Nat.le_of_ble_eq_true rfl, Nat.le_of_ble_eq_true rfl⟩ rfl ?_
        exact xw_iret (pc := 53) C rX (Nat.le_refl _) (Nat.le_refl _) dX1_ring_53 (PD.i)
      ·
        have q_c_6 := of_decide_eq_true c_6
        obtain ⟨p1, rfl⟩ : ∃ p1 : Nat, z2 = (p1 : Int) := ⟨z2.toNat, by omega⟩
        refine xw_iload_n (pc := 33) C 2 dX1_ring_33 rfl ?_
        refine xw_Sd (pc := 34) (na := 1) (rest := []) (st' := [bV (prm p1)]) C (m_X1_isPrime p1 (by omega)) gX1_ring_X1_isPrime rfl rfl rfl rfl (by decide +kernel) ⟨Nat.le_of_ble_eq_true rfl, Nat.le_of_ble_eq_true rfl⟩ rfl (Nat.le_of_ble_eq_true rfl) dX1_ring_34 ⟨Nat.le_of_ble_eq_true rfl, Nat.le_of_ble_eq_true rfl⟩ rfl ?_
        refine xw_if_eq_B (pc := 37) (tgt := 48) C dX1_ring_37 (by decide)  (fun c_7 => ?_) (fun c_7 => ?_)
        ·
          refine xw_aload_n (pc := 48) C 0 dX1_ring_48 rfl ?_
          refine xw_iconst_N (pc := 49) C 1 dX1_ring_49 rfl ?_
          refine xw_Vd (pc := 50) (q0 := 0) (na := 1) (rest := []) (st' := [nV 0]) C (m_X1_no 1) gX1_ring_X1_no rfl rfl rfl rfl (by decide +kernel) ⟨Nat.le_of_ble_eq_true rfl, Nat.le_of_ble_eq_true rfl⟩ rfl rfl rfl (Nat.le_of_ble_eq_true rfl) dX1_ring_50 ⟨Nat.le_of_ble_eq_true rfl, Nat.le_of_ble_eq_true rfl⟩ rfl ?_
          exact xw_iret (pc := 53) C rX (Nat.le_refl _) (Nat.le_refl _) dX1_ring_53 (PD.i)
        ·
          refine xw_iload_n (pc := 40) C 2 dX1_ring_40 rfl ?_
          refine xw_iconst_N (pc := 41) C 1 dX1_ring_41 rfl ?_
          refine xw_isub_N (pc := 42) C dX1_ring_42 (by omega) ?_
          refine xw_iload_n (pc := 43) C 1 dX1_ring_43 rfl ?_
          refine xw_irem_N (pc := 44) C dX1_ring_44 (by omega) (by omega) ?_
          have hmd := Nat.mod_lt (p1 - 1) (show n1 > 0 by omega)
          refine xw_if_le_N (pc := 45) (tgt := 54) C dX1_ring_45 (by decide) (by omega) (fun c_8 => ?_) (fun c_8 => ?_)
          ·
            exact absurd ⟨by omega, by omega, c_7, rgP (by omega) (by omega)⟩ hbad
          ·
            refine xw_aload_n (pc := 48) C 0 dX1_ring_48 rfl ?_
            refine xw_iconst_N (pc := 49) C 1 dX1_ring_49 rfl ?_
            refine xw_Vd (pc := 50) (q0 := 0) (na := 1) (rest := []) (st' := [nV 0]) C (m_X1_no 1) gX1_ring_X1_no rfl rfl rfl rfl (by decide +kernel) ⟨Nat.le_of_ble_eq_true rfl, Nat.le_of_ble_eq_true rfl⟩ rfl rfl rfl (Nat.le_of_ble_eq_true rfl) dX1_ring_50 ⟨Nat.le_of_ble_eq_true rfl, Nat.le_of_ble_eq_true rfl⟩ rfl ?_
            exact xw_iret (pc := 53) C rX (Nat.le_refl _) (Nat.le_refl _) dX1_ring_53 (PD.i)
    ·
      refine xw_iload_n (pc := 16) C 1 dX1_ring_16 rfl ?_
      refine xw_bipush_N (pc := 17) C 16 dX1_ring_17 (by decide) ?_
      refine xw_icmp_ne (pc := 19) (tgt := 48) C dX1_ring_19 (by decide) (by omega) (by omega) (fun c_9 => ?_) (fun c_9 => ?_)
      ·
        refine xw_aload_n (pc := 48) C 0 dX1_ring_48 rfl ?_
        refine xw_iconst_N (pc := 49) C 1 dX1_ring_49 rfl ?_
        refine xw_Vd (pc := 50) (q0 := 0) (na := 1) (rest := []) (st' := [nV 0]) C (m_X1_no 1) gX1_ring_X1_no rfl rfl rfl rfl (by decide +kernel) ⟨Nat.le_of_ble_eq_true rfl, Nat.le_of_ble_eq_true rfl⟩ rfl rfl rfl (Nat.le_of_ble_eq_true rfl) dX1_ring_50 ⟨Nat.le_of_ble_eq_true rfl, Nat.le_of_ble_eq_true rfl⟩ rfl ?_
        exact xw_iret (pc := 53) C rX (Nat.le_refl _) (Nat.le_refl _) dX1_ring_53 (PD.i)
      ·
        obtain ⟨n1, rfl⟩ : ∃ n1 : Nat, z1 = (n1 : Int) := ⟨z1.toNat, by omega⟩
        refine xw_iload_n (pc := 22) C 2 dX1_ring_22 rfl ?_
        refine xw_iconst_N (pc := 23) C 5 dX1_ring_23 rfl ?_
        refine xw_sipush_N (pc := 24) C 499 dX1_ring_24 (by decide) ?_
        refine xw_Sd (pc := 27) (na := 3) (rest := []) (st' := [bV (decide ((((5 : Nat) : Int)) ≤ z2 ∧ z2 ≤ (((499 : Nat) : Int))))]) C (m_X1_isIn z2 (((5 : Nat) : Int)) (((499 : Nat) : Int)) (by omega) (by omega) (by omega)) gX1_ring_X1_isIn rfl rfl rfl rfl (by decide +kernel) ⟨Nat.le_of_ble_eq_true rfl, Nat.le_of_ble_eq_true rfl⟩ rfl (Nat.le_of_ble_eq_true rfl) dX1_ring_27 ⟨Nat.le_of_ble_eq_true rfl, Nat.le_of_ble_eq_true rfl⟩ rfl ?_
        refine xw_if_eq_B (pc := 30) (tgt := 48) C dX1_ring_30 (by decide)  (fun c_10 => ?_) (fun c_10 => ?_)
        ·
          have q_c_10 := of_decide_eq_false c_10
          refine xw_aload_n (pc := 48) C 0 dX1_ring_48 rfl ?_
          refine xw_iconst_N (pc := 49) C 1 dX1_ring_49 rfl ?_
          refine xw_Vd (pc := 50) (q0 := 0) (na := 1) (rest := []) (st' := [nV 0]) C (m_X1_no 1) gX1_ring_X1_no rfl rfl rfl rfl (by decide +kernel) ⟨Nat.le_of_ble_eq_true rfl, Nat.le_of_ble_eq_true rfl⟩ rfl rfl rfl (Nat.le_of_ble_eq_true rfl) dX1_ring_50 ⟨Nat.le_of_ble_eq_true rfl, Nat.le_of_ble_eq_true rfl⟩ rfl ?_
          exact xw_iret (pc := 53) C rX (Nat.le_refl _) (Nat.le_refl _) dX1_ring_53 (PD.i)
        ·
          have q_c_10 := of_decide_eq_true c_10
          obtain ⟨p1, rfl⟩ : ∃ p1 : Nat, z2 = (p1 : Int) := ⟨z2.toNat, by omega⟩
          refine xw_iload_n (pc := 33) C 2 dX1_ring_33 rfl ?_
          refine xw_Sd (pc := 34) (na := 1) (rest := []) (st' := [bV (prm p1)]) C (m_X1_isPrime p1 (by omega)) gX1_ring_X1_isPrime rfl rfl rfl rfl (by decide +kernel) ⟨Nat.le_of_ble_eq_true rfl, Nat.le_of_ble_eq_true rfl⟩ rfl (Nat.le_of_ble_eq_true rfl) dX1_ring_34 ⟨Nat.le_of_ble_eq_true rfl, Nat.le_of_ble_eq_true rfl⟩ rfl ?_
          refine xw_if_eq_B (pc := 37) (tgt := 48) C dX1_ring_37 (by decide)  (fun c_11 => ?_) (fun c_11 => ?_)
          ·
            refine xw_aload_n (pc := 48) C 0 dX1_ring_48 rfl ?_
            refine xw_iconst_N (pc := 49) C 1 dX1_ring_49 rfl ?_
            refine xw_Vd (pc := 50) (q0 := 0) (na := 1) (rest := []) (st' := [nV 0]) C (m_X1_no 1) gX1_ring_X1_no rfl rfl rfl rfl (by decide +kernel) ⟨Nat.le_of_ble_eq_true rfl, Nat.le_of_ble_eq_true rfl⟩ rfl rfl rfl (Nat.le_of_ble_eq_true rfl) dX1_ring_50 ⟨Nat.le_of_ble_eq_true rfl, Nat.le_of_ble_eq_true rfl⟩ rfl ?_
            exact xw_iret (pc := 53) C rX (Nat.le_refl _) (Nat.le_refl _) dX1_ring_53 (PD.i)
          ·
            refine xw_iload_n (pc := 40) C 2 dX1_ring_40 rfl ?_
            refine xw_iconst_N (pc := 41) C 1 dX1_ring_41 rfl ?_
            refine xw_isub_N (pc := 42) C dX1_ring_42 (by omega) ?_
            refine xw_iload_n (pc := 43) C 1 dX1_ring_43 rfl ?_
            refine xw_irem_N (pc := 44) C dX1_ring_44 (by omega) (by omega) ?_
            have hmd := Nat.mod_lt (p1 - 1) (show n1 > 0 by omega)
            refine xw_if_le_N (pc := 45) (tgt := 54) C dX1_ring_45 (by decide) (by omega) (fun c_12 => ?_) (fun c_12 => ?_)
            ·
              exact absurd ⟨by omega, by omega, c_11, rgP (by omega) (by omega)⟩ hbad
            ·
              refine xw_aload_n (pc := 48) C 0 dX1_ring_48 rfl ?_
              refine xw_iconst_N (pc := 49) C 1 dX1_ring_49 rfl ?_
              refine xw_Vd (pc := 50) (q0 := 0) (na := 1) (rest := []) (st' := [nV 0]) C (m_X1_no 1) gX1_ring_X1_no rfl rfl rfl rfl (by decide +kernel) ⟨Nat.le_of_ble_eq_true rfl, Nat.le_of_ble_eq_true rfl⟩ rfl rfl rfl (Nat.le_of_ble_eq_true rfl) dX1_ring_50 ⟨Nat.le_of_ble_eq_true rfl, Nat.le_of_ble_eq_true rfl⟩ rfl ?_
              exact xw_iret (pc := 53) C rX (Nat.le_refl _) (Nat.le_refl _) dX1_ring_53 (PD.i)
