set_option maxHeartbeats 4000000 in
set_option maxRecDepth 100000 in
theorem m_X0_mean {l : Launch} {D : va_G} {cI : ClassId} {h a n p b w wi ni : Nat} {A : Nat → Nat} (hn : n = 4 ∨ n = 8 ∨ n = 16) (hA : ∀ j, A j < 500) (row : Nat) (hrw : row < 4) : CT l yX0_mean wsX0_mean (rmN 2 46) D vwCl [(cI, .int)] [.ref h, nV row] (wX cI h a n p b w wi ni A) (PD (some (.double (dq (sm A row n) n))) (wX cI h a n p b w wi ni A)) 0 0 := by
  refine ct_of (plainFor_of_name (by decide)) rfl (Nat.le_of_ble_eq_true rfl) (fun φ C rX => ?_)
  have hin : ∀ w ∈ wsX00, w ∈ wsX0_mean := by decide +kernel
  refine xw_le (lv' := [(0, .ref h), (1, nV row)]) rfl ?_
  have hn3 := lt3 hn
  have hsm := sm_le (r := row) hA n
  refine xw_aload_n (pc := 0) C 0 dX0_mean_0 rfl ?_
  refine xw_iload_n (pc := 1) C 1 dX0_mean_1 rfl ?_
  refine xw_Vd (pc := 2) (q0 := 0) (na := 1) (rest := []) (st' := []) C (m_X0_requireRow row (by omega)) gX0_mean_X0_requireRow rfl rfl rfl rfl (by decide +kernel) ⟨Nat.le_of_ble_eq_true rfl, Nat.le_of_ble_eq_true rfl⟩ rfl rfl rfl (Nat.le_of_ble_eq_true rfl) dX0_mean_2 ⟨Nat.le_of_ble_eq_true rfl, Nat.le_of_ble_eq_true rfl⟩ rfl ?_
  refine xw_aload_n (pc := 5) C 0 dX0_mean_5 rfl ?_
  refine xw_get (pc := 6) (T := TX0) (N := 7) (ref := "ToneButterflies") C hin 0 1 rfl rfl (by decide) (by decide +kernel) rfl rfl dX0_mean_6 ?_
  refine xw_if_le_N (pc := 9) (tgt := 27) C dX0_mean_9 (by decide) (by omega) (fun c_1 => (by exfalso; omega)) (fun c_1 => ?_)
  refine xw_aload_n (pc := 12) C 0 dX0_mean_12 rfl ?_
  refine xw_iload_n (pc := 13) C 1 dX0_mean_13 rfl ?_
  refine xw_Vd (pc := 14) (q0 := 0) (na := 1) (rest := []) (st' := [nV (sm A row n)]) C (m_X0_plainSum hn hA row (by omega)) gX0_mean_X0_plainSum rfl rfl rfl rfl (by decide +kernel) ⟨Nat.le_of_ble_eq_true rfl, Nat.le_of_ble_eq_true rfl⟩ rfl rfl rfl (Nat.le_of_ble_eq_true rfl) dX0_mean_14 ⟨Nat.le_of_ble_eq_true rfl, Nat.le_of_ble_eq_true rfl⟩ rfl ?_
  refine xw_i2d (pc := 17) C dX0_mean_17 ?_
  refine xw_aload_n (pc := 18) C 0 dX0_mean_18 rfl ?_
  refine xw_get (pc := 19) (T := TX0) (N := 7) (ref := "ToneButterflies") C hin 0 1 rfl rfl (by decide) (by decide +kernel) rfl rfl dX0_mean_19 ?_
  refine xw_i2d (pc := 22) C dX0_mean_22 ?_
  refine xw_ddiv (pc := 23) C dX0_mean_23 (dq_n (s := sm A row n) (by omega) hn) ?_
  refine xw_goto (pc := 24) (tgt := 28) C dX0_mean_24 (by decide) ?_
  exact xw_dret (pc := 28) C rX (Nat.le_refl _) (Nat.le_refl _) dX0_mean_28 (PD.i)

set_option maxHeartbeats 4000000 in
set_option maxRecDepth 100000 in
theorem m_X0_digestRow {l : Launch} {D : va_G} {cI : ClassId} {h a n p b w wi ni : Nat} {A : Nat → Nat} (hn : n = 4 ∨ n = 8 ∨ n = 16) (d0 : Int64) (row : Nat) (hrw : row < 5) : CT l yX0_digestRow wsX0_digestRow (rmN 1 23) D vwCl [(cI, .int)] [.ref h, .long d0, nV row] (wX cI h a n p b w wi ni A) (PD (some (.long (dgc (fun k => ((A (16 * row + k) : Nat) : Int)) d0 n))) (wX cI h a n p b w wi ni A)) 0 0 := by
  refine ct_of (plainFor_of_name (by decide)) rfl (Nat.le_of_ble_eq_true rfl) (fun φ C rX => ?_)
  have hin : ∀ w ∈ wsX00, w ∈ wsX0_digestRow := by decide +kernel
  refine xw_le (lv' := [(0, .ref h), (1, .long d0), (3, nV row)]) rfl ?_
  have hn3 := lt3 hn
  refine xw_lload_n (pc := 0) C 1 dX0_digestRow_0 rfl ?_
  refine xw_lstore (pc := 1) (lv' := [(0, .ref h), (1, .long d0), (3, nV row), (4, .long d0)]) C [1, 2, 3, 0] dX0_digestRow_1 (by decide) rfl ?_
  refine xw_iconst_N (pc := 3) C 0 dX0_digestRow_3 rfl ?_
  refine xw_istore (pc := 4) (lv' := [(0, .ref h), (1, .long d0), (3, nV row), (4, .long d0), (6, nV 0)]) C [1, 2, 3, 4, 0] dX0_digestRow_4 (by decide) rfl ?_
  have L6 : ∀ (fuel : Nat) (k : Nat) (d : Int64), n < k + fuel → k ≤ n → d = dgc (fun k => ((A (16 * row + k) : Nat) : Int)) d0 k → xw φ 0 0 (wX cI h a n p b w wi ni A) 6 [(0, .ref h), (1, .long d0), (3, nV row), (4, .long d), (6, nV k)] [] := by
    intro fuel
    induction fuel with
    | zero =>
      intro k d hk hkn hd
      omega
    | succ fuel ih6 =>
      intro k d hk hkn hd
      refine xw_iload (pc := 6) C 4 dX0_digestRow_6 rfl ?_
      refine xw_aload_n (pc := 8) C 0 dX0_digestRow_8 rfl ?_
      refine xw_get (pc := 9) (T := TX0) (N := 7) (ref := "ToneButterflies") C hin 0 1 rfl rfl (by decide) (by decide +kernel) rfl rfl dX0_digestRow_9 ?_
      refine xw_icmp_ge_N (pc := 12) (tgt := 38) C dX0_digestRow_12 (by decide) (by omega) (by omega) (fun c_1 => ?_) (fun c_1 => ?_)
      ·
        refine xw_lload (pc := 38) C 3 dX0_digestRow_38 rfl ?_
        exact xw_lret (pc := 40) C rX (Nat.le_refl _) (Nat.le_refl _) dX0_digestRow_40 (PD.e (by rw [hd, show k = n by omega]) rfl)
      ·
        refine xw_lload (pc := 15) C 3 dX0_digestRow_15 rfl ?_
        refine xw_ldc2 (pc := 17) (v := 31) C (by decide +kernel) dX0_digestRow_17 ?_
        refine xw_lmul (pc := 20) C dX0_digestRow_20 ?_
        refine xw_aload_n (pc := 21) C 0 dX0_digestRow_21 rfl ?_
        refine xw_iload_n (pc := 22) C 2 dX0_digestRow_22 rfl ?_
        refine xw_iload (pc := 23) C 4 dX0_digestRow_23 rfl ?_
        refine xw_Vd (pc := 25) (q0 := 0) (na := 2) (rest := [.long (d * 31)]) (st' := [nV (A (16 * row + k)), .long (d * 31)]) C (m_X0_read row k (by omega) (by omega)) gX0_digestRow_X0_read rfl rfl rfl rfl (by decide +kernel) ⟨Nat.le_of_ble_eq_true rfl, Nat.le_of_ble_eq_true rfl⟩ rfl rfl rfl (Nat.le_of_ble_eq_true rfl) dX0_digestRow_25 ⟨Nat.le_of_ble_eq_true rfl, Nat.le_of_ble_eq_true rfl⟩ rfl ?_
        refine xw_i2l (pc := 28) C dX0_digestRow_28 ?_
        refine xw_ladd (pc := 29) C dX0_digestRow_29 ?_
        refine xw_lstore (pc := 30) (lv' := [(0, .ref h), (1, .long d0), (3, nV row), (4, .long ((d * 31) + ((iI ((A (16 * row + k) : Nat) : Int)).toInt64))), (6, nV k)]) C [1, 2, 3, 0, 4] dX0_digestRow_30 (by decide) rfl ?_
        refine xw_iinc_N (pc := 32) (b := k + 1) (lv' := [(0, .ref h), (1, .long d0), (3, nV row), (4, .long ((d * 31) + ((iI ((A (16 * row + k) : Nat) : Int)).toInt64))), (6, nV (k + 1))]) C 4 [1, 2, 3, 4, 0] dX0_digestRow_32 rfl (by decide) rfl rfl ?_
        refine xw_goto (pc := 35) (tgt := 6) C dX0_digestRow_35 (by decide) ?_
        exact ih6 (k + 1) _ (by omega) (by omega) (by rw [dgc, ← hd]; rfl)
  exact L6 (n + 1) 0 _ (by omega) (by omega) rfl

set_option maxHeartbeats 4000000 in
set_option maxRecDepth 100000 in
theorem m_X0_digest {l : Launch} {D : va_G} {cI : ClassId} {h a n p b w wi ni : Nat} {A : Nat → Nat} (hp : 0 < p) (hp5 : p < 500) (hn : n = 4 ∨ n = 8 ∨ n = 16) (hA : ∀ j, A j < 500) (hw : w < 500) : CT l yX0_digest wsX0_digest (rmN 5 113) D vwCl [(cI, .int)] [.ref h] (wX cI h a n p b w wi ni A) (fun v w1 => ∃ A9 : Nat → Nat, (∀ j, j < 64 → A9 j = A j) ∧ (∀ j, A9 j < 500) ∧ v = some (.long (drs p n w A (dgc (fun k => ((ct n p b w wi ni k : Nat) : Int)) 1777 6) 4)) ∧ w1 = wX cI h a n p b w wi ni A9) 0 0 := by
  refine ct_of (plainFor_of_name (by decide)) rfl (Nat.le_of_ble_eq_true rfl) (fun φ C rX => ?_)
  refine xw_le (lv' := [(0, .ref h)]) rfl ?_
  have hn3 := lt3 hn
  refine xw_ldc2 (pc := 0) (v := 1777) C (by decide +kernel) dX0_digest_0 ?_
  refine xw_lstore_n (pc := 3) (lv' := [(0, .ref h), (1, .long 1777)]) C [1, 0] dX0_digest_3 rfl (by decide) rfl ?_
  refine xw_iconst_N (pc := 4) C 0 dX0_digest_4 rfl ?_
  refine xw_istore_n (pc := 5) (lv' := [(0, .ref h), (1, .long 1777), (3, nV 0)]) C [1, 2, 0] dX0_digest_5 rfl (by decide) rfl ?_
  have L6 : ∀ (fuel : Nat) (k : Nat) (d : Int64), 6 < k + fuel → k ≤ 6 → d = dgc (fun k => ((ct n p b w wi ni k : Nat) : Int)) 1777 k → xw φ 0 0 (wX cI h a n p b w wi ni A) 6 [(0, .ref h), (1, .long d), (3, nV k)] [] := by
    intro fuel
    induction fuel with
    | zero =>
      intro k d hk hkn hd
      omega
    | succ fuel ih6 =>
      intro k d hk hkn hd
      refine xw_iload_n (pc := 6) C 2 dX0_digest_6 rfl ?_
      refine xw_bipush_N (pc := 7) C 6 dX0_digest_7 (by decide) ?_
      refine xw_icmp_ge_N (pc := 9) (tgt := 31) C dX0_digest_9 (by decide) (by omega) (by omega) (fun c_1 => ?_) (fun c_1 => ?_)
      ·
        refine xw_iconst_N (pc := 31) C 0 dX0_digest_31 rfl ?_
        refine xw_istore_n (pc := 32) (lv' := [(0, .ref h), (1, .long d), (3, nV 0)]) C [1, 2, 0] dX0_digest_32 rfl (by decide) rfl ?_
        have L33 : ∀ (fuel : Nat) (row : Nat) (A9 : Nat → Nat) (d : Int64), 4 < row + fuel → row ≤ 4 → (∀ j, j < 64 → A9 j = A j) → (∀ j, A9 j < 500) → d = drs p n w A (dgc (fun k => ((ct n p b w wi ni k : Nat) : Int)) 1777 6) row → xw φ 0 0 (wX cI h a n p b w wi ni A9) 33 [(0, .ref h), (1, .long d), (3, nV row)] [] := by
          intro fuel
          induction fuel with
          | zero =>
            intro row A9 d hk hkn hA9 hA8 hd
            omega
          | succ fuel ih33 =>
            intro row A9 d hk hkn hA9 hA8 hd
            refine xw_iload_n (pc := 33) C 2 dX0_digest_33 rfl ?_
            refine xw_iconst_N (pc := 34) C 4 dX0_digest_34 rfl ?_
            refine xw_icmp_ge_N (pc := 35) (tgt := 93) C dX0_digest_35 (by decide) (by omega) (by omega) (fun c_2 => ?_) (fun c_2 => ?_)
            ·
              refine xw_lload_n (pc := 93) C 1 dX0_digest_93 rfl ?_
              exact xw_lret (pc := 94) C rX (Nat.le_refl _) (Nat.le_refl _) dX0_digest_94 (⟨A9, hA9, hA8, by rw [hd, show row = 4 by omega], rfl⟩)
            ·
              refine xw_aload_n (pc := 38) C 0 dX0_digest_38 rfl ?_
              refine xw_lload_n (pc := 39) C 1 dX0_digest_39 rfl ?_
              refine xw_iload_n (pc := 40) C 2 dX0_digest_40 rfl ?_
              refine xw_Vd (pc := 41) (q0 := 0) (na := 2) (rest := []) (st' := [.long (dgc (fun k => ((A9 (16 * row + k) : Nat) : Int)) d n)]) C (m_X0_digestRow hn d row (by omega)) gX0_digest_X0_digestRow rfl rfl rfl rfl (by decide +kernel) ⟨Nat.le_of_ble_eq_true rfl, Nat.le_of_ble_eq_true rfl⟩ rfl rfl rfl (Nat.le_of_ble_eq_true rfl) dX0_digest_41 ⟨Nat.le_of_ble_eq_true rfl, Nat.le_of_ble_eq_true rfl⟩ rfl ?_
              obtain ⟨e1, he1⟩ : ∃ e1, e1 = dgc (fun k => ((A9 (16 * row + k) : Nat) : Int)) d n := ⟨_, rfl⟩
              refine xw_st (st' := [.long e1]) (by rw [he1]) ?_
              refine xw_lstore_n (pc := 44) (lv' := [(0, .ref h), (1, .long e1), (3, nV row)]) C [1, 0, 2] dX0_digest_44 rfl (by decide) rfl ?_
              refine xw_iconst_N (pc := 45) C 0 dX0_digest_45 rfl ?_
              refine xw_istore (pc := 46) (lv' := [(0, .ref h), (1, .long e1), (3, nV row), (4, nV 0)]) C [1, 2, 3, 0] dX0_digest_46 (by decide) rfl ?_
              have L48 : ∀ (fuel : Nat) (q : Nat) (e : Int64), 5 < q + fuel → q ≤ 5 → e = dgc (tl p n A9 row) e1 q → xw φ 0 0 (wX cI h a n p b w wi ni A9) 48 [(0, .ref h), (1, .long e), (3, nV row), (4, nV q)] [] := by
                intro fuel
                induction fuel with
                | zero =>
                  intro q e hq hqn he2
                  omega
                | succ fuel ih48 =>
                  intro q e hq hqn he2
                  refine xw_iload (pc := 48) C 3 dX0_digest_48 rfl ?_
                  refine xw_iconst_N (pc := 50) C 5 dX0_digest_50 rfl ?_
                  refine xw_icmp_ge_N (pc := 51) (tgt := 75) C dX0_digest_51 (by decide) (by omega) (by omega) (fun c_3 => ?_) (fun c_3 => ?_)
                  ·
                    rw [show q = 5 from by omega] at he2
                    refine xw_aload_n (pc := 75) C 0 dX0_digest_75 rfl ?_
                    refine xw_iload_n (pc := 76) C 2 dX0_digest_76 rfl ?_
                    refine xw_Vd (pc := 77) (q0 := 0) (na := 1) (rest := []) (st' := []) C (m_X0_scratchTones hp hp5 hn (hA8) hw row (by omega)) gX0_digest_X0_scratchTones rfl rfl rfl rfl (by decide +kernel) ⟨Nat.le_of_ble_eq_true rfl, Nat.le_of_ble_eq_true rfl⟩ rfl rfl rfl (Nat.le_of_ble_eq_true rfl) dX0_digest_77 ⟨Nat.le_of_ble_eq_true rfl, Nat.le_of_ble_eq_true rfl⟩ rfl ?_
                    refine xw_aload_n (pc := 80) C 0 dX0_digest_80 rfl ?_
                    refine xw_lload_n (pc := 81) C 1 dX0_digest_81 rfl ?_
                    refine xw_iconst_N (pc := 82) C 4 dX0_digest_82 rfl ?_
                    refine xw_Vd (pc := 83) (q0 := 0) (na := 2) (rest := []) (st' := [.long (dgc (fun k => (((sv A9 (tn p n A9 row w 1) n) (16 * 4 + k) : Nat) : Int)) e n)]) C (m_X0_digestRow hn e 4 (by omega)) gX0_digest_X0_digestRow rfl rfl rfl rfl (by decide +kernel) ⟨Nat.le_of_ble_eq_true rfl, Nat.le_of_ble_eq_true rfl⟩ rfl rfl rfl (Nat.le_of_ble_eq_true rfl) dX0_digest_83 ⟨Nat.le_of_ble_eq_true rfl, Nat.le_of_ble_eq_true rfl⟩ rfl ?_
                    refine xw_lstore_n (pc := 86) (lv' := [(0, .ref h), (1, .long (dgc (fun k => (((sv A9 (tn p n A9 row w 1) n) (16 * 4 + k) : Nat) : Int)) e n)), (3, nV row), (4, nV q)]) C [1, 0, 2, 3] dX0_digest_86 rfl (by decide) rfl ?_
                    have dgS : dgc (fun k => ((sv A9 (tn p n A9 row w 1) n (16 * 4 + k) : Nat) : Int)) e n = dgc (fun k => ((tn p n A9 row w 1 k : Nat) : Int)) e n := dgc_cg n (fun j hj => by show ((sv A9 (tn p n A9 row w 1) n (16 * 4 + j) : Nat) : Int) = _; unfold sv; rw [if_pos (by omega), show 16 * 4 + j - 64 = j by omega])
                    refine xw_iinc_N (pc := 87) (b := row + 1) (lv' := [(0, .ref h), (1, .long (dgc (fun k => (((sv A9 (tn p n A9 row w 1) n) (16 * 4 + k) : Nat) : Int)) e n)), (3, nV (row + 1)), (4, nV q)]) C 2 [1, 2, 0, 3] dX0_digest_87 rfl (by decide) rfl rfl ?_
                    refine xw_goto (pc := 90) (tgt := 33) C dX0_digest_90 (by decide) ?_
                    refine xw_lv (lv' := [(0, .ref h), (1, .long (dgc (fun k => (((sv A9 (tn p n A9 row w 1) n) (16 * 4 + k) : Nat) : Int)) e n)), (3, nV (row + 1))]) [0, 1, 2] rfl ?_
                    exact ih33 (row + 1) _ _ (by omega) (by omega) (fun j hj => by rw [sv_lo hj]; exact hA9 j hj) (sv_lt (g := tn p n A9 row w 1) hA8 (fun j _ => ml hp hp5)) (by rw [drs, ← hd, ← dro_cg (A := A9) (B := A) (r := row) (show 0 < n by omega) (fun k hk => hA9 _ (by omega))]; unfold dro; rw [← he1, ← he2]; exact dgS)
                  ·
                    refine xw_lload_n (pc := 54) C 1 dX0_digest_54 rfl ?_
                    refine xw_ldc2 (pc := 55) (v := 31) C (by decide +kernel) dX0_digest_55 ?_
                    refine xw_lmul (pc := 58) C dX0_digest_58 ?_
                    refine xw_aload_n (pc := 59) C 0 dX0_digest_59 rfl ?_
                    refine xw_iload_n (pc := 60) C 2 dX0_digest_60 rfl ?_
                    refine xw_iload (pc := 61) C 3 dX0_digest_61 rfl ?_
                    refine xw_Vd (pc := 63) (q0 := 0) (na := 2) (rest := [.long (e * 31)]) (st' := [iV (tl p n A9 row q), .long (e * 31)]) C (m_X0_told hp hp5 hn (hA8) row q (by omega) (by omega)) gX0_digest_X0_told rfl rfl rfl rfl (by decide +kernel) ⟨Nat.le_of_ble_eq_true rfl, Nat.le_of_ble_eq_true rfl⟩ rfl rfl rfl (Nat.le_of_ble_eq_true rfl) dX0_digest_63 ⟨Nat.le_of_ble_eq_true rfl, Nat.le_of_ble_eq_true rfl⟩ rfl ?_
                    refine xw_i2l (pc := 66) C dX0_digest_66 ?_
                    refine xw_ladd (pc := 67) C dX0_digest_67 ?_
                    refine xw_lstore_n (pc := 68) (lv' := [(0, .ref h), (1, .long ((e * 31) + ((iI (tl p n A9 row q)).toInt64))), (3, nV row), (4, nV q)]) C [1, 0, 2, 3] dX0_digest_68 rfl (by decide) rfl ?_
                    refine xw_iinc_N (pc := 69) (b := q + 1) (lv' := [(0, .ref h), (1, .long ((e * 31) + ((iI (tl p n A9 row q)).toInt64))), (3, nV row), (4, nV (q + 1))]) C 3 [1, 2, 3, 0] dX0_digest_69 rfl (by decide) rfl rfl ?_
                    refine xw_goto (pc := 72) (tgt := 48) C dX0_digest_72 (by decide) ?_
                    exact ih48 (q + 1) _ (by omega) (by omega) (by rw [dgc, ← he2]; rfl)
              exact L48 6 0 _ (by omega) (by omega) rfl
        exact L33 5 0 A d (by omega) (by omega) (fun j _ => rfl) hA (by rw [hd, show k = 6 by omega]; rfl)
      ·
        refine xw_lload_n (pc := 12) C 1 dX0_digest_12 rfl ?_
        refine xw_ldc2 (pc := 13) (v := 31) C (by decide +kernel) dX0_digest_13 ?_
        refine xw_lmul (pc := 16) C dX0_digest_16 ?_
        refine xw_aload_n (pc := 17) C 0 dX0_digest_17 rfl ?_
        refine xw_iload_n (pc := 18) C 2 dX0_digest_18 rfl ?_
        refine xw_Vd (pc := 19) (q0 := 0) (na := 1) (rest := [.long (d * 31)]) (st' := [nV (ct n p b w wi ni k), .long (d * 31)]) C (m_X0_counted k (by omega)) gX0_digest_X0_counted rfl rfl rfl rfl (by decide +kernel) ⟨Nat.le_of_ble_eq_true rfl, Nat.le_of_ble_eq_true rfl⟩ rfl rfl rfl (Nat.le_of_ble_eq_true rfl) dX0_digest_19 ⟨Nat.le_of_ble_eq_true rfl, Nat.le_of_ble_eq_true rfl⟩ rfl ?_
        refine xw_i2l (pc := 22) C dX0_digest_22 ?_
        refine xw_ladd (pc := 23) C dX0_digest_23 ?_
        refine xw_lstore_n (pc := 24) (lv' := [(0, .ref h), (1, .long ((d * 31) + ((iI ((ct n p b w wi ni k : Nat) : Int)).toInt64))), (3, nV k)]) C [1, 0, 2] dX0_digest_24 rfl (by decide) rfl ?_
        refine xw_iinc_N (pc := 25) (b := k + 1) (lv' := [(0, .ref h), (1, .long ((d * 31) + ((iI ((ct n p b w wi ni k : Nat) : Int)).toInt64))), (3, nV (k + 1))]) C 2 [1, 2, 0] dX0_digest_25 rfl (by decide) rfl rfl ?_
        refine xw_goto (pc := 28) (tgt := 6) C dX0_digest_28 (by decide) ?_
        exact ih6 (k + 1) _ (by omega) (by omega) (by rw [dgc, ← hd]; rfl)
  exact L6 7 0 _ (by omega) (by omega) rfl

def od (p v : Nat) : Nat := fs (fun k => decide (v ^ k % p = 1)) (p - 1) 1
set_option maxHeartbeats 4000000 in
set_option maxRecDepth 100000 in
theorem m_X0_order {l : Launch} {D : va_G} {cI : ClassId} {h a n p b w wi ni : Nat} {A : Nat → Nat} (hp : 1 < p) (hp5 : p < 500) (v : Nat) (h1 : 1 ≤ v) (hv : v < p) : CT l yX0_order wsX0_order (rmN 2 43) D vwCl [(cI, .int)] [.ref h, nV v] (wX cI h a n p b w wi ni A) (PD (some (nV (od p v))) (wX cI h a n p b w wi ni A)) 0 0 := by
  refine ct_of (plainFor_of_name (by decide)) rfl (Nat.le_of_ble_eq_true rfl) (fun φ C rX => ?_)
  have hin : ∀ w ∈ wsX00, w ∈ wsX0_order := by decide +kernel
  refine xw_le (lv' := [(0, .ref h), (1, nV v)]) rfl ?_
  refine xw_aload_n (pc := 0) C 0 dX0_order_0 rfl ?_
  refine xw_iload_n (pc := 1) C 1 dX0_order_1 rfl ?_
  refine xw_Vd (pc := 2) (q0 := 0) (na := 1) (rest := []) (st' := []) C (m_X0_requireInvertible hp5 v (by omega) (by omega)) gX0_order_X0_requireInvertible rfl rfl rfl rfl (by decide +kernel) ⟨Nat.le_of_ble_eq_true rfl, Nat.le_of_ble_eq_true rfl⟩ rfl rfl rfl (Nat.le_of_ble_eq_true rfl) dX0_order_2 ⟨Nat.le_of_ble_eq_true rfl, Nat.le_of_ble_eq_true rfl⟩ rfl ?_
  refine xw_iconst_N (pc := 5) C 1 dX0_order_5 rfl ?_
  refine xw_istore_n (pc := 6) (lv' := [(0, .ref h), (1, nV v), (2, nV 1)]) C [1, 2, 0] dX0_order_6 rfl (by decide) rfl ?_
  refine xw_iload_n (pc := 7) C 1 dX0_order_7 rfl ?_
  refine xw_istore_n (pc := 8) (lv' := [(0, .ref h), (1, nV v), (2, nV 1), (3, nV v)]) C [1, 2, 3, 0] dX0_order_8 rfl (by decide) rfl ?_
  have L9 : ∀ (fuel : Nat) (k x : Nat), p < k + fuel → k ≤ p → x = v ^ k % p → od p v = fs (fun k => decide (v ^ k % p = 1)) (p - k) k → xw φ 0 0 (wX cI h a n p b w wi ni A) 9 [(0, .ref h), (1, nV v), (2, nV k), (3, nV x)] [] := by
    intro fuel
    induction fuel with
    | zero =>
      intro k x hk hkn hx hfs
      omega
    | succ fuel ih9 =>
      intro k x hk hkn hx hfs
      have hxp : x < p := by rw [hx]; exact Nat.mod_lt _ (by omega)
      refine xw_iload_n (pc := 9) C 3 dX0_order_9 rfl ?_
      refine xw_iconst_N (pc := 10) C 1 dX0_order_10 rfl ?_
      refine xw_icmp_eq_N (pc := 11) (tgt := 36) C dX0_order_11 (by decide) (by omega) (by omega) (fun c_1 => ?_) (fun c_1 => ?_)
      ·
        refine xw_iload_n (pc := 36) C 2 dX0_order_36 rfl ?_
        exact xw_iret (pc := 37) C rX (Nat.le_refl _) (Nat.le_refl _) dX0_order_37 (PD.e (by rcases Nat.eq_or_lt_of_le hkn with z | z; rw [hfs, show p - k = 0 by omega, fs]; rw [hfs, show p - k = (p - (k + 1)) + 1 by omega, fs_t (decide_eq_true (hx.symm.trans c_1))]) rfl)
      ·
        refine xw_iload_n (pc := 14) C 2 dX0_order_14 rfl ?_
        refine xw_aload_n (pc := 15) C 0 dX0_order_15 rfl ?_
        refine xw_get (pc := 16) (T := TX0) (N := 7) (ref := "ToneButterflies") C hin 0 2 rfl rfl (by decide) (by decide +kernel) rfl rfl dX0_order_16 ?_
        refine xw_icmp_ge_N (pc := 19) (tgt := 36) C dX0_order_19 (by decide) (by omega) (by omega) (fun c_2 => ?_) (fun c_2 => ?_)
        ·
          refine xw_iload_n (pc := 36) C 2 dX0_order_36 rfl ?_
          exact xw_iret (pc := 37) C rX (Nat.le_refl _) (Nat.le_refl _) dX0_order_37 (PD.e (by rw [hfs, show p - k = 0 by omega, fs]) rfl)
        ·
          refine xw_aload_n (pc := 22) C 0 dX0_order_22 rfl ?_
          refine xw_iload_n (pc := 23) C 3 dX0_order_23 rfl ?_
          refine xw_iload_n (pc := 24) C 1 dX0_order_24 rfl ?_
          refine xw_imul_N (pc := 25) C dX0_order_25 ?_
          refine xw_Vd (pc := 26) (q0 := 0) (na := 1) (rest := []) (st' := [nV ((x * v) % p)]) C (m_X0_reduced (show 0 < p by omega) hp5 ((x * v : Nat) : Int) ((x * v) % p) (Int.natCast_emod _ _).symm (rgN (mb0 (by omega) (by omega)))) gX0_order_X0_reduced rfl rfl rfl rfl (by decide +kernel) ⟨Nat.le_of_ble_eq_true rfl, Nat.le_of_ble_eq_true rfl⟩ rfl rfl rfl (Nat.le_of_ble_eq_true rfl) dX0_order_26 ⟨Nat.le_of_ble_eq_true rfl, Nat.le_of_ble_eq_true rfl⟩ rfl ?_
          refine xw_istore_n (pc := 29) (lv' := [(0, .ref h), (1, nV v), (2, nV k), (3, nV ((x * v) % p))]) C [1, 2, 3, 0] dX0_order_29 rfl (by decide) rfl ?_
          refine xw_iinc_N (pc := 30) (b := k + 1) (lv' := [(0, .ref h), (1, nV v), (2, nV (k + 1)), (3, nV ((x * v) % p))]) C 2 [1, 2, 0, 3] dX0_order_30 rfl (by decide) rfl rfl ?_
          refine xw_goto (pc := 33) (tgt := 9) C dX0_order_33 (by decide) ?_
          exact ih9 (k + 1) _ (by omega) (by omega) (by rw [hx, mm3, Nat.pow_succ]) (by rw [hfs, show p - k = (p - (k + 1)) + 1 by omega, fs_f (decide_eq_false (fun z => c_1 (hx.trans z)))])
  exact L9 (p + 1) 1 v (by omega) (by omega) (by rw [Nat.pow_one, Nat.mod_eq_of_lt hv]) rfl

set_option maxHeartbeats 4000000 in
set_option maxRecDepth 100000 in
theorem m_X0_inverse {l : Launch} {D : va_G} {cI : ClassId} {h a n p b w wi ni : Nat} {A : Nat → Nat} (hp : 1 < p) (hp5 : p < 500) (v : Nat) (h1 : 1 ≤ v) (hv : v < p) : CT l yX0_inverse wsX0_inverse (rmN 4 89) D vwCl [(cI, .int)] [.ref h, nV v] (wX cI h a n p b w wi ni A) (PD (some (nV (v ^ (p - 2) % p))) (wX cI h a n p b w wi ni A)) 0 0 := by
  refine ct_of (plainFor_of_name (by decide)) rfl (Nat.le_of_ble_eq_true rfl) (fun φ C rX => ?_)
  refine xw_le (lv' := [(0, .ref h), (1, nV v)]) rfl ?_
  refine xw_aload_n (pc := 0) C 0 dX0_inverse_0 rfl ?_
  refine xw_iload_n (pc := 1) C 1 dX0_inverse_1 rfl ?_
  refine xw_Vd (pc := 2) (q0 := 0) (na := 1) (rest := []) (st' := []) C (m_X0_requireInvertible hp5 v (by omega) (by omega)) gX0_inverse_X0_requireInvertible rfl rfl rfl rfl (by decide +kernel) ⟨Nat.le_of_ble_eq_true rfl, Nat.le_of_ble_eq_true rfl⟩ rfl rfl rfl (Nat.le_of_ble_eq_true rfl) dX0_inverse_2 ⟨Nat.le_of_ble_eq_true rfl, Nat.le_of_ble_eq_true rfl⟩ rfl ?_
  refine xw_aload_n (pc := 5) C 0 dX0_inverse_5 rfl ?_
  refine xw_iload_n (pc := 6) C 1 dX0_inverse_6 rfl ?_
  refine xw_Vd (pc := 7) (q0 := 0) (na := 1) (rest := []) (st' := [nV (v ^ (p - 2) % p)]) C (m_X0_inverseOf hp hp5 v (by omega)) gX0_inverse_X0_inverseOf rfl rfl rfl rfl (by decide +kernel) ⟨Nat.le_of_ble_eq_true rfl, Nat.le_of_ble_eq_true rfl⟩ rfl rfl rfl (Nat.le_of_ble_eq_true rfl) dX0_inverse_7 ⟨Nat.le_of_ble_eq_true rfl, Nat.le_of_ble_eq_true rfl⟩ rfl ?_
  exact xw_iret (pc := 10) C rX (Nat.le_refl _) (Nat.le_refl _) dX0_inverse_10 (PD.i)

set_option maxHeartbeats 4000000 in
set_option maxRecDepth 100000 in
theorem m_X0_root {l : Launch} {D : va_G} {cI : ClassId} {h a n p b w wi ni : Nat} {A : Nat → Nat} (hp : 1 < p) (hp5 : p < 500) (hw : w < 500) (e : Nat) (he : e ≤ 9999) : CT l yX0_root wsX0_root (rmN 3 68) D vwCl [(cI, .int)] [.ref h, nV e] (wX cI h a n p b w wi ni A) (PD (some (nV (w ^ e % p))) (wX cI h a n p b w wi ni A)) 0 0 := by
  refine ct_of (plainFor_of_name (by decide)) rfl (Nat.le_of_ble_eq_true rfl) (fun φ C rX => ?_)
  have hin : ∀ w ∈ wsX00, w ∈ wsX0_root := by decide +kernel
  refine xw_le (lv' := [(0, .ref h), (1, nV e)]) rfl ?_
  refine xw_iload_n (pc := 0) C 1 dX0_root_0 rfl ?_
  refine xw_if_lt_N (pc := 1) (tgt := 11) C dX0_root_1 (by decide) (by omega) (fun c_1 => (by exfalso; omega)) (fun c_1 => ?_)
  refine xw_iload_n (pc := 4) C 1 dX0_root_4 rfl ?_
  refine xw_sipush_N (pc := 5) C 9999 dX0_root_5 (by decide) ?_
  refine xw_icmp_le_N (pc := 8) (tgt := 21) C dX0_root_8 (by decide) (by omega) (by omega) (fun c_2 => ?_) (fun c_2 => (by exfalso; omega))
  refine xw_aload_n (pc := 21) C 0 dX0_root_21 rfl ?_
  refine xw_aload_n (pc := 22) C 0 dX0_root_22 rfl ?_
  refine xw_get (pc := 23) (T := TX0) (N := 7) (ref := "ToneButterflies") C hin 0 4 rfl rfl (by decide) (by decide +kernel) rfl rfl dX0_root_23 ?_
  refine xw_iload_n (pc := 26) C 1 dX0_root_26 rfl ?_
  refine xw_Vd (pc := 27) (q0 := 0) (na := 2) (rest := []) (st' := [nV (w ^ e % p)]) C (m_X0_powerOf hp hp5 w e (by omega) (by omega)) gX0_root_X0_powerOf rfl rfl rfl rfl (by decide +kernel) ⟨Nat.le_of_ble_eq_true rfl, Nat.le_of_ble_eq_true rfl⟩ rfl rfl rfl (Nat.le_of_ble_eq_true rfl) dX0_root_27 ⟨Nat.le_of_ble_eq_true rfl, Nat.le_of_ble_eq_true rfl⟩ rfl ?_
  exact xw_iret (pc := 30) C rX (Nat.le_refl _) (Nat.le_refl _) dX0_root_30 (PD.i)

set_option maxHeartbeats 4000000 in
set_option maxRecDepth 100000 in
theorem m_X0_ring {l : Launch} {D : va_G} {cI : ClassId} {h a n p b w wi ni : Nat} {A : Nat → Nat} (n1 p1 : Nat) (hn : n1 = 4 ∨ n1 = 8 ∨ n1 = 16) (hp : 4 < p1) (hp5 : p1 < 500) (hprm : prm p1 = true) (hdv : (p1 - 1) % n1 = 0) : CT l yX0_ring wsX0_ring (rmN 5 112) D vwCl [(cI, .int)] [.ref h, nV n1, nV p1] (wX cI h a n p b w wi ni A) (PD (some (nV (rt n1 p1))) (wX cI h a n1 p1 (bt n1) (rt n1 p1) (rt n1 p1 ^ (p1 - 2) % p1) (n1 ^ (p1 - 2) % p1) (zf A 80))) 0 0 := by
  refine ct_of (plainFor_of_name (by decide)) rfl (Nat.le_of_ble_eq_true rfl) (fun φ C rX => ?_)
  have hin : ∀ w ∈ wsX00, w ∈ wsX0_ring := by decide +kernel
  refine xw_le (lv' := [(0, .ref h), (1, nV n1), (2, nV p1)]) rfl ?_
  refine xw_iload_n (pc := 0) C 1 dX0_ring_0 rfl ?_
  refine xw_Sd (pc := 1) (na := 1) (rest := []) (st' := [bV (decide (((n1 : Nat) : Int) = 4 ∨ ((n1 : Nat) : Int) = 8 ∨ ((n1 : Nat) : Int) = 16))]) C (m_X0_isLength (((n1 : Nat) : Int)) (by omega)) gX0_ring_X0_isLength rfl rfl rfl rfl (by decide +kernel) ⟨Nat.le_of_ble_eq_true rfl, Nat.le_of_ble_eq_true rfl⟩ rfl (Nat.le_of_ble_eq_true rfl) dX0_ring_1 ⟨Nat.le_of_ble_eq_true rfl, Nat.le_of_ble_eq_true rfl⟩ rfl ?_
  refine xw_if_eq_B (pc := 4) (tgt := 24) C dX0_ring_4 (by decide)  (fun c_1 => (by exact absurd (of_decide_eq_false c_1) (by omega))) (fun c_1 => ?_)
  refine xw_iload_n (pc := 7) C 2 dX0_ring_7 rfl ?_
  refine xw_Sd (pc := 8) (na := 1) (rest := []) (st' := [bV (decide (5 ≤ (((p1 : Nat) : Int)) ∧ (((p1 : Nat) : Int)) ≤ 499) && prm (((p1 : Nat) : Int)).toNat)]) C (m_X0_isPrimeOfRing (((p1 : Nat) : Int)) (by omega)) gX0_ring_X0_isPrimeOfRing rfl rfl rfl rfl (by decide +kernel) ⟨Nat.le_of_ble_eq_true rfl, Nat.le_of_ble_eq_true rfl⟩ rfl (Nat.le_of_ble_eq_true rfl) dX0_ring_8 ⟨Nat.le_of_ble_eq_true rfl, Nat.le_of_ble_eq_true rfl⟩ rfl ?_
  refine xw_if_eq_B (pc := 11) (tgt := 24) C dX0_ring_11 (by decide)  (fun c_2 => (by exact absurd c_2 (by rw [decide_eq_true (by omega), show (((p1 : Nat) : Int)).toNat = p1 from rfl, hprm]; decide))) (fun c_2 => ?_)
  refine xw_iload_n (pc := 14) C 1 dX0_ring_14 rfl ?_
  refine xw_iload_n (pc := 15) C 2 dX0_ring_15 rfl ?_
  refine xw_iconst_N (pc := 16) C 1 dX0_ring_16 rfl ?_
  refine xw_isub_N (pc := 17) C dX0_ring_17 (by omega) ?_
  refine xw_Sd (pc := 18) (na := 2) (rest := []) (st' := [bV (decide ((p1 - 1) % n1 = 0))]) C (m_X0_divides n1 (p1 - 1) (by omega) (by omega) (by omega)) gX0_ring_X0_divides rfl rfl rfl rfl (by decide +kernel) ⟨Nat.le_of_ble_eq_true rfl, Nat.le_of_ble_eq_true rfl⟩ rfl (Nat.le_of_ble_eq_true rfl) dX0_ring_18 ⟨Nat.le_of_ble_eq_true rfl, Nat.le_of_ble_eq_true rfl⟩ rfl ?_
  refine xw_if_ne_B (pc := 21) (tgt := 34) C dX0_ring_21 (by decide)  (fun c_3 => ?_) (fun c_3 => (by exact absurd (of_decide_eq_false c_3) (by omega)))
  refine xw_aload_n (pc := 34) C 0 dX0_ring_34 rfl ?_
  refine xw_iload_n (pc := 35) C 1 dX0_ring_35 rfl ?_
  refine xw_iload_n (pc := 36) C 2 dX0_ring_36 rfl ?_
  refine xw_Vd (pc := 37) (q0 := 0) (na := 2) (rest := []) (st' := []) C (m_X0_takeRing n1 p1 hn hp hp5) gX0_ring_X0_takeRing rfl rfl rfl rfl (by decide +kernel) ⟨Nat.le_of_ble_eq_true rfl, Nat.le_of_ble_eq_true rfl⟩ rfl rfl rfl (Nat.le_of_ble_eq_true rfl) dX0_ring_37 ⟨Nat.le_of_ble_eq_true rfl, Nat.le_of_ble_eq_true rfl⟩ rfl ?_
  refine xw_aload_n (pc := 40) C 0 dX0_ring_40 rfl ?_
  refine xw_get (pc := 41) (T := TX0) (N := 7) (ref := "ToneButterflies") C hin 0 4 rfl rfl (by decide) (by decide +kernel) rfl rfl dX0_ring_41 ?_
  exact xw_iret (pc := 44) C rX (Nat.le_refl _) (Nat.le_refl _) dX0_ring_44 (PD.i)
