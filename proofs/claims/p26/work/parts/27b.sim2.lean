set_option maxHeartbeats 4000000 in
set_option maxRecDepth 100000 in
theorem m_X1_others {l : Launch} {D : va_G} {cI cQ : ClassId} {u : va_W} {n : Nat} (hn16 : n ≤ 16) {R : Nat → Nat} (hR : ∀ j, R j < 500) {qa ra : Nat} (hra : u[qa]? = some (ra, .inl (cI, n, .inl (fN R)))) : CT l yX1_others wsX1_others (rmN 0 0) D vwCl [(cI, .int), (cQ, .array .int)] [.ref ra] (u) (PD (some (nV (otR R n))) (u)) 0 0 := by
  refine ct_of (plainFor_of_name (by decide)) rfl (Nat.le_of_ble_eq_true rfl) (fun φ C rX => ?_)
  refine xw_le (lv' := [(0, .ref ra)]) rfl ?_
  refine xw_iconst_N (pc := 0) C 0 dX1_others_0 rfl ?_
  refine xw_istore_n (pc := 1) (lv' := [(0, .ref ra), (1, nV 0)]) C [1, 0] dX1_others_1 rfl (by decide) rfl ?_
  refine xw_aload_n (pc := 2) C 0 dX1_others_2 rfl ?_
  refine xw_astore_n (pc := 3) (lv' := [(0, .ref ra), (1, nV 0), (2, .ref ra)]) C [1, 2, 0] dX1_others_3 rfl (by decide) rfl ?_
  refine xw_aload_n (pc := 4) C 2 dX1_others_4 rfl ?_
  refine xw_alen (pc := 5) C qa 0 hra rfl dX1_others_5 ?_
  refine xw_istore_n (pc := 6) (lv' := [(0, .ref ra), (1, nV 0), (2, .ref ra), (3, nV n)]) C [1, 2, 3, 0] dX1_others_6 rfl (by decide) rfl ?_
  refine xw_iconst_N (pc := 7) C 0 dX1_others_7 rfl ?_
  refine xw_istore (pc := 8) (lv' := [(0, .ref ra), (1, nV 0), (2, .ref ra), (3, nV n), (4, nV 0)]) C [1, 2, 3, 4, 0] dX1_others_8 (by decide) rfl ?_
  have L10 : ∀ (fuel : Nat) (k m : Nat), n < k + fuel → k ≤ n → m = otR R k → m ≤ k → xw φ 0 0 (u) 10 [(0, .ref ra), (1, nV m), (2, .ref ra), (3, nV n), (4, nV k)] [] := by
    intro fuel
    induction fuel with
    | zero =>
      intro k m hk hkn hm hml
      omega
    | succ fuel ih10 =>
      intro k m hk hkn hm hml
      have hb1 := hR k
      refine xw_iload (pc := 10) C 4 dX1_others_10 rfl ?_
      refine xw_iload_n (pc := 12) C 3 dX1_others_12 rfl ?_
      refine xw_icmp_ge_N (pc := 13) (tgt := 41) C dX1_others_13 (by decide) (by omega) (by omega) (fun c_1 => ?_) (fun c_1 => ?_)
      ·
        refine xw_iload_n (pc := 41) C 1 dX1_others_41 rfl ?_
        exact xw_iret (pc := 42) C rX (Nat.le_refl _) (Nat.le_refl _) dX1_others_42 (PD.e (by rw [hm, show k = n by omega]) rfl)
      ·
        refine xw_aload_n (pc := 16) C 2 dX1_others_16 rfl ?_
        refine xw_iload (pc := 17) C 4 dX1_others_17 rfl ?_
        refine xw_iald (pc := 19) C qa 0 k hra rfl (rfl) (by omega) (by omega) dX1_others_19 ?_
        refine xw_istore (pc := 20) (lv' := [(0, .ref ra), (1, nV m), (2, .ref ra), (3, nV n), (4, nV k), (5, nV (R k))]) C [1, 2, 3, 4, 5, 0] dX1_others_20 (by decide) rfl ?_
        refine xw_iload_n (pc := 22) C 1 dX1_others_22 rfl ?_
        refine xw_iload (pc := 23) C 5 dX1_others_23 rfl ?_
        refine xw_if_ne_N (pc := 25) (tgt := 32) C dX1_others_25 (by decide) (by omega) (fun c_2 => ?_) (fun c_2 => ?_)
        ·
          refine xw_iconst_N (pc := 32) C 1 dX1_others_32 rfl ?_
          refine xw_iadd_N (pc := 33) C dX1_others_33 ?_
          refine xw_istore_n (pc := 34) (lv' := [(0, .ref ra), (1, nV (m + 1)), (2, .ref ra), (3, nV n), (4, nV k), (5, nV (R k))]) C [1, 0, 2, 3, 4, 5] dX1_others_34 rfl (by decide) rfl ?_
          refine xw_iinc_N (pc := 35) (b := k + 1) (lv' := [(0, .ref ra), (1, nV (m + 1)), (2, .ref ra), (3, nV n), (4, nV (k + 1)), (5, nV (R k))]) C 4 [1, 2, 3, 4, 0, 5] dX1_others_35 rfl (by decide) rfl rfl ?_
          refine xw_goto (pc := 38) (tgt := 10) C dX1_others_38 (by decide) ?_
          refine xw_lv (lv' := [(0, .ref ra), (1, nV (m + 1)), (2, .ref ra), (3, nV n), (4, nV (k + 1))]) [0, 1, 2, 3, 4] rfl ?_
          exact ih10 (k + 1) _ (by omega) (by omega) (by rw [hm]; unfold otR; rw [cc_t (decide_eq_true c_2)]) (by omega)
        ·
          refine xw_iconst_N (pc := 28) C 0 dX1_others_28 rfl ?_
          refine xw_goto (pc := 29) (tgt := 33) C dX1_others_29 (by decide) ?_
          refine xw_iadd_N (pc := 33) C dX1_others_33 ?_
          refine xw_istore_n (pc := 34) (lv' := [(0, .ref ra), (1, nV (m + 0)), (2, .ref ra), (3, nV n), (4, nV k), (5, nV (R k))]) C [1, 0, 2, 3, 4, 5] dX1_others_34 rfl (by decide) rfl ?_
          refine xw_iinc_N (pc := 35) (b := k + 1) (lv' := [(0, .ref ra), (1, nV (m + 0)), (2, .ref ra), (3, nV n), (4, nV (k + 1)), (5, nV (R k))]) C 4 [1, 2, 3, 4, 0, 5] dX1_others_35 rfl (by decide) rfl rfl ?_
          refine xw_goto (pc := 38) (tgt := 10) C dX1_others_38 (by decide) ?_
          refine xw_lv (lv' := [(0, .ref ra), (1, nV (m + 0)), (2, .ref ra), (3, nV n), (4, nV (k + 1))]) [0, 1, 2, 3, 4] rfl ?_
          exact ih10 (k + 1) _ (by omega) (by omega) (by rw [hm, Nat.add_zero]; unfold otR; rw [cc_f (decide_eq_false (fun z => z c_2))]) (by omega)
  exact L10 (n + 1) 0 0 (by omega) (by omega) rfl (by omega)

set_option maxHeartbeats 4000000 in
set_option maxRecDepth 100000 in
theorem m_X1_unlike {l : Launch} {D : va_G} {cI cQ : ClassId} {u : va_W} {n : Nat} (hn16 : n ≤ 16) {R S : Nat → Nat} (hR : ∀ j, R j < 500) (hS : ∀ j, S j < 500) {qa ra : Nat} (hra : u[qa]? = some (ra, .inl (cI, n, .inl (fN R)))) {qb rb : Nat} (hrb : u[qb]? = some (rb, .inl (cI, n, .inl (fN S)))) : CT l yX1_unlike wsX1_unlike (rmN 0 0) D vwCl [(cI, .int), (cQ, .array .int)] [.ref ra, .ref rb] (u) (PD (some (nV (unR R S n))) (u)) 0 0 := by
  refine ct_of (plainFor_of_name (by decide)) rfl (Nat.le_of_ble_eq_true rfl) (fun φ C rX => ?_)
  refine xw_le (lv' := [(0, .ref ra), (1, .ref rb)]) rfl ?_
  refine xw_iconst_N (pc := 0) C 0 dX1_unlike_0 rfl ?_
  refine xw_istore_n (pc := 1) (lv' := [(0, .ref ra), (1, .ref rb), (2, nV 0)]) C [1, 2, 0] dX1_unlike_1 rfl (by decide) rfl ?_
  refine xw_iconst_N (pc := 2) C 0 dX1_unlike_2 rfl ?_
  refine xw_istore_n (pc := 3) (lv' := [(0, .ref ra), (1, .ref rb), (2, nV 0), (3, nV 0)]) C [1, 2, 3, 0] dX1_unlike_3 rfl (by decide) rfl ?_
  have L4 : ∀ (fuel : Nat) (k m : Nat), n < k + fuel → k ≤ n → m = unR R S k → m ≤ k → xw φ 0 0 (u) 4 [(0, .ref ra), (1, .ref rb), (2, nV m), (3, nV k)] [] := by
    intro fuel
    induction fuel with
    | zero =>
      intro k m hk hkn hm hml
      omega
    | succ fuel ih4 =>
      intro k m hk hkn hm hml
      have hb1 := hR k
      have hb2 := hS k
      refine xw_iload_n (pc := 4) C 3 dX1_unlike_4 rfl ?_
      refine xw_aload_n (pc := 5) C 0 dX1_unlike_5 rfl ?_
      refine xw_alen (pc := 6) C qa 0 hra rfl dX1_unlike_6 ?_
      refine xw_icmp_ge_N (pc := 7) (tgt := 33) C dX1_unlike_7 (by decide) (by omega) (by omega) (fun c_1 => ?_) (fun c_1 => ?_)
      ·
        refine xw_iload_n (pc := 33) C 2 dX1_unlike_33 rfl ?_
        exact xw_iret (pc := 34) C rX (Nat.le_refl _) (Nat.le_refl _) dX1_unlike_34 (PD.e (by rw [hm, show k = n by omega]) rfl)
      ·
        refine xw_iload_n (pc := 10) C 2 dX1_unlike_10 rfl ?_
        refine xw_aload_n (pc := 11) C 0 dX1_unlike_11 rfl ?_
        refine xw_iload_n (pc := 12) C 3 dX1_unlike_12 rfl ?_
        refine xw_iald (pc := 13) C qa 0 k hra rfl (rfl) (by omega) (by omega) dX1_unlike_13 ?_
        refine xw_aload_n (pc := 14) C 1 dX1_unlike_14 rfl ?_
        refine xw_iload_n (pc := 15) C 3 dX1_unlike_15 rfl ?_
        refine xw_iald (pc := 16) C qb 0 k hrb rfl (rfl) (by omega) (by omega) dX1_unlike_16 ?_
        refine xw_icmp_ne_N (pc := 17) (tgt := 24) C dX1_unlike_17 (by decide) (by omega) (by omega) (fun c_2 => ?_) (fun c_2 => ?_)
        ·
          refine xw_iconst_N (pc := 24) C 1 dX1_unlike_24 rfl ?_
          refine xw_iadd_N (pc := 25) C dX1_unlike_25 ?_
          refine xw_istore_n (pc := 26) (lv' := [(0, .ref ra), (1, .ref rb), (2, nV (m + 1)), (3, nV k)]) C [1, 2, 0, 3] dX1_unlike_26 rfl (by decide) rfl ?_
          refine xw_iinc_N (pc := 27) (b := k + 1) (lv' := [(0, .ref ra), (1, .ref rb), (2, nV (m + 1)), (3, nV (k + 1))]) C 3 [1, 2, 3, 0] dX1_unlike_27 rfl (by decide) rfl rfl ?_
          refine xw_goto (pc := 30) (tgt := 4) C dX1_unlike_30 (by decide) ?_
          exact ih4 (k + 1) _ (by omega) (by omega) (by rw [hm]; unfold unR; rw [cc_t (decide_eq_true c_2)]) (by omega)
        ·
          refine xw_iconst_N (pc := 20) C 0 dX1_unlike_20 rfl ?_
          refine xw_goto (pc := 21) (tgt := 25) C dX1_unlike_21 (by decide) ?_
          refine xw_iadd_N (pc := 25) C dX1_unlike_25 ?_
          refine xw_istore_n (pc := 26) (lv' := [(0, .ref ra), (1, .ref rb), (2, nV (m + 0)), (3, nV k)]) C [1, 2, 0, 3] dX1_unlike_26 rfl (by decide) rfl ?_
          refine xw_iinc_N (pc := 27) (b := k + 1) (lv' := [(0, .ref ra), (1, .ref rb), (2, nV (m + 0)), (3, nV (k + 1))]) C 3 [1, 2, 3, 0] dX1_unlike_27 rfl (by decide) rfl rfl ?_
          refine xw_goto (pc := 30) (tgt := 4) C dX1_unlike_30 (by decide) ?_
          exact ih4 (k + 1) _ (by omega) (by omega) (by rw [hm, Nat.add_zero]; unfold unR; rw [cc_f (decide_eq_false (fun z => z c_2))]) (by omega)
  exact L4 (n + 1) 0 0 (by omega) (by omega) rfl (by omega)

set_option maxHeartbeats 4000000 in
set_option maxRecDepth 100000 in
theorem m_X1_about {l : Launch} {D : va_G} {cI cQ : ClassId} {u : va_W} {h n p w rr qs : Nat} (hs : u[qs]? = some (h, .inr (1, [nV n, nV p, nV w, .ref rr]))) (hp : 1 < p) (hp5 : p < 500) (hn : n = 4 ∨ n = 8 ∨ n = 16) {R : Nat → Nat} (hR : ∀ j, R j < 500) {qa ra : Nat} (hra : u[qa]? = some (ra, .inl (cI, n, .inl (fN R)))) : CT l yX1_about wsX1_about { frames := 1, cells := 18, slots := 262, locals := 25 } D vwCl [(cI, .int), (cQ, .array .int)] [.ref h, .ref ra] (u) (fun v w1 => ∃ q, v = some (.ref q) ∧ w1 = u ++ [(q, .inl (cI, 6, .inl (iN (abR p n R))))]) 18 262 := by
  refine ct_of (plainFor_of_name (by decide)) rfl (Nat.le_of_ble_eq_true rfl) (fun φ C rX => ?_)
  have hin : ∀ w ∈ wsX10, w ∈ wsX1_about := by decide +kernel
  refine xw_le (lv' := [(0, .ref h), (1, .ref ra)]) rfl ?_
  have hn3 := lt3 hn
  have hp0 : 0 < p := by omega
  refine xw_iconst_N (pc := 0) C 0 dX1_about_0 rfl ?_
  refine xw_istore_n (pc := 1) (lv' := [(0, .ref h), (1, .ref ra), (2, nV 0)]) C [1, 2, 0] dX1_about_1 rfl (by decide) rfl ?_
  refine xw_iconst (pc := 2) C dX1_about_2 ?_
  refine xw_istore_n (pc := 3) (lv' := [(0, .ref h), (1, .ref ra), (2, nV 0), (3, iV (-1))]) C [1, 2, 3, 0] dX1_about_3 rfl (by decide) rfl ?_
  refine xw_iconst_N (pc := 4) C 0 dX1_about_4 rfl ?_
  refine xw_istore (pc := 5) (lv' := [(0, .ref h), (1, .ref ra), (2, nV 0), (3, iV (-1)), (4, nV 0)]) C [1, 2, 3, 4, 0] dX1_about_5 (by decide) rfl ?_
  refine xw_iconst_N (pc := 7) C 0 dX1_about_7 rfl ?_
  refine xw_istore (pc := 8) (lv' := [(0, .ref h), (1, .ref ra), (2, nV 0), (3, iV (-1)), (4, nV 0), (5, nV 0)]) C [1, 2, 3, 4, 5, 0] dX1_about_8 (by decide) rfl ?_
  have L10 : ∀ (fuel : Nat) (k s m : Nat) (lz : Int), n < k + fuel → k ≤ n → s = smR R k → m = grR R k → lz = lnR R k → xw φ 0 0 (u) 10 [(0, .ref h), (1, .ref ra), (2, nV s), (3, iV lz), (4, nV m), (5, nV k)] [] := by
    intro fuel
    induction fuel with
    | zero =>
      intro k s m lz hk hkn hs1 hm hl
      omega
    | succ fuel ih10 =>
      intro k s m lz hk hkn hs1 hm hl
      have hb1 := hR k
      have hb2 : m < 500 := by rw [hm]; exact grR_lt hR k
      have hb3 : s ≤ 499 * k := by rw [hs1]; exact smR_le hR k
      refine xw_iload (pc := 10) C 5 dX1_about_10 rfl ?_
      refine xw_aload_n (pc := 12) C 0 dX1_about_12 rfl ?_
      refine xw_get (pc := 13) (T := TX1) (N := 4) (ref := "ToneButterfliesLaw$Sim") C hin qs 0 hs rfl (by decide) (by decide +kernel) rfl rfl dX1_about_13 ?_
      refine xw_icmp_ge_N (pc := 16) (tgt := 53) C dX1_about_16 (by decide) (by omega) (by omega) (fun c_1 => ?_) (fun c_1 => ?_)
      ·
        have hkk : n = k := by omega
        subst hkk
        refine xw_iconst_N (pc := 53) C 1 dX1_about_53 rfl ?_
        refine xw_istore (pc := 54) (lv' := [(0, .ref h), (1, .ref ra), (2, nV s), (3, iV lz), (4, nV m), (5, nV 1)]) C [1, 2, 3, 4, 5, 0] dX1_about_54 (by decide) rfl ?_
        have L56 : ∀ (fuel : Nat) (y : Nat), n < y + fuel → 1 ≤ y ∧ y ≤ n → fs (fun q => decide (unR (mk (fun _ => 0) (mvR n q R) n) R n = 0)) (n - 1 - (y - 1)) y = peR n R → xw φ (y - 1) (16 * (y - 1)) (u) 56 [(0, .ref h), (1, .ref ra), (2, nV s), (3, iV lz), (4, nV m), (5, nV y)] [] := by
          intro fuel
          induction fuel with
          | zero =>
            intro y hy hy1 hfs
            omega
          | succ fuel ih56 =>
            intro y hy hy1 hfs
            have hMl : ∀ j, mk (fun _ => 0) (mvR n y R) n j < 500 := mk_lt (fun _ => by omega) (fun j _ => hR _)
            have hul := cc_le (fun k => decide (mk (fun _ => 0) (mvR n y R) n k ≠ R k)) n
            have hull : unR (mk (fun _ => 0) (mvR n y R) n) R n ≤ n := hul
            refine xw_aload_n (pc := 56) C 0 dX1_about_56 rfl ?_
            refine xw_aload_n (pc := 57) C 1 dX1_about_57 rfl ?_
            refine xw_iload (pc := 58) C 5 dX1_about_58 rfl ?_
            refine xw_V (pc := 60) (q0 := qs) (na := 2) (rest := []) C (m_X1_moved hs hp hp5 hn hra y (by omega)) gX1_about_X1_moved rfl rfl rfl rfl (by decide +kernel) ⟨(Nat.le_of_ble_eq_true rfl), (Nat.le_of_ble_eq_true rfl)⟩ hs rfl rfl (Nat.le_of_ble_eq_true rfl) dX1_about_60 ⟨by show y - 1 + 1 ≤ 18; omega, by show 16 * (y - 1) + 16 ≤ 262; omega⟩ (fun v1 w1 hp1 => ?_)
            obtain ⟨q_2, rfl, rfl⟩ := hp1
            refine xw_st (st' := [.ref q_2]) rfl ?_
            refine xw_aload_n (pc := 63) C 1 dX1_about_63 rfl ?_
            refine xw_Sd (pc := 64) (na := 2) (rest := []) (st' := [nV (unR (mk (fun _ => 0) (mvR n y R) n) R n)]) C (m_X1_unlike (by omega) hMl hR gl_new (gl_old hra)) gX1_about_X1_unlike rfl rfl rfl rfl (by decide +kernel) ⟨(Nat.le_of_ble_eq_true rfl), (Nat.le_of_ble_eq_true rfl)⟩ rfl (Nat.le_of_ble_eq_true rfl) dX1_about_64 ⟨by show y - 1 + 1 ≤ 18; omega, by show 16 * (y - 1) + 16 ≤ 262; omega⟩ rfl ?_
            refine xw_if_le_N (pc := 67) (tgt := 76) C dX1_about_67 (by decide) (by omega) (fun c_3 => ?_) (fun c_3 => ?_)
            ·
              refine xw_drop ?_
              have hye : y = peR n R := by
                rw [← hfs]
                rcases Nat.lt_or_ge y n with z | z
                · rw [show n - 1 - (y - 1) = (n - 1 - y) + 1 by omega, fs_t (decide_eq_true (by omega))]
                · rw [show n - 1 - (y - 1) = 0 by omega]; rfl
              refine xw_bipush_N (pc := 76) C 6 dX1_about_76 (by decide) ?_
              refine xw_newI (pc := 78) C 0 rfl (by decide +kernel) (by show 6 * 4 ≤ 536870912; omega) (by show y - 1 + 1 + 1 ≤ 18; omega) (by show 16 * (y - 1) + 16 + 6 ≤ 262; omega) dX1_about_78 (fun q_4 => ?_)
              refine xw_wd (k' := 18) (n' := 262) (by omega) (by omega) ?_
              refine xw_wo (w' := u ++ [(q_4, .inl (cI, 6, .inl (iN (fun _ => 0))))]) rfl ?_
              refine xw_dup (pc := 80) C dX1_about_80 rfl ?_
              refine xw_iconst_N (pc := 81) C 0 dX1_about_81 rfl ?_
              refine xw_iload_n (pc := 82) C 2 dX1_about_82 rfl ?_
              refine xw_aload_n (pc := 83) C 0 dX1_about_83 rfl ?_
              refine xw_get (pc := 84) (T := TX1) (N := 4) (ref := "ToneButterfliesLaw$Sim") C hin qs 1 (gl_old hs) rfl (by decide) (by decide +kernel) rfl rfl dX1_about_84 ?_
              refine xw_irem_N (pc := 87) C dX1_about_87 (by omega) (by omega) ?_
              refine xw_iastZ (pc := 88) (w' := u ++ [(q_4, .inl (cI, 6, .inl (iN (va_up (fun _ => 0) 0 (((s % p : Nat) : Int))))))]) C u.length 0 0 gl_new rfl (rfl) (by omega) (by omega) gl_set dX1_about_88 ?_
              refine xw_dup (pc := 89) C dX1_about_89 rfl ?_
              refine xw_iconst_N (pc := 90) C 1 dX1_about_90 rfl ?_
              refine xw_aload_n (pc := 91) C 1 dX1_about_91 rfl ?_
              refine xw_Sd (pc := 92) (na := 1) (rest := [nV 1, .ref q_4, .ref q_4]) (st' := [nV (otR R n), nV 1, .ref q_4, .ref q_4]) C (m_X1_others (by omega) hR (gl_old hra)) gX1_about_X1_others rfl rfl rfl rfl (by decide +kernel) ⟨(Nat.le_of_ble_eq_true rfl), (Nat.le_of_ble_eq_true rfl)⟩ rfl (Nat.le_of_ble_eq_true rfl) dX1_about_92 ⟨(Nat.le_of_ble_eq_true rfl), (Nat.le_of_ble_eq_true rfl)⟩ rfl ?_
              refine xw_iastZ (pc := 95) (w' := u ++ [(q_4, .inl (cI, 6, .inl (iN (va_up (va_up (fun _ => 0) 0 (((s % p : Nat) : Int))) 1 (((otR R n : Nat) : Int))))))]) C u.length 0 1 gl_new rfl (rfl) (by omega) (by omega) gl_set dX1_about_95 ?_
              refine xw_dup (pc := 96) C dX1_about_96 rfl ?_
              refine xw_iconst_N (pc := 97) C 2 dX1_about_97 rfl ?_
              refine xw_iload_n (pc := 98) C 3 dX1_about_98 rfl ?_
              refine xw_iastZ (pc := 99) (w' := u ++ [(q_4, .inl (cI, 6, .inl (iN (va_up (va_up (va_up (fun _ => 0) 0 (((s % p : Nat) : Int))) 1 (((otR R n : Nat) : Int))) 2 lz))))]) C u.length 0 2 gl_new rfl (rfl) (by omega) (by omega) gl_set dX1_about_99 ?_
              refine xw_dup (pc := 100) C dX1_about_100 rfl ?_
              refine xw_iconst_N (pc := 101) C 3 dX1_about_101 rfl ?_
              refine xw_iload (pc := 102) C 5 dX1_about_102 rfl ?_
              refine xw_iastZ (pc := 104) (w' := u ++ [(q_4, .inl (cI, 6, .inl (iN (va_up (va_up (va_up (va_up (fun _ => 0) 0 (((s % p : Nat) : Int))) 1 (((otR R n : Nat) : Int))) 2 lz) 3 (((y : Nat) : Int))))))]) C u.length 0 3 gl_new rfl (rfl) (by omega) (by omega) gl_set dX1_about_104 ?_
              refine xw_dup (pc := 105) C dX1_about_105 rfl ?_
              refine xw_iconst_N (pc := 106) C 4 dX1_about_106 rfl ?_
              refine xw_iload (pc := 107) C 4 dX1_about_107 rfl ?_
              refine xw_iastZ (pc := 109) (w' := u ++ [(q_4, .inl (cI, 6, .inl (iN (va_up (va_up (va_up (va_up (va_up (fun _ => 0) 0 (((s % p : Nat) : Int))) 1 (((otR R n : Nat) : Int))) 2 lz) 3 (((y : Nat) : Int))) 4 (((m : Nat) : Int))))))]) C u.length 0 4 gl_new rfl (rfl) (by omega) (by omega) gl_set dX1_about_109 ?_
              refine xw_dup (pc := 110) C dX1_about_110 rfl ?_
              refine xw_iconst_N (pc := 111) C 5 dX1_about_111 rfl ?_
              refine xw_iload_n (pc := 112) C 2 dX1_about_112 rfl ?_
              refine xw_iastZ (pc := 113) (w' := u ++ [(q_4, .inl (cI, 6, .inl (iN (va_up (va_up (va_up (va_up (va_up (va_up (fun _ => 0) 0 (((s % p : Nat) : Int))) 1 (((otR R n : Nat) : Int))) 2 lz) 3 (((y : Nat) : Int))) 4 (((m : Nat) : Int))) 5 (((s : Nat) : Int))))))]) C u.length 0 5 gl_new rfl (rfl) (by omega) (by omega) gl_set dX1_about_113 ?_
              exact xw_aret (pc := 114) C rX (Or.inr ⟨_, rfl⟩) (Nat.le_refl _) (Nat.le_refl _) dX1_about_114 (⟨_, rfl, by rw [hye, hs1, hm, hl]; rfl⟩)
            ·
              refine xw_drop ?_
              have hyl : y < n := by
                rcases Nat.lt_or_ge y n with z | z
                · exact z
                · have e : y = n := by omega
                  rw [e, unR_n] at c_3; omega
              refine xw_iinc_N (pc := 70) (b := y + 1) (lv' := [(0, .ref h), (1, .ref ra), (2, nV s), (3, iV lz), (4, nV m), (5, nV (y + 1))]) C 5 [1, 2, 3, 4, 5, 0] dX1_about_70 rfl (by decide) rfl rfl ?_
              refine xw_goto (pc := 73) (tgt := 56) C dX1_about_73 (by decide) ?_
              refine xw_wd (k' := (y + 1) - 1) (n' := 16 * ((y + 1) - 1)) (by omega) (by omega) ?_
              exact ih56 (y + 1) (by omega) (by omega) (by rw [← hfs, show n - 1 - (y - 1) = (n - 1 - (y + 1 - 1)) + 1 by omega, fs_f (decide_eq_false (by omega))])
        refine xw_wd (k' := 1 - 1) (n' := 16 * (1 - 1)) (by omega) (by omega) ?_
        exact L56 n 1 (by omega) (by omega) rfl
      ·
        refine xw_iload_n (pc := 19) C 2 dX1_about_19 rfl ?_
        refine xw_aload_n (pc := 20) C 1 dX1_about_20 rfl ?_
        refine xw_iload (pc := 21) C 5 dX1_about_21 rfl ?_
        refine xw_iald (pc := 23) C qa 0 k hra rfl (rfl) (by omega) (by omega) dX1_about_23 ?_
        refine xw_iadd_N (pc := 24) C dX1_about_24 ?_
        refine xw_istore_n (pc := 25) (lv' := [(0, .ref h), (1, .ref ra), (2, nV (s + (R k))), (3, iV lz), (4, nV m), (5, nV k)]) C [1, 2, 0, 3, 4, 5] dX1_about_25 rfl (by decide) rfl ?_
        refine xw_aload_n (pc := 26) C 1 dX1_about_26 rfl ?_
        refine xw_iload (pc := 27) C 5 dX1_about_27 rfl ?_
        refine xw_iald (pc := 29) C qa 0 k hra rfl (rfl) (by omega) (by omega) dX1_about_29 ?_
        refine xw_if_le_N (pc := 30) (tgt := 36) C dX1_about_30 (by decide) (by omega) (fun c_5 => ?_) (fun c_5 => ?_)
        ·
          refine xw_iload (pc := 36) C 4 dX1_about_36 rfl ?_
          refine xw_aload_n (pc := 38) C 1 dX1_about_38 rfl ?_
          refine xw_iload (pc := 39) C 5 dX1_about_39 rfl ?_
          refine xw_iald (pc := 41) C qa 0 k hra rfl (rfl) (by omega) (by omega) dX1_about_41 ?_
          refine xw_max (pc := 42) C (by decide +kernel) (by decide +kernel) (by decide +kernel) (by decide +kernel) (Nat.le_of_ble_eq_true rfl) (Nat.le_of_ble_eq_true rfl) (Nat.le_of_ble_eq_true rfl) (Nat.le_of_ble_eq_true rfl) (by omega) (by omega) dX1_about_42 ?_
          refine xw_istore (pc := 45) (lv' := [(0, .ref h), (1, .ref ra), (2, nV (s + (R k))), (3, iV lz), (4, nV (if m < R k then R k else m)), (5, nV k)]) C [1, 2, 3, 4, 0, 5] dX1_about_45 (by decide) rfl ?_
          refine xw_iinc_N (pc := 47) (b := k + 1) (lv' := [(0, .ref h), (1, .ref ra), (2, nV (s + (R k))), (3, iV lz), (4, nV (if m < R k then R k else m)), (5, nV (k + 1))]) C 5 [1, 2, 3, 4, 5, 0] dX1_about_47 rfl (by decide) rfl rfl ?_
          refine xw_goto (pc := 50) (tgt := 10) C dX1_about_50 (by decide) ?_
          exact ih10 (k + 1) _ _ _ (by omega) (by omega) (by rw [hs1]; rfl) (by rw [hm]; rfl) (by rw [lnR, if_pos (by omega), hl])
        ·
          refine xw_iload (pc := 33) C 5 dX1_about_33 rfl ?_
          refine xw_istore_n (pc := 35) (lv' := [(0, .ref h), (1, .ref ra), (2, nV (s + (R k))), (3, nV k), (4, nV m), (5, nV k)]) C [1, 2, 3, 0, 4, 5] dX1_about_35 rfl (by decide) rfl ?_
          refine xw_iload (pc := 36) C 4 dX1_about_36 rfl ?_
          refine xw_aload_n (pc := 38) C 1 dX1_about_38 rfl ?_
          refine xw_iload (pc := 39) C 5 dX1_about_39 rfl ?_
          refine xw_iald (pc := 41) C qa 0 k hra rfl (rfl) (by omega) (by omega) dX1_about_41 ?_
          refine xw_max (pc := 42) C (by decide +kernel) (by decide +kernel) (by decide +kernel) (by decide +kernel) (Nat.le_of_ble_eq_true rfl) (Nat.le_of_ble_eq_true rfl) (Nat.le_of_ble_eq_true rfl) (Nat.le_of_ble_eq_true rfl) (by omega) (by omega) dX1_about_42 ?_
          refine xw_istore (pc := 45) (lv' := [(0, .ref h), (1, .ref ra), (2, nV (s + (R k))), (3, nV k), (4, nV (if m < R k then R k else m)), (5, nV k)]) C [1, 2, 3, 4, 0, 5] dX1_about_45 (by decide) rfl ?_
          refine xw_iinc_N (pc := 47) (b := k + 1) (lv' := [(0, .ref h), (1, .ref ra), (2, nV (s + (R k))), (3, nV k), (4, nV (if m < R k then R k else m)), (5, nV (k + 1))]) C 5 [1, 2, 3, 4, 5, 0] dX1_about_47 rfl (by decide) rfl rfl ?_
          refine xw_goto (pc := 50) (tgt := 10) C dX1_about_50 (by decide) ?_
          exact ih10 (k + 1) _ _ _ (by omega) (by omega) (by rw [hs1]; rfl) (by rw [hm]; rfl) (by rw [lnR, if_neg (by omega)])
  exact L10 (n + 1) 0 0 0 (-1) (by omega) (by omega) rfl rfl rfl
