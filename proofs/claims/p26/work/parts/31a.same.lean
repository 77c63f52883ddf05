set_option maxHeartbeats 4000000 in
set_option maxRecDepth 100000 in
theorem m_X1_isSame {l : Launch} {D : va_G} {cI cQ : ClassId} {h a o rr n p : Nat} {g A : Nat → Nat} (hS : SI n p A) : CT l yX1_isSame wsX1_isSame { frames := 5, cells := 73, slots := 1054, locals := 113 } D vwCl [(cI, .int), (cQ, .array .int)] [.ref o, .ref h] (LV cI cQ h a o rr n p g A) (PD (some (bV true)) (LV cI cQ h a o rr n p g A)) 73 1054 := by
  refine ct_of (plainFor_of_name (by decide)) rfl (Nat.le_of_ble_eq_true rfl) (fun φ C rX => ?_)
  have hin : ∀ w ∈ wsX10, w ∈ wsX1_isSame := by decide +kernel
  refine xw_le (lv' := [(0, .ref o), (1, .ref h)]) rfl ?_
  obtain ⟨hrg, hA, hAp⟩ := hS
  obtain ⟨hn, hp4, hp5, hp1, hp0, hn16, hnp, hr1, hrl, hfer⟩ := rgs_o hrg
  have hn3 := lt3 hn
  have J26_1 : xw φ 0 0 (LW cI cQ o rr n p (rt n p) g A [] (WX cI h a n p A)) 26 [(0, .ref o), (1, .ref h)] [nV (bt n)] := by
    refine xw_istore_n (pc := 26) (lv' := [(0, .ref o), (1, .ref h), (2, nV (bt n))]) C [1, 2, 0] dX1_isSame_26 rfl (by decide) rfl ?_
    refine xw_bipush_N (pc := 27) C 6 dX1_isSame_27 (by decide) ?_
    refine xw_newI (pc := 29) C 0 rfl (by decide +kernel) (by show 6 * 4 ≤ 536870912; omega) (by show 0 + 1 ≤ 73; omega) (by show 0 + 6 ≤ 1054; omega) dX1_isSame_29 (fun q_2 => ?_)
    refine xw_wd (k' := 1) (n' := 6) (by omega) (by omega) ?_
    refine xw_dup (pc := 31) C dX1_isSame_31 rfl ?_
    refine xw_iconst_N (pc := 32) C 0 dX1_isSame_32 rfl ?_
    refine xw_aload_n (pc := 33) C 0 dX1_isSame_33 rfl ?_
    refine xw_get (pc := 34) (T := TX1) (N := 4) (ref := "ToneButterfliesLaw$Sim") C hin 0 0 (gl_old LW_o) rfl (by decide) (by decide +kernel) rfl rfl dX1_isSame_34 ?_
    refine xw_iast (pc := 37) (w' := LW cI cQ o rr n p (rt n p) g A [] (WX cI h a n p A) ++ [(q_2, .inl (cI, 6, .inl (fN (va_up (fun _ => 0) 0 n))))]) C (LW cI cQ o rr n p (rt n p) g A [] (WX cI h a n p A)).length 0 0 n gl_new rfl rfl rfl (by omega) (by omega) gl_set dX1_isSame_37 ?_
    refine xw_dup (pc := 38) C dX1_isSame_38 rfl ?_
    refine xw_iconst_N (pc := 39) C 1 dX1_isSame_39 rfl ?_
    refine xw_aload_n (pc := 40) C 0 dX1_isSame_40 rfl ?_
    refine xw_get (pc := 41) (T := TX1) (N := 4) (ref := "ToneButterfliesLaw$Sim") C hin 0 1 (gl_old LW_o) rfl (by decide) (by decide +kernel) rfl rfl dX1_isSame_41 ?_
    refine xw_iast (pc := 44) (w' := LW cI cQ o rr n p (rt n p) g A [] (WX cI h a n p A) ++ [(q_2, .inl (cI, 6, .inl (fN (va_up (va_up (fun _ => 0) 0 n) 1 p))))]) C (LW cI cQ o rr n p (rt n p) g A [] (WX cI h a n p A)).length 0 1 p gl_new rfl rfl rfl (by omega) (by omega) gl_set dX1_isSame_44 ?_
    refine xw_dup (pc := 45) C dX1_isSame_45 rfl ?_
    refine xw_iconst_N (pc := 46) C 2 dX1_isSame_46 rfl ?_
    refine xw_aload_n (pc := 47) C 0 dX1_isSame_47 rfl ?_
    refine xw_get (pc := 48) (T := TX1) (N := 4) (ref := "ToneButterfliesLaw$Sim") C hin 0 2 (gl_old LW_o) rfl (by decide) (by decide +kernel) rfl rfl dX1_isSame_48 ?_
    refine xw_iast (pc := 51) (w' := LW cI cQ o rr n p (rt n p) g A [] (WX cI h a n p A) ++ [(q_2, .inl (cI, 6, .inl (fN (va_up (va_up (va_up (fun _ => 0) 0 n) 1 p) 2 (rt n p)))))]) C (LW cI cQ o rr n p (rt n p) g A [] (WX cI h a n p A)).length 0 2 (rt n p) gl_new rfl rfl rfl (by omega) (by omega) gl_set dX1_isSame_51 ?_
    refine xw_dup (pc := 52) C dX1_isSame_52 rfl ?_
    refine xw_iconst_N (pc := 53) C 3 dX1_isSame_53 rfl ?_
    refine xw_aload_n (pc := 54) C 0 dX1_isSame_54 rfl ?_
    refine xw_aload_n (pc := 55) C 0 dX1_isSame_55 rfl ?_
    refine xw_get (pc := 56) (T := TX1) (N := 4) (ref := "ToneButterfliesLaw$Sim") C hin 0 2 (gl_old LW_o) rfl (by decide) (by decide +kernel) rfl rfl dX1_isSame_56 ?_
    refine xw_Vd (pc := 59) (q0 := 0) (na := 1) (rest := [nV 3, .ref q_2, .ref q_2]) (st' := [nV ((rt n p) ^ (p - 2) % p), nV 3, .ref q_2, .ref q_2]) C (m_X1_inverse (gl_old LW_o) hp1 hp5 (rt n p) (by omega) (by omega) (hfer _ (by omega) (by omega))) gX1_isSame_X1_inverse rfl rfl rfl rfl (by decide +kernel) ⟨(Nat.le_of_ble_eq_true rfl), (Nat.le_of_ble_eq_true rfl)⟩ (gl_old LW_o) rfl rfl (Nat.le_of_ble_eq_true rfl) dX1_isSame_59 ⟨by show 1 + 0 ≤ 73; omega, by show 6 + 0 ≤ 1054; omega⟩ rfl ?_
    refine xw_iast (pc := 62) (w' := LW cI cQ o rr n p (rt n p) g A [] (WX cI h a n p A) ++ [(q_2, .inl (cI, 6, .inl (fN (va_up (va_up (va_up (va_up (fun _ => 0) 0 n) 1 p) 2 (rt n p)) 3 ((rt n p) ^ (p - 2) % p)))))]) C (LW cI cQ o rr n p (rt n p) g A [] (WX cI h a n p A)).length 0 3 ((rt n p) ^ (p - 2) % p) gl_new rfl rfl rfl (by omega) (by omega) gl_set dX1_isSame_62 ?_
    refine xw_dup (pc := 63) C dX1_isSame_63 rfl ?_
    refine xw_iconst_N (pc := 64) C 4 dX1_isSame_64 rfl ?_
    refine xw_aload_n (pc := 65) C 0 dX1_isSame_65 rfl ?_
    refine xw_aload_n (pc := 66) C 0 dX1_isSame_66 rfl ?_
    refine xw_get (pc := 67) (T := TX1) (N := 4) (ref := "ToneButterfliesLaw$Sim") C hin 0 0 (gl_old LW_o) rfl (by decide) (by decide +kernel) rfl rfl dX1_isSame_67 ?_
    refine xw_Vd (pc := 70) (q0 := 0) (na := 1) (rest := [nV 4, .ref q_2, .ref q_2]) (st' := [nV (n ^ (p - 2) % p), nV 4, .ref q_2, .ref q_2]) C (m_X1_inverse (gl_old LW_o) hp1 hp5 n (by omega) (by omega) (hfer _ (by omega) (by omega))) gX1_isSame_X1_inverse rfl rfl rfl rfl (by decide +kernel) ⟨(Nat.le_of_ble_eq_true rfl), (Nat.le_of_ble_eq_true rfl)⟩ (gl_old LW_o) rfl rfl (Nat.le_of_ble_eq_true rfl) dX1_isSame_70 ⟨by show 1 + 0 ≤ 73; omega, by show 6 + 0 ≤ 1054; omega⟩ rfl ?_
    refine xw_iast (pc := 73) (w' := LW cI cQ o rr n p (rt n p) g A [] (WX cI h a n p A) ++ [(q_2, .inl (cI, 6, .inl (fN (va_up (va_up (va_up (va_up (va_up (fun _ => 0) 0 n) 1 p) 2 (rt n p)) 3 ((rt n p) ^ (p - 2) % p)) 4 (n ^ (p - 2) % p)))))]) C (LW cI cQ o rr n p (rt n p) g A [] (WX cI h a n p A)).length 0 4 (n ^ (p - 2) % p) gl_new rfl rfl rfl (by omega) (by omega) gl_set dX1_isSame_73 ?_
    refine xw_dup (pc := 74) C dX1_isSame_74 rfl ?_
    refine xw_iconst_N (pc := 75) C 5 dX1_isSame_75 rfl ?_
    refine xw_iload_n (pc := 76) C 2 dX1_isSame_76 rfl ?_
    refine xw_iast (pc := 77) (w' := LW cI cQ o rr n p (rt n p) g A [] (WX cI h a n p A) ++ [(q_2, .inl (cI, 6, .inl (fN (va_up (va_up (va_up (va_up (va_up (va_up (fun _ => 0) 0 n) 1 p) 2 (rt n p)) 3 ((rt n p) ^ (p - 2) % p)) 4 (n ^ (p - 2) % p)) 5 (bt n)))))]) C (LW cI cQ o rr n p (rt n p) g A [] (WX cI h a n p A)).length 0 5 (bt n) gl_new rfl rfl rfl (by omega) (by omega) gl_set dX1_isSame_77 ?_
    refine xw_astore_n (pc := 78) (lv' := [(0, .ref o), (1, .ref h), (2, nV (bt n)), (3, .ref q_2)]) C [1, 2, 3, 0] dX1_isSame_78 rfl (by decide) rfl ?_
    refine xw_sub (w' := LW cI cQ o rr n p (rt n p) g A [(q_2, .inl (cI, 6, .inl (fN (va_up (va_up (va_up (va_up (va_up (va_up (fun _ => 0) 0 n) 1 p) 2 (rt n p)) 3 ((rt n p) ^ (p - 2) % p)) 4 (n ^ (p - 2) % p)) 5 (bt n)))))] (WX cI h a n p A)) [0, 1, 2, 3, 4, 5, 8, 6, 7] rfl rfl rfl ?_
    refine xw_iconst_N (pc := 79) C 0 dX1_isSame_79 rfl ?_
    refine xw_istore (pc := 80) (lv' := [(0, .ref o), (1, .ref h), (2, nV (bt n)), (3, .ref q_2), (4, nV 0)]) C [1, 2, 3, 4, 0] dX1_isSame_80 (by decide) rfl ?_
    have L82 : ∀ (fuel : Nat) (k : Nat), 6 < k + fuel → k ≤ 6 → xw φ 1 6 (LW cI cQ o rr n p (rt n p) g A [(q_2, .inl (cI, 6, .inl (fN (va_up (va_up (va_up (va_up (va_up (va_up (fun _ => 0) 0 n) 1 p) 2 (rt n p)) 3 ((rt n p) ^ (p - 2) % p)) 4 (n ^ (p - 2) % p)) 5 (bt n)))))] (WX cI h a n p A)) 82 [(0, .ref o), (1, .ref h), (2, nV (bt n)), (3, .ref q_2), (4, nV k)] [] := by
      intro fuel
      induction fuel with
      | zero =>
        intro k hk hk6
        omega
      | succ fuel ih82 =>
        intro k hk hk6
        have hce := fun hk => ctA_e (n := n) (p := p) (b := bt n) (w := rt n p) (wi := rt n p ^ (p - 2) % p) (ni := n ^ (p - 2) % p) (k := k) hk
        have hcl : k < 6 → ct n p (bt n) (rt n p) (rt n p ^ (p - 2) % p) (n ^ (p - 2) % p) k < 500 := ct_lt (by omega) hp5 (by have := bt_le n; omega) (by omega) (ml hp0 hp5) (ml hp0 hp5)
        refine xw_iload (pc := 82) C 4 dX1_isSame_82 rfl ?_
        refine xw_bipush_N (pc := 84) C 6 dX1_isSame_84 (by decide) ?_
        refine xw_icmp_ge_N (pc := 86) (tgt := 110) C dX1_isSame_86 (by decide) (by omega) (by omega) (fun c_3 => ?_) (fun c_3 => ?_)
        ·
          refine xw_iconst_N (pc := 110) C 0 dX1_isSame_110 rfl ?_
          refine xw_istore (pc := 111) (lv' := [(0, .ref o), (1, .ref h), (2, nV (bt n)), (3, .ref q_2), (4, nV 0)]) C [1, 2, 3, 4, 0] dX1_isSame_111 (by decide) rfl ?_
          have L113 : ∀ (fuel : Nat) (r : Nat), 4 < r + fuel → r ≤ 4 → xw φ (1 + 18 * r) (6 + 262 * r) (LW cI cQ o rr n p (rt n p) g A [(q_2, .inl (cI, 6, .inl (fN (va_up (va_up (va_up (va_up (va_up (va_up (fun _ => 0) 0 n) 1 p) 2 (rt n p)) 3 ((rt n p) ^ (p - 2) % p)) 4 (n ^ (p - 2) % p)) 5 (bt n)))))] (WX cI h a n p A)) 113 [(0, .ref o), (1, .ref h), (2, nV (bt n)), (3, .ref q_2), (4, nV r)] [] := by
            intro fuel
            induction fuel with
            | zero =>
              intro r hr hr4
              omega
            | succ fuel ih113 =>
              intro r hr hr4
              refine xw_iload (pc := 113) C 4 dX1_isSame_113 rfl ?_
              refine xw_iconst_N (pc := 115) C 4 dX1_isSame_115 rfl ?_
              refine xw_icmp_ge_N (pc := 116) (tgt := 235) C dX1_isSame_116 (by decide) (by omega) (by omega) (fun c_4 => ?_) (fun c_4 => ?_)
              ·
                refine xw_sub (w' := LW cI cQ o rr n p (rt n p) g A [] (WX cI h a n p A)) [0, 1, 2, 3, 4, 5, 7, 8] rfl rfl rfl ?_
                refine xw_iconst_N (pc := 235) C 1 dX1_isSame_235 rfl ?_
                refine xw_st (st' := [bV true]) rfl ?_
                exact xw_bret (pc := 236) C rX (by omega) (by omega) dX1_isSame_236 (PD.i)
              ·
                refine xw_iconst_N (pc := 119) C 0 dX1_isSame_119 rfl ?_
                refine xw_istore (pc := 120) (lv' := [(0, .ref o), (1, .ref h), (2, nV (bt n)), (3, .ref q_2), (4, nV r), (5, nV 0)]) C [1, 2, 3, 4, 5, 0] dX1_isSame_120 (by decide) rfl ?_
                have L122 : ∀ (fuel : Nat) (k : Nat), n < k + fuel → k ≤ n → xw φ (1 + 18 * r) (6 + 262 * r) (LW cI cQ o rr n p (rt n p) g A [(q_2, .inl (cI, 6, .inl (fN (va_up (va_up (va_up (va_up (va_up (va_up (fun _ => 0) 0 n) 1 p) 2 (rt n p)) 3 ((rt n p) ^ (p - 2) % p)) 4 (n ^ (p - 2) % p)) 5 (bt n)))))] (WX cI h a n p A)) 122 [(0, .ref o), (1, .ref h), (2, nV (bt n)), (3, .ref q_2), (4, nV r), (5, nV k)] [] := by
                  intro fuel
                  induction fuel with
                  | zero =>
                    intro k hk hkn
                    omega
                  | succ fuel ih122 =>
                    intro k hk hkn
                    have hal := hA (16 * r + k)
                    refine xw_iload (pc := 122) C 5 dX1_isSame_122 rfl ?_
                    refine xw_aload_n (pc := 124) C 0 dX1_isSame_124 rfl ?_
                    refine xw_get (pc := 125) (T := TX1) (N := 4) (ref := "ToneButterfliesLaw$Sim") C hin 0 0 LW_o rfl (by decide) (by decide +kernel) rfl rfl dX1_isSame_125 ?_
                    refine xw_icmp_ge_N (pc := 128) (tgt := 160) C dX1_isSame_128 (by decide) (by omega) (by omega) (fun c_5 => ?_) (fun c_5 => ?_)
                    ·
                      refine xw_aload_n (pc := 160) C 0 dX1_isSame_160 rfl ?_
                      refine xw_aload_n (pc := 161) C 0 dX1_isSame_161 rfl ?_
                      refine xw_get (pc := 162) (T := TX1) (N := 4) (ref := "ToneButterfliesLaw$Sim") C hin 0 3 LW_o rfl (by decide) (by decide +kernel) rfl rfl dX1_isSame_162 ?_
                      refine xw_iload (pc := 165) C 4 dX1_isSame_165 rfl ?_
                      refine xw_aald (pc := 167) (r := g r) C 1 1 r LW_q rfl (by omega) (by decide) (if_pos (by omega)) dX1_isSame_167 ?_
                      refine xw_V (pc := 168) (q0 := 0) (na := 1) (rest := []) C (m_X1_about LW_o hp1 hp5 hn (fun j => hA _) (LW_r (by omega))) gX1_isSame_X1_about rfl rfl rfl rfl (by decide +kernel) ⟨(Nat.le_of_ble_eq_true rfl), (Nat.le_of_ble_eq_true rfl)⟩ LW_o rfl rfl (Nat.le_of_ble_eq_true rfl) dX1_isSame_168 ⟨by show 1 + 18 * r + 18 ≤ 73; omega, by show 6 + 262 * r + 262 ≤ 1054; omega⟩ (fun v1 w1 hp1 => ?_)
                      obtain ⟨q_6, rfl, rfl⟩ := hp1
                      refine xw_st (st' := [.ref q_6]) rfl ?_
                      refine xw_wd (k' := 1 + 18 * r + 18) (n' := 6 + 262 * r + 262) (by omega) (by omega) ?_
                      refine xw_astore (pc := 171) (lv' := [(0, .ref o), (1, .ref h), (2, nV (bt n)), (3, .ref q_2), (4, nV r), (5, .ref q_6)]) C [1, 2, 3, 4, 5, 0] dX1_isSame_171 (by decide) rfl ?_
                      refine xw_sub (w' := LW cI cQ o rr n p (rt n p) g A [(q_2, .inl (cI, 6, .inl (fN (va_up (va_up (va_up (va_up (va_up (va_up (fun _ => 0) 0 n) 1 p) 2 (rt n p)) 3 ((rt n p) ^ (p - 2) % p)) 4 (n ^ (p - 2) % p)) 5 (bt n))))), (q_6, .inl (cI, 6, .inl (iN (abR p n (fun k => A (16 * r + k))))))] (WX cI h a n p A)) [0, 1, 2, 3, 4, 5, 6, 9, 7, 8] rfl rfl rfl ?_
                      refine xw_iconst_N (pc := 173) C 0 dX1_isSame_173 rfl ?_
                      refine xw_istore (pc := 174) (lv' := [(0, .ref o), (1, .ref h), (2, nV (bt n)), (3, .ref q_2), (4, nV r), (5, .ref q_6), (6, nV 0)]) C [1, 2, 3, 4, 5, 6, 0] dX1_isSame_174 (by decide) rfl ?_
                      have L176 : ∀ (fuel : Nat) (k : Nat), 5 < k + fuel → k ≤ 5 → xw φ (1 + 18 * r + 18) (6 + 262 * r + 262) (LW cI cQ o rr n p (rt n p) g A [(q_2, .inl (cI, 6, .inl (fN (va_up (va_up (va_up (va_up (va_up (va_up (fun _ => 0) 0 n) 1 p) 2 (rt n p)) 3 ((rt n p) ^ (p - 2) % p)) 4 (n ^ (p - 2) % p)) 5 (bt n))))), (q_6, .inl (cI, 6, .inl (iN (abR p n (fun k => A (16 * r + k))))))] (WX cI h a n p A)) 176 [(0, .ref o), (1, .ref h), (2, nV (bt n)), (3, .ref q_2), (4, nV r), (5, .ref q_6), (6, nV k)] [] := by
                        intro fuel
                        induction fuel with
                        | zero =>
                          intro k hk hk5
                          omega
                        | succ fuel ih176 =>
                          intro k hk hk5
                          have htl : k < 5 → tl p n A r k = abR p n (fun k => A (16 * r + k)) k := fun h => tl_ab (by omega) h
                          have htr : -2147483648 ≤ tl p n A r k ∧ tl p n A r k < 2147483648 := tl_rg hp0 hp5 hn hA k
                          refine xw_iload (pc := 176) C 6 dX1_isSame_176 rfl ?_
                          refine xw_iconst_N (pc := 178) C 5 dX1_isSame_178 rfl ?_
                          refine xw_icmp_ge_N (pc := 179) (tgt := 206) C dX1_isSame_179 (by decide) (by omega) (by omega) (fun c_7 => ?_) (fun c_7 => ?_)
                          ·
                            have hsm : smR (fun k => A (16 * r + k)) n < 8000 := by
                              have := smR_le (R := (fun k => A (16 * r + k))) (fun j => hA _) n
                              omega
                            refine xw_aload_n (pc := 206) C 1 dX1_isSame_206 rfl ?_
                            refine xw_iload (pc := 207) C 4 dX1_isSame_207 rfl ?_
                            refine xw_VF (pc := 209) (q0 := 0) (na := 1) (rest := []) (wc := WX cI h a n p A) (wr := wS cI cQ o n p (rt n p) rr g A ++ [(q_2, .inl (cI, 6, .inl (fN (va_up (va_up (va_up (va_up (va_up (va_up (fun _ => 0) 0 n) 1 p) 2 (rt n p)) 3 ((rt n p) ^ (p - 2) % p)) 4 (n ^ (p - 2) % p)) 5 (bt n))))), (q_6, .inl (cI, 6, .inl (iN (abR p n (fun k => A (16 * r + k))))))]) C [8, 9] [0, 1, 2, 3, 4, 5, 6, 7] [0] (m_X0_mean hn hA r (by omega)) gX1_isSame_X0_mean rfl rfl rfl rfl (by decide +kernel) ⟨(Nat.le_of_ble_eq_true rfl), (Nat.le_of_ble_eq_true rfl)⟩ rfl rfl rfl ⟨rfl, rfl⟩ (by decide) rfl rfl rfl rfl (Nat.le_of_ble_eq_true rfl) dX1_isSame_209 ⟨by show 1 + 18 * r + 18 + 0 ≤ 73; omega, by show 6 + 262 * r + 262 + 0 ≤ 1054; omega⟩ (fun v1 w1 hp1 => ?_)
                            obtain ⟨rfl, rfl⟩ := hp1
                            refine xw_st (st' := [.double (dq (sm A r n) n)]) rfl ?_
                            refine xw_wo (w' := LW cI cQ o rr n p (rt n p) g A [(q_2, .inl (cI, 6, .inl (fN (va_up (va_up (va_up (va_up (va_up (va_up (fun _ => 0) 0 n) 1 p) 2 (rt n p)) 3 ((rt n p) ^ (p - 2) % p)) 4 (n ^ (p - 2) % p)) 5 (bt n))))), (q_6, .inl (cI, 6, .inl (iN (abR p n (fun k => A (16 * r + k))))))] (WX cI h a n p A)) rfl ?_
                            refine xw_aload (pc := 212) C 5 dX1_isSame_212 rfl ?_
                            refine xw_iconst_N (pc := 214) C 5 dX1_isSame_214 rfl ?_
                            refine xw_ialdZ (pc := 215) C 7 0 5 rfl rfl rfl (by omega) (by omega) dX1_isSame_215 ?_
                            refine xw_st (st' := [iV ((abR p n (fun k => A (16 * r + k))) 5), .double (dq (sm A r n) n)]) rfl ?_
                            refine xw_st (st' := [nV (smR (fun k => A (16 * r + k)) n), .double (dq (sm A r n) n)]) rfl ?_
                            refine xw_i2d (pc := 216) C dX1_isSame_216 ?_
                            refine xw_aload_n (pc := 217) C 0 dX1_isSame_217 rfl ?_
                            refine xw_get (pc := 218) (T := TX1) (N := 4) (ref := "ToneButterfliesLaw$Sim") C hin 0 0 LW_o rfl (by decide) (by decide +kernel) rfl rfl dX1_isSame_218 ?_
                            refine xw_i2d (pc := 221) C dX1_isSame_221 ?_
                            refine xw_ddiv (pc := 222) C dX1_isSame_222 (dq_n (s := smR (fun k => A (16 * r + k)) n) hsm hn) ?_
                            refine xw_dcmp (pc := 223) C dX1_isSame_223 (by rw [smR_e]; exact dq_e (s := smR (fun k => A (16 * r + k)) n) hsm hn) ?_
                            refine xw_if_eq_N (pc := 224) (tgt := 229) C dX1_isSame_224 (by decide) (by omega) (fun c_8 => ?_) (fun c_8 => (by omega))
                            refine xw_sub (w' := LW cI cQ o rr n p (rt n p) g A [(q_2, .inl (cI, 6, .inl (fN (va_up (va_up (va_up (va_up (va_up (va_up (fun _ => 0) 0 n) 1 p) 2 (rt n p)) 3 ((rt n p) ^ (p - 2) % p)) 4 (n ^ (p - 2) % p)) 5 (bt n)))))] (WX cI h a n p A)) [0, 1, 2, 3, 4, 5, 6, 8, 9] rfl rfl rfl ?_
                            refine xw_iinc_N (pc := 229) (b := r + 1) (lv' := [(0, .ref o), (1, .ref h), (2, nV (bt n)), (3, .ref q_2), (4, nV (r + 1)), (5, .ref q_6), (6, nV k)]) C 4 [1, 2, 3, 4, 0, 5, 6] dX1_isSame_229 rfl (by decide) rfl rfl ?_
                            refine xw_goto (pc := 232) (tgt := 113) C dX1_isSame_232 (by decide) ?_
                            refine xw_lv (lv' := [(0, .ref o), (1, .ref h), (2, nV (bt n)), (3, .ref q_2), (4, nV (r + 1))]) [0, 1, 2, 3, 4] rfl ?_
                            refine xw_wd (k' := 1 + 18 * (r + 1)) (n' := 6 + 262 * (r + 1)) (by omega) (by omega) ?_
                            exact ih113 (r + 1) (by omega) (by omega)
                          ·
                            refine xw_aload_n (pc := 182) C 1 dX1_isSame_182 rfl ?_
                            refine xw_iload (pc := 183) C 4 dX1_isSame_183 rfl ?_
                            refine xw_iload (pc := 185) C 6 dX1_isSame_185 rfl ?_
                            refine xw_VF (pc := 187) (q0 := 0) (na := 2) (rest := []) (wc := WX cI h a n p A) (wr := wS cI cQ o n p (rt n p) rr g A ++ [(q_2, .inl (cI, 6, .inl (fN (va_up (va_up (va_up (va_up (va_up (va_up (fun _ => 0) 0 n) 1 p) 2 (rt n p)) 3 ((rt n p) ^ (p - 2) % p)) 4 (n ^ (p - 2) % p)) 5 (bt n))))), (q_6, .inl (cI, 6, .inl (iN (abR p n (fun k => A (16 * r + k))))))]) C [8, 9] [0, 1, 2, 3, 4, 5, 6, 7] [0] (m_X0_about hp0 hp5 hn hA r (by omega) k (by omega)) gX1_isSame_X0_about rfl rfl rfl rfl (by decide +kernel) ⟨(Nat.le_of_ble_eq_true rfl), (Nat.le_of_ble_eq_true rfl)⟩ rfl rfl rfl ⟨rfl, rfl⟩ (by decide) rfl rfl rfl rfl (Nat.le_of_ble_eq_true rfl) dX1_isSame_187 ⟨by show 1 + 18 * r + 18 + 0 ≤ 73; omega, by show 6 + 262 * r + 262 + 0 ≤ 1054; omega⟩ (fun v1 w1 hp1 => ?_)
                            obtain ⟨rfl, rfl⟩ := hp1
                            refine xw_st (st' := [iV (tl p n A r k)]) rfl ?_
                            refine xw_wo (w' := LW cI cQ o rr n p (rt n p) g A [(q_2, .inl (cI, 6, .inl (fN (va_up (va_up (va_up (va_up (va_up (va_up (fun _ => 0) 0 n) 1 p) 2 (rt n p)) 3 ((rt n p) ^ (p - 2) % p)) 4 (n ^ (p - 2) % p)) 5 (bt n))))), (q_6, .inl (cI, 6, .inl (iN (abR p n (fun k => A (16 * r + k))))))] (WX cI h a n p A)) rfl ?_
                            refine xw_aload (pc := 190) C 5 dX1_isSame_190 rfl ?_
                            refine xw_iload (pc := 192) C 6 dX1_isSame_192 rfl ?_
                            refine xw_ialdZ (pc := 194) C 7 0 k rfl rfl rfl (by omega) (by omega) dX1_isSame_194 ?_
                            refine xw_st (st' := [iV ((abR p n (fun k => A (16 * r + k))) k), iV (tl p n A r k)]) rfl ?_
                            refine xw_icmp_eq (pc := 195) (tgt := 200) C dX1_isSame_195 (by decide) (htr) (by rw [← htl (by omega)]; exact htr) (fun c_9 => ?_) (fun c_9 => (by exact absurd (htl (by omega)) c_9))
                            refine xw_iinc_N (pc := 200) (b := k + 1) (lv' := [(0, .ref o), (1, .ref h), (2, nV (bt n)), (3, .ref q_2), (4, nV r), (5, .ref q_6), (6, nV (k + 1))]) C 6 [1, 2, 3, 4, 5, 6, 0] dX1_isSame_200 rfl (by decide) rfl rfl ?_
                            refine xw_goto (pc := 203) (tgt := 176) C dX1_isSame_203 (by decide) ?_
                            exact ih176 (k + 1) (by omega) (by omega)
                      exact L176 6 0 (by omega) (by omega)
                    ·
                      refine xw_aload_n (pc := 131) C 1 dX1_isSame_131 rfl ?_
                      refine xw_iload (pc := 132) C 4 dX1_isSame_132 rfl ?_
                      refine xw_iload (pc := 134) C 5 dX1_isSame_134 rfl ?_
                      refine xw_VF (pc := 136) (q0 := 0) (na := 2) (rest := []) (wc := WX cI h a n p A) (wr := wS cI cQ o n p (rt n p) rr g A ++ [(q_2, .inl (cI, 6, .inl (fN (va_up (va_up (va_up (va_up (va_up (va_up (fun _ => 0) 0 n) 1 p) 2 (rt n p)) 3 ((rt n p) ^ (p - 2) % p)) 4 (n ^ (p - 2) % p)) 5 (bt n)))))]) C [7, 8] [0, 1, 2, 3, 4, 5, 6] [0] (m_X0_at hn r (by omega) k (by omega)) gX1_isSame_X0_at rfl rfl rfl rfl (by decide +kernel) ⟨(Nat.le_of_ble_eq_true rfl), (Nat.le_of_ble_eq_true rfl)⟩ rfl rfl rfl ⟨rfl, rfl⟩ (by decide) rfl rfl rfl rfl (Nat.le_of_ble_eq_true rfl) dX1_isSame_136 ⟨by show 1 + 18 * r + 0 ≤ 73; omega, by show 6 + 262 * r + 0 ≤ 1054; omega⟩ (fun v1 w1 hp1 => ?_)
                      obtain ⟨rfl, rfl⟩ := hp1
                      refine xw_st (st' := [nV (A (16 * r + k))]) rfl ?_
                      refine xw_wo (w' := LW cI cQ o rr n p (rt n p) g A [(q_2, .inl (cI, 6, .inl (fN (va_up (va_up (va_up (va_up (va_up (va_up (fun _ => 0) 0 n) 1 p) 2 (rt n p)) 3 ((rt n p) ^ (p - 2) % p)) 4 (n ^ (p - 2) % p)) 5 (bt n)))))] (WX cI h a n p A)) rfl ?_
                      refine xw_aload_n (pc := 139) C 0 dX1_isSame_139 rfl ?_
                      refine xw_get (pc := 140) (T := TX1) (N := 4) (ref := "ToneButterfliesLaw$Sim") C hin 0 3 LW_o rfl (by decide) (by decide +kernel) rfl rfl dX1_isSame_140 ?_
                      refine xw_iload (pc := 143) C 4 dX1_isSame_143 rfl ?_
                      refine xw_aald (pc := 145) (r := g r) C 1 1 r LW_q rfl (by omega) (by decide) (if_pos (by omega)) dX1_isSame_145 ?_
                      refine xw_iload (pc := 146) C 5 dX1_isSame_146 rfl ?_
                      refine xw_iald (pc := 148) C (2 + r) 0 k (LW_r (by omega)) rfl rfl (by omega) (by omega) dX1_isSame_148 ?_
                      refine xw_st (st' := [nV (A (16 * r + k)), nV (A (16 * r + k))]) rfl ?_
                      refine xw_icmp_eq_N (pc := 149) (tgt := 154) C dX1_isSame_149 (by decide) (by omega) (by omega) (fun c_10 => ?_) (fun c_10 => (by exact absurd rfl c_10))
                      refine xw_iinc_N (pc := 154) (b := k + 1) (lv' := [(0, .ref o), (1, .ref h), (2, nV (bt n)), (3, .ref q_2), (4, nV r), (5, nV (k + 1))]) C 5 [1, 2, 3, 4, 5, 0] dX1_isSame_154 rfl (by decide) rfl rfl ?_
                      refine xw_goto (pc := 157) (tgt := 122) C dX1_isSame_157 (by decide) ?_
                      exact ih122 (k + 1) (by omega) (by omega)
                exact L122 (n + 1) 0 (by omega) (by omega)
          refine xw_wd (k' := 1 + 18 * 0) (n' := 6 + 262 * 0) (by omega) (by omega) ?_
          exact L113 5 0 (by omega) (by omega)
        ·
          refine xw_aload_n (pc := 89) C 1 dX1_isSame_89 rfl ?_
          refine xw_iload (pc := 90) C 4 dX1_isSame_90 rfl ?_
          refine xw_VF (pc := 92) (q0 := 0) (na := 1) (rest := []) (wc := WX cI h a n p A) (wr := wS cI cQ o n p (rt n p) rr g A ++ [(q_2, .inl (cI, 6, .inl (fN (va_up (va_up (va_up (va_up (va_up (va_up (fun _ => 0) 0 n) 1 p) 2 (rt n p)) 3 ((rt n p) ^ (p - 2) % p)) 4 (n ^ (p - 2) % p)) 5 (bt n)))))]) C [7, 8] [0, 1, 2, 3, 4, 5, 6] [0] (m_X0_count k (by omega)) gX1_isSame_X0_count rfl rfl rfl rfl (by decide +kernel) ⟨(Nat.le_of_ble_eq_true rfl), (Nat.le_of_ble_eq_true rfl)⟩ rfl rfl rfl ⟨rfl, rfl⟩ (by decide) rfl rfl rfl rfl (Nat.le_of_ble_eq_true rfl) dX1_isSame_92 ⟨by show 1 + 0 ≤ 73; omega, by show 6 + 0 ≤ 1054; omega⟩ (fun v1 w1 hp1 => ?_)
          obtain ⟨rfl, rfl⟩ := hp1
          refine xw_st (st' := [nV (ct n p (bt n) (rt n p) ((rt n p) ^ (p - 2) % p) (n ^ (p - 2) % p) k)]) rfl ?_
          refine xw_wo (w' := LW cI cQ o rr n p (rt n p) g A [(q_2, .inl (cI, 6, .inl (fN (va_up (va_up (va_up (va_up (va_up (va_up (fun _ => 0) 0 n) 1 p) 2 (rt n p)) 3 ((rt n p) ^ (p - 2) % p)) 4 (n ^ (p - 2) % p)) 5 (bt n)))))] (WX cI h a n p A)) rfl ?_
          refine xw_aload_n (pc := 95) C 3 dX1_isSame_95 rfl ?_
          refine xw_iload (pc := 96) C 4 dX1_isSame_96 rfl ?_
          refine xw_iald (pc := 98) C 6 0 k rfl rfl rfl (by omega) (by omega) dX1_isSame_98 ?_
          refine xw_st (st' := [nV ((va_up (va_up (va_up (va_up (va_up (va_up (fun _ => 0) 0 n) 1 p) 2 (rt n p)) 3 ((rt n p) ^ (p - 2) % p)) 4 (n ^ (p - 2) % p)) 5 (bt n)) k), nV (ct n p (bt n) (rt n p) ((rt n p) ^ (p - 2) % p) (n ^ (p - 2) % p) k)]) rfl ?_
          refine xw_icmp_eq_N (pc := 99) (tgt := 104) C dX1_isSame_99 (by decide) (hcl (by omega) |> fun z => by omega) (by have z := hcl (by omega); rw [ctA_e (by omega)] at z; exact Nat.lt_trans z (by omega)) (fun c_11 => ?_) (fun c_11 => (by exact absurd (ctA_e (by omega)) c_11))
          refine xw_iinc_N (pc := 104) (b := k + 1) (lv' := [(0, .ref o), (1, .ref h), (2, nV (bt n)), (3, .ref q_2), (4, nV (k + 1))]) C 4 [1, 2, 3, 4, 0] dX1_isSame_104 rfl (by decide) rfl rfl ?_
          refine xw_goto (pc := 107) (tgt := 82) C dX1_isSame_107 (by decide) ?_
          exact ih82 (k + 1) (by omega) (by omega)
    exact L82 7 0 (by omega) (by omega)
  refine xw_aload_n (pc := 0) C 0 dX1_isSame_0 rfl ?_
  refine xw_get (pc := 1) (T := TX1) (N := 4) (ref := "ToneButterfliesLaw$Sim") C hin 0 0 LW_o rfl (by decide) (by decide +kernel) rfl rfl dX1_isSame_1 ?_
  refine xw_iconst_N (pc := 4) C 4 dX1_isSame_4 rfl ?_
  refine xw_icmp_ne_N (pc := 5) (tgt := 12) C dX1_isSame_5 (by decide) (by omega) (by omega) (fun c_12 => ?_) (fun c_12 => ?_)
  ·
    refine xw_aload_n (pc := 12) C 0 dX1_isSame_12 rfl ?_
    refine xw_get (pc := 13) (T := TX1) (N := 4) (ref := "ToneButterfliesLaw$Sim") C hin 0 0 LW_o rfl (by decide) (by decide +kernel) rfl rfl dX1_isSame_13 ?_
    refine xw_bipush_N (pc := 16) C 8 dX1_isSame_16 (by decide) ?_
    refine xw_icmp_ne_N (pc := 18) (tgt := 25) C dX1_isSame_18 (by decide) (by omega) (by omega) (fun c_13 => ?_) (fun c_13 => ?_)
    ·
      refine xw_iconst_N (pc := 25) C 4 dX1_isSame_25 rfl ?_
      refine xw_st (st' := [nV (bt n)]) (congrArg (fun z => [nV z]) (show _ = bt n by unfold bt; split <;> (try split) <;> omega)) ?_
      exact J26_1
    ·
      refine xw_iconst_N (pc := 21) C 3 dX1_isSame_21 rfl ?_
      refine xw_goto (pc := 22) (tgt := 26) C dX1_isSame_22 (by decide) ?_
      refine xw_st (st' := [nV (bt n)]) (congrArg (fun z => [nV z]) (show _ = bt n by unfold bt; split <;> (try split) <;> omega)) ?_
      exact J26_1
  ·
    refine xw_iconst_N (pc := 8) C 2 dX1_isSame_8 rfl ?_
    refine xw_goto (pc := 9) (tgt := 26) C dX1_isSame_9 (by decide) ?_
    refine xw_st (st' := [nV (bt n)]) (congrArg (fun z => [nV z]) (show _ = bt n by unfold bt; split <;> (try split) <;> omega)) ?_
    exact J26_1
