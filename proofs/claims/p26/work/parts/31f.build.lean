theorem rt_8 : rt 8 17 = 2 := by decide +kernel
theorem rgs_8 : rgs 8 17 := ⟨3, by decide, by decide, by decide⟩
set_option maxHeartbeats 4000000 in
set_option maxRecDepth 100000 in
theorem m_L_build {l : Launch} {D : va_G} {cI cQ : ClassId} {sc h a : Nat} {A : Nat → Nat} (hA0 : ∀ j, A j = 0) : CB l yL_build wsL_build { frames := 8, cells := 12, slots := 160, locals := 250 } D vwCl [(cI, .int), (cQ, .array .int)] sc [.ref h, .ref sc] (WX cI h a 8 17 A) (fun v w1 => ∃ (o rr n p : Nat) (g A1 : Nat → Nat), v = some (.ref o) ∧ SI n p A1 ∧ w1 = LV cI cQ h a o rr n p g A1) 12 160 := by
  refine cb_of (plainFor_of_name (by decide)) rfl (Nat.le_of_ble_eq_true rfl) (fun φ C rX Y Nn => ?_)
  have hin : ∀ w ∈ wsX10, w ∈ wsL_build := by decide +kernel
  obtain ⟨t, Yt⟩ := xyc_t Y
  have hS8 : SI 8 17 A := ⟨rgs_8, fun j => by rw [hA0]; decide, fun j _ => by rw [hA0]; decide⟩
  refine xw_le (lv' := [(0, .ref h), (1, .ref sc)]) rfl ?_
  refine xw_new (pc := 0) (Cn := RX1) (T := TX1) (N := 4) (ci := 1) (fs := [nV 0, nV 0, nV 0, .null]) C hin tyX1 tyX1_ok (by decide +kernel) (by decide +kernel) (by decide +kernel) rfl (by decide +kernel) (Nat.le_of_ble_eq_true rfl) (Nat.le_of_ble_eq_true rfl) dL_build_0 (fun o => ?_)
  refine xw_wo (w' := WX cI h a 8 17 A ++ [(o, .inr (1, [nV 0, nV 0, nV 0, .null]))]) rfl ?_
  refine xw_dup (pc := 3) C dL_build_3 rfl ?_
  refine xw_NIF (pc := 4) (host := "ToneButterfliesLaw") (na := 0) (As := []) (rest := [.ref o]) (wc := [(o, .inr (1, [nV 0, nV 0, nV 0, .null]))]) (wr := WX cI h a 8 17 A) C Y [2] [0, 1] [0, 1] m_X1_init gL_build_X1_init_n102 rfl rfl rfl (by decide +kernel) (fun z hz => by subst hz; exact Nn) (by decide +kernel) rfl rfl (by decide +kernel) ⟨(Nat.le_of_ble_eq_true rfl), (Nat.le_of_ble_eq_true rfl)⟩ rfl rfl rfl ⟨rfl, rfl⟩ (by decide) rfl rfl (Nat.le_of_ble_eq_true rfl) dL_build_4 ⟨(Nat.le_of_ble_eq_true rfl), (Nat.le_of_ble_eq_true rfl)⟩ (fun v1 w1 hp1 => ?_)
  obtain ⟨q0, r0, rfl, rfl⟩ := hp1
  refine xw_st (st' := [.ref o]) rfl ?_
  refine xw_sub (w' := LW cI cQ o q0 8 17 2 r0 (fun _ => 0) [] (WX cI h a 8 17 A)) [2, 3, 4, 5, 6, 7, 0, 1] rfl rfl rfl ?_
  refine xw_wo (w' := LW cI cQ o q0 8 17 (rt 8 17) r0 (fun _ => 0) [] (WX cI h a 8 17 A)) (by rw [rt_8]) ?_
  refine xw_sB A (fun i hi k hk => (hA0 _).symm) ?_
  refine xw_astore_n (pc := 7) (lv' := [(0, .ref h), (1, .ref sc), (2, .ref o)]) C [1, 2, 0] dL_build_7 rfl (by decide) rfl ?_
  refine xw_wd (k' := 6) (n' := 72) (by decide) (by decide) ?_
  refine xw_iconst_N (pc := 8) C 2 dL_build_8 rfl ?_
  refine xw_aload_n (pc := 9) C 1 dL_build_9 rfl ?_
  refine xw_iconst_N (pc := 10) C 0 dL_build_10 rfl ?_
  refine xw_YSF (pc := 11) (na := 2) (rest := [nV 2]) (wc := []) (wr := LW cI cQ o q0 8 17 (rt 8 17) r0 A [] (WX cI h a 8 17 A)) C Y [] [0, 1, 2, 3, 4, 5, 6, 7] [0, 1] (m_L_cell 0 (by omega)) gL_build_L_cell rfl rfl rfl rfl (by decide +kernel) ⟨(Nat.le_of_ble_eq_true rfl), (Nat.le_of_ble_eq_true rfl)⟩ rfl rfl rfl ⟨rfl, rfl⟩ (by decide) rfl rfl (Nat.le_of_ble_eq_true rfl) dL_build_11 ⟨(Nat.le_of_ble_eq_true rfl), (Nat.le_of_ble_eq_true rfl)⟩ (fun v1 w1 hp1 => ?_)
  obtain ⟨x_1, rfl, rfl⟩ := hp1
  refine xw_st (st' := [.int x_1, nV 2]) rfl ?_
  refine xw_wo (w' := LW cI cQ o q0 8 17 (rt 8 17) r0 A [] (WX cI h a 8 17 A)) rfl ?_
  refine xw_gets (pc := 14) C Yt (by decide +kernel) dL_build_14 ?_
  refine xw_tlen (pc := 17) C Yt dL_build_17 ?_
  refine xw_iconst_N (pc := 18) C 2 dL_build_18 rfl ?_
  refine xw_idiv_N (pc := 19) C dL_build_19 (by omega) (by omega) ?_
  refine xw_S (pc := 20) (na := 2) (rest := [nV 2]) C (m_L_below x_1 (24 / 2) (by omega) (by omega)) gL_build_L_below rfl rfl rfl rfl (by decide +kernel) ⟨(Nat.le_of_ble_eq_true rfl), (Nat.le_of_ble_eq_true rfl)⟩ rfl (Nat.le_of_ble_eq_true rfl) dL_build_20 ⟨(Nat.le_of_ble_eq_true rfl), (Nat.le_of_ble_eq_true rfl)⟩ (fun v1 w1 hp1 => ?_)
  obtain ⟨m_2, hm_2, rfl, rfl⟩ := hp1
  refine xw_st (st' := [nV m_2, nV 2]) rfl ?_
  refine xw_imul_N (pc := 23) C dL_build_23 ?_
  refine xw_istore_n (pc := 24) (lv' := [(0, .ref h), (1, .ref sc), (2, .ref o), (3, nV (2 * m_2))]) C [1, 2, 3, 0] dL_build_24 rfl (by decide) rfl ?_
  refine xw_aload_n (pc := 25) C 1 dL_build_25 rfl ?_
  refine xw_iconst_N (pc := 26) C 0 dL_build_26 rfl ?_
  refine xw_YSF (pc := 27) (na := 2) (rest := []) (wc := []) (wr := LW cI cQ o q0 8 17 (rt 8 17) r0 A [] (WX cI h a 8 17 A)) C Y [] [0, 1, 2, 3, 4, 5, 6, 7] [0, 1] (m_L_cell 0 (by omega)) gL_build_L_cell rfl rfl rfl rfl (by decide +kernel) ⟨(Nat.le_of_ble_eq_true rfl), (Nat.le_of_ble_eq_true rfl)⟩ rfl rfl rfl ⟨rfl, rfl⟩ (by decide) rfl rfl (Nat.le_of_ble_eq_true rfl) dL_build_27 ⟨(Nat.le_of_ble_eq_true rfl), (Nat.le_of_ble_eq_true rfl)⟩ (fun v1 w1 hp1 => ?_)
  obtain ⟨x_3, rfl, rfl⟩ := hp1
  refine xw_st (st' := [.int x_3]) rfl ?_
  refine xw_wo (w' := LW cI cQ o q0 8 17 (rt 8 17) r0 A [] (WX cI h a 8 17 A)) rfl ?_
  refine xw_iconst_N (pc := 30) C 5 dL_build_30 rfl ?_
  obtain ⟨x_4, hx_4⟩ : ∃ x_4 : Int32, x_3 >>> (iI ((5 : Nat) : Int) &&& 31) = x_4 := ⟨_, rfl⟩
  refine xw_ishr (pc := 31) C dL_build_31 hx_4 ?_
  refine xw_iconst_N (pc := 32) C 4 dL_build_32 rfl ?_
  refine xw_S (pc := 33) (na := 2) (rest := []) C (m_L_below x_4 4 (by omega) (by omega)) gL_build_L_below rfl rfl rfl rfl (by decide +kernel) ⟨(Nat.le_of_ble_eq_true rfl), (Nat.le_of_ble_eq_true rfl)⟩ rfl (Nat.le_of_ble_eq_true rfl) dL_build_33 ⟨(Nat.le_of_ble_eq_true rfl), (Nat.le_of_ble_eq_true rfl)⟩ (fun v1 w1 hp1 => ?_)
  obtain ⟨m_5, hm_5, rfl, rfl⟩ := hp1
  refine xw_st (st' := [nV m_5]) rfl ?_
  refine xw_if_le_N (pc := 36) (tgt := 76) C dL_build_36 (by decide) (by omega) (fun c_6 => ?_) (fun c_6 => ?_)
  ·
    refine xw_iconst_N (pc := 76) C 0 dL_build_76 rfl ?_
    refine xw_istore (pc := 77) (lv' := [(0, .ref h), (1, .ref sc), (2, .ref o), (3, nV (2 * m_2)), (4, nV 0)]) C [1, 2, 3, 4, 0] dL_build_77 (by decide) rfl ?_
    have L79 : ∀ (fuel : Nat) (i : Nat) (A : Nat → Nat), 2 * 8 < i + fuel → i ≤ 2 * 8 → SI 8 17 A → xw φ 6 72 (LW cI cQ o q0 8 17 (rt 8 17) r0 A [] (WX cI h a 8 17 A)) 79 [(0, .ref h), (1, .ref sc), (2, .ref o), (3, nV (2 * m_2)), (4, nV i)] [] := by
      intro fuel
      induction fuel with
      | zero =>
        intro i A hi hi2 hSl
        omega
      | succ fuel ih79 =>
        intro i A hi hi2 hSl
        obtain ⟨hrg, hA, hAp⟩ := id hSl
        obtain ⟨hn, hp4, hp5, hp1, hp0, hn16, hnp, hr1, hrl, hfer⟩ := rgs_o hrg
        have hn3 := lt3 hn
        refine xw_iload (pc := 79) C 4 dL_build_79 rfl ?_
        refine xw_iconst_N (pc := 81) C 2 dL_build_81 rfl ?_
        refine xw_aload_n (pc := 82) C 2 dL_build_82 rfl ?_
        refine xw_get (pc := 83) (T := TX1) (N := 4) (ref := "ToneButterfliesLaw$Sim") C hin 0 0 LW_o rfl (by decide) (by decide +kernel) rfl rfl dL_build_83 ?_
        refine xw_imul_N (pc := 86) C dL_build_86 ?_
        refine xw_icmp_ge_N (pc := 87) (tgt := 195) C dL_build_87 (by decide) (by omega) (by omega) (fun c_7 => ?_) (fun c_7 => ?_)
        ·
          refine xw_aload_n (pc := 195) C 2 dL_build_195 rfl ?_
          exact xw_aret (pc := 196) C rX (Or.inl ⟨_, rfl⟩) (Nat.le_of_ble_eq_true rfl) (Nat.le_of_ble_eq_true rfl) dL_build_196 (⟨o, _, _, _, _, _, rfl, hSl, rfl⟩)
        ·
          refine xw_aload_n (pc := 90) C 1 dL_build_90 rfl ?_
          refine xw_iconst_N (pc := 91) C 1 dL_build_91 rfl ?_
          refine xw_iload (pc := 92) C 4 dL_build_92 rfl ?_
          refine xw_bipush_N (pc := 94) C 15 dL_build_94 (by decide) ?_
          refine xw_irem_N (pc := 96) C dL_build_96 (by omega) (by omega) ?_
          refine xw_iadd_N (pc := 97) C dL_build_97 ?_
          refine xw_YSF (pc := 98) (na := 2) (rest := []) (wc := []) (wr := LW cI cQ o q0 8 17 (rt 8 17) r0 A [] (WX cI h a 8 17 A)) C Y [] [0, 1, 2, 3, 4, 5, 6, 7] [0, 1] (m_L_cell (1 + (i % 15)) (by omega)) gL_build_L_cell rfl rfl rfl rfl (by decide +kernel) ⟨(Nat.le_of_ble_eq_true rfl), (Nat.le_of_ble_eq_true rfl)⟩ rfl rfl rfl ⟨rfl, rfl⟩ (by decide) rfl rfl (Nat.le_of_ble_eq_true rfl) dL_build_98 ⟨(Nat.le_of_ble_eq_true rfl), (Nat.le_of_ble_eq_true rfl)⟩ (fun v1 w1 hp1 => ?_)
          obtain ⟨x_8, rfl, rfl⟩ := hp1
          refine xw_st (st' := [.int x_8]) rfl ?_
          refine xw_wo (w' := LW cI cQ o q0 8 17 (rt 8 17) r0 A [] (WX cI h a 8 17 A)) rfl ?_
          refine xw_iload (pc := 101) C 4 dL_build_101 rfl ?_
          refine xw_bipush_N (pc := 103) C 15 dL_build_103 (by decide) ?_
          refine xw_idiv_N (pc := 105) C dL_build_105 (by omega) (by omega) ?_
          refine xw_bipush_N (pc := 106) C 7 dL_build_106 (by decide) ?_
          refine xw_imul_N (pc := 108) C dL_build_108 ?_
          obtain ⟨x_9, hx_9⟩ : ∃ x_9 : Int32, x_8 >>> (iI (((i / 15) * 7 : Nat) : Int) &&& 31) = x_9 := ⟨_, rfl⟩
          refine xw_ishr (pc := 109) C dL_build_109 hx_9 ?_
          refine xw_bipush_N (pc := 110) C 57 dL_build_110 (by decide) ?_
          refine xw_iload (pc := 112) C 4 dL_build_112 rfl ?_
          refine xw_imul_N (pc := 114) C dL_build_114 ?_
          refine xw_st (st' := [iV (((57 * i : Nat) : Int)), iV (x_9.toInt)]) (by simp only [iV, nV, ← iI_of]) ?_
          refine xw_iadd (pc := 115) C dL_build_115 ?_
          obtain ⟨x_10, hx_10⟩ : ∃ x_10 : Int32, iI (x_9.toInt + (((57 * i : Nat) : Int))) = x_10 := ⟨_, rfl⟩
          refine xw_st (st' := [.int x_10]) (by rw [← hx_10]) ?_
          refine xw_istore (pc := 116) (lv' := [(0, .ref h), (1, .ref sc), (2, .ref o), (3, nV (2 * m_2)), (4, nV i), (5, .int x_10)]) C [1, 2, 3, 4, 5, 0] dL_build_116 (by decide) rfl ?_
          refine xw_iload (pc := 118) C 5 dL_build_118 rfl ?_
          refine xw_iconst_N (pc := 120) C 4 dL_build_120 rfl ?_
          refine xw_S (pc := 121) (na := 2) (rest := []) C (m_L_below x_10 4 (by omega) (by omega)) gL_build_L_below rfl rfl rfl rfl (by decide +kernel) ⟨(Nat.le_of_ble_eq_true rfl), (Nat.le_of_ble_eq_true rfl)⟩ rfl (Nat.le_of_ble_eq_true rfl) dL_build_121 ⟨(Nat.le_of_ble_eq_true rfl), (Nat.le_of_ble_eq_true rfl)⟩ (fun v1 w1 hp1 => ?_)
          obtain ⟨m_11, hm_11, rfl, rfl⟩ := hp1
          refine xw_st (st' := [nV m_11]) rfl ?_
          refine xw_istore (pc := 124) (lv' := [(0, .ref h), (1, .ref sc), (2, .ref o), (3, nV (2 * m_2)), (4, nV i), (5, .int x_10), (6, nV m_11)]) C [1, 2, 3, 4, 5, 6, 0] dL_build_124 (by decide) rfl ?_
          refine xw_iload (pc := 126) C 5 dL_build_126 rfl ?_
          refine xw_iconst_N (pc := 128) C 2 dL_build_128 rfl ?_
          obtain ⟨x_12, hx_12⟩ : ∃ x_12 : Int32, x_10 >>> (iI ((2 : Nat) : Int) &&& 31) = x_12 := ⟨_, rfl⟩
          refine xw_ishr (pc := 129) C dL_build_129 hx_12 ?_
          refine xw_aload_n (pc := 130) C 2 dL_build_130 rfl ?_
          refine xw_get (pc := 131) (T := TX1) (N := 4) (ref := "ToneButterfliesLaw$Sim") C hin 0 0 LW_o rfl (by decide) (by decide +kernel) rfl rfl dL_build_131 ?_
          refine xw_S (pc := 134) (na := 2) (rest := []) C (m_L_below x_12 8 (by omega) (by omega)) gL_build_L_below rfl rfl rfl rfl (by decide +kernel) ⟨(Nat.le_of_ble_eq_true rfl), (Nat.le_of_ble_eq_true rfl)⟩ rfl (Nat.le_of_ble_eq_true rfl) dL_build_134 ⟨(Nat.le_of_ble_eq_true rfl), (Nat.le_of_ble_eq_true rfl)⟩ (fun v1 w1 hp1 => ?_)
          obtain ⟨m_13, hm_13, rfl, rfl⟩ := hp1
          refine xw_st (st' := [nV m_13]) rfl ?_
          refine xw_istore (pc := 137) (lv' := [(0, .ref h), (1, .ref sc), (2, .ref o), (3, nV (2 * m_2)), (4, nV i), (5, .int x_10), (6, nV m_11), (7, nV m_13)]) C [1, 2, 3, 4, 5, 6, 7, 0] dL_build_137 (by decide) rfl ?_
          refine xw_iload (pc := 139) C 5 dL_build_139 rfl ?_
          refine xw_iconst_N (pc := 141) C 5 dL_build_141 rfl ?_
          obtain ⟨x_14, hx_14⟩ : ∃ x_14 : Int32, x_10 >>> (iI ((5 : Nat) : Int) &&& 31) = x_14 := ⟨_, rfl⟩
          refine xw_ishr (pc := 142) C dL_build_142 hx_14 ?_
          refine xw_aload_n (pc := 143) C 2 dL_build_143 rfl ?_
          refine xw_get (pc := 144) (T := TX1) (N := 4) (ref := "ToneButterfliesLaw$Sim") C hin 0 1 LW_o rfl (by decide) (by decide +kernel) rfl rfl dL_build_144 ?_
          refine xw_S (pc := 147) (na := 2) (rest := []) C (m_L_below x_14 17 (by omega) (by omega)) gL_build_L_below rfl rfl rfl rfl (by decide +kernel) ⟨(Nat.le_of_ble_eq_true rfl), (Nat.le_of_ble_eq_true rfl)⟩ rfl (Nat.le_of_ble_eq_true rfl) dL_build_147 ⟨(Nat.le_of_ble_eq_true rfl), (Nat.le_of_ble_eq_true rfl)⟩ (fun v1 w1 hp1 => ?_)
          obtain ⟨m_15, hm_15, rfl, rfl⟩ := hp1
          refine xw_st (st' := [nV m_15]) rfl ?_
          refine xw_istore (pc := 150) (lv' := [(0, .ref h), (1, .ref sc), (2, .ref o), (3, nV (2 * m_2)), (4, nV i), (5, .int x_10), (6, nV m_11), (7, nV m_13), (8, nV m_15)]) C [1, 2, 3, 4, 5, 6, 7, 8, 0] dL_build_150 (by decide) rfl ?_
          refine xw_aload_n (pc := 152) C 0 dL_build_152 rfl ?_
          refine xw_iload (pc := 153) C 6 dL_build_153 rfl ?_
          refine xw_iload (pc := 155) C 7 dL_build_155 rfl ?_
          refine xw_iload (pc := 157) C 8 dL_build_157 rfl ?_
          refine xw_VF (pc := 159) (q0 := 0) (na := 3) (rest := []) (wc := WX cI h a 8 17 A) (wr := wS cI cQ o 8 17 (rt 8 17) q0 r0 A ++ []) C [6, 7] [0, 1, 2, 3, 4, 5] [0] (m_X0_set hp5 hn m_11 m_13 m_15 (by omega) (by omega) (by omega)) gL_build_X0_set rfl rfl rfl rfl (by decide +kernel) ⟨(Nat.le_of_ble_eq_true rfl), (Nat.le_of_ble_eq_true rfl)⟩ rfl rfl rfl ⟨rfl, rfl⟩ (by decide) rfl rfl rfl rfl (Nat.le_of_ble_eq_true rfl) dL_build_159 ⟨(Nat.le_of_ble_eq_true rfl), (Nat.le_of_ble_eq_true rfl)⟩ (fun v1 w1 hp1 => ?_)
          obtain ⟨rfl, rfl⟩ := hp1
          refine xw_st (st' := [nV (A (16 * m_11 + m_13))]) rfl ?_
          refine xw_wo (w' := LW cI cQ o q0 8 17 (rt 8 17) r0 A [] (WX cI h a 8 17 (va_up A (16 * m_11 + m_13) m_15))) rfl ?_
          refine xw_aload_n (pc := 162) C 2 dL_build_162 rfl ?_
          refine xw_get (pc := 163) (T := TX1) (N := 4) (ref := "ToneButterfliesLaw$Sim") C hin 0 3 LW_o rfl (by decide) (by decide +kernel) rfl rfl dL_build_163 ?_
          refine xw_iload (pc := 166) C 6 dL_build_166 rfl ?_
          refine xw_aald (pc := 168) (r := r0 m_11) C 1 1 m_11 LW_q rfl (by omega) (by decide) (if_pos (by omega)) dL_build_168 ?_
          refine xw_iload (pc := 169) C 7 dL_build_169 rfl ?_
          refine xw_iald (pc := 171) C (2 + m_11) 0 m_13 (LW_r (by omega)) rfl rfl (by omega) (by omega) dL_build_171 ?_
          refine xw_st (st' := [nV (A (16 * m_11 + m_13)), nV (A (16 * m_11 + m_13))]) rfl ?_
          refine xw_eq_same (pc := 172) (tgt := 177) C (congrArg (fun z : Nat => iI (z : Int)) (show A (16 * m_11 + m_13) = A (16 * m_11 + m_13) from rfl)) dL_build_172 (by decide) ?_
          refine xw_aload_n (pc := 177) C 2 dL_build_177 rfl ?_
          refine xw_get (pc := 178) (T := TX1) (N := 4) (ref := "ToneButterfliesLaw$Sim") C hin 0 3 LW_o rfl (by decide) (by decide +kernel) rfl rfl dL_build_178 ?_
          refine xw_iload (pc := 181) C 6 dL_build_181 rfl ?_
          refine xw_aald (pc := 183) (r := r0 m_11) C 1 1 m_11 LW_q rfl (by omega) (by decide) (if_pos (by omega)) dL_build_183 ?_
          refine xw_iload (pc := 184) C 7 dL_build_184 rfl ?_
          refine xw_iload (pc := 186) C 8 dL_build_186 rfl ?_
          refine xw_rset (pc := 188) C m_11 m_13 m_15 (by omega) (by omega) hn16 dL_build_188 ?_
          refine xw_iinc_N (pc := 189) (b := i + 1) (lv' := [(0, .ref h), (1, .ref sc), (2, .ref o), (3, nV (2 * m_2)), (4, nV (i + 1)), (5, .int x_10), (6, nV m_11), (7, nV m_13), (8, nV m_15)]) C 4 [1, 2, 3, 4, 0, 5, 6, 7, 8] dL_build_189 rfl (by decide) rfl rfl ?_
          refine xw_goto (pc := 192) (tgt := 79) C dL_build_192 (by decide) ?_
          refine xw_lv (lv' := [(0, .ref h), (1, .ref sc), (2, .ref o), (3, nV (2 * m_2)), (4, nV (i + 1))]) [0, 1, 2, 3, 4] rfl ?_
          exact ih79 (i + 1) _ (by omega) (by omega) (SI_up hSl (by omega) (by omega))
    exact L79 (2 * 8 + 1) 0 _ (by omega) (by omega) (hS8)
  ·
    refine xw_aload_n (pc := 39) C 0 dL_build_39 rfl ?_
    refine xw_gets (pc := 40) C Yt (by decide +kernel) dL_build_40 ?_
    refine xw_iload_n (pc := 43) C 3 dL_build_43 rfl ?_
    refine xw_tald (pc := 44) C Yt (by omega) dL_build_44 ?_
    refine xw_gets (pc := 45) C Yt (by decide +kernel) dL_build_45 ?_
    refine xw_iload_n (pc := 48) C 3 dL_build_48 rfl ?_
    refine xw_iconst_N (pc := 49) C 1 dL_build_49 rfl ?_
    refine xw_iadd_N (pc := 50) C dL_build_50 ?_
    refine xw_tald (pc := 51) C Yt (by omega) dL_build_51 ?_
    refine xw_VF (pc := 52) (q0 := 0) (na := 2) (rest := []) (wc := WX cI h a 8 17 A) (wr := wS cI cQ o 8 17 (rt 8 17) q0 r0 A ++ []) C [6, 7] [0, 1, 2, 3, 4, 5] [0] (m_X0_ring (RG (2 * m_2)) (RG (2 * m_2 + 1)) (rgs_t m_2 (by omega)).1 (by have := (rgs_t m_2 (by omega)).2.1; omega) (rgs_t m_2 (by omega)).2.2.1 (rgs_t m_2 (by omega)).2.2.2.1 (rgs_t m_2 (by omega)).2.2.2.2) gL_build_X0_ring rfl rfl rfl rfl (by decide +kernel) ⟨(Nat.le_of_ble_eq_true rfl), (Nat.le_of_ble_eq_true rfl)⟩ rfl rfl rfl ⟨rfl, rfl⟩ (by decide) rfl rfl rfl rfl (Nat.le_of_ble_eq_true rfl) dL_build_52 ⟨(Nat.le_of_ble_eq_true rfl), (Nat.le_of_ble_eq_true rfl)⟩ (fun v1 w1 hp1 => ?_)
    obtain ⟨rfl, rfl⟩ := hp1
    refine xw_st (st' := [nV (rt (RG (2 * m_2)) (RG (2 * m_2 + 1)))]) rfl ?_
    refine xw_wo (w' := LW cI cQ o q0 8 17 (rt 8 17) r0 A [] (WX cI h a (RG (2 * m_2)) (RG (2 * m_2 + 1)) (zf A 80))) rfl ?_
    refine xw_aload_n (pc := 55) C 2 dL_build_55 rfl ?_
    refine xw_gets (pc := 56) C Yt (by decide +kernel) dL_build_56 ?_
    refine xw_iload_n (pc := 59) C 3 dL_build_59 rfl ?_
    refine xw_tald (pc := 60) C Yt (by omega) dL_build_60 ?_
    refine xw_gets (pc := 61) C Yt (by decide +kernel) dL_build_61 ?_
    refine xw_iload_n (pc := 64) C 3 dL_build_64 rfl ?_
    refine xw_iconst_N (pc := 65) C 1 dL_build_65 rfl ?_
    refine xw_iadd_N (pc := 66) C dL_build_66 ?_
    refine xw_tald (pc := 67) C Yt (by omega) dL_build_67 ?_
    refine xw_YVF (pc := 68) (q0 := 0) (na := 2) (rest := [nV (rt (RG (2 * m_2)) (RG (2 * m_2 + 1)))]) (wc := wH o 8 17 (rt 8 17) q0) (wr := WX cI h a (RG (2 * m_2)) (RG (2 * m_2 + 1)) (zf A 80)) C Y [0] [6, 7] [0, 1] (m_X1_ring (RG (2 * m_2)) (RG ((2 * m_2) + 1)) (rgs_t m_2 (by omega))) gL_build_X1_ring rfl rfl rfl rfl (by decide +kernel) ⟨(Nat.le_of_ble_eq_true rfl), (Nat.le_of_ble_eq_true rfl)⟩ rfl rfl rfl ⟨rfl, rfl⟩ (by decide) rfl rfl rfl rfl (Nat.le_of_ble_eq_true rfl) dL_build_68 ⟨(Nat.le_of_ble_eq_true rfl), (Nat.le_of_ble_eq_true rfl)⟩ (fun v1 w1 hp1 => ?_)
    obtain ⟨q_16, r_17, rfl, rfl⟩ := hp1
    refine xw_st (st' := [nV (rt (RG (2 * m_2)) (RG ((2 * m_2) + 1))), nV (rt (RG (2 * m_2)) (RG (2 * m_2 + 1)))]) rfl ?_
    refine xw_sub (w' := LW cI cQ o q_16 (RG (2 * m_2)) (RG ((2 * m_2) + 1)) (rt (RG (2 * m_2)) (RG ((2 * m_2) + 1))) r_17 (fun _ => 0) [] (WX cI h a (RG (2 * m_2)) (RG (2 * m_2 + 1)) (zf A 80))) [2, 3, 4, 5, 6, 7, 0, 1] rfl rfl rfl ?_
    have hrg2 : rgs (RG (2 * m_2)) (RG (2 * m_2 + 1)) := ⟨m_2, by omega, rfl, rfl⟩
    have hk16 := (rgs_o hrg2).2.2.2.2.2.1
    have hn4 := lt3 (rgs_o hrg2).1
    refine xw_sB (zf A 80) (fun i hi k hk => by unfold zf; rw [if_pos (by omega)]) ?_
    refine xw_eq_same (pc := 71) (tgt := 76) C (congrArg (fun z : Nat => iI (z : Int)) (show rt (RG (2 * m_2)) (RG (2 * m_2 + 1)) = rt (RG (2 * m_2)) (RG ((2 * m_2) + 1)) from rfl)) dL_build_71 (by decide) ?_
    refine xw_iconst_N (pc := 76) C 0 dL_build_76 rfl ?_
    refine xw_istore (pc := 77) (lv' := [(0, .ref h), (1, .ref sc), (2, .ref o), (3, nV (2 * m_2)), (4, nV 0)]) C [1, 2, 3, 4, 0] dL_build_77 (by decide) rfl ?_
    have L79 : ∀ (fuel : Nat) (i : Nat) (A : Nat → Nat), 2 * (RG (2 * m_2)) < i + fuel → i ≤ 2 * (RG (2 * m_2)) → SI (RG (2 * m_2)) (RG ((2 * m_2) + 1)) A → xw φ 11 140 (LW cI cQ o q_16 (RG (2 * m_2)) (RG ((2 * m_2) + 1)) (rt (RG (2 * m_2)) (RG ((2 * m_2) + 1))) r_17 A [] (WX cI h a (RG (2 * m_2)) (RG (2 * m_2 + 1)) A)) 79 [(0, .ref h), (1, .ref sc), (2, .ref o), (3, nV (2 * m_2)), (4, nV i)] [] := by
      intro fuel
      induction fuel with
      | zero =>
        intro i A hi hi2 hSl
        omega
      | succ fuel ih79 =>
        intro i A hi hi2 hSl
        obtain ⟨hrg, hA, hAp⟩ := id hSl
        obtain ⟨hn, hp4, hp5, hp1, hp0, hn16, hnp, hr1, hrl, hfer⟩ := rgs_o hrg
        have hn3 := lt3 hn
        refine xw_iload (pc := 79) C 4 dL_build_79 rfl ?_
        refine xw_iconst_N (pc := 81) C 2 dL_build_81 rfl ?_
        refine xw_aload_n (pc := 82) C 2 dL_build_82 rfl ?_
        refine xw_get (pc := 83) (T := TX1) (N := 4) (ref := "ToneButterfliesLaw$Sim") C hin 0 0 LW_o rfl (by decide) (by decide +kernel) rfl rfl dL_build_83 ?_
        refine xw_imul_N (pc := 86) C dL_build_86 ?_
        refine xw_icmp_ge_N (pc := 87) (tgt := 195) C dL_build_87 (by decide) (by omega) (by omega) (fun c_18 => ?_) (fun c_18 => ?_)
        ·
          refine xw_aload_n (pc := 195) C 2 dL_build_195 rfl ?_
          exact xw_aret (pc := 196) C rX (Or.inl ⟨_, rfl⟩) (Nat.le_of_ble_eq_true rfl) (Nat.le_of_ble_eq_true rfl) dL_build_196 (⟨o, _, _, _, _, _, rfl, hSl, rfl⟩)
        ·
          refine xw_aload_n (pc := 90) C 1 dL_build_90 rfl ?_
          refine xw_iconst_N (pc := 91) C 1 dL_build_91 rfl ?_
          refine xw_iload (pc := 92) C 4 dL_build_92 rfl ?_
          refine xw_bipush_N (pc := 94) C 15 dL_build_94 (by decide) ?_
          refine xw_irem_N (pc := 96) C dL_build_96 (by omega) (by omega) ?_
          refine xw_iadd_N (pc := 97) C dL_build_97 ?_
          refine xw_YSF (pc := 98) (na := 2) (rest := []) (wc := []) (wr := LW cI cQ o q_16 (RG (2 * m_2)) (RG ((2 * m_2) + 1)) (rt (RG (2 * m_2)) (RG ((2 * m_2) + 1))) r_17 A [] (WX cI h a (RG (2 * m_2)) (RG (2 * m_2 + 1)) A)) C Y [] [0, 1, 2, 3, 4, 5, 6, 7] [0, 1] (m_L_cell (1 + (i % 15)) (by omega)) gL_build_L_cell rfl rfl rfl rfl (by decide +kernel) ⟨(Nat.le_of_ble_eq_true rfl), (Nat.le_of_ble_eq_true rfl)⟩ rfl rfl rfl ⟨rfl, rfl⟩ (by decide) rfl rfl (Nat.le_of_ble_eq_true rfl) dL_build_98 ⟨(Nat.le_of_ble_eq_true rfl), (Nat.le_of_ble_eq_true rfl)⟩ (fun v1 w1 hp1 => ?_)
          obtain ⟨x_19, rfl, rfl⟩ := hp1
          refine xw_st (st' := [.int x_19]) rfl ?_
          refine xw_wo (w' := LW cI cQ o q_16 (RG (2 * m_2)) (RG ((2 * m_2) + 1)) (rt (RG (2 * m_2)) (RG ((2 * m_2) + 1))) r_17 A [] (WX cI h a (RG (2 * m_2)) (RG (2 * m_2 + 1)) A)) rfl ?_
          refine xw_iload (pc := 101) C 4 dL_build_101 rfl ?_
          refine xw_bipush_N (pc := 103) C 15 dL_build_103 (by decide) ?_
          refine xw_idiv_N (pc := 105) C dL_build_105 (by omega) (by omega) ?_
          refine xw_bipush_N (pc := 106) C 7 dL_build_106 (by decide) ?_
          refine xw_imul_N (pc := 108) C dL_build_108 ?_
          obtain ⟨x_20, hx_20⟩ : ∃ x_20 : Int32, x_19 >>> (iI (((i / 15) * 7 : Nat) : Int) &&& 31) = x_20 := ⟨_, rfl⟩
          refine xw_ishr (pc := 109) C dL_build_109 hx_20 ?_
          refine xw_bipush_N (pc := 110) C 57 dL_build_110 (by decide) ?_
          refine xw_iload (pc := 112) C 4 dL_build_112 rfl ?_
          refine xw_imul_N (pc := 114) C dL_build_114 ?_
          refine xw_st (st' := [iV (((57 * i : Nat) : Int)), iV (x_20.toInt)]) (by simp only [iV, nV, ← iI_of]) ?_
          refine xw_iadd (pc := 115) C dL_build_115 ?_
          obtain ⟨x_21, hx_21⟩ : ∃ x_21 : Int32, iI (x_20.toInt + (((57 * i : Nat) : Int))) = x_21 := ⟨_, rfl⟩
          refine xw_st (st' := [.int x_21]) (by rw [← hx_21]) ?_
          refine xw_istore (pc := 116) (lv' := [(0, .ref h), (1, .ref sc), (2, .ref o), (3, nV (2 * m_2)), (4, nV i), (5, .int x_21)]) C [1, 2, 3, 4, 5, 0] dL_build_116 (by decide) rfl ?_
          refine xw_iload (pc := 118) C 5 dL_build_118 rfl ?_
          refine xw_iconst_N (pc := 120) C 4 dL_build_120 rfl ?_
          refine xw_S (pc := 121) (na := 2) (rest := []) C (m_L_below x_21 4 (by omega) (by omega)) gL_build_L_below rfl rfl rfl rfl (by decide +kernel) ⟨(Nat.le_of_ble_eq_true rfl), (Nat.le_of_ble_eq_true rfl)⟩ rfl (Nat.le_of_ble_eq_true rfl) dL_build_121 ⟨(Nat.le_of_ble_eq_true rfl), (Nat.le_of_ble_eq_true rfl)⟩ (fun v1 w1 hp1 => ?_)
          obtain ⟨m_22, hm_22, rfl, rfl⟩ := hp1
          refine xw_st (st' := [nV m_22]) rfl ?_
          refine xw_istore (pc := 124) (lv' := [(0, .ref h), (1, .ref sc), (2, .ref o), (3, nV (2 * m_2)), (4, nV i), (5, .int x_21), (6, nV m_22)]) C [1, 2, 3, 4, 5, 6, 0] dL_build_124 (by decide) rfl ?_
          refine xw_iload (pc := 126) C 5 dL_build_126 rfl ?_
          refine xw_iconst_N (pc := 128) C 2 dL_build_128 rfl ?_
          obtain ⟨x_23, hx_23⟩ : ∃ x_23 : Int32, x_21 >>> (iI ((2 : Nat) : Int) &&& 31) = x_23 := ⟨_, rfl⟩
          refine xw_ishr (pc := 129) C dL_build_129 hx_23 ?_
          refine xw_aload_n (pc := 130) C 2 dL_build_130 rfl ?_
          refine xw_get (pc := 131) (T := TX1) (N := 4) (ref := "ToneButterfliesLaw$Sim") C hin 0 0 LW_o rfl (by decide) (by decide +kernel) rfl rfl dL_build_131 ?_
          refine xw_S (pc := 134) (na := 2) (rest := []) C (m_L_below x_23 (RG (2 * m_2)) (by omega) (by omega)) gL_build_L_below rfl rfl rfl rfl (by decide +kernel) ⟨(Nat.le_of_ble_eq_true rfl), (Nat.le_of_ble_eq_true rfl)⟩ rfl (Nat.le_of_ble_eq_true rfl) dL_build_134 ⟨(Nat.le_of_ble_eq_true rfl), (Nat.le_of_ble_eq_true rfl)⟩ (fun v1 w1 hp1 => ?_)
          obtain ⟨m_24, hm_24, rfl, rfl⟩ := hp1
          refine xw_st (st' := [nV m_24]) rfl ?_
          refine xw_istore (pc := 137) (lv' := [(0, .ref h), (1, .ref sc), (2, .ref o), (3, nV (2 * m_2)), (4, nV i), (5, .int x_21), (6, nV m_22), (7, nV m_24)]) C [1, 2, 3, 4, 5, 6, 7, 0] dL_build_137 (by decide) rfl ?_
          refine xw_iload (pc := 139) C 5 dL_build_139 rfl ?_
          refine xw_iconst_N (pc := 141) C 5 dL_build_141 rfl ?_
          obtain ⟨x_25, hx_25⟩ : ∃ x_25 : Int32, x_21 >>> (iI ((5 : Nat) : Int) &&& 31) = x_25 := ⟨_, rfl⟩
          refine xw_ishr (pc := 142) C dL_build_142 hx_25 ?_
          refine xw_aload_n (pc := 143) C 2 dL_build_143 rfl ?_
          refine xw_get (pc := 144) (T := TX1) (N := 4) (ref := "ToneButterfliesLaw$Sim") C hin 0 1 LW_o rfl (by decide) (by decide +kernel) rfl rfl dL_build_144 ?_
          refine xw_S (pc := 147) (na := 2) (rest := []) C (m_L_below x_25 (RG ((2 * m_2) + 1)) (by omega) (by omega)) gL_build_L_below rfl rfl rfl rfl (by decide +kernel) ⟨(Nat.le_of_ble_eq_true rfl), (Nat.le_of_ble_eq_true rfl)⟩ rfl (Nat.le_of_ble_eq_true rfl) dL_build_147 ⟨(Nat.le_of_ble_eq_true rfl), (Nat.le_of_ble_eq_true rfl)⟩ (fun v1 w1 hp1 => ?_)
          obtain ⟨m_26, hm_26, rfl, rfl⟩ := hp1
          refine xw_st (st' := [nV m_26]) rfl ?_
          refine xw_istore (pc := 150) (lv' := [(0, .ref h), (1, .ref sc), (2, .ref o), (3, nV (2 * m_2)), (4, nV i), (5, .int x_21), (6, nV m_22), (7, nV m_24), (8, nV m_26)]) C [1, 2, 3, 4, 5, 6, 7, 8, 0] dL_build_150 (by decide) rfl ?_
          refine xw_aload_n (pc := 152) C 0 dL_build_152 rfl ?_
          refine xw_iload (pc := 153) C 6 dL_build_153 rfl ?_
          refine xw_iload (pc := 155) C 7 dL_build_155 rfl ?_
          refine xw_iload (pc := 157) C 8 dL_build_157 rfl ?_
          refine xw_VF (pc := 159) (q0 := 0) (na := 3) (rest := []) (wc := WX cI h a (RG (2 * m_2)) (RG (2 * m_2 + 1)) A) (wr := wS cI cQ o (RG (2 * m_2)) (RG ((2 * m_2) + 1)) (rt (RG (2 * m_2)) (RG ((2 * m_2) + 1))) q_16 r_17 A ++ []) C [6, 7] [0, 1, 2, 3, 4, 5] [0] (m_X0_set hp5 hn m_22 m_24 m_26 (by omega) (by omega) (by omega)) gL_build_X0_set rfl rfl rfl rfl (by decide +kernel) ⟨(Nat.le_of_ble_eq_true rfl), (Nat.le_of_ble_eq_true rfl)⟩ rfl rfl rfl ⟨rfl, rfl⟩ (by decide) rfl rfl rfl rfl (Nat.le_of_ble_eq_true rfl) dL_build_159 ⟨(Nat.le_of_ble_eq_true rfl), (Nat.le_of_ble_eq_true rfl)⟩ (fun v1 w1 hp1 => ?_)
          obtain ⟨rfl, rfl⟩ := hp1
          refine xw_st (st' := [nV (A (16 * m_22 + m_24))]) rfl ?_
          refine xw_wo (w' := LW cI cQ o q_16 (RG (2 * m_2)) (RG ((2 * m_2) + 1)) (rt (RG (2 * m_2)) (RG ((2 * m_2) + 1))) r_17 A [] (WX cI h a (RG (2 * m_2)) (RG (2 * m_2 + 1)) (va_up A (16 * m_22 + m_24) m_26))) rfl ?_
          refine xw_aload_n (pc := 162) C 2 dL_build_162 rfl ?_
          refine xw_get (pc := 163) (T := TX1) (N := 4) (ref := "ToneButterfliesLaw$Sim") C hin 0 3 LW_o rfl (by decide) (by decide +kernel) rfl rfl dL_build_163 ?_
          refine xw_iload (pc := 166) C 6 dL_build_166 rfl ?_
          refine xw_aald (pc := 168) (r := r_17 m_22) C 1 1 m_22 LW_q rfl (by omega) (by decide) (if_pos (by omega)) dL_build_168 ?_
          refine xw_iload (pc := 169) C 7 dL_build_169 rfl ?_
          refine xw_iald (pc := 171) C (2 + m_22) 0 m_24 (LW_r (by omega)) rfl rfl (by omega) (by omega) dL_build_171 ?_
          refine xw_st (st' := [nV (A (16 * m_22 + m_24)), nV (A (16 * m_22 + m_24))]) rfl ?_
          refine xw_eq_same (pc := 172) (tgt := 177) C (congrArg (fun z : Nat => iI (z : Int)) (show A (16 * m_22 + m_24) = A (16 * m_22 + m_24) from rfl)) dL_build_172 (by decide) ?_
          refine xw_aload_n (pc := 177) C 2 dL_build_177 rfl ?_
          refine xw_get (pc := 178) (T := TX1) (N := 4) (ref := "ToneButterfliesLaw$Sim") C hin 0 3 LW_o rfl (by decide) (by decide +kernel) rfl rfl dL_build_178 ?_
          refine xw_iload (pc := 181) C 6 dL_build_181 rfl ?_
          refine xw_aald (pc := 183) (r := r_17 m_22) C 1 1 m_22 LW_q rfl (by omega) (by decide) (if_pos (by omega)) dL_build_183 ?_
          refine xw_iload (pc := 184) C 7 dL_build_184 rfl ?_
          refine xw_iload (pc := 186) C 8 dL_build_186 rfl ?_
          refine xw_rset (pc := 188) C m_22 m_24 m_26 (by omega) (by omega) hn16 dL_build_188 ?_
          refine xw_iinc_N (pc := 189) (b := i + 1) (lv' := [(0, .ref h), (1, .ref sc), (2, .ref o), (3, nV (2 * m_2)), (4, nV (i + 1)), (5, .int x_21), (6, nV m_22), (7, nV m_24), (8, nV m_26)]) C 4 [1, 2, 3, 4, 0, 5, 6, 7, 8] dL_build_189 rfl (by decide) rfl rfl ?_
          refine xw_goto (pc := 192) (tgt := 79) C dL_build_192 (by decide) ?_
          refine xw_lv (lv' := [(0, .ref h), (1, .ref sc), (2, .ref o), (3, nV (2 * m_2)), (4, nV (i + 1))]) [0, 1, 2, 3, 4] rfl ?_
          exact ih79 (i + 1) _ (by omega) (by omega) (SI_up hSl (by omega) (by omega))
    exact L79 (2 * (RG (2 * m_2)) + 1) 0 _ (by omega) (by omega) (SI_zf hrg2 hS8)
