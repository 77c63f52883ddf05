set_option maxHeartbeats 4000000 in
set_option maxRecDepth 100000 in
theorem act_0 {l : Launch} {D : va_G} {cI cQ : ClassId} {sc h a o rr n p : Nat} {g A : Nat → Nat} {w0 : va_W} {φ : Fx} (C : xc φ l { frames := 8, cells := 6, slots := 100, locals := 250 } D vwCl [(cI, .int), (cQ, .array .int)] 11 cL_act RL wsL_act) (rX : xr φ w0 (PA cI cQ h a o) (some .boolean) 6 100) (Y : xyc sc φ) (hS : SI n p A) (x : Int32) (ma mb : Nat) (hma : ma < 4) (hmb : mb < 4) : xw φ 0 0 (LV cI cQ h a o rr n p g A) 88 [(0, .ref h), (1, .ref o), (2, .int x), (3, nV ma), (4, nV mb), (5, nV n)] [] := by
  obtain ⟨t, Yt⟩ := xyc_t Y
  obtain ⟨hrg, hA, hAp⟩ := id hS
  obtain ⟨hn, hp4, hp5, hp1, hp0, hn16, hnp, hr1, hrl, hfer⟩ := rgs_o hrg
  have hn3 := lt3 hn
  refine xw_iload_n (pc := 88) C 2 dL_act_88 rfl ?_
  refine xw_bipush_N (pc := 89) C 8 dL_act_89 (by decide) ?_
  obtain ⟨x_1, hx_1⟩ : ∃ x_1 : Int32, x >>> (iI ((8 : Nat) : Int) &&& 31) = x_1 := ⟨_, rfl⟩
  refine xw_ishr (pc := 91) C dL_act_91 hx_1 ?_
  refine xw_iconst_N (pc := 92) C 5 dL_act_92 rfl ?_
  refine xw_S (pc := 93) (na := 2) (rest := []) C (m_L_below x_1 5 (by omega) (by omega)) gL_act_L_below rfl rfl rfl rfl (by decide +kernel) ⟨(Nat.le_of_ble_eq_true rfl), (Nat.le_of_ble_eq_true rfl)⟩ rfl (Nat.le_of_ble_eq_true rfl) dL_act_93 ⟨(Nat.le_of_ble_eq_true rfl), (Nat.le_of_ble_eq_true rfl)⟩ (fun v1 w1 hp1 => ?_)
  obtain ⟨m_2, hm_2, rfl, rfl⟩ := hp1
  refine xw_st (st' := [nV m_2]) rfl ?_
  refine xw_if_le_N (pc := 96) (tgt := 101) C dL_act_96 (by decide) (by omega) (fun c_3 => ?_) (fun c_3 => ?_)
  ·
    refine xw_iconst_N (pc := 101) C 2 dL_act_101 rfl ?_
    refine xw_iload_n (pc := 102) C 2 dL_act_102 rfl ?_
    refine xw_iconst_N (pc := 103) C 4 dL_act_103 rfl ?_
    obtain ⟨x_4, hx_4⟩ : ∃ x_4 : Int32, x >>> (iI ((4 : Nat) : Int) &&& 31) = x_4 := ⟨_, rfl⟩
    refine xw_ishr (pc := 104) C dL_act_104 hx_4 ?_
    refine xw_gets (pc := 105) C Yt (by decide +kernel) dL_act_105 ?_
    refine xw_tlen (pc := 108) C Yt dL_act_108 ?_
    refine xw_iconst_N (pc := 109) C 2 dL_act_109 rfl ?_
    refine xw_idiv_N (pc := 110) C dL_act_110 (by omega) (by omega) ?_
    refine xw_S (pc := 111) (na := 2) (rest := [nV 2]) C (m_L_below x_4 (24 / 2) (by omega) (by omega)) gL_act_L_below rfl rfl rfl rfl (by decide +kernel) ⟨(Nat.le_of_ble_eq_true rfl), (Nat.le_of_ble_eq_true rfl)⟩ rfl (Nat.le_of_ble_eq_true rfl) dL_act_111 ⟨(Nat.le_of_ble_eq_true rfl), (Nat.le_of_ble_eq_true rfl)⟩ (fun v1 w1 hp1 => ?_)
    obtain ⟨m_5, hm_5, rfl, rfl⟩ := hp1
    refine xw_st (st' := [nV m_5, nV 2]) rfl ?_
    refine xw_imul_N (pc := 114) C dL_act_114 ?_
    refine xw_istore (pc := 115) (lv' := [(0, .ref h), (1, .ref o), (2, .int x), (3, nV ma), (4, nV mb), (5, nV n), (6, nV (2 * m_5))]) C [1, 2, 3, 4, 5, 6, 0] dL_act_115 (by decide) rfl ?_
    refine xw_aload_n (pc := 117) C 0 dL_act_117 rfl ?_
    refine xw_gets (pc := 118) C Yt (by decide +kernel) dL_act_118 ?_
    refine xw_iload (pc := 121) C 6 dL_act_121 rfl ?_
    refine xw_tald (pc := 123) C Yt (by omega) dL_act_123 ?_
    refine xw_gets (pc := 124) C Yt (by decide +kernel) dL_act_124 ?_
    refine xw_iload (pc := 127) C 6 dL_act_127 rfl ?_
    refine xw_iconst_N (pc := 129) C 1 dL_act_129 rfl ?_
    refine xw_iadd_N (pc := 130) C dL_act_130 ?_
    refine xw_tald (pc := 131) C Yt (by omega) dL_act_131 ?_
    refine xw_VF (pc := 132) (q0 := 0) (na := 2) (rest := []) (wc := WX cI h a n p A) (wr := wS cI cQ o n p (rt n p) rr g A ++ []) C [6, 7] [0, 1, 2, 3, 4, 5] [0] (m_X0_ring (RG (2 * m_5)) (RG (2 * m_5 + 1)) (rgs_t m_5 (by omega)).1 (by have := (rgs_t m_5 (by omega)).2.1; omega) (rgs_t m_5 (by omega)).2.2.1 (rgs_t m_5 (by omega)).2.2.2.1 (rgs_t m_5 (by omega)).2.2.2.2) gL_act_X0_ring rfl rfl rfl rfl (by decide +kernel) ⟨(Nat.le_of_ble_eq_true rfl), (Nat.le_of_ble_eq_true rfl)⟩ rfl rfl rfl ⟨rfl, rfl⟩ (by decide) rfl rfl rfl rfl (Nat.le_of_ble_eq_true rfl) dL_act_132 ⟨(Nat.le_of_ble_eq_true rfl), (Nat.le_of_ble_eq_true rfl)⟩ (fun v1 w1 hp1 => ?_)
    obtain ⟨rfl, rfl⟩ := hp1
    refine xw_st (st' := [nV (rt (RG (2 * m_5)) (RG (2 * m_5 + 1)))]) rfl ?_
    refine xw_wo (w' := LW cI cQ o rr n p (rt n p) g A [] (WX cI h a (RG (2 * m_5)) (RG (2 * m_5 + 1)) (zf A 80))) rfl ?_
    refine xw_aload_n (pc := 135) C 1 dL_act_135 rfl ?_
    refine xw_gets (pc := 136) C Yt (by decide +kernel) dL_act_136 ?_
    refine xw_iload (pc := 139) C 6 dL_act_139 rfl ?_
    refine xw_tald (pc := 141) C Yt (by omega) dL_act_141 ?_
    refine xw_gets (pc := 142) C Yt (by decide +kernel) dL_act_142 ?_
    refine xw_iload (pc := 145) C 6 dL_act_145 rfl ?_
    refine xw_iconst_N (pc := 147) C 1 dL_act_147 rfl ?_
    refine xw_iadd_N (pc := 148) C dL_act_148 ?_
    refine xw_tald (pc := 149) C Yt (by omega) dL_act_149 ?_
    refine xw_YVF (pc := 150) (q0 := 0) (na := 2) (rest := [nV (rt (RG (2 * m_5)) (RG (2 * m_5 + 1)))]) (wc := wH o n p (rt n p) rr) (wr := WX cI h a (RG (2 * m_5)) (RG (2 * m_5 + 1)) (zf A 80)) C Y [0] [6, 7] [0, 1] (m_X1_ring (RG (2 * m_5)) (RG ((2 * m_5) + 1)) (rgs_t m_5 (by omega))) gL_act_X1_ring rfl rfl rfl rfl (by decide +kernel) ⟨(Nat.le_of_ble_eq_true rfl), (Nat.le_of_ble_eq_true rfl)⟩ rfl rfl rfl ⟨rfl, rfl⟩ (by decide) rfl rfl rfl rfl (Nat.le_of_ble_eq_true rfl) dL_act_150 ⟨(Nat.le_of_ble_eq_true rfl), (Nat.le_of_ble_eq_true rfl)⟩ (fun v1 w1 hp1 => ?_)
    obtain ⟨q_6, r_7, rfl, rfl⟩ := hp1
    refine xw_st (st' := [nV (rt (RG (2 * m_5)) (RG ((2 * m_5) + 1))), nV (rt (RG (2 * m_5)) (RG (2 * m_5 + 1)))]) rfl ?_
    refine xw_sub (w' := LW cI cQ o q_6 (RG (2 * m_5)) (RG ((2 * m_5) + 1)) (rt (RG (2 * m_5)) (RG ((2 * m_5) + 1))) r_7 (fun _ => 0) [] (WX cI h a (RG (2 * m_5)) (RG (2 * m_5 + 1)) (zf A 80))) [2, 3, 4, 5, 6, 7, 0, 1] rfl rfl rfl ?_
    have hrg2 : rgs (RG (2 * m_5)) (RG (2 * m_5 + 1)) := ⟨m_5, by omega, rfl, rfl⟩
    have hk16 := (rgs_o hrg2).2.2.2.2.2.1
    refine xw_sB (zf A 80) (fun i hi k hk => by unfold zf; rw [if_pos (by omega)]) ?_
    refine xw_ne_same (pc := 153) (tgt := 160) C (congrArg (fun z : Nat => iI (z : Int)) (show rt (RG (2 * m_5)) (RG (2 * m_5 + 1)) = rt (RG (2 * m_5)) (RG ((2 * m_5) + 1)) from rfl)) dL_act_153 (by decide) ?_
    refine xw_iconst_N (pc := 156) C 1 dL_act_156 rfl ?_
    refine xw_goto (pc := 157) (tgt := 161) C dL_act_157 (by decide) ?_
    refine xw_st (st' := [bV true]) rfl ?_
    exact xw_bret (pc := 161) C rX (Nat.le_of_ble_eq_true rfl) (Nat.le_of_ble_eq_true rfl) dL_act_161 (⟨rfl, _, _, _, _, (zf A 80), SI_zf hrg2 hS, rfl⟩)
  ·
    refine xw_iconst_N (pc := 99) C 1 dL_act_99 rfl ?_
    refine xw_st (st' := [bV true]) rfl ?_
    exact xw_bret (pc := 100) C rX (Nat.le_of_ble_eq_true rfl) (Nat.le_of_ble_eq_true rfl) dL_act_100 (⟨rfl, n, p, rr, _, A, hS, rfl⟩)

set_option maxHeartbeats 4000000 in
set_option maxRecDepth 100000 in
theorem act_1 {l : Launch} {D : va_G} {cI cQ : ClassId} {sc h a o rr n p : Nat} {g A : Nat → Nat} {w0 : va_W} {φ : Fx} (C : xc φ l { frames := 8, cells := 6, slots := 100, locals := 250 } D vwCl [(cI, .int), (cQ, .array .int)] 11 cL_act RL wsL_act) (rX : xr φ w0 (PA cI cQ h a o) (some .boolean) 6 100) (Y : xyc sc φ) (hS : SI n p A) (x : Int32) (ma mb : Nat) (hma : ma < 4) (hmb : mb < 4) : xw φ 0 0 (LV cI cQ h a o rr n p g A) 162 [(0, .ref h), (1, .ref o), (2, .int x), (3, nV ma), (4, nV mb), (5, nV n)] [] := by
  have hin : ∀ w ∈ wsX10, w ∈ wsL_act := fun w hw => wsX10_act w hw
  obtain ⟨hrg, hA, hAp⟩ := id hS
  obtain ⟨hn, hp4, hp5, hp1, hp0, hn16, hnp, hr1, hrl, hfer⟩ := rgs_o hrg
  have hn3 := lt3 hn
  refine xw_aload_n (pc := 162) C 1 dL_act_162 rfl ?_
  refine xw_get (pc := 163) (T := TX1) (N := 4) (ref := "ToneButterfliesLaw$Sim") C hin 0 3 LW_o rfl (by decide) (by decide +kernel) rfl rfl dL_act_163 ?_
  refine xw_iload_n (pc := 166) C 3 dL_act_166 rfl ?_
  refine xw_aald (pc := 167) (r := g ma) C 1 1 ma LW_q rfl (by omega) (by decide) (if_pos (by omega)) dL_act_167 ?_
  refine xw_aload_n (pc := 168) C 1 dL_act_168 rfl ?_
  refine xw_get (pc := 169) (T := TX1) (N := 4) (ref := "ToneButterfliesLaw$Sim") C hin 0 3 LW_o rfl (by decide) (by decide +kernel) rfl rfl dL_act_169 ?_
  refine xw_iload (pc := 172) C 4 dL_act_172 rfl ?_
  refine xw_aald (pc := 174) (r := g mb) C 1 1 mb LW_q rfl (by omega) (by decide) (if_pos (by omega)) dL_act_174 ?_
  refine xw_Sd (pc := 175) (na := 2) (rest := []) (st' := [nV (unR (fun k => A (16 * ma + k)) (fun k => A (16 * mb + k)) n)]) C (m_X1_unlike hn16 (fun j => hA _) (fun j => hA _) (LW_r (by omega)) (LW_r (by omega))) gL_act_X1_unlike rfl rfl rfl rfl (by decide +kernel) ⟨(Nat.le_of_ble_eq_true rfl), (Nat.le_of_ble_eq_true rfl)⟩ rfl (Nat.le_of_ble_eq_true rfl) dL_act_175 ⟨(Nat.le_of_ble_eq_true rfl), (Nat.le_of_ble_eq_true rfl)⟩ rfl ?_
  refine xw_istore (pc := 178) (lv' := [(0, .ref h), (1, .ref o), (2, .int x), (3, nV ma), (4, nV mb), (5, nV n), (6, nV (unR (fun k => A (16 * ma + k)) (fun k => A (16 * mb + k)) n))]) C [1, 2, 3, 4, 5, 6, 0] dL_act_178 (by decide) rfl ?_
  refine xw_aload_n (pc := 180) C 1 dL_act_180 rfl ?_
  refine xw_get (pc := 181) (T := TX1) (N := 4) (ref := "ToneButterfliesLaw$Sim") C hin 0 3 LW_o rfl (by decide) (by decide +kernel) rfl rfl dL_act_181 ?_
  refine xw_iload (pc := 184) C 4 dL_act_184 rfl ?_
  refine xw_aload_n (pc := 186) C 1 dL_act_186 rfl ?_
  refine xw_get (pc := 187) (T := TX1) (N := 4) (ref := "ToneButterfliesLaw$Sim") C hin 0 3 LW_o rfl (by decide) (by decide +kernel) rfl rfl dL_act_187 ?_
  refine xw_iload_n (pc := 190) C 3 dL_act_190 rfl ?_
  refine xw_aald (pc := 191) (r := g ma) C 1 1 ma LW_q rfl (by omega) (by decide) (if_pos (by omega)) dL_act_191 ?_
  refine xw_clone (pc := 192) C Y (2 + ma) 0 (LW_r (by omega)) rfl (by decide +kernel) (by decide +kernel) (by decide +kernel) (by decide +kernel) (by decide +kernel) (Nat.le_of_ble_eq_true rfl) (Nat.le_of_ble_eq_true rfl) (by show 0 + 1 ≤ 6; omega) (by show 0 + n ≤ 100; omega) dL_act_192 (fun q_1 => ?_)
  refine xw_wd (k' := 1) (n' := 16) (by omega) (by omega) ?_
  refine xw_wo (w' := LW cI cQ o rr n p (rt n p) g A [] (WX cI h a n p A) ++ [(q_1, .inl (cI, n, .inl (fN (fun k => A (16 * ma + k)))))]) rfl ?_
  refine xw_castA (pc := 195) C (LW cI cQ o rr n p (rt n p) g A [] (WX cI h a n p A)).length 0 gl_new rfl (by decide +kernel) dL_act_195 ?_
  refine xw_srow (pc := 198) C Y mb q_1 (by omega) hn16 dL_act_198 ?_
  refine xw_aload_n (pc := 199) C 0 dL_act_199 rfl ?_
  refine xw_iload_n (pc := 200) C 3 dL_act_200 rfl ?_
  refine xw_iload (pc := 201) C 4 dL_act_201 rfl ?_
  refine xw_VF (pc := 203) (q0 := 0) (na := 2) (rest := []) (wc := WX cI h a n p A) (wr := wS cI cQ o n p (rt n p) rr (va_up g mb q_1) (mr A mb (fun k => A (16 * ma + k)) n) ++ []) C [6, 7] [0, 1, 2, 3, 4, 5] [0] (m_X0_copy hn hA ma mb (by omega) (by omega)) gL_act_X0_copy rfl rfl rfl rfl (by decide +kernel) ⟨(Nat.le_of_ble_eq_true rfl), (Nat.le_of_ble_eq_true rfl)⟩ rfl rfl rfl ⟨rfl, rfl⟩ (by decide) rfl rfl rfl rfl (Nat.le_of_ble_eq_true rfl) dL_act_203 ⟨(Nat.le_of_ble_eq_true rfl), (Nat.le_of_ble_eq_true rfl)⟩ (fun v1 w1 hp1 => ?_)
  obtain ⟨rfl, rfl⟩ := hp1
  refine xw_st (st' := [nV (cc (fun j => decide (A (16 * mb + j) ≠ A (16 * ma + j))) n)]) rfl ?_
  refine xw_wo (w' := LW cI cQ o rr n p (rt n p) (va_up g mb q_1) (mr A mb (fun k => A (16 * ma + k)) n) [] (WX cI h a n p (cp A ma mb n))) rfl ?_
  refine xw_sB (cp A ma mb n) (fun _ _ _ _ => rfl) ?_
  refine xw_iload (pc := 206) C 6 dL_act_206 rfl ?_
  refine xw_ne_same (pc := 208) (tgt := 215) C (congrArg (fun z : Nat => iI (z : Int)) (show cc (fun j => decide (A (16 * mb + j) ≠ A (16 * ma + j))) n = unR (fun k => A (16 * ma + k)) (fun k => A (16 * mb + k)) n from unR_s)) dL_act_208 (by decide) ?_
  refine xw_iconst_N (pc := 211) C 1 dL_act_211 rfl ?_
  refine xw_goto (pc := 212) (tgt := 216) C dL_act_212 (by decide) ?_
  refine xw_st (st' := [bV true]) rfl ?_
  exact xw_bret (pc := 216) C rX (Nat.le_of_ble_eq_true rfl) (Nat.le_of_ble_eq_true rfl) dL_act_216 (⟨rfl, n, p, rr, _, (cp A ma mb n), SI_cp hS hma hmb hn16, rfl⟩)

set_option maxHeartbeats 4000000 in
set_option maxRecDepth 100000 in
theorem act_2 {l : Launch} {D : va_G} {cI cQ : ClassId} {sc h a o rr n p : Nat} {g A : Nat → Nat} {w0 : va_W} {φ : Fx} (C : xc φ l { frames := 8, cells := 6, slots := 100, locals := 250 } D vwCl [(cI, .int), (cQ, .array .int)] 11 cL_act RL wsL_act) (rX : xr φ w0 (PA cI cQ h a o) (some .boolean) 6 100) (Y : xyc sc φ) (hS : SI n p A) (x : Int32) (ma mb : Nat) (hma : ma < 4) (hmb : mb < 4) : xw φ 0 0 (LV cI cQ h a o rr n p g A) 217 [(0, .ref h), (1, .ref o), (2, .int x), (3, nV ma), (4, nV mb), (5, nV n)] [] := by
  have hin : ∀ w ∈ wsX10, w ∈ wsL_act := fun w hw => wsX10_act w hw
  obtain ⟨hrg, hA, hAp⟩ := id hS
  obtain ⟨hn, hp4, hp5, hp1, hp0, hn16, hnp, hr1, hrl, hfer⟩ := rgs_o hrg
  have hn3 := lt3 hn
  refine xw_iload_n (pc := 217) C 2 dL_act_217 rfl ?_
  refine xw_bipush_N (pc := 218) C 8 dL_act_218 (by decide) ?_
  obtain ⟨x_1, hx_1⟩ : ∃ x_1 : Int32, x >>> (iI ((8 : Nat) : Int) &&& 31) = x_1 := ⟨_, rfl⟩
  refine xw_ishr (pc := 220) C dL_act_220 hx_1 ?_
  refine xw_iconst_N (pc := 221) C 2 dL_act_221 rfl ?_
  refine xw_S (pc := 222) (na := 2) (rest := []) C (m_L_below x_1 2 (by omega) (by omega)) gL_act_L_below rfl rfl rfl rfl (by decide +kernel) ⟨(Nat.le_of_ble_eq_true rfl), (Nat.le_of_ble_eq_true rfl)⟩ rfl (Nat.le_of_ble_eq_true rfl) dL_act_222 ⟨(Nat.le_of_ble_eq_true rfl), (Nat.le_of_ble_eq_true rfl)⟩ (fun v1 w1 hp1 => ?_)
  obtain ⟨m_2, hm_2, rfl, rfl⟩ := hp1
  refine xw_st (st' := [nV m_2]) rfl ?_
  refine xw_if_ne_N (pc := 225) (tgt := 232) C dL_act_225 (by decide) (by omega) (fun c_3 => ?_) (fun c_3 => ?_)
  ·
    refine xw_iconst_N (pc := 232) C 0 dL_act_232 rfl ?_
    refine xw_istore (pc := 233) (lv' := [(0, .ref h), (1, .ref o), (2, .int x), (3, nV ma), (4, nV mb), (5, nV n), (6, nV 0)]) C [1, 2, 3, 4, 5, 6, 0] dL_act_233 (by decide) rfl ?_
    refine xw_aload_n (pc := 235) C 1 dL_act_235 rfl ?_
    refine xw_get (pc := 236) (T := TX1) (N := 4) (ref := "ToneButterfliesLaw$Sim") C hin 0 3 LW_o rfl (by decide) (by decide +kernel) rfl rfl dL_act_236 ?_
    refine xw_iload_n (pc := 239) C 3 dL_act_239 rfl ?_
    refine xw_iload (pc := 240) C 6 dL_act_240 rfl ?_
    refine xw_if_eq_N (pc := 242) (tgt := 258) C dL_act_242 (by decide) (by omega) (fun c_4 => ?_) (fun c_4 => (by omega))
    refine xw_aload_n (pc := 258) C 1 dL_act_258 rfl ?_
    refine xw_aload_n (pc := 259) C 1 dL_act_259 rfl ?_
    refine xw_get (pc := 260) (T := TX1) (N := 4) (ref := "ToneButterfliesLaw$Sim") C hin 0 3 LW_o rfl (by decide) (by decide +kernel) rfl rfl dL_act_260 ?_
    refine xw_iload_n (pc := 263) C 3 dL_act_263 rfl ?_
    refine xw_aald (pc := 264) (r := g ma) C 1 1 ma LW_q rfl (by omega) (by decide) (if_pos (by omega)) dL_act_264 ?_
    refine xw_V (pc := 265) (q0 := 0) (na := 1) (rest := [nV ma, .ref rr]) C (m_X1_tones LW_o hp1 hp5 hn (by omega) (fun j => hA _) (LW_r (by omega))) gL_act_X1_tones rfl rfl rfl rfl (by decide +kernel) ⟨(Nat.le_of_ble_eq_true rfl), (Nat.le_of_ble_eq_true rfl)⟩ LW_o rfl rfl (Nat.le_of_ble_eq_true rfl) dL_act_265 ⟨(Nat.le_of_ble_eq_true rfl), (Nat.le_of_ble_eq_true rfl)⟩ (fun v1 w1 hp1 => ?_)
    obtain ⟨q_5, rfl, rfl⟩ := hp1
    refine xw_st (st' := [.ref q_5, nV ma, .ref rr]) rfl ?_
    refine xw_wd (k' := 1) (n' := 16) (by omega) (by omega) ?_
    refine xw_srow (pc := 268) C Y ma q_5 (by omega) hn16 dL_act_268 ?_
    refine xw_aload_n (pc := 269) C 0 dL_act_269 rfl ?_
    refine xw_iload_n (pc := 270) C 3 dL_act_270 rfl ?_
    refine xw_iload (pc := 271) C 6 dL_act_271 rfl ?_
    refine xw_VF (pc := 273) (q0 := 0) (na := 2) (rest := []) (wc := WX cI h a n p A) (wr := wS cI cQ o n p (rt n p) rr (va_up g ma q_5) (mr A ma (mk (fun _ => 0) (fun k => ts p (rt n p) n (fun k => A (16 * ma + k)) k n) n) n) ++ []) C [6, 7] [0, 1, 2, 3, 4, 5] [0] (m_X0_turn_false hp0 hp5 hn hA (by omega) (ml hp0 hp5) (ml hp0 hp5) ma (by omega)) gL_act_X0_turn rfl rfl rfl rfl (by decide +kernel) ⟨(Nat.le_of_ble_eq_true rfl), (Nat.le_of_ble_eq_true rfl)⟩ rfl rfl rfl ⟨rfl, rfl⟩ (by decide) rfl rfl rfl rfl (Nat.le_of_ble_eq_true rfl) dL_act_273 ⟨(Nat.le_of_ble_eq_true rfl), (Nat.le_of_ble_eq_true rfl)⟩ (fun v1 w1 hp1 => ?_)
    obtain ⟨rfl, rfl⟩ := hp1
    refine xw_st (st' := [nV (tn p n A ma (rt n p) 1 0)]) rfl ?_
    refine xw_wo (w' := LW cI cQ o rr n p (rt n p) (va_up g ma q_5) (mr A ma (mk (fun _ => 0) (fun k => ts p (rt n p) n (fun k => A (16 * ma + k)) k n) n) n) [] (WX cI h a n p (ly A (tn p n A ma (rt n p) 1) ma n))) rfl ?_
    refine xw_sB (ly A (tn p n A ma (rt n p) 1) ma n) (ag_ly hn16 (fun k hk => ts_tn hrg hk)) ?_
    refine xw_aload_n (pc := 276) C 1 dL_act_276 rfl ?_
    refine xw_get (pc := 277) (T := TX1) (N := 4) (ref := "ToneButterfliesLaw$Sim") C hin 0 3 LW_o rfl (by decide) (by decide +kernel) rfl rfl dL_act_277 ?_
    refine xw_iload_n (pc := 280) C 3 dL_act_280 rfl ?_
    refine xw_aald (pc := 281) (r := (va_up g ma q_5) ma) C 1 1 ma LW_q rfl (by omega) (by decide) (if_pos (by omega)) dL_act_281 ?_
    refine xw_iconst_N (pc := 282) C 0 dL_act_282 rfl ?_
    refine xw_iald (pc := 283) C (2 + ma) 0 0 (LW_r (by omega)) rfl rfl (by omega) (by omega) dL_act_283 ?_
    refine xw_st (st' := [nV ((ly A (tn p n A ma (rt n p) 1) ma n) (16 * ma + 0)), nV (tn p n A ma (rt n p) 1 0)]) rfl ?_
    refine xw_ne_same (pc := 284) (tgt := 291) C (congrArg (fun z : Nat => iI (z : Int)) (show tn p n A ma (rt n p) 1 0 = (ly A (tn p n A ma (rt n p) 1) ma n) (16 * ma + 0) from (ly_at (A := A) (r := ma) (n := n) (i := 0) (by omega)).symm)) dL_act_284 (by decide) ?_
    refine xw_iconst_N (pc := 287) C 1 dL_act_287 rfl ?_
    refine xw_goto (pc := 288) (tgt := 292) C dL_act_288 (by decide) ?_
    refine xw_st (st' := [bV true]) rfl ?_
    exact xw_bret (pc := 292) C rX (Nat.le_of_ble_eq_true rfl) (Nat.le_of_ble_eq_true rfl) dL_act_292 (⟨rfl, n, p, rr, _, (ly A (tn p n A ma (rt n p) 1) ma n), SI_ly hS hn16 hma (fun k _ => Nat.mod_lt _ hp0), rfl⟩)
  ·
    refine xw_iconst_N (pc := 228) C 1 dL_act_228 rfl ?_
    refine xw_goto (pc := 229) (tgt := 233) C dL_act_229 (by decide) ?_
    refine xw_istore (pc := 233) (lv' := [(0, .ref h), (1, .ref o), (2, .int x), (3, nV ma), (4, nV mb), (5, nV n), (6, nV 1)]) C [1, 2, 3, 4, 5, 6, 0] dL_act_233 (by decide) rfl ?_
    refine xw_aload_n (pc := 235) C 1 dL_act_235 rfl ?_
    refine xw_get (pc := 236) (T := TX1) (N := 4) (ref := "ToneButterfliesLaw$Sim") C hin 0 3 LW_o rfl (by decide) (by decide +kernel) rfl rfl dL_act_236 ?_
    refine xw_iload_n (pc := 239) C 3 dL_act_239 rfl ?_
    refine xw_iload (pc := 240) C 6 dL_act_240 rfl ?_
    refine xw_if_eq_N (pc := 242) (tgt := 258) C dL_act_242 (by decide) (by omega) (fun c_6 => (by omega)) (fun c_6 => ?_)
    refine xw_aload_n (pc := 245) C 1 dL_act_245 rfl ?_
    refine xw_aload_n (pc := 246) C 1 dL_act_246 rfl ?_
    refine xw_get (pc := 247) (T := TX1) (N := 4) (ref := "ToneButterfliesLaw$Sim") C hin 0 3 LW_o rfl (by decide) (by decide +kernel) rfl rfl dL_act_247 ?_
    refine xw_iload_n (pc := 250) C 3 dL_act_250 rfl ?_
    refine xw_aald (pc := 251) (r := g ma) C 1 1 ma LW_q rfl (by omega) (by decide) (if_pos (by omega)) dL_act_251 ?_
    refine xw_V (pc := 252) (q0 := 0) (na := 1) (rest := [nV ma, .ref rr]) C (m_X1_back LW_o hp1 hp5 hn (by omega) hnp (hfer _ (by omega) hnp) (fun j => hA _) (LW_r (by omega))) gL_act_X1_back rfl rfl rfl rfl (by decide +kernel) ⟨(Nat.le_of_ble_eq_true rfl), (Nat.le_of_ble_eq_true rfl)⟩ LW_o rfl rfl (Nat.le_of_ble_eq_true rfl) dL_act_252 ⟨(Nat.le_of_ble_eq_true rfl), (Nat.le_of_ble_eq_true rfl)⟩ (fun v1 w1 hp1 => ?_)
    obtain ⟨q_7, rfl, rfl⟩ := hp1
    refine xw_st (st' := [.ref q_7, nV ma, .ref rr]) rfl ?_
    refine xw_wd (k' := 1) (n' := 16) (by omega) (by omega) ?_
    refine xw_goto (pc := 255) (tgt := 268) C dL_act_255 (by decide) ?_
    refine xw_srow (pc := 268) C Y ma q_7 (by omega) hn16 dL_act_268 ?_
    refine xw_aload_n (pc := 269) C 0 dL_act_269 rfl ?_
    refine xw_iload_n (pc := 270) C 3 dL_act_270 rfl ?_
    refine xw_iload (pc := 271) C 6 dL_act_271 rfl ?_
    refine xw_VF (pc := 273) (q0 := 0) (na := 2) (rest := []) (wc := WX cI h a n p A) (wr := wS cI cQ o n p (rt n p) rr (va_up g ma q_7) (mr A ma (mk (fun _ => 0) (fun k => bs p (rt n p) n (fun k => A (16 * ma + k)) k n * (n ^ (p - 2) % p) % p) n) n) ++ []) C [6, 7] [0, 1, 2, 3, 4, 5] [0] (m_X0_turn_true hp0 hp5 hn hA (by omega) (ml hp0 hp5) (ml hp0 hp5) ma (by omega)) gL_act_X0_turn rfl rfl rfl rfl (by decide +kernel) ⟨(Nat.le_of_ble_eq_true rfl), (Nat.le_of_ble_eq_true rfl)⟩ rfl rfl rfl ⟨rfl, rfl⟩ (by decide) rfl rfl rfl rfl (Nat.le_of_ble_eq_true rfl) dL_act_273 ⟨(Nat.le_of_ble_eq_true rfl), (Nat.le_of_ble_eq_true rfl)⟩ (fun v1 w1 hp1 => ?_)
    obtain ⟨rfl, rfl⟩ := hp1
    refine xw_st (st' := [nV (tn p n A ma (rt n p ^ (p - 2) % p) (n ^ (p - 2) % p) 0)]) rfl ?_
    refine xw_wo (w' := LW cI cQ o rr n p (rt n p) (va_up g ma q_7) (mr A ma (mk (fun _ => 0) (fun k => bs p (rt n p) n (fun k => A (16 * ma + k)) k n * (n ^ (p - 2) % p) % p) n) n) [] (WX cI h a n p (ly A (tn p n A ma (rt n p ^ (p - 2) % p) (n ^ (p - 2) % p)) ma n))) rfl ?_
    refine xw_sB (ly A (tn p n A ma (rt n p ^ (p - 2) % p) (n ^ (p - 2) % p)) ma n) (ag_ly hn16 (fun k hk => bs_tn hrg hk)) ?_
    refine xw_aload_n (pc := 276) C 1 dL_act_276 rfl ?_
    refine xw_get (pc := 277) (T := TX1) (N := 4) (ref := "ToneButterfliesLaw$Sim") C hin 0 3 LW_o rfl (by decide) (by decide +kernel) rfl rfl dL_act_277 ?_
    refine xw_iload_n (pc := 280) C 3 dL_act_280 rfl ?_
    refine xw_aald (pc := 281) (r := (va_up g ma q_7) ma) C 1 1 ma LW_q rfl (by omega) (by decide) (if_pos (by omega)) dL_act_281 ?_
    refine xw_iconst_N (pc := 282) C 0 dL_act_282 rfl ?_
    refine xw_iald (pc := 283) C (2 + ma) 0 0 (LW_r (by omega)) rfl rfl (by omega) (by omega) dL_act_283 ?_
    refine xw_st (st' := [nV ((ly A (tn p n A ma (rt n p ^ (p - 2) % p) (n ^ (p - 2) % p)) ma n) (16 * ma + 0)), nV (tn p n A ma (rt n p ^ (p - 2) % p) (n ^ (p - 2) % p) 0)]) rfl ?_
    refine xw_ne_same (pc := 284) (tgt := 291) C (congrArg (fun z : Nat => iI (z : Int)) (show tn p n A ma (rt n p ^ (p - 2) % p) (n ^ (p - 2) % p) 0 = (ly A (tn p n A ma (rt n p ^ (p - 2) % p) (n ^ (p - 2) % p)) ma n) (16 * ma + 0) from (ly_at (A := A) (r := ma) (n := n) (i := 0) (by omega)).symm)) dL_act_284 (by decide) ?_
    refine xw_iconst_N (pc := 287) C 1 dL_act_287 rfl ?_
    refine xw_goto (pc := 288) (tgt := 292) C dL_act_288 (by decide) ?_
    refine xw_st (st' := [bV true]) rfl ?_
    exact xw_bret (pc := 292) C rX (Nat.le_of_ble_eq_true rfl) (Nat.le_of_ble_eq_true rfl) dL_act_292 (⟨rfl, n, p, rr, _, (ly A (tn p n A ma (rt n p ^ (p - 2) % p) (n ^ (p - 2) % p)) ma n), SI_ly hS hn16 hma (fun k _ => Nat.mod_lt _ hp0), rfl⟩)

set_option maxHeartbeats 4000000 in
set_option maxRecDepth 100000 in
theorem act_4 {l : Launch} {D : va_G} {cI cQ : ClassId} {sc h a o rr n p : Nat} {g A : Nat → Nat} {w0 : va_W} {φ : Fx} (C : xc φ l { frames := 8, cells := 6, slots := 100, locals := 250 } D vwCl [(cI, .int), (cQ, .array .int)] 11 cL_act RL wsL_act) (rX : xr φ w0 (PA cI cQ h a o) (some .boolean) 6 100) (Y : xyc sc φ) (hS : SI n p A) (x : Int32) (ma mb : Nat) (hma : ma < 4) (hmb : mb < 4) : xw φ 0 0 (LV cI cQ h a o rr n p g A) 293 [(0, .ref h), (1, .ref o), (2, .int x), (3, nV ma), (4, nV mb), (5, nV n)] [] := by
  have hin : ∀ w ∈ wsX10, w ∈ wsL_act := fun w hw => wsX10_act w hw
  obtain ⟨hrg, hA, hAp⟩ := id hS
  obtain ⟨hn, hp4, hp5, hp1, hp0, hn16, hnp, hr1, hrl, hfer⟩ := rgs_o hrg
  have hn3 := lt3 hn
  refine xw_aload_n (pc := 293) C 1 dL_act_293 rfl ?_
  refine xw_aload_n (pc := 294) C 1 dL_act_294 rfl ?_
  refine xw_get (pc := 295) (T := TX1) (N := 4) (ref := "ToneButterfliesLaw$Sim") C hin 0 3 LW_o rfl (by decide) (by decide +kernel) rfl rfl dL_act_295 ?_
  refine xw_iload_n (pc := 298) C 3 dL_act_298 rfl ?_
  refine xw_aald (pc := 299) (r := g ma) C 1 1 ma LW_q rfl (by omega) (by decide) (if_pos (by omega)) dL_act_299 ?_
  refine xw_V (pc := 300) (q0 := 0) (na := 1) (rest := []) C (m_X1_mirrored LW_o hp1 hp5 hn (fun j => hA _) (LW_r (by omega))) gL_act_X1_mirrored rfl rfl rfl rfl (by decide +kernel) ⟨(Nat.le_of_ble_eq_true rfl), (Nat.le_of_ble_eq_true rfl)⟩ LW_o rfl rfl (Nat.le_of_ble_eq_true rfl) dL_act_300 ⟨(Nat.le_of_ble_eq_true rfl), (Nat.le_of_ble_eq_true rfl)⟩ (fun v1 w1 hp1 => ?_)
  obtain ⟨q_1, rfl, rfl⟩ := hp1
  refine xw_st (st' := [.ref q_1]) rfl ?_
  refine xw_wd (k' := 1) (n' := 16) (by omega) (by omega) ?_
  refine xw_astore (pc := 303) (lv' := [(0, .ref h), (1, .ref o), (2, .int x), (3, nV ma), (4, nV mb), (5, nV n), (6, .ref q_1)]) C [1, 2, 3, 4, 5, 6, 0] dL_act_303 (by decide) rfl ?_
  refine xw_aload (pc := 305) C 6 dL_act_305 rfl ?_
  refine xw_aload_n (pc := 307) C 1 dL_act_307 rfl ?_
  refine xw_get (pc := 308) (T := TX1) (N := 4) (ref := "ToneButterfliesLaw$Sim") C hin 0 3 (gl_old LW_o) rfl (by decide) (by decide +kernel) rfl rfl dL_act_308 ?_
  refine xw_iload_n (pc := 311) C 3 dL_act_311 rfl ?_
  refine xw_aald (pc := 312) (r := g ma) C 1 1 ma (gl_old LW_q) rfl (by omega) (by decide) (if_pos (by omega)) dL_act_312 ?_
  refine xw_Sd (pc := 313) (na := 2) (rest := []) (st' := [nV (unR (mk (fun _ => 0) (fun m => (fun k => A (16 * ma + k)) (mi m (bt n))) n) (fun k => A (16 * ma + k)) n)]) C (m_X1_unlike hn16 (mk_lt (fun _ => by omega) (fun j _ => hA _)) (fun j => hA _) gl_new (gl_old (LW_r (by omega)))) gL_act_X1_unlike rfl rfl rfl rfl (by decide +kernel) ⟨(Nat.le_of_ble_eq_true rfl), (Nat.le_of_ble_eq_true rfl)⟩ rfl (Nat.le_of_ble_eq_true rfl) dL_act_313 ⟨(Nat.le_of_ble_eq_true rfl), (Nat.le_of_ble_eq_true rfl)⟩ rfl ?_
  refine xw_istore (pc := 316) (lv' := [(0, .ref h), (1, .ref o), (2, .int x), (3, nV ma), (4, nV mb), (5, nV n), (6, .ref q_1), (7, nV (unR (mk (fun _ => 0) (fun m => (fun k => A (16 * ma + k)) (mi m (bt n))) n) (fun k => A (16 * ma + k)) n))]) C [1, 2, 3, 4, 5, 6, 7, 0] dL_act_316 (by decide) rfl ?_
  refine xw_aload_n (pc := 318) C 1 dL_act_318 rfl ?_
  refine xw_get (pc := 319) (T := TX1) (N := 4) (ref := "ToneButterfliesLaw$Sim") C hin 0 3 (gl_old LW_o) rfl (by decide) (by decide +kernel) rfl rfl dL_act_319 ?_
  refine xw_iload_n (pc := 322) C 3 dL_act_322 rfl ?_
  refine xw_aload (pc := 323) C 6 dL_act_323 rfl ?_
  refine xw_srow (pc := 325) C Y ma q_1 (by omega) hn16 dL_act_325 ?_
  refine xw_aload_n (pc := 326) C 0 dL_act_326 rfl ?_
  refine xw_iload_n (pc := 327) C 3 dL_act_327 rfl ?_
  refine xw_VF (pc := 328) (q0 := 0) (na := 1) (rest := []) (wc := WX cI h a n p A) (wr := wS cI cQ o n p (rt n p) rr (va_up g ma q_1) (mr A ma (mk (fun _ => 0) (fun m => (fun k => A (16 * ma + k)) (mi m (bt n))) n) n) ++ []) C [6, 7] [0, 1, 2, 3, 4, 5] [0] (m_X0_mirror hn hA rfl ma (by omega)) gL_act_X0_mirror rfl rfl rfl rfl (by decide +kernel) ⟨(Nat.le_of_ble_eq_true rfl), (Nat.le_of_ble_eq_true rfl)⟩ rfl rfl rfl ⟨rfl, rfl⟩ (by decide) rfl rfl rfl rfl (Nat.le_of_ble_eq_true rfl) dL_act_328 ⟨(Nat.le_of_ble_eq_true rfl), (Nat.le_of_ble_eq_true rfl)⟩ (fun v1 w1 hp1 => ?_)
  obtain ⟨rfl, rfl⟩ := hp1
  refine xw_st (st' := [nV (cc (fun j => decide (A (16 * ma + j) ≠ (fun m => A (16 * ma + mi m (bt n))) j)) n)]) rfl ?_
  refine xw_wo (w' := LW cI cQ o rr n p (rt n p) (va_up g ma q_1) (mr A ma (mk (fun _ => 0) (fun m => (fun k => A (16 * ma + k)) (mi m (bt n))) n) n) [] (WX cI h a n p (ly A (fun m => A (16 * ma + mi m (bt n))) ma n))) rfl ?_
  refine xw_sB (ly A (fun m => A (16 * ma + mi m (bt n))) ma n) (ag_ly hn16 (fun k hk => rfl)) ?_
  refine xw_iload (pc := 331) C 7 dL_act_331 rfl ?_
  refine xw_ne_same (pc := 333) (tgt := 340) C (congrArg (fun z : Nat => iI (z : Int)) (show cc (fun j => decide (A (16 * ma + j) ≠ (fun m => A (16 * ma + mi m (bt n))) j)) n = unR (mk (fun _ => 0) (fun m => (fun k => A (16 * ma + k)) (mi m (bt n))) n) (fun k => A (16 * ma + k)) n from unR_m)) dL_act_333 (by decide) ?_
  refine xw_iconst_N (pc := 336) C 1 dL_act_336 rfl ?_
  refine xw_goto (pc := 337) (tgt := 341) C dL_act_337 (by decide) ?_
  refine xw_st (st' := [bV true]) rfl ?_
  exact xw_bret (pc := 341) C rX (Nat.le_of_ble_eq_true rfl) (Nat.le_of_ble_eq_true rfl) dL_act_341 (⟨rfl, n, p, rr, _, (ly A (fun m => A (16 * ma + mi m (bt n))) ma n), SI_ly hS hn16 hma (fun k hk => hAp _ (mi_64 hn hma hk)), rfl⟩)

set_option maxHeartbeats 4000000 in
set_option maxRecDepth 100000 in
theorem act_5 {l : Launch} {D : va_G} {cI cQ : ClassId} {sc h a o rr n p : Nat} {g A : Nat → Nat} {w0 : va_W} {φ : Fx} (C : xc φ l { frames := 8, cells := 6, slots := 100, locals := 250 } D vwCl [(cI, .int), (cQ, .array .int)] 11 cL_act RL wsL_act) (rX : xr φ w0 (PA cI cQ h a o) (some .boolean) 6 100) (Y : xyc sc φ) (hS : SI n p A) (x : Int32) (ma mb : Nat) (hma : ma < 4) (hmb : mb < 4) : xw φ 0 0 (LV cI cQ h a o rr n p g A) 342 [(0, .ref h), (1, .ref o), (2, .int x), (3, nV ma), (4, nV mb), (5, nV n)] [] := by
  have hin : ∀ w ∈ wsX10, w ∈ wsL_act := fun w hw => wsX10_act w hw
  obtain ⟨hrg, hA, hAp⟩ := id hS
  obtain ⟨hn, hp4, hp5, hp1, hp0, hn16, hnp, hr1, hrl, hfer⟩ := rgs_o hrg
  have hn3 := lt3 hn
  have hbt := bt_le n
  have hbt2 : 0 < bt n := by unfold bt; split <;> (try split) <;> omega
  refine xw_iload_n (pc := 342) C 2 dL_act_342 rfl ?_
  refine xw_bipush_N (pc := 343) C 8 dL_act_343 (by decide) ?_
  obtain ⟨x_1, hx_1⟩ : ∃ x_1 : Int32, x >>> (iI ((8 : Nat) : Int) &&& 31) = x_1 := ⟨_, rfl⟩
  refine xw_ishr (pc := 345) C dL_act_345 hx_1 ?_
  have J368_2 : xw φ 0 0 (LW cI cQ o rr n p (rt n p) g A [] (WX cI h a n p A)) 368 [(0, .ref h), (1, .ref o), (2, .int x), (3, nV ma), (4, nV mb), (5, nV n)] [nV (bt n), .int x_1] := by
    refine xw_S (pc := 368) (na := 2) (rest := []) C (m_L_below x_1 (bt n) (by omega) (by omega)) gL_act_L_below rfl rfl rfl rfl (by decide +kernel) ⟨(Nat.le_of_ble_eq_true rfl), (Nat.le_of_ble_eq_true rfl)⟩ rfl (Nat.le_of_ble_eq_true rfl) dL_act_368 ⟨(Nat.le_of_ble_eq_true rfl), (Nat.le_of_ble_eq_true rfl)⟩ (fun v1 w1 hp1 => ?_)
    obtain ⟨m_3, hm_3, rfl, rfl⟩ := hp1
    refine xw_st (st' := [nV m_3]) rfl ?_
    refine xw_istore (pc := 371) (lv' := [(0, .ref h), (1, .ref o), (2, .int x), (3, nV ma), (4, nV mb), (5, nV n), (6, nV m_3)]) C [1, 2, 3, 4, 5, 6, 0] dL_act_371 (by decide) rfl ?_
    refine xw_aload_n (pc := 373) C 1 dL_act_373 rfl ?_
    refine xw_get (pc := 374) (T := TX1) (N := 4) (ref := "ToneButterfliesLaw$Sim") C hin 0 3 LW_o rfl (by decide) (by decide +kernel) rfl rfl dL_act_374 ?_
    refine xw_iload_n (pc := 377) C 3 dL_act_377 rfl ?_
    refine xw_aload_n (pc := 378) C 1 dL_act_378 rfl ?_
    refine xw_aload_n (pc := 379) C 1 dL_act_379 rfl ?_
    refine xw_get (pc := 380) (T := TX1) (N := 4) (ref := "ToneButterfliesLaw$Sim") C hin 0 3 LW_o rfl (by decide) (by decide +kernel) rfl rfl dL_act_380 ?_
    refine xw_iload_n (pc := 383) C 3 dL_act_383 rfl ?_
    refine xw_aald (pc := 384) (r := g ma) C 1 1 ma LW_q rfl (by omega) (by decide) (if_pos (by omega)) dL_act_384 ?_
    refine xw_iload (pc := 385) C 6 dL_act_385 rfl ?_
    refine xw_V (pc := 387) (q0 := 0) (na := 2) (rest := [nV ma, .ref rr]) C (m_X1_staged LW_o hp1 hp5 hn (by omega) (fun j => hA _) (LW_r (by omega)) m_3 (by omega)) gL_act_X1_staged rfl rfl rfl rfl (by decide +kernel) ⟨(Nat.le_of_ble_eq_true rfl), (Nat.le_of_ble_eq_true rfl)⟩ LW_o rfl rfl (Nat.le_of_ble_eq_true rfl) dL_act_387 ⟨(Nat.le_of_ble_eq_true rfl), (Nat.le_of_ble_eq_true rfl)⟩ (fun v1 w1 hp1 => ?_)
    obtain ⟨q_4, rfl, rfl⟩ := hp1
    refine xw_st (st' := [.ref q_4, nV ma, .ref rr]) rfl ?_
    refine xw_wd (k' := 1) (n' := 16) (by omega) (by omega) ?_
    refine xw_srow (pc := 390) C Y ma q_4 (by omega) hn16 dL_act_390 ?_
    refine xw_aload_n (pc := 391) C 0 dL_act_391 rfl ?_
    refine xw_iload_n (pc := 392) C 3 dL_act_392 rfl ?_
    refine xw_iload (pc := 393) C 6 dL_act_393 rfl ?_
    refine xw_VF (pc := 395) (q0 := 0) (na := 2) (rest := []) (wc := WX cI h a n p A) (wr := wS cI cQ o n p (rt n p) rr (va_up g ma q_4) (mr A ma (mk (fun _ => 0) (sgR p n (rt n p) (fun k => A (16 * ma + k)) (2 ^ m_3)) n) n) ++ []) C [6, 7] [0, 1, 2, 3, 4, 5] [0] (m_X0_stage hp1 hp0 hp5 hn hA (by omega) rfl ma m_3 (by omega) (by omega) (2 ^ m_3) rfl) gL_act_X0_stage rfl rfl rfl rfl (by decide +kernel) ⟨(Nat.le_of_ble_eq_true rfl), (Nat.le_of_ble_eq_true rfl)⟩ rfl rfl rfl ⟨rfl, rfl⟩ (by decide) rfl rfl rfl rfl (Nat.le_of_ble_eq_true rfl) dL_act_395 ⟨(Nat.le_of_ble_eq_true rfl), (Nat.le_of_ble_eq_true rfl)⟩ (fun v1 w1 hp1 => ?_)
    obtain ⟨rfl, rfl⟩ := hp1
    refine xw_st (st' := [nV (sg p n (rt n p) A ma (2 ^ m_3) 0)]) rfl ?_
    refine xw_wo (w' := LW cI cQ o rr n p (rt n p) (va_up g ma q_4) (mr A ma (mk (fun _ => 0) (sgR p n (rt n p) (fun k => A (16 * ma + k)) (2 ^ m_3)) n) n) [] (WX cI h a n p (mr A ma (sg p n (rt n p) A ma (2 ^ m_3)) n))) rfl ?_
    refine xw_sB (mr A ma (sg p n (rt n p) A ma (2 ^ m_3)) n) (fun i _ k _ => by rw [mr_mk]; rfl) ?_
    refine xw_aload_n (pc := 398) C 1 dL_act_398 rfl ?_
    refine xw_get (pc := 399) (T := TX1) (N := 4) (ref := "ToneButterfliesLaw$Sim") C hin 0 3 LW_o rfl (by decide) (by decide +kernel) rfl rfl dL_act_399 ?_
    refine xw_iload_n (pc := 402) C 3 dL_act_402 rfl ?_
    refine xw_aald (pc := 403) (r := (va_up g ma q_4) ma) C 1 1 ma LW_q rfl (by omega) (by decide) (if_pos (by omega)) dL_act_403 ?_
    refine xw_iconst_N (pc := 404) C 0 dL_act_404 rfl ?_
    refine xw_iald (pc := 405) C (2 + ma) 0 0 (LW_r (by omega)) rfl rfl (by omega) (by omega) dL_act_405 ?_
    refine xw_st (st' := [nV ((mr A ma (sg p n (rt n p) A ma (2 ^ m_3)) n) (16 * ma + 0)), nV (sg p n (rt n p) A ma (2 ^ m_3) 0)]) rfl ?_
    refine xw_ne_same (pc := 406) (tgt := 413) C (congrArg (fun z : Nat => iI (z : Int)) (show sg p n (rt n p) A ma (2 ^ m_3) 0 = (mr A ma (sg p n (rt n p) A ma (2 ^ m_3)) n) (16 * ma + 0) from (mr_in (by omega)).symm)) dL_act_406 (by decide) ?_
    refine xw_iconst_N (pc := 409) C 1 dL_act_409 rfl ?_
    refine xw_goto (pc := 410) (tgt := 414) C dL_act_410 (by decide) ?_
    refine xw_st (st' := [bV true]) rfl ?_
    exact xw_bret (pc := 414) C rX (Nat.le_of_ble_eq_true rfl) (Nat.le_of_ble_eq_true rfl) dL_act_414 (⟨rfl, n, p, rr, _, (mr A ma (sg p n (rt n p) A ma (2 ^ m_3)) n), SI_mr hS hn16 hma (fun k _ => sg_lt hp0 _), rfl⟩)
  refine xw_iload (pc := 346) C 5 dL_act_346 rfl ?_
  refine xw_iconst_N (pc := 348) C 4 dL_act_348 rfl ?_
  refine xw_icmp_ne_N (pc := 349) (tgt := 356) C dL_act_349 (by decide) (by omega) (by omega) (fun c_5 => ?_) (fun c_5 => ?_)
  ·
    refine xw_iload (pc := 356) C 5 dL_act_356 rfl ?_
    refine xw_bipush_N (pc := 358) C 8 dL_act_358 (by decide) ?_
    refine xw_icmp_ne_N (pc := 360) (tgt := 367) C dL_act_360 (by decide) (by omega) (by omega) (fun c_6 => ?_) (fun c_6 => ?_)
    ·
      refine xw_iconst_N (pc := 367) C 4 dL_act_367 rfl ?_
      refine xw_st (st' := [nV (bt n), .int x_1]) (congrArg (fun z => [nV z, _]) (show _ = bt n by unfold bt; split <;> (try split) <;> omega)) ?_
      exact J368_2
    ·
      refine xw_iconst_N (pc := 363) C 3 dL_act_363 rfl ?_
      refine xw_goto (pc := 364) (tgt := 368) C dL_act_364 (by decide) ?_
      refine xw_st (st' := [nV (bt n), .int x_1]) (congrArg (fun z => [nV z, _]) (show _ = bt n by unfold bt; split <;> (try split) <;> omega)) ?_
      exact J368_2
  ·
    refine xw_iconst_N (pc := 352) C 2 dL_act_352 rfl ?_
    refine xw_goto (pc := 353) (tgt := 368) C dL_act_353 (by decide) ?_
    refine xw_st (st' := [nV (bt n), .int x_1]) (congrArg (fun z => [nV z, _]) (show _ = bt n by unfold bt; split <;> (try split) <;> omega)) ?_
    exact J368_2

set_option maxHeartbeats 4000000 in
set_option maxRecDepth 100000 in
theorem act_6 {l : Launch} {D : va_G} {cI cQ : ClassId} {sc h a o rr n p : Nat} {g A : Nat → Nat} {w0 : va_W} {φ : Fx} (C : xc φ l { frames := 8, cells := 6, slots := 100, locals := 250 } D vwCl [(cI, .int), (cQ, .array .int)] 11 cL_act RL wsL_act) (rX : xr φ w0 (PA cI cQ h a o) (some .boolean) 6 100) (Y : xyc sc φ) (hS : SI n p A) (x : Int32) (ma mb : Nat) (hma : ma < 4) (hmb : mb < 4) : xw φ 0 0 (LV cI cQ h a o rr n p g A) 415 [(0, .ref h), (1, .ref o), (2, .int x), (3, nV ma), (4, nV mb), (5, nV n)] [] := by
  have hin : ∀ w ∈ wsX10, w ∈ wsL_act := fun w hw => wsX10_act w hw
  obtain ⟨hrg, hA, hAp⟩ := id hS
  obtain ⟨hn, hp4, hp5, hp1, hp0, hn16, hnp, hr1, hrl, hfer⟩ := rgs_o hrg
  have hn3 := lt3 hn
  refine xw_aload_n (pc := 415) C 1 dL_act_415 rfl ?_
  refine xw_get (pc := 416) (T := TX1) (N := 4) (ref := "ToneButterfliesLaw$Sim") C hin 0 3 LW_o rfl (by decide) (by decide +kernel) rfl rfl dL_act_416 ?_
  refine xw_iload_n (pc := 419) C 3 dL_act_419 rfl ?_
  refine xw_aload_n (pc := 420) C 1 dL_act_420 rfl ?_
  refine xw_aload_n (pc := 421) C 1 dL_act_421 rfl ?_
  refine xw_get (pc := 422) (T := TX1) (N := 4) (ref := "ToneButterfliesLaw$Sim") C hin 0 3 LW_o rfl (by decide) (by decide +kernel) rfl rfl dL_act_422 ?_
  refine xw_iload_n (pc := 425) C 3 dL_act_425 rfl ?_
  refine xw_aald (pc := 426) (r := g ma) C 1 1 ma LW_q rfl (by omega) (by decide) (if_pos (by omega)) dL_act_426 ?_
  refine xw_aload_n (pc := 427) C 1 dL_act_427 rfl ?_
  refine xw_get (pc := 428) (T := TX1) (N := 4) (ref := "ToneButterfliesLaw$Sim") C hin 0 3 LW_o rfl (by decide) (by decide +kernel) rfl rfl dL_act_428 ?_
  refine xw_iload (pc := 431) C 4 dL_act_431 rfl ?_
  refine xw_aald (pc := 433) (r := g mb) C 1 1 mb LW_q rfl (by omega) (by decide) (if_pos (by omega)) dL_act_433 ?_
  refine xw_V (pc := 434) (q0 := 0) (na := 2) (rest := [nV ma, .ref rr]) C (m_X1_folded LW_o hp1 hp5 hn (fun j => hA _) (fun j => hA _) (LW_r (by omega)) (LW_r (by omega))) gL_act_X1_folded rfl rfl rfl rfl (by decide +kernel) ⟨(Nat.le_of_ble_eq_true rfl), (Nat.le_of_ble_eq_true rfl)⟩ LW_o rfl rfl (Nat.le_of_ble_eq_true rfl) dL_act_434 ⟨(Nat.le_of_ble_eq_true rfl), (Nat.le_of_ble_eq_true rfl)⟩ (fun v1 w1 hp1 => ?_)
  obtain ⟨q_1, rfl, rfl⟩ := hp1
  refine xw_st (st' := [.ref q_1, nV ma, .ref rr]) rfl ?_
  refine xw_wd (k' := 1) (n' := 16) (by omega) (by omega) ?_
  refine xw_srow (pc := 437) C Y ma q_1 (by omega) hn16 dL_act_437 ?_
  refine xw_aload_n (pc := 438) C 0 dL_act_438 rfl ?_
  refine xw_iload_n (pc := 439) C 3 dL_act_439 rfl ?_
  refine xw_iload (pc := 440) C 4 dL_act_440 rfl ?_
  refine xw_VF (pc := 442) (q0 := 0) (na := 2) (rest := []) (wc := WX cI h a n p A) (wr := wS cI cQ o n p (rt n p) rr (va_up g ma q_1) (mr A ma (mk (fun _ => 0) (fun m => fR p n (fun k => A (16 * ma + k)) (fun k => A (16 * mb + k)) m n) n) n) ++ []) C [6, 7] [0, 1, 2, 3, 4, 5] [0] (m_X0_fold hp0 hp5 hn hA ma mb (by omega) (by omega)) gL_act_X0_fold rfl rfl rfl rfl (by decide +kernel) ⟨(Nat.le_of_ble_eq_true rfl), (Nat.le_of_ble_eq_true rfl)⟩ rfl rfl rfl ⟨rfl, rfl⟩ (by decide) rfl rfl rfl rfl (Nat.le_of_ble_eq_true rfl) dL_act_442 ⟨(Nat.le_of_ble_eq_true rfl), (Nat.le_of_ble_eq_true rfl)⟩ (fun v1 w1 hp1 => ?_)
  obtain ⟨rfl, rfl⟩ := hp1
  refine xw_st (st' := [nV (fo p n A ma mb 0 n)]) rfl ?_
  refine xw_wo (w' := LW cI cQ o rr n p (rt n p) (va_up g ma q_1) (mr A ma (mk (fun _ => 0) (fun m => fR p n (fun k => A (16 * ma + k)) (fun k => A (16 * mb + k)) m n) n) n) [] (WX cI h a n p (ly A (fun k => fo p n A ma mb k n) ma n))) rfl ?_
  refine xw_sB (ly A (fun k => fo p n A ma mb k n) ma n) (ag_ly hn16 (fun k hk => fR_e n)) ?_
  refine xw_aload_n (pc := 445) C 1 dL_act_445 rfl ?_
  refine xw_get (pc := 446) (T := TX1) (N := 4) (ref := "ToneButterfliesLaw$Sim") C hin 0 3 LW_o rfl (by decide) (by decide +kernel) rfl rfl dL_act_446 ?_
  refine xw_iload_n (pc := 449) C 3 dL_act_449 rfl ?_
  refine xw_aald (pc := 450) (r := (va_up g ma q_1) ma) C 1 1 ma LW_q rfl (by omega) (by decide) (if_pos (by omega)) dL_act_450 ?_
  refine xw_iconst_N (pc := 451) C 0 dL_act_451 rfl ?_
  refine xw_iald (pc := 452) C (2 + ma) 0 0 (LW_r (by omega)) rfl rfl (by omega) (by omega) dL_act_452 ?_
  refine xw_st (st' := [nV ((ly A (fun k => fo p n A ma mb k n) ma n) (16 * ma + 0)), nV (fo p n A ma mb 0 n)]) rfl ?_
  refine xw_ne_same (pc := 453) (tgt := 460) C (congrArg (fun z : Nat => iI (z : Int)) (show fo p n A ma mb 0 n = (ly A (fun k => fo p n A ma mb k n) ma n) (16 * ma + 0) from (ly_at (A := A) (g := fun k => fo p n A ma mb k n) (r := ma) (n := n) (i := 0) (by omega)).symm)) dL_act_453 (by decide) ?_
  refine xw_iconst_N (pc := 456) C 1 dL_act_456 rfl ?_
  refine xw_goto (pc := 457) (tgt := 461) C dL_act_457 (by decide) ?_
  refine xw_st (st' := [bV true]) rfl ?_
  exact xw_bret (pc := 461) C rX (Nat.le_of_ble_eq_true rfl) (Nat.le_of_ble_eq_true rfl) dL_act_461 (⟨rfl, n, p, rr, _, (ly A (fun k => fo p n A ma mb k n) ma n), SI_ly hS hn16 hma (fun k _ => fo_lt hp0 _), rfl⟩)

set_option maxHeartbeats 4000000 in
set_option maxRecDepth 100000 in
theorem act_7 {l : Launch} {D : va_G} {cI cQ : ClassId} {sc h a o rr n p : Nat} {g A : Nat → Nat} {w0 : va_W} {φ : Fx} (C : xc φ l { frames := 8, cells := 6, slots := 100, locals := 250 } D vwCl [(cI, .int), (cQ, .array .int)] 11 cL_act RL wsL_act) (rX : xr φ w0 (PA cI cQ h a o) (some .boolean) 6 100) (Y : xyc sc φ) (hS : SI n p A) (x : Int32) (ma mb : Nat) (hma : ma < 4) (hmb : mb < 4) : xw φ 0 0 (LV cI cQ h a o rr n p g A) 462 [(0, .ref h), (1, .ref o), (2, .int x), (3, nV ma), (4, nV mb), (5, nV n)] [] := by
  have hin : ∀ w ∈ wsX10, w ∈ wsL_act := fun w hw => wsX10_act w hw
  obtain ⟨hrg, hA, hAp⟩ := id hS
  obtain ⟨hn, hp4, hp5, hp1, hp0, hn16, hnp, hr1, hrl, hfer⟩ := rgs_o hrg
  have hn3 := lt3 hn
  refine xw_iload_n (pc := 462) C 2 dL_act_462 rfl ?_
  refine xw_bipush_N (pc := 463) C 8 dL_act_463 (by decide) ?_
  obtain ⟨x_1, hx_1⟩ : ∃ x_1 : Int32, x >>> (iI ((8 : Nat) : Int) &&& 31) = x_1 := ⟨_, rfl⟩
  refine xw_ishr (pc := 465) C dL_act_465 hx_1 ?_
  refine xw_iconst_N (pc := 466) C 3 dL_act_466 rfl ?_
  refine xw_S (pc := 467) (na := 2) (rest := []) C (m_L_below x_1 3 (by omega) (by omega)) gL_act_L_below rfl rfl rfl rfl (by decide +kernel) ⟨(Nat.le_of_ble_eq_true rfl), (Nat.le_of_ble_eq_true rfl)⟩ rfl (Nat.le_of_ble_eq_true rfl) dL_act_467 ⟨(Nat.le_of_ble_eq_true rfl), (Nat.le_of_ble_eq_true rfl)⟩ (fun v1 w1 hp1 => ?_)
  obtain ⟨m_2, hm_2, rfl, rfl⟩ := hp1
  refine xw_st (st' := [nV m_2]) rfl ?_
  refine xw_istore (pc := 470) (lv' := [(0, .ref h), (1, .ref o), (2, .int x), (3, nV ma), (4, nV mb), (5, nV n), (6, nV m_2)]) C [1, 2, 3, 4, 5, 6, 0] dL_act_470 (by decide) rfl ?_
  refine xw_iload (pc := 472) C 5 dL_act_472 rfl ?_
  refine xw_newI (pc := 474) C 0 rfl (by decide +kernel) (by show n * 4 ≤ 536870912; omega) (by show 0 + 1 ≤ 6; omega) (by show 0 + n ≤ 100; omega) dL_act_474 (fun q_3 => ?_)
  refine xw_wd (k' := 1) (n' := 16) (by omega) (by omega) ?_
  refine xw_astore (pc := 476) (lv' := [(0, .ref h), (1, .ref o), (2, .int x), (3, nV ma), (4, nV mb), (5, nV n), (6, nV m_2), (7, .ref q_3)]) C [1, 2, 3, 4, 5, 6, 7, 0] dL_act_476 (by decide) rfl ?_
  refine xw_iconst_N (pc := 478) C 0 dL_act_478 rfl ?_
  refine xw_istore (pc := 479) (lv' := [(0, .ref h), (1, .ref o), (2, .int x), (3, nV ma), (4, nV mb), (5, nV n), (6, nV m_2), (7, .ref q_3), (8, nV 0)]) C [1, 2, 3, 4, 5, 6, 7, 8, 0] dL_act_479 (by decide) rfl ?_
  have L481 : ∀ (fuel : Nat) (k : Nat), n < k + fuel → k ≤ n → xw φ 1 16 (LW cI cQ o rr n p (rt n p) g A [] (WX cI h a n p A) ++ [(q_3, .inl (cI, n, .inl (fN (mk (fun _ => 0) (fun k => jn p (A (16 * ma + k)) (A (16 * mb + k)) m_2) k))))]) 481 [(0, .ref h), (1, .ref o), (2, .int x), (3, nV ma), (4, nV mb), (5, nV n), (6, nV m_2), (7, .ref q_3), (8, nV k)] [] := by
    intro fuel
    induction fuel with
    | zero =>
      intro k hk hkn
      omega
    | succ fuel ih481 =>
      intro k hk hkn
      refine xw_iload (pc := 481) C 8 dL_act_481 rfl ?_
      refine xw_iload (pc := 483) C 5 dL_act_483 rfl ?_
      refine xw_icmp_ge_N (pc := 485) (tgt := 564) C dL_act_485 (by decide) (by omega) (by omega) (fun c_4 => ?_) (fun c_4 => ?_)
      ·
        have hke : k = n := by omega
        refine xw_wo (w' := LW cI cQ o rr n p (rt n p) g A [] (WX cI h a n p A) ++ [(q_3, .inl (cI, n, .inl (fN (mk (fun _ => 0) (fun k => jn p (A (16 * ma + k)) (A (16 * mb + k)) m_2) n))))]) (by rw [hke]) ?_
        refine xw_aload_n (pc := 564) C 1 dL_act_564 rfl ?_
        refine xw_get (pc := 565) (T := TX1) (N := 4) (ref := "ToneButterfliesLaw$Sim") C hin 0 3 (gl_old LW_o) rfl (by decide) (by decide +kernel) rfl rfl dL_act_565 ?_
        refine xw_iload_n (pc := 568) C 3 dL_act_568 rfl ?_
        refine xw_aload (pc := 569) C 7 dL_act_569 rfl ?_
        refine xw_srow (pc := 571) C Y ma q_3 (by omega) hn16 dL_act_571 ?_
        refine xw_aload_n (pc := 572) C 0 dL_act_572 rfl ?_
        refine xw_iload_n (pc := 573) C 3 dL_act_573 rfl ?_
        refine xw_iload (pc := 574) C 4 dL_act_574 rfl ?_
        refine xw_iload (pc := 576) C 6 dL_act_576 rfl ?_
        refine xw_VF (pc := 578) (q0 := 0) (na := 3) (rest := []) (wc := WX cI h a n p A) (wr := wS cI cQ o n p (rt n p) rr (va_up g ma q_3) (mr A ma (mk (fun _ => 0) (fun k => jn p (A (16 * ma + k)) (A (16 * mb + k)) m_2) n) n) ++ []) C [6, 7] [0, 1, 2, 3, 4, 5] [0] (m_X0_join hp0 hp5 hn hA hAp ma mb (by omega) (by omega) m_2 (by omega)) gL_act_X0_join rfl rfl rfl rfl (by decide +kernel) ⟨(Nat.le_of_ble_eq_true rfl), (Nat.le_of_ble_eq_true rfl)⟩ rfl rfl rfl ⟨rfl, rfl⟩ (by decide) rfl rfl rfl rfl (Nat.le_of_ble_eq_true rfl) dL_act_578 ⟨(Nat.le_of_ble_eq_true rfl), (Nat.le_of_ble_eq_true rfl)⟩ (fun v1 w1 hp1 => ?_)
        obtain ⟨rfl, rfl⟩ := hp1
        refine xw_st (st' := [nV (cc (fun k => decide (mr A ma (fun i => jn p (A (16 * ma + i)) (A (16 * mb + i)) m_2) n (16 * ma + k) ≠ 0)) n)]) rfl ?_
        refine xw_wo (w' := LW cI cQ o rr n p (rt n p) (va_up g ma q_3) (mr A ma (mk (fun _ => 0) (fun k => jn p (A (16 * ma + k)) (A (16 * mb + k)) m_2) n) n) [] (WX cI h a n p (mr A ma (fun i => jn p (A (16 * ma + i)) (A (16 * mb + i)) m_2) n))) rfl ?_
        refine xw_sB (mr A ma (fun i => jn p (A (16 * ma + i)) (A (16 * mb + i)) m_2) n) (fun i _ k _ => by rw [mr_mk]) ?_
        have hA1 := mr_lt (r := ma) (k := n) (g := (fun i => jn p (A (16 * ma + i)) (A (16 * mb + i)) m_2)) hA (fun j _ => Nat.lt_trans (jn_lt hp0 _) hp5)
        refine xw_aload (pc := 581) C 7 dL_act_581 rfl ?_
        refine xw_Sd (pc := 583) (na := 1) (rest := [nV (cc (fun k => decide (mr A ma (fun i => jn p (A (16 * ma + i)) (A (16 * mb + i)) m_2) n (16 * ma + k) ≠ 0)) n)]) (st' := [nV (otR (fun k => (mr A ma (fun i => jn p (A (16 * ma + i)) (A (16 * mb + i)) m_2) n) (16 * ma + k)) n), nV (cc (fun k => decide (mr A ma (fun i => jn p (A (16 * ma + i)) (A (16 * mb + i)) m_2) n (16 * ma + k) ≠ 0)) n)]) C (m_X1_others hn16 (fun j => hA1 _) (LW_rs (by omega) va_us)) gL_act_X1_others rfl rfl rfl rfl (by decide +kernel) ⟨(Nat.le_of_ble_eq_true rfl), (Nat.le_of_ble_eq_true rfl)⟩ rfl (Nat.le_of_ble_eq_true rfl) dL_act_583 ⟨(Nat.le_of_ble_eq_true rfl), (Nat.le_of_ble_eq_true rfl)⟩ rfl ?_
        refine xw_ne_same (pc := 586) (tgt := 593) C (congrArg (fun z : Nat => iI (z : Int)) (show cc (fun k => decide (mr A ma (fun i => jn p (A (16 * ma + i)) (A (16 * mb + i)) m_2) n (16 * ma + k) ≠ 0)) n = otR (fun k => (mr A ma (fun i => jn p (A (16 * ma + i)) (A (16 * mb + i)) m_2) n) (16 * ma + k)) n from rfl)) dL_act_586 (by decide) ?_
        refine xw_iconst_N (pc := 589) C 1 dL_act_589 rfl ?_
        refine xw_goto (pc := 590) (tgt := 594) C dL_act_590 (by decide) ?_
        refine xw_st (st' := [bV true]) rfl ?_
        exact xw_bret (pc := 594) C rX (Nat.le_of_ble_eq_true rfl) (Nat.le_of_ble_eq_true rfl) dL_act_594 (⟨rfl, n, p, rr, _, (mr A ma (fun i => jn p (A (16 * ma + i)) (A (16 * mb + i)) m_2) n), SI_mr hS hn16 hma (fun k _ => jn_lt hp0 _), rfl⟩)
      ·
        have hb1 := hA (16 * ma + k)
        have hb2 := hA (16 * mb + k)
        have hb3 := hAp (16 * mb + k) (by omega)
        have hmb2 : A (16 * ma + k) * A (16 * mb + k) < 2147483648 := mb0 hb1 hb2
        refine xw_aload_n (pc := 488) C 1 dL_act_488 rfl ?_
        refine xw_get (pc := 489) (T := TX1) (N := 4) (ref := "ToneButterfliesLaw$Sim") C hin 0 3 (gl_old LW_o) rfl (by decide) (by decide +kernel) rfl rfl dL_act_489 ?_
        refine xw_iload_n (pc := 492) C 3 dL_act_492 rfl ?_
        refine xw_aald (pc := 493) (r := g ma) C 1 1 ma (gl_old LW_q) rfl (by omega) (by decide) (if_pos (by omega)) dL_act_493 ?_
        refine xw_iload (pc := 494) C 8 dL_act_494 rfl ?_
        refine xw_iald (pc := 496) C (2 + ma) 0 k (gl_old (LW_r (by omega))) rfl rfl (by omega) (by omega) dL_act_496 ?_
        refine xw_st (st' := [nV (A (16 * ma + k))]) rfl ?_
        refine xw_istore (pc := 497) (lv' := [(0, .ref h), (1, .ref o), (2, .int x), (3, nV ma), (4, nV mb), (5, nV n), (6, nV m_2), (7, .ref q_3), (8, nV k), (9, nV (A (16 * ma + k)))]) C [1, 2, 3, 4, 5, 6, 7, 8, 9, 0] dL_act_497 (by decide) rfl ?_
        refine xw_aload_n (pc := 499) C 1 dL_act_499 rfl ?_
        refine xw_get (pc := 500) (T := TX1) (N := 4) (ref := "ToneButterfliesLaw$Sim") C hin 0 3 (gl_old LW_o) rfl (by decide) (by decide +kernel) rfl rfl dL_act_500 ?_
        refine xw_iload (pc := 503) C 4 dL_act_503 rfl ?_
        refine xw_aald (pc := 505) (r := g mb) C 1 1 mb (gl_old LW_q) rfl (by omega) (by decide) (if_pos (by omega)) dL_act_505 ?_
        refine xw_iload (pc := 506) C 8 dL_act_506 rfl ?_
        refine xw_iald (pc := 508) C (2 + mb) 0 k (gl_old (LW_r (by omega))) rfl rfl (by omega) (by omega) dL_act_508 ?_
        refine xw_st (st' := [nV (A (16 * mb + k))]) rfl ?_
        refine xw_istore (pc := 509) (lv' := [(0, .ref h), (1, .ref o), (2, .int x), (3, nV ma), (4, nV mb), (5, nV n), (6, nV m_2), (7, .ref q_3), (8, nV k), (9, nV (A (16 * ma + k))), (10, nV (A (16 * mb + k)))]) C [1, 2, 3, 4, 5, 6, 7, 8, 9, 10, 0] dL_act_509 (by decide) rfl ?_
        refine xw_aload (pc := 511) C 7 dL_act_511 rfl ?_
        refine xw_iload (pc := 513) C 8 dL_act_513 rfl ?_
        refine xw_iload (pc := 515) C 6 dL_act_515 rfl ?_
        refine xw_if_ne_N (pc := 517) (tgt := 528) C dL_act_517 (by decide) (by omega) (fun c_5 => ?_) (fun c_5 => ?_)
        ·
          refine xw_iload (pc := 528) C 6 dL_act_528 rfl ?_
          refine xw_iconst_N (pc := 530) C 1 dL_act_530 rfl ?_
          refine xw_icmp_ne_N (pc := 531) (tgt := 547) C dL_act_531 (by decide) (by omega) (by omega) (fun c_6 => ?_) (fun c_6 => ?_)
          ·
            refine xw_iload (pc := 547) C 9 dL_act_547 rfl ?_
            refine xw_iload (pc := 549) C 10 dL_act_549 rfl ?_
            refine xw_imul_N (pc := 551) C dL_act_551 ?_
            refine xw_aload_n (pc := 552) C 1 dL_act_552 rfl ?_
            refine xw_get (pc := 553) (T := TX1) (N := 4) (ref := "ToneButterfliesLaw$Sim") C hin 0 1 (gl_old LW_o) rfl (by decide) (by decide +kernel) rfl rfl dL_act_553 ?_
            refine xw_irem_N (pc := 556) C dL_act_556 (by omega) (by omega) ?_
            refine xw_iast (pc := 557) (w' := LW cI cQ o rr n p (rt n p) g A [] (WX cI h a n p A) ++ [(q_3, .inl (cI, n, .inl (fN (va_up (mk (fun _ => 0) (fun k => jn p (A (16 * ma + k)) (A (16 * mb + k)) m_2) k) k (((A (16 * ma + k)) * (A (16 * mb + k))) % p)))))]) C (LW cI cQ o rr n p (rt n p) g A [] (WX cI h a n p A)).length 0 k (((A (16 * ma + k)) * (A (16 * mb + k))) % p) gl_new rfl rfl rfl (by omega) (by omega) gl_set dL_act_557 ?_
            refine xw_iinc_N (pc := 558) (b := k + 1) (lv' := [(0, .ref h), (1, .ref o), (2, .int x), (3, nV ma), (4, nV mb), (5, nV n), (6, nV m_2), (7, .ref q_3), (8, nV (k + 1)), (9, nV (A (16 * ma + k))), (10, nV (A (16 * mb + k)))]) C 8 [1, 2, 3, 4, 5, 6, 7, 8, 0, 9, 10] dL_act_558 rfl (by decide) rfl rfl ?_
            refine xw_goto (pc := 561) (tgt := 481) C dL_act_561 (by decide) ?_
            refine xw_lv (lv' := [(0, .ref h), (1, .ref o), (2, .int x), (3, nV ma), (4, nV mb), (5, nV n), (6, nV m_2), (7, .ref q_3), (8, nV (k + 1))]) [0, 1, 2, 3, 4, 5, 6, 7, 8] rfl ?_
            refine xw_wo (w' := LW cI cQ o rr n p (rt n p) g A [] (WX cI h a n p A) ++ [(q_3, .inl (cI, n, .inl (fN (mk (fun _ => 0) (fun k => jn p (A (16 * ma + k)) (A (16 * mb + k)) m_2) (k + 1)))))]) (by rw [mk_s (by rw [show m_2 = 2 by omega]; rfl)]) ?_
            exact ih481 (k + 1) (by omega) (by omega)
          ·
            refine xw_iload (pc := 534) C 9 dL_act_534 rfl ?_
            refine xw_aload_n (pc := 536) C 1 dL_act_536 rfl ?_
            refine xw_get (pc := 537) (T := TX1) (N := 4) (ref := "ToneButterfliesLaw$Sim") C hin 0 1 (gl_old LW_o) rfl (by decide) (by decide +kernel) rfl rfl dL_act_537 ?_
            refine xw_iadd_N (pc := 540) C dL_act_540 ?_
            refine xw_iload (pc := 541) C 10 dL_act_541 rfl ?_
            refine xw_isub_N (pc := 543) C dL_act_543 (by omega) ?_
            refine xw_goto (pc := 544) (tgt := 552) C dL_act_544 (by decide) ?_
            refine xw_aload_n (pc := 552) C 1 dL_act_552 rfl ?_
            refine xw_get (pc := 553) (T := TX1) (N := 4) (ref := "ToneButterfliesLaw$Sim") C hin 0 1 (gl_old LW_o) rfl (by decide) (by decide +kernel) rfl rfl dL_act_553 ?_
            refine xw_irem_N (pc := 556) C dL_act_556 (by omega) (by omega) ?_
            refine xw_iast (pc := 557) (w' := LW cI cQ o rr n p (rt n p) g A [] (WX cI h a n p A) ++ [(q_3, .inl (cI, n, .inl (fN (va_up (mk (fun _ => 0) (fun k => jn p (A (16 * ma + k)) (A (16 * mb + k)) m_2) k) k ((((A (16 * ma + k)) + p) - (A (16 * mb + k))) % p)))))]) C (LW cI cQ o rr n p (rt n p) g A [] (WX cI h a n p A)).length 0 k ((((A (16 * ma + k)) + p) - (A (16 * mb + k))) % p) gl_new rfl rfl rfl (by omega) (by omega) gl_set dL_act_557 ?_
            refine xw_iinc_N (pc := 558) (b := k + 1) (lv' := [(0, .ref h), (1, .ref o), (2, .int x), (3, nV ma), (4, nV mb), (5, nV n), (6, nV m_2), (7, .ref q_3), (8, nV (k + 1)), (9, nV (A (16 * ma + k))), (10, nV (A (16 * mb + k)))]) C 8 [1, 2, 3, 4, 5, 6, 7, 8, 0, 9, 10] dL_act_558 rfl (by decide) rfl rfl ?_
            refine xw_goto (pc := 561) (tgt := 481) C dL_act_561 (by decide) ?_
            refine xw_lv (lv' := [(0, .ref h), (1, .ref o), (2, .int x), (3, nV ma), (4, nV mb), (5, nV n), (6, nV m_2), (7, .ref q_3), (8, nV (k + 1))]) [0, 1, 2, 3, 4, 5, 6, 7, 8] rfl ?_
            refine xw_wo (w' := LW cI cQ o rr n p (rt n p) g A [] (WX cI h a n p A) ++ [(q_3, .inl (cI, n, .inl (fN (mk (fun _ => 0) (fun k => jn p (A (16 * ma + k)) (A (16 * mb + k)) m_2) (k + 1)))))]) (by rw [mk_s (by rw [show m_2 = 1 by omega]; rfl)]) ?_
            exact ih481 (k + 1) (by omega) (by omega)
        ·
          refine xw_iload (pc := 520) C 9 dL_act_520 rfl ?_
          refine xw_iload (pc := 522) C 10 dL_act_522 rfl ?_
          refine xw_iadd_N (pc := 524) C dL_act_524 ?_
          refine xw_goto (pc := 525) (tgt := 552) C dL_act_525 (by decide) ?_
          refine xw_aload_n (pc := 552) C 1 dL_act_552 rfl ?_
          refine xw_get (pc := 553) (T := TX1) (N := 4) (ref := "ToneButterfliesLaw$Sim") C hin 0 1 (gl_old LW_o) rfl (by decide) (by decide +kernel) rfl rfl dL_act_553 ?_
          refine xw_irem_N (pc := 556) C dL_act_556 (by omega) (by omega) ?_
          refine xw_iast (pc := 557) (w' := LW cI cQ o rr n p (rt n p) g A [] (WX cI h a n p A) ++ [(q_3, .inl (cI, n, .inl (fN (va_up (mk (fun _ => 0) (fun k => jn p (A (16 * ma + k)) (A (16 * mb + k)) m_2) k) k (((A (16 * ma + k)) + (A (16 * mb + k))) % p)))))]) C (LW cI cQ o rr n p (rt n p) g A [] (WX cI h a n p A)).length 0 k (((A (16 * ma + k)) + (A (16 * mb + k))) % p) gl_new rfl rfl rfl (by omega) (by omega) gl_set dL_act_557 ?_
          refine xw_iinc_N (pc := 558) (b := k + 1) (lv' := [(0, .ref h), (1, .ref o), (2, .int x), (3, nV ma), (4, nV mb), (5, nV n), (6, nV m_2), (7, .ref q_3), (8, nV (k + 1)), (9, nV (A (16 * ma + k))), (10, nV (A (16 * mb + k)))]) C 8 [1, 2, 3, 4, 5, 6, 7, 8, 0, 9, 10] dL_act_558 rfl (by decide) rfl rfl ?_
          refine xw_goto (pc := 561) (tgt := 481) C dL_act_561 (by decide) ?_
          refine xw_lv (lv' := [(0, .ref h), (1, .ref o), (2, .int x), (3, nV ma), (4, nV mb), (5, nV n), (6, nV m_2), (7, .ref q_3), (8, nV (k + 1))]) [0, 1, 2, 3, 4, 5, 6, 7, 8] rfl ?_
          refine xw_wo (w' := LW cI cQ o rr n p (rt n p) g A [] (WX cI h a n p A) ++ [(q_3, .inl (cI, n, .inl (fN (mk (fun _ => 0) (fun k => jn p (A (16 * ma + k)) (A (16 * mb + k)) m_2) (k + 1)))))]) (by rw [mk_s (by rw [show m_2 = 0 by omega]; rfl)]) ?_
          exact ih481 (k + 1) (by omega) (by omega)
  refine xw_wo (w' := LW cI cQ o rr n p (rt n p) g A [] (WX cI h a n p A) ++ [(q_3, .inl (cI, n, .inl (fN (mk (fun _ => 0) (fun k => jn p (A (16 * ma + k)) (A (16 * mb + k)) m_2) 0))))]) (by rw [mk_0]) ?_
  exact L481 (n + 1) 0 (by omega) (by omega)

set_option maxHeartbeats 4000000 in
set_option maxRecDepth 100000 in
theorem act_9 {l : Launch} {D : va_G} {cI cQ : ClassId} {sc h a o rr n p : Nat} {g A : Nat → Nat} {w0 : va_W} {φ : Fx} (C : xc φ l { frames := 8, cells := 6, slots := 100, locals := 250 } D vwCl [(cI, .int), (cQ, .array .int)] 11 cL_act RL wsL_act) (rX : xr φ w0 (PA cI cQ h a o) (some .boolean) 6 100) (Y : xyc sc φ) (hS : SI n p A) (x : Int32) (ma mb : Nat) (hma : ma < 4) (hmb : mb < 4) : xw φ 0 0 (LV cI cQ h a o rr n p g A) 595 [(0, .ref h), (1, .ref o), (2, .int x), (3, nV ma), (4, nV mb), (5, nV n)] [] := by
  have hin : ∀ w ∈ wsX10, w ∈ wsL_act := fun w hw => wsX10_act w hw
  obtain ⟨hrg, hA, hAp⟩ := id hS
  obtain ⟨hn, hp4, hp5, hp1, hp0, hn16, hnp, hr1, hrl, hfer⟩ := rgs_o hrg
  have hn3 := lt3 hn
  refine xw_iload_n (pc := 595) C 2 dL_act_595 rfl ?_
  refine xw_bipush_N (pc := 596) C 6 dL_act_596 (by decide) ?_
  obtain ⟨x_1, hx_1⟩ : ∃ x_1 : Int32, x >>> (iI ((6 : Nat) : Int) &&& 31) = x_1 := ⟨_, rfl⟩
  refine xw_ishr (pc := 598) C dL_act_598 hx_1 ?_
  refine xw_iload (pc := 599) C 5 dL_act_599 rfl ?_
  refine xw_S (pc := 601) (na := 2) (rest := []) C (m_L_below x_1 n (by omega) (by omega)) gL_act_L_below rfl rfl rfl rfl (by decide +kernel) ⟨(Nat.le_of_ble_eq_true rfl), (Nat.le_of_ble_eq_true rfl)⟩ rfl (Nat.le_of_ble_eq_true rfl) dL_act_601 ⟨(Nat.le_of_ble_eq_true rfl), (Nat.le_of_ble_eq_true rfl)⟩ (fun v1 w1 hp1 => ?_)
  obtain ⟨m_2, hm_2, rfl, rfl⟩ := hp1
  refine xw_st (st' := [nV m_2]) rfl ?_
  refine xw_istore (pc := 604) (lv' := [(0, .ref h), (1, .ref o), (2, .int x), (3, nV ma), (4, nV mb), (5, nV n), (6, nV m_2)]) C [1, 2, 3, 4, 5, 6, 0] dL_act_604 (by decide) rfl ?_
  refine xw_aload_n (pc := 606) C 1 dL_act_606 rfl ?_
  refine xw_get (pc := 607) (T := TX1) (N := 4) (ref := "ToneButterfliesLaw$Sim") C hin 0 3 LW_o rfl (by decide) (by decide +kernel) rfl rfl dL_act_607 ?_
  refine xw_iload_n (pc := 610) C 3 dL_act_610 rfl ?_
  refine xw_aload_n (pc := 611) C 1 dL_act_611 rfl ?_
  refine xw_aload_n (pc := 612) C 1 dL_act_612 rfl ?_
  refine xw_get (pc := 613) (T := TX1) (N := 4) (ref := "ToneButterfliesLaw$Sim") C hin 0 3 LW_o rfl (by decide) (by decide +kernel) rfl rfl dL_act_613 ?_
  refine xw_iload_n (pc := 616) C 3 dL_act_616 rfl ?_
  refine xw_aald (pc := 617) (r := g ma) C 1 1 ma LW_q rfl (by omega) (by decide) (if_pos (by omega)) dL_act_617 ?_
  refine xw_iload (pc := 618) C 6 dL_act_618 rfl ?_
  refine xw_V (pc := 620) (q0 := 0) (na := 2) (rest := [nV ma, .ref rr]) C (m_X1_moved LW_o hp1 hp5 hn (LW_r (by omega)) m_2 (by omega)) gL_act_X1_moved rfl rfl rfl rfl (by decide +kernel) ⟨(Nat.le_of_ble_eq_true rfl), (Nat.le_of_ble_eq_true rfl)⟩ LW_o rfl rfl (Nat.le_of_ble_eq_true rfl) dL_act_620 ⟨(Nat.le_of_ble_eq_true rfl), (Nat.le_of_ble_eq_true rfl)⟩ (fun v1 w1 hp1 => ?_)
  obtain ⟨q_3, rfl, rfl⟩ := hp1
  refine xw_st (st' := [.ref q_3, nV ma, .ref rr]) rfl ?_
  refine xw_wd (k' := 1) (n' := 16) (by omega) (by omega) ?_
  refine xw_srow (pc := 623) C Y ma q_3 (by omega) hn16 dL_act_623 ?_
  refine xw_aload_n (pc := 624) C 0 dL_act_624 rfl ?_
  refine xw_iload_n (pc := 625) C 3 dL_act_625 rfl ?_
  refine xw_iload (pc := 626) C 6 dL_act_626 rfl ?_
  refine xw_VF (pc := 628) (q0 := 0) (na := 2) (rest := []) (wc := WX cI h a n p A) (wr := wS cI cQ o n p (rt n p) rr (va_up g ma q_3) (mr A ma (mk (fun _ => 0) (mvR n m_2 (fun k => A (16 * ma + k))) n) n) ++ []) C [6, 7] [0, 1, 2, 3, 4, 5] [0] (m_X0_move hn hA ma (by omega) m_2 (by omega)) gL_act_X0_move rfl rfl rfl rfl (by decide +kernel) ⟨(Nat.le_of_ble_eq_true rfl), (Nat.le_of_ble_eq_true rfl)⟩ rfl rfl rfl ⟨rfl, rfl⟩ (by decide) rfl rfl rfl rfl (Nat.le_of_ble_eq_true rfl) dL_act_628 ⟨(Nat.le_of_ble_eq_true rfl), (Nat.le_of_ble_eq_true rfl)⟩ (fun v1 w1 hp1 => ?_)
  obtain ⟨rfl, rfl⟩ := hp1
  refine xw_st (st' := [nV ((fun m => A (16 * ma + (m + n - m_2) % n)) 0)]) rfl ?_
  refine xw_wo (w' := LW cI cQ o rr n p (rt n p) (va_up g ma q_3) (mr A ma (mk (fun _ => 0) (mvR n m_2 (fun k => A (16 * ma + k))) n) n) [] (WX cI h a n p (ly A (fun m => A (16 * ma + (m + n - m_2) % n)) ma n))) rfl ?_
  refine xw_sB (ly A (fun m => A (16 * ma + (m + n - m_2) % n)) ma n) (ag_ly hn16 (fun k hk => rfl)) ?_
  refine xw_aload_n (pc := 631) C 1 dL_act_631 rfl ?_
  refine xw_get (pc := 632) (T := TX1) (N := 4) (ref := "ToneButterfliesLaw$Sim") C hin 0 3 LW_o rfl (by decide) (by decide +kernel) rfl rfl dL_act_632 ?_
  refine xw_iload_n (pc := 635) C 3 dL_act_635 rfl ?_
  refine xw_aald (pc := 636) (r := (va_up g ma q_3) ma) C 1 1 ma LW_q rfl (by omega) (by decide) (if_pos (by omega)) dL_act_636 ?_
  refine xw_iconst_N (pc := 637) C 0 dL_act_637 rfl ?_
  refine xw_iald (pc := 638) C (2 + ma) 0 0 (LW_r (by omega)) rfl rfl (by omega) (by omega) dL_act_638 ?_
  refine xw_st (st' := [nV ((ly A (fun m => A (16 * ma + (m + n - m_2) % n)) ma n) (16 * ma + 0)), nV ((fun m => A (16 * ma + (m + n - m_2) % n)) 0)]) rfl ?_
  refine xw_ne_same (pc := 639) (tgt := 646) C (congrArg (fun z : Nat => iI (z : Int)) (show (fun m => A (16 * ma + (m + n - m_2) % n)) 0 = (ly A (fun m => A (16 * ma + (m + n - m_2) % n)) ma n) (16 * ma + 0) from (ly_at (A := A) (g := fun m => A (16 * ma + (m + n - m_2) % n)) (r := ma) (n := n) (i := 0) (by omega)).symm)) dL_act_639 (by decide) ?_
  refine xw_iconst_N (pc := 642) C 1 dL_act_642 rfl ?_
  refine xw_goto (pc := 643) (tgt := 647) C dL_act_643 (by decide) ?_
  refine xw_st (st' := [bV true]) rfl ?_
  exact xw_bret (pc := 647) C rX (Nat.le_of_ble_eq_true rfl) (Nat.le_of_ble_eq_true rfl) dL_act_647 (⟨rfl, n, p, rr, _, (ly A (fun m => A (16 * ma + (m + n - m_2) % n)) ma n), SI_ly hS hn16 hma (fun k hk => hAp _ (by have := Nat.mod_lt (k + n - m_2) (show n > 0 by omega); omega)), rfl⟩)

set_option maxHeartbeats 4000000 in
set_option maxRecDepth 100000 in
theorem act_10 {l : Launch} {D : va_G} {cI cQ : ClassId} {sc h a o rr n p : Nat} {g A : Nat → Nat} {w0 : va_W} {φ : Fx} (C : xc φ l { frames := 8, cells := 6, slots := 100, locals := 250 } D vwCl [(cI, .int), (cQ, .array .int)] 11 cL_act RL wsL_act) (rX : xr φ w0 (PA cI cQ h a o) (some .boolean) 6 100) (Y : xyc sc φ) (hS : SI n p A) (x : Int32) (ma mb : Nat) (hma : ma < 4) (hmb : mb < 4) : xw φ 0 0 (LV cI cQ h a o rr n p g A) 648 [(0, .ref h), (1, .ref o), (2, .int x), (3, nV ma), (4, nV mb), (5, nV n)] [] := by
  have hin : ∀ w ∈ wsX10, w ∈ wsL_act := fun w hw => wsX10_act w hw
  obtain ⟨hrg, hA, hAp⟩ := id hS
  obtain ⟨hn, hp4, hp5, hp1, hp0, hn16, hnp, hr1, hrl, hfer⟩ := rgs_o hrg
  have hn3 := lt3 hn
  refine xw_iload_n (pc := 648) C 2 dL_act_648 rfl ?_
  refine xw_bipush_N (pc := 649) C 6 dL_act_649 (by decide) ?_
  obtain ⟨x_1, hx_1⟩ : ∃ x_1 : Int32, x >>> (iI ((6 : Nat) : Int) &&& 31) = x_1 := ⟨_, rfl⟩
  refine xw_ishr (pc := 651) C dL_act_651 hx_1 ?_
  refine xw_aload_n (pc := 652) C 1 dL_act_652 rfl ?_
  refine xw_get (pc := 653) (T := TX1) (N := 4) (ref := "ToneButterfliesLaw$Sim") C hin 0 1 LW_o rfl (by decide) (by decide +kernel) rfl rfl dL_act_653 ?_
  refine xw_S (pc := 656) (na := 2) (rest := []) C (m_L_below x_1 p (by omega) (by omega)) gL_act_L_below rfl rfl rfl rfl (by decide +kernel) ⟨(Nat.le_of_ble_eq_true rfl), (Nat.le_of_ble_eq_true rfl)⟩ rfl (Nat.le_of_ble_eq_true rfl) dL_act_656 ⟨(Nat.le_of_ble_eq_true rfl), (Nat.le_of_ble_eq_true rfl)⟩ (fun v1 w1 hp1 => ?_)
  obtain ⟨m_2, hm_2, rfl, rfl⟩ := hp1
  refine xw_st (st' := [nV m_2]) rfl ?_
  refine xw_istore (pc := 659) (lv' := [(0, .ref h), (1, .ref o), (2, .int x), (3, nV ma), (4, nV mb), (5, nV n), (6, nV m_2)]) C [1, 2, 3, 4, 5, 6, 0] dL_act_659 (by decide) rfl ?_
  refine xw_iconst_N (pc := 661) C 0 dL_act_661 rfl ?_
  refine xw_istore (pc := 662) (lv' := [(0, .ref h), (1, .ref o), (2, .int x), (3, nV ma), (4, nV mb), (5, nV n), (6, nV m_2), (7, nV 0)]) C [1, 2, 3, 4, 5, 6, 7, 0] dL_act_662 (by decide) rfl ?_
  have L664 : ∀ (fuel : Nat) (k : Nat), n < k + fuel → k ≤ n → xw φ 0 0 (LW cI cQ o rr n p (rt n p) g (mr A ma (fun i => A (16 * ma + i) * m_2 % p) k) [] (WX cI h a n p A)) 664 [(0, .ref h), (1, .ref o), (2, .int x), (3, nV ma), (4, nV mb), (5, nV n), (6, nV m_2), (7, nV k)] [] := by
    intro fuel
    induction fuel with
    | zero =>
      intro k hk hkn
      omega
    | succ fuel ih664 =>
      intro k hk hkn
      refine xw_iload (pc := 664) C 7 dL_act_664 rfl ?_
      refine xw_iload (pc := 666) C 5 dL_act_666 rfl ?_
      refine xw_icmp_ge_N (pc := 668) (tgt := 703) C dL_act_668 (by decide) (by omega) (by omega) (fun c_3 => ?_) (fun c_3 => ?_)
      ·
        have hke : k = n := by omega
        refine xw_wo (w' := LW cI cQ o rr n p (rt n p) g (mr A ma (fun i => A (16 * ma + i) * m_2 % p) n) [] (WX cI h a n p A)) (by rw [hke]) ?_
        refine xw_aload_n (pc := 703) C 0 dL_act_703 rfl ?_
        refine xw_iload_n (pc := 704) C 3 dL_act_704 rfl ?_
        refine xw_iload (pc := 705) C 6 dL_act_705 rfl ?_
        refine xw_VF (pc := 707) (q0 := 0) (na := 2) (rest := []) (wc := WX cI h a n p A) (wr := wS cI cQ o n p (rt n p) rr g (mr A ma (fun i => A (16 * ma + i) * m_2 % p) n) ++ []) C [6, 7] [0, 1, 2, 3, 4, 5] [0] (m_X0_times hp0 hp5 hn hA ma (by omega) m_2 (by omega)) gL_act_X0_times rfl rfl rfl rfl (by decide +kernel) ⟨(Nat.le_of_ble_eq_true rfl), (Nat.le_of_ble_eq_true rfl)⟩ rfl rfl rfl ⟨rfl, rfl⟩ (by decide) rfl rfl rfl rfl (Nat.le_of_ble_eq_true rfl) dL_act_707 ⟨(Nat.le_of_ble_eq_true rfl), (Nat.le_of_ble_eq_true rfl)⟩ (fun v1 w1 hp1 => ?_)
        obtain ⟨rfl, rfl⟩ := hp1
        refine xw_st (st' := [nV (cc (fun k => decide (mr A ma (fun i => A (16 * ma + i) * m_2 % p) n (16 * ma + k) ≠ 0)) n)]) rfl ?_
        refine xw_wo (w' := LW cI cQ o rr n p (rt n p) g (mr A ma (fun i => A (16 * ma + i) * m_2 % p) n) [] (WX cI h a n p (mr A ma (fun i => A (16 * ma + i) * m_2 % p) n))) rfl ?_
        have hA1 := mr_lt (r := ma) (k := n) (g := (fun i => A (16 * ma + i) * m_2 % p)) hA (fun j _ => ml hp0 hp5)
        refine xw_aload_n (pc := 710) C 1 dL_act_710 rfl ?_
        refine xw_get (pc := 711) (T := TX1) (N := 4) (ref := "ToneButterfliesLaw$Sim") C hin 0 3 LW_o rfl (by decide) (by decide +kernel) rfl rfl dL_act_711 ?_
        refine xw_iload_n (pc := 714) C 3 dL_act_714 rfl ?_
        refine xw_aald (pc := 715) (r := g ma) C 1 1 ma LW_q rfl (by omega) (by decide) (if_pos (by omega)) dL_act_715 ?_
        refine xw_Sd (pc := 716) (na := 1) (rest := [nV (cc (fun k => decide (mr A ma (fun i => A (16 * ma + i) * m_2 % p) n (16 * ma + k) ≠ 0)) n)]) (st' := [nV (otR (fun k => (mr A ma (fun i => A (16 * ma + i) * m_2 % p) n) (16 * ma + k)) n), nV (cc (fun k => decide (mr A ma (fun i => A (16 * ma + i) * m_2 % p) n (16 * ma + k) ≠ 0)) n)]) C (m_X1_others hn16 (fun j => hA1 _) (LW_r (by omega))) gL_act_X1_others rfl rfl rfl rfl (by decide +kernel) ⟨(Nat.le_of_ble_eq_true rfl), (Nat.le_of_ble_eq_true rfl)⟩ rfl (Nat.le_of_ble_eq_true rfl) dL_act_716 ⟨(Nat.le_of_ble_eq_true rfl), (Nat.le_of_ble_eq_true rfl)⟩ rfl ?_
        refine xw_ne_same (pc := 719) (tgt := 726) C (congrArg (fun z : Nat => iI (z : Int)) (show cc (fun k => decide (mr A ma (fun i => A (16 * ma + i) * m_2 % p) n (16 * ma + k) ≠ 0)) n = otR (fun k => (mr A ma (fun i => A (16 * ma + i) * m_2 % p) n) (16 * ma + k)) n from rfl)) dL_act_719 (by decide) ?_
        refine xw_iconst_N (pc := 722) C 1 dL_act_722 rfl ?_
        refine xw_goto (pc := 723) (tgt := 727) C dL_act_723 (by decide) ?_
        refine xw_st (st' := [bV true]) rfl ?_
        exact xw_bret (pc := 727) C rX (Nat.le_of_ble_eq_true rfl) (Nat.le_of_ble_eq_true rfl) dL_act_727 (⟨rfl, n, p, rr, _, (mr A ma (fun i => A (16 * ma + i) * m_2 % p) n), SI_mr hS hn16 hma (fun k _ => Nat.mod_lt _ hp0), rfl⟩)
      ·
        have hb1 := hA (16 * ma + k)
        have hme : mr A ma (fun i => A (16 * ma + i) * m_2 % p) k (16 * ma + k) = A (16 * ma + k) := mr_at (by omega)
        have hmb2 : mr A ma (fun i => A (16 * ma + i) * m_2 % p) k (16 * ma + k) * m_2 < 2147483648 := by rw [hme]; exact mb0 hb1 (by omega)
        refine xw_aload_n (pc := 671) C 1 dL_act_671 rfl ?_
        refine xw_get (pc := 672) (T := TX1) (N := 4) (ref := "ToneButterfliesLaw$Sim") C hin 0 3 LW_o rfl (by decide) (by decide +kernel) rfl rfl dL_act_672 ?_
        refine xw_iload_n (pc := 675) C 3 dL_act_675 rfl ?_
        refine xw_aald (pc := 676) (r := g ma) C 1 1 ma LW_q rfl (by omega) (by decide) (if_pos (by omega)) dL_act_676 ?_
        refine xw_iload (pc := 677) C 7 dL_act_677 rfl ?_
        refine xw_aload_n (pc := 679) C 1 dL_act_679 rfl ?_
        refine xw_get (pc := 680) (T := TX1) (N := 4) (ref := "ToneButterfliesLaw$Sim") C hin 0 3 LW_o rfl (by decide) (by decide +kernel) rfl rfl dL_act_680 ?_
        refine xw_iload_n (pc := 683) C 3 dL_act_683 rfl ?_
        refine xw_aald (pc := 684) (r := g ma) C 1 1 ma LW_q rfl (by omega) (by decide) (if_pos (by omega)) dL_act_684 ?_
        refine xw_iload (pc := 685) C 7 dL_act_685 rfl ?_
        refine xw_iald (pc := 687) C (2 + ma) 0 k (LW_r (by omega)) rfl rfl (by omega) (by omega) dL_act_687 ?_
        refine xw_st (st' := [nV ((mr A ma (fun i => A (16 * ma + i) * m_2 % p) k) (16 * ma + k)), nV k, .ref (g ma)]) rfl ?_
        refine xw_iload (pc := 688) C 6 dL_act_688 rfl ?_
        refine xw_imul_N (pc := 690) C dL_act_690 ?_
        refine xw_aload_n (pc := 691) C 1 dL_act_691 rfl ?_
        refine xw_get (pc := 692) (T := TX1) (N := 4) (ref := "ToneButterfliesLaw$Sim") C hin 0 1 LW_o rfl (by decide) (by decide +kernel) rfl rfl dL_act_692 ?_
        refine xw_irem_N (pc := 695) C dL_act_695 (by omega) (by omega) ?_
        refine xw_rset (pc := 696) C ma k ((((mr A ma (fun i => A (16 * ma + i) * m_2 % p) k) (16 * ma + k)) * m_2) % p) (by omega) (by omega) hn16 dL_act_696 ?_
        refine xw_iinc_N (pc := 697) (b := k + 1) (lv' := [(0, .ref h), (1, .ref o), (2, .int x), (3, nV ma), (4, nV mb), (5, nV n), (6, nV m_2), (7, nV (k + 1))]) C 7 [1, 2, 3, 4, 5, 6, 7, 0] dL_act_697 rfl (by decide) rfl rfl ?_
        refine xw_goto (pc := 700) (tgt := 664) C dL_act_700 (by decide) ?_
        refine xw_wo (w' := LW cI cQ o rr n p (rt n p) g (mr A ma (fun i => A (16 * ma + i) * m_2 % p) (k + 1)) [] (WX cI h a n p A)) (by rw [mr_s (by rw [hme])]) ?_
        exact ih664 (k + 1) (by omega) (by omega)
  refine xw_wo (w' := LW cI cQ o rr n p (rt n p) g (mr A ma (fun i => A (16 * ma + i) * m_2 % p) 0) [] (WX cI h a n p A)) (by rw [mr_0]) ?_
  exact L664 (n + 1) 0 (by omega) (by omega)

set_option maxHeartbeats 4000000 in
set_option maxRecDepth 100000 in
theorem act_11 {l : Launch} {D : va_G} {cI cQ : ClassId} {sc h a o rr n p : Nat} {g A : Nat → Nat} {w0 : va_W} {φ : Fx} (C : xc φ l { frames := 8, cells := 6, slots := 100, locals := 250 } D vwCl [(cI, .int), (cQ, .array .int)] 11 cL_act RL wsL_act) (rX : xr φ w0 (PA cI cQ h a o) (some .boolean) 6 100) (Y : xyc sc φ) (hS : SI n p A) (x : Int32) (ma mb : Nat) (hma : ma < 4) (hmb : mb < 4) : xw φ 0 0 (LV cI cQ h a o rr n p g A) 728 [(0, .ref h), (1, .ref o), (2, .int x), (3, nV ma), (4, nV mb), (5, nV n)] [] := by
  have hin : ∀ w ∈ wsX10, w ∈ wsL_act := fun w hw => wsX10_act w hw
  obtain ⟨hrg, hA, hAp⟩ := id hS
  obtain ⟨hn, hp4, hp5, hp1, hp0, hn16, hnp, hr1, hrl, hfer⟩ := rgs_o hrg
  have hn3 := lt3 hn
  refine xw_iload_n (pc := 728) C 2 dL_act_728 rfl ?_
  refine xw_bipush_N (pc := 729) C 6 dL_act_729 (by decide) ?_
  obtain ⟨x_1, hx_1⟩ : ∃ x_1 : Int32, x >>> (iI ((6 : Nat) : Int) &&& 31) = x_1 := ⟨_, rfl⟩
  refine xw_ishr (pc := 731) C dL_act_731 hx_1 ?_
  refine xw_iload (pc := 732) C 5 dL_act_732 rfl ?_
  refine xw_S (pc := 734) (na := 2) (rest := []) C (m_L_below x_1 n (by omega) (by omega)) gL_act_L_below rfl rfl rfl rfl (by decide +kernel) ⟨(Nat.le_of_ble_eq_true rfl), (Nat.le_of_ble_eq_true rfl)⟩ rfl (Nat.le_of_ble_eq_true rfl) dL_act_734 ⟨(Nat.le_of_ble_eq_true rfl), (Nat.le_of_ble_eq_true rfl)⟩ (fun v1 w1 hp1 => ?_)
  obtain ⟨m_2, hm_2, rfl, rfl⟩ := hp1
  refine xw_st (st' := [nV m_2]) rfl ?_
  refine xw_istore (pc := 737) (lv' := [(0, .ref h), (1, .ref o), (2, .int x), (3, nV ma), (4, nV mb), (5, nV n), (6, nV m_2)]) C [1, 2, 3, 4, 5, 6, 0] dL_act_737 (by decide) rfl ?_
  refine xw_iload_n (pc := 739) C 2 dL_act_739 rfl ?_
  refine xw_bipush_N (pc := 740) C 8 dL_act_740 (by decide) ?_
  obtain ⟨x_3, hx_3⟩ : ∃ x_3 : Int32, x >>> (iI ((8 : Nat) : Int) &&& 31) = x_3 := ⟨_, rfl⟩
  refine xw_ishr (pc := 742) C dL_act_742 hx_3 ?_
  refine xw_iload_n (pc := 743) C 2 dL_act_743 rfl ?_
  refine xw_iconst_N (pc := 744) C 5 dL_act_744 rfl ?_
  obtain ⟨x_4, hx_4⟩ : ∃ x_4 : Int32, x >>> (iI ((5 : Nat) : Int) &&& 31) = x_4 := ⟨_, rfl⟩
  refine xw_ishr (pc := 745) C dL_act_745 hx_4 ?_
  refine xw_iconst_N (pc := 746) C 2 dL_act_746 rfl ?_
  refine xw_S (pc := 747) (na := 2) (rest := [.int x_3]) C (m_L_below x_4 2 (by omega) (by omega)) gL_act_L_below rfl rfl rfl rfl (by decide +kernel) ⟨(Nat.le_of_ble_eq_true rfl), (Nat.le_of_ble_eq_true rfl)⟩ rfl (Nat.le_of_ble_eq_true rfl) dL_act_747 ⟨(Nat.le_of_ble_eq_true rfl), (Nat.le_of_ble_eq_true rfl)⟩ (fun v1 w1 hp1 => ?_)
  obtain ⟨m_5, hm_5, rfl, rfl⟩ := hp1
  refine xw_st (st' := [nV m_5, .int x_3]) rfl ?_
  refine xw_if_ne_N (pc := 750) (tgt := 760) C dL_act_750 (by decide) (by omega) (fun c_6 => ?_) (fun c_6 => ?_)
  ·
    refine xw_iconst_N (pc := 760) C 3 dL_act_760 rfl ?_
    refine xw_S (pc := 761) (na := 2) (rest := []) C (m_L_below x_3 3 (by omega) (by omega)) gL_act_L_below rfl rfl rfl rfl (by decide +kernel) ⟨(Nat.le_of_ble_eq_true rfl), (Nat.le_of_ble_eq_true rfl)⟩ rfl (Nat.le_of_ble_eq_true rfl) dL_act_761 ⟨(Nat.le_of_ble_eq_true rfl), (Nat.le_of_ble_eq_true rfl)⟩ (fun v1 w1 hp1 => ?_)
    obtain ⟨m_7, hm_7, rfl, rfl⟩ := hp1
    refine xw_st (st' := [nV m_7]) rfl ?_
    refine xw_istore (pc := 764) (lv' := [(0, .ref h), (1, .ref o), (2, .int x), (3, nV ma), (4, nV mb), (5, nV n), (6, nV m_2), (7, nV m_7)]) C [1, 2, 3, 4, 5, 6, 7, 0] dL_act_764 (by decide) rfl ?_
    refine xw_aload_n (pc := 766) C 1 dL_act_766 rfl ?_
    refine xw_get (pc := 767) (T := TX1) (N := 4) (ref := "ToneButterfliesLaw$Sim") C hin 0 3 LW_o rfl (by decide) (by decide +kernel) rfl rfl dL_act_767 ?_
    refine xw_iload_n (pc := 770) C 3 dL_act_770 rfl ?_
    refine xw_aald (pc := 771) (r := g ma) C 1 1 ma LW_q rfl (by omega) (by decide) (if_pos (by omega)) dL_act_771 ?_
    refine xw_iload (pc := 772) C 6 dL_act_772 rfl ?_
    refine xw_iald (pc := 774) C (2 + ma) 0 m_2 (LW_r (by omega)) rfl rfl (by omega) (by omega) dL_act_774 ?_
    refine xw_st (st' := [nV (A (16 * ma + m_2))]) rfl ?_
    refine xw_istore (pc := 775) (lv' := [(0, .ref h), (1, .ref o), (2, .int x), (3, nV ma), (4, nV mb), (5, nV n), (6, nV m_2), (7, nV m_7), (8, nV (A (16 * ma + m_2)))]) C [1, 2, 3, 4, 5, 6, 7, 8, 0] dL_act_775 (by decide) rfl ?_
    refine xw_aload_n (pc := 777) C 1 dL_act_777 rfl ?_
    refine xw_get (pc := 778) (T := TX1) (N := 4) (ref := "ToneButterfliesLaw$Sim") C hin 0 3 LW_o rfl (by decide) (by decide +kernel) rfl rfl dL_act_778 ?_
    refine xw_iload_n (pc := 781) C 3 dL_act_781 rfl ?_
    refine xw_aald (pc := 782) (r := g ma) C 1 1 ma LW_q rfl (by omega) (by decide) (if_pos (by omega)) dL_act_782 ?_
    refine xw_iload (pc := 783) C 6 dL_act_783 rfl ?_
    refine xw_iload (pc := 785) C 7 dL_act_785 rfl ?_
    refine xw_rset (pc := 787) C ma m_2 m_7 (by omega) (by omega) hn16 dL_act_787 ?_
    refine xw_aload_n (pc := 788) C 0 dL_act_788 rfl ?_
    refine xw_iload_n (pc := 789) C 3 dL_act_789 rfl ?_
    refine xw_iload (pc := 790) C 6 dL_act_790 rfl ?_
    refine xw_iload (pc := 792) C 7 dL_act_792 rfl ?_
    refine xw_VF (pc := 794) (q0 := 0) (na := 3) (rest := []) (wc := WX cI h a n p A) (wr := wS cI cQ o n p (rt n p) rr g (va_up A (16 * ma + m_2) m_7) ++ []) C [6, 7] [0, 1, 2, 3, 4, 5] [0] (m_X0_set hp5 hn ma m_2 m_7 (by omega) (by omega) (by omega)) gL_act_X0_set rfl rfl rfl rfl (by decide +kernel) ⟨(Nat.le_of_ble_eq_true rfl), (Nat.le_of_ble_eq_true rfl)⟩ rfl rfl rfl ⟨rfl, rfl⟩ (by decide) rfl rfl rfl rfl (Nat.le_of_ble_eq_true rfl) dL_act_794 ⟨(Nat.le_of_ble_eq_true rfl), (Nat.le_of_ble_eq_true rfl)⟩ (fun v1 w1 hp1 => ?_)
    obtain ⟨rfl, rfl⟩ := hp1
    refine xw_st (st' := [nV (A (16 * ma + m_2))]) rfl ?_
    refine xw_wo (w' := LW cI cQ o rr n p (rt n p) g (va_up A (16 * ma + m_2) m_7) [] (WX cI h a n p (va_up A (16 * ma + m_2) m_7))) rfl ?_
    refine xw_iload (pc := 797) C 8 dL_act_797 rfl ?_
    refine xw_ne_same (pc := 799) (tgt := 806) C (congrArg (fun z : Nat => iI (z : Int)) (show A (16 * ma + m_2) = A (16 * ma + m_2) from rfl)) dL_act_799 (by decide) ?_
    refine xw_iconst_N (pc := 802) C 1 dL_act_802 rfl ?_
    refine xw_goto (pc := 803) (tgt := 807) C dL_act_803 (by decide) ?_
    refine xw_st (st' := [bV true]) rfl ?_
    exact xw_bret (pc := 807) C rX (Nat.le_of_ble_eq_true rfl) (Nat.le_of_ble_eq_true rfl) dL_act_807 (⟨rfl, n, p, rr, _, (va_up A (16 * ma + m_2) m_7), SI_up hS (by omega) (by omega), rfl⟩)
  ·
    refine xw_aload_n (pc := 753) C 1 dL_act_753 rfl ?_
    refine xw_get (pc := 754) (T := TX1) (N := 4) (ref := "ToneButterfliesLaw$Sim") C hin 0 1 LW_o rfl (by decide) (by decide +kernel) rfl rfl dL_act_754 ?_
    refine xw_goto (pc := 757) (tgt := 761) C dL_act_757 (by decide) ?_
    refine xw_S (pc := 761) (na := 2) (rest := []) C (m_L_below x_3 p (by omega) (by omega)) gL_act_L_below rfl rfl rfl rfl (by decide +kernel) ⟨(Nat.le_of_ble_eq_true rfl), (Nat.le_of_ble_eq_true rfl)⟩ rfl (Nat.le_of_ble_eq_true rfl) dL_act_761 ⟨(Nat.le_of_ble_eq_true rfl), (Nat.le_of_ble_eq_true rfl)⟩ (fun v1 w1 hp1 => ?_)
    obtain ⟨m_8, hm_8, rfl, rfl⟩ := hp1
    refine xw_st (st' := [nV m_8]) rfl ?_
    refine xw_istore (pc := 764) (lv' := [(0, .ref h), (1, .ref o), (2, .int x), (3, nV ma), (4, nV mb), (5, nV n), (6, nV m_2), (7, nV m_8)]) C [1, 2, 3, 4, 5, 6, 7, 0] dL_act_764 (by decide) rfl ?_
    refine xw_aload_n (pc := 766) C 1 dL_act_766 rfl ?_
    refine xw_get (pc := 767) (T := TX1) (N := 4) (ref := "ToneButterfliesLaw$Sim") C hin 0 3 LW_o rfl (by decide) (by decide +kernel) rfl rfl dL_act_767 ?_
    refine xw_iload_n (pc := 770) C 3 dL_act_770 rfl ?_
    refine xw_aald (pc := 771) (r := g ma) C 1 1 ma LW_q rfl (by omega) (by decide) (if_pos (by omega)) dL_act_771 ?_
    refine xw_iload (pc := 772) C 6 dL_act_772 rfl ?_
    refine xw_iald (pc := 774) C (2 + ma) 0 m_2 (LW_r (by omega)) rfl rfl (by omega) (by omega) dL_act_774 ?_
    refine xw_st (st' := [nV (A (16 * ma + m_2))]) rfl ?_
    refine xw_istore (pc := 775) (lv' := [(0, .ref h), (1, .ref o), (2, .int x), (3, nV ma), (4, nV mb), (5, nV n), (6, nV m_2), (7, nV m_8), (8, nV (A (16 * ma + m_2)))]) C [1, 2, 3, 4, 5, 6, 7, 8, 0] dL_act_775 (by decide) rfl ?_
    refine xw_aload_n (pc := 777) C 1 dL_act_777 rfl ?_
    refine xw_get (pc := 778) (T := TX1) (N := 4) (ref := "ToneButterfliesLaw$Sim") C hin 0 3 LW_o rfl (by decide) (by decide +kernel) rfl rfl dL_act_778 ?_
    refine xw_iload_n (pc := 781) C 3 dL_act_781 rfl ?_
    refine xw_aald (pc := 782) (r := g ma) C 1 1 ma LW_q rfl (by omega) (by decide) (if_pos (by omega)) dL_act_782 ?_
    refine xw_iload (pc := 783) C 6 dL_act_783 rfl ?_
    refine xw_iload (pc := 785) C 7 dL_act_785 rfl ?_
    refine xw_rset (pc := 787) C ma m_2 m_8 (by omega) (by omega) hn16 dL_act_787 ?_
    refine xw_aload_n (pc := 788) C 0 dL_act_788 rfl ?_
    refine xw_iload_n (pc := 789) C 3 dL_act_789 rfl ?_
    refine xw_iload (pc := 790) C 6 dL_act_790 rfl ?_
    refine xw_iload (pc := 792) C 7 dL_act_792 rfl ?_
    refine xw_VF (pc := 794) (q0 := 0) (na := 3) (rest := []) (wc := WX cI h a n p A) (wr := wS cI cQ o n p (rt n p) rr g (va_up A (16 * ma + m_2) m_8) ++ []) C [6, 7] [0, 1, 2, 3, 4, 5] [0] (m_X0_set hp5 hn ma m_2 m_8 (by omega) (by omega) (by omega)) gL_act_X0_set rfl rfl rfl rfl (by decide +kernel) ⟨(Nat.le_of_ble_eq_true rfl), (Nat.le_of_ble_eq_true rfl)⟩ rfl rfl rfl ⟨rfl, rfl⟩ (by decide) rfl rfl rfl rfl (Nat.le_of_ble_eq_true rfl) dL_act_794 ⟨(Nat.le_of_ble_eq_true rfl), (Nat.le_of_ble_eq_true rfl)⟩ (fun v1 w1 hp1 => ?_)
    obtain ⟨rfl, rfl⟩ := hp1
    refine xw_st (st' := [nV (A (16 * ma + m_2))]) rfl ?_
    refine xw_wo (w' := LW cI cQ o rr n p (rt n p) g (va_up A (16 * ma + m_2) m_8) [] (WX cI h a n p (va_up A (16 * ma + m_2) m_8))) rfl ?_
    refine xw_iload (pc := 797) C 8 dL_act_797 rfl ?_
    refine xw_ne_same (pc := 799) (tgt := 806) C (congrArg (fun z : Nat => iI (z : Int)) (show A (16 * ma + m_2) = A (16 * ma + m_2) from rfl)) dL_act_799 (by decide) ?_
    refine xw_iconst_N (pc := 802) C 1 dL_act_802 rfl ?_
    refine xw_goto (pc := 803) (tgt := 807) C dL_act_803 (by decide) ?_
    refine xw_st (st' := [bV true]) rfl ?_
    exact xw_bret (pc := 807) C rX (Nat.le_of_ble_eq_true rfl) (Nat.le_of_ble_eq_true rfl) dL_act_807 (⟨rfl, n, p, rr, _, (va_up A (16 * ma + m_2) m_8), SI_up hS (by omega) (by omega), rfl⟩)
