set_option maxHeartbeats 4000000 in
set_option maxRecDepth 100000 in
theorem g_ring {φ : Fx} {l : Launch} {D : va_G} {cI cJ cD : ClassId} {b L hx hm r d o od i k nn : Nat} {xs : Nat → Int32} (C : xc φ l room_1 D vwCl [(cI, .int), (cJ, .long), (cD, .double)] 9 cL_law RL wsL_law) (Zc : xzc φ) (X : xsx φ b L xs) (hL : L ≤ 2048) (hi : i + 3 < L) (hk : k + 1 ≤ 1042) (hnn : nn + 6 ≤ 8434) {a n p bb w wi ni n1 p1 b1 w1 wi1 ni1 th n2 p2 w2 b2 n3 p3 w3 b3 kc fr lo : Nat} {A A1 B M B1 M1 : Nat → Nat} {f f1 : Nat → Int64} {g : Nat → UInt64} {z1 z2 : Int} {y : Int} (e1 : (xs (i + 1)).toInt = z1) (e2 : (xs (i + 2)).toInt = z2) (hrm : fr ≤ 10 ∧ lo ≤ 300) (hM1 : CZ l yL_ring wsL_ring (rmX 7 134) D vwCl [(cI, .int), (cJ, .long)] [.ref hx, iV z1, iV z2, .ref o] (wX cI hx a n p bb w wi ni A ++ wO cJ o f) (PD (some (nV kc)) (wO cJ o f1 ++ wX cI hx a n1 p1 b1 w1 wi1 ni1 A1)) 1 6) (hM2 : CT l yX1_ring wsX1_ring (rmN fr lo) D vwCl [(cI, .int)] [.ref hm, iV z1, iV z2] (wM cI hm r d th n2 p2 w2 b2 B M) (PD (some (iV y)) (wM cI hm r d kc n3 p3 w3 b3 B1 M1)) 0 0) (hkc : kc ≤ 2) (heq : kc = 0 → f1 0 = (iI y).toInt64) (kk : xw φ (k + 1) (nn + 6) (wX cI hx a n1 p1 b1 w1 wi1 ni1 A1 ++ (wM cI hm r d kc n3 p3 w3 b3 B1 M1 ++ (wO cJ o f1 ++ wE cD od g))) 1670 [(0, .ref b), (1, .ref hx), (2, .ref hm), (3, .ref o), (4, .ref od), (5, nV i)] []) : xw φ k nn (wX cI hx a n p bb w wi ni A ++ (wM cI hm r d th n2 p2 w2 b2 B M ++ (wO cJ o f ++ wE cD od g))) 152 [(0, .ref b), (1, .ref hx), (2, .ref hm), (3, .ref o), (4, .ref od), (5, nV i)] [] := by
  subst e1
  subst e2
  refine xw_aload_n (pc := 152) C 1 dL_law_152 rfl ?_
  refine xw_aload_n (pc := 153) C 0 dL_law_153 rfl ?_
  refine xw_iload (pc := 154) C 5 dL_law_154 rfl ?_
  refine xw_iconst_N (pc := 156) C 1 dL_law_156 rfl ?_
  refine xw_iadd_N (pc := 157) C dL_law_157 ?_
  refine xw_sld (pc := 158) C X (i + 1) rfl (by omega) (by omega) dL_law_158 ?_
  refine xw_aload_n (pc := 159) C 0 dL_law_159 rfl ?_
  refine xw_iload (pc := 160) C 5 dL_law_160 rfl ?_
  refine xw_iconst_N (pc := 162) C 2 dL_law_162 rfl ?_
  refine xw_iadd_N (pc := 163) C dL_law_163 ?_
  refine xw_sld (pc := 164) C X (i + 2) rfl (by omega) (by omega) dL_law_164 ?_
  refine xw_aload_n (pc := 165) C 3 dL_law_165 rfl ?_
  refine xw_Z (pc := 166) (na := 4) (rest := []) (wc := wX cI hx a n p bb w wi ni A ++ wO cJ o f) (wr := wM cI hm r d th n2 p2 w2 b2 B M ++ wE cD od g) C Zc [0, 1, 5] [2, 3, 4, 6] [0, 1] hM1 gL_law_L_ring rfl rfl rfl rfl (by decide +kernel) ⟨(Nat.le_of_ble_eq_true rfl), (Nat.le_of_ble_eq_true rfl)⟩ rfl rfl rfl ⟨rfl, rfl⟩ (by decide) rfl rfl (Nat.le_of_ble_eq_true rfl) dL_law_166 ⟨hk, hnn⟩ (fun v9 w9 hp9 => ?_)
  obtain ⟨rfl, rfl⟩ := hp9
  refine xw_sub (w' := wX cI hx a n1 p1 b1 w1 wi1 ni1 A1 ++ (wM cI hm r d th n2 p2 w2 b2 B M ++ (wO cJ o f1 ++ wE cD od g))) [5, 6, 0, 1, 2, 4, 3] (by decide) rfl rfl ?_
  refine xw_st (st' := [nV kc]) rfl ?_
  refine xw_istore (pc := 169) (lv' := [(0, .ref b), (1, .ref hx), (2, .ref hm), (3, .ref o), (4, .ref od), (5, nV i), (6, nV kc)]) C [1, 2, 3, 4, 5, 6, 0] dL_law_169 (by decide) rfl ?_
  refine xw_aload_n (pc := 171) C 2 dL_law_171 rfl ?_
  refine xw_aload_n (pc := 172) C 0 dL_law_172 rfl ?_
  refine xw_iload (pc := 173) C 5 dL_law_173 rfl ?_
  refine xw_iconst_N (pc := 175) C 1 dL_law_175 rfl ?_
  refine xw_iadd_N (pc := 176) C dL_law_176 ?_
  refine xw_sld (pc := 177) C X (i + 1) rfl (by omega) (by omega) dL_law_177 ?_
  refine xw_aload_n (pc := 178) C 0 dL_law_178 rfl ?_
  refine xw_iload (pc := 179) C 5 dL_law_179 rfl ?_
  refine xw_iconst_N (pc := 181) C 2 dL_law_181 rfl ?_
  refine xw_iadd_N (pc := 182) C dL_law_182 ?_
  refine xw_sld (pc := 183) C X (i + 2) rfl (by omega) (by omega) dL_law_183 ?_
  refine xw_VF (pc := 184) (q0 := 0) (na := 2) (rest := []) (wc := wM cI hm r d th n2 p2 w2 b2 B M) (wr := wX cI hx a n1 p1 b1 w1 wi1 ni1 A1 ++ (wO cJ o f1 ++ wE cD od g)) C [2, 3, 4] [0, 1, 5, 6] [0] hM2 gL_law_X1_ring rfl rfl rfl rfl (by decide +kernel) ⟨Nat.add_le_add_right hrm.1 1, Nat.le_trans (Nat.add_le_add_left hrm.2 _) (Nat.le_of_ble_eq_true rfl)⟩ rfl rfl rfl ⟨rfl, rfl⟩ (by decide) rfl rfl rfl rfl (Nat.le_of_ble_eq_true rfl) dL_law_184 ⟨hk, hnn⟩ (fun v9 w9 hp9 => ?_)
  obtain ⟨rfl, rfl⟩ := hp9
  refine xw_sub (w' := wX cI hx a n1 p1 b1 w1 wi1 ni1 A1 ++ (wM cI hm r d kc n3 p3 w3 b3 B1 M1 ++ (wO cJ o f1 ++ wE cD od g))) [0, 1, 4, 5, 6, 2, 3] (by decide) rfl rfl ?_
  refine xw_st (st' := [iV y]) rfl ?_
  refine xw_istore (pc := 187) (lv' := [(0, .ref b), (1, .ref hx), (2, .ref hm), (3, .ref o), (4, .ref od), (5, nV i), (6, nV kc), (7, iV y)]) C [1, 2, 3, 4, 5, 6, 7, 0] dL_law_187 (by decide) rfl ?_
  refine xw_aload_n (pc := 189) C 2 dL_law_189 rfl ?_
  refine xw_VF (pc := 190) (q0 := 0) (na := 0) (rest := []) (wc := wM cI hm r d kc n3 p3 w3 b3 B1 M1) (wr := wX cI hx a n1 p1 b1 w1 wi1 ni1 A1 ++ (wO cJ o f1 ++ wE cD od g)) C [2, 3, 4] [0, 1, 5, 6] [0] m_X1_thrown gL_law_X1_thrown rfl rfl rfl rfl (by decide +kernel) ⟨(Nat.le_of_ble_eq_true rfl), (Nat.le_of_ble_eq_true rfl)⟩ rfl rfl rfl ⟨rfl, rfl⟩ (by decide) rfl rfl rfl rfl (Nat.le_of_ble_eq_true rfl) dL_law_190 ⟨hk, hnn⟩ (fun v9 w9 hp9 => ?_)
  obtain ⟨rfl, rfl⟩ := hp9
  refine xw_sub (w' := wX cI hx a n1 p1 b1 w1 wi1 ni1 A1 ++ (wM cI hm r d kc n3 p3 w3 b3 B1 M1 ++ (wO cJ o f1 ++ wE cD od g))) [0, 1, 4, 5, 6, 2, 3] (by decide) rfl rfl ?_
  refine xw_st (st' := [nV kc]) rfl ?_
  refine xw_iload (pc := 193) C 6 dL_law_193 rfl ?_
  refine xw_icmp_eq_N (pc := 195) (tgt := 200) C dL_law_195 (by decide) (by omega) (by omega) (fun _ => ?_) (fun c => absurd rfl c)
  refine xw_iload (pc := 200) C 6 dL_law_200 rfl ?_
  refine xw_if_ne_N (pc := 202) (tgt := 217) C dL_law_202 (by decide) (by omega) (fun _ => xw_goto (pc := 217) (tgt := 1670) C dL_law_217 (by decide) (xw_lv [0, 1, 2, 3, 4, 5] rfl kk)) (fun c => ?_)
  refine xw_aload_n (pc := 205) C 3 dL_law_205 rfl ?_
  refine xw_iconst_N (pc := 206) C 0 dL_law_206 rfl ?_
  refine xw_lald (pc := 207) C 5 1 rfl rfl dL_law_207 ?_
  refine xw_iload (pc := 208) C 7 dL_law_208 rfl ?_
  refine xw_i2l (pc := 210) C dL_law_210 ?_
  refine xw_lcmp (pc := 211) C (heq c) dL_law_211 ?_
  refine xw_if_eq_N (pc := 212) (tgt := 217) C dL_law_212 (by decide) (by decide) (fun _ => xw_goto (pc := 217) (tgt := 1670) C dL_law_217 (by decide) (xw_lv [0, 1, 2, 3, 4, 5] rfl kk)) (fun c => absurd rfl c)

set_option maxHeartbeats 4000000 in
set_option maxRecDepth 100000 in
theorem g_order {φ : Fx} {l : Launch} {D : va_G} {cI cJ cD : ClassId} {b L hx hm r d o od i k nn : Nat} {xs : Nat → Int32} (C : xc φ l room_1 D vwCl [(cI, .int), (cJ, .long), (cD, .double)] 9 cL_law RL wsL_law) (Zc : xzc φ) (X : xsx φ b L xs) (hL : L ≤ 2048) (hi : i + 3 < L) (hk : k + 1 ≤ 1042) (hnn : nn + 6 ≤ 8434) {a n p bb w wi ni n1 p1 b1 w1 wi1 ni1 th n2 p2 w2 b2 n3 p3 w3 b3 kc fr lo : Nat} {A A1 B M B1 M1 : Nat → Nat} {f f1 : Nat → Int64} {g : Nat → UInt64} {z1 : Int} {y : Int} (e1 : (xs (i + 1)).toInt = z1) (hrm : fr ≤ 10 ∧ lo ≤ 300) (hM1 : CZ l yL_order wsL_order (rmX 8 126) D vwCl [(cI, .int), (cJ, .long)] [.ref hx, iV z1, .ref o] (wX cI hx a n p bb w wi ni A ++ wO cJ o f) (PD (some (nV kc)) (wO cJ o f1 ++ wX cI hx a n1 p1 b1 w1 wi1 ni1 A1)) 1 6) (hM2 : CT l yX1_order wsX1_order (rmN fr lo) D vwCl [(cI, .int)] [.ref hm, iV z1] (wM cI hm r d th n2 p2 w2 b2 B M) (PD (some (iV y)) (wM cI hm r d kc n3 p3 w3 b3 B1 M1)) 0 0) (hkc : kc ≤ 2) (heq : kc = 0 → f1 0 = (iI y).toInt64) (kk : xw φ (k + 1) (nn + 6) (wX cI hx a n1 p1 b1 w1 wi1 ni1 A1 ++ (wM cI hm r d kc n3 p3 w3 b3 B1 M1 ++ (wO cJ o f1 ++ wE cD od g))) 1670 [(0, .ref b), (1, .ref hx), (2, .ref hm), (3, .ref o), (4, .ref od), (5, nV i)] []) : xw φ k nn (wX cI hx a n p bb w wi ni A ++ (wM cI hm r d th n2 p2 w2 b2 B M ++ (wO cJ o f ++ wE cD od g))) 220 [(0, .ref b), (1, .ref hx), (2, .ref hm), (3, .ref o), (4, .ref od), (5, nV i)] [] := by
  subst e1
  refine xw_aload_n (pc := 220) C 1 dL_law_220 rfl ?_
  refine xw_aload_n (pc := 221) C 0 dL_law_221 rfl ?_
  refine xw_iload (pc := 222) C 5 dL_law_222 rfl ?_
  refine xw_iconst_N (pc := 224) C 1 dL_law_224 rfl ?_
  refine xw_iadd_N (pc := 225) C dL_law_225 ?_
  refine xw_sld (pc := 226) C X (i + 1) rfl (by omega) (by omega) dL_law_226 ?_
  refine xw_aload_n (pc := 227) C 3 dL_law_227 rfl ?_
  refine xw_Z (pc := 228) (na := 3) (rest := []) (wc := wX cI hx a n p bb w wi ni A ++ wO cJ o f) (wr := wM cI hm r d th n2 p2 w2 b2 B M ++ wE cD od g) C Zc [0, 1, 5] [2, 3, 4, 6] [0, 1] hM1 gL_law_L_order rfl rfl rfl rfl (by decide +kernel) ⟨(Nat.le_of_ble_eq_true rfl), (Nat.le_of_ble_eq_true rfl)⟩ rfl rfl rfl ⟨rfl, rfl⟩ (by decide) rfl rfl (Nat.le_of_ble_eq_true rfl) dL_law_228 ⟨hk, hnn⟩ (fun v9 w9 hp9 => ?_)
  obtain ⟨rfl, rfl⟩ := hp9
  refine xw_sub (w' := wX cI hx a n1 p1 b1 w1 wi1 ni1 A1 ++ (wM cI hm r d th n2 p2 w2 b2 B M ++ (wO cJ o f1 ++ wE cD od g))) [5, 6, 0, 1, 2, 4, 3] (by decide) rfl rfl ?_
  refine xw_st (st' := [nV kc]) rfl ?_
  refine xw_istore (pc := 231) (lv' := [(0, .ref b), (1, .ref hx), (2, .ref hm), (3, .ref o), (4, .ref od), (5, nV i), (6, nV kc)]) C [1, 2, 3, 4, 5, 6, 0] dL_law_231 (by decide) rfl ?_
  refine xw_aload_n (pc := 233) C 2 dL_law_233 rfl ?_
  refine xw_aload_n (pc := 234) C 0 dL_law_234 rfl ?_
  refine xw_iload (pc := 235) C 5 dL_law_235 rfl ?_
  refine xw_iconst_N (pc := 237) C 1 dL_law_237 rfl ?_
  refine xw_iadd_N (pc := 238) C dL_law_238 ?_
  refine xw_sld (pc := 239) C X (i + 1) rfl (by omega) (by omega) dL_law_239 ?_
  refine xw_VF (pc := 240) (q0 := 0) (na := 1) (rest := []) (wc := wM cI hm r d th n2 p2 w2 b2 B M) (wr := wX cI hx a n1 p1 b1 w1 wi1 ni1 A1 ++ (wO cJ o f1 ++ wE cD od g)) C [2, 3, 4] [0, 1, 5, 6] [0] hM2 gL_law_X1_order rfl rfl rfl rfl (by decide +kernel) ⟨Nat.add_le_add_right hrm.1 1, Nat.le_trans (Nat.add_le_add_left hrm.2 _) (Nat.le_of_ble_eq_true rfl)⟩ rfl rfl rfl ⟨rfl, rfl⟩ (by decide) rfl rfl rfl rfl (Nat.le_of_ble_eq_true rfl) dL_law_240 ⟨hk, hnn⟩ (fun v9 w9 hp9 => ?_)
  obtain ⟨rfl, rfl⟩ := hp9
  refine xw_sub (w' := wX cI hx a n1 p1 b1 w1 wi1 ni1 A1 ++ (wM cI hm r d kc n3 p3 w3 b3 B1 M1 ++ (wO cJ o f1 ++ wE cD od g))) [0, 1, 4, 5, 6, 2, 3] (by decide) rfl rfl ?_
  refine xw_st (st' := [iV y]) rfl ?_
  refine xw_istore (pc := 243) (lv' := [(0, .ref b), (1, .ref hx), (2, .ref hm), (3, .ref o), (4, .ref od), (5, nV i), (6, nV kc), (7, iV y)]) C [1, 2, 3, 4, 5, 6, 7, 0] dL_law_243 (by decide) rfl ?_
  refine xw_aload_n (pc := 245) C 2 dL_law_245 rfl ?_
  refine xw_VF (pc := 246) (q0 := 0) (na := 0) (rest := []) (wc := wM cI hm r d kc n3 p3 w3 b3 B1 M1) (wr := wX cI hx a n1 p1 b1 w1 wi1 ni1 A1 ++ (wO cJ o f1 ++ wE cD od g)) C [2, 3, 4] [0, 1, 5, 6] [0] m_X1_thrown gL_law_X1_thrown rfl rfl rfl rfl (by decide +kernel) ⟨(Nat.le_of_ble_eq_true rfl), (Nat.le_of_ble_eq_true rfl)⟩ rfl rfl rfl ⟨rfl, rfl⟩ (by decide) rfl rfl rfl rfl (Nat.le_of_ble_eq_true rfl) dL_law_246 ⟨hk, hnn⟩ (fun v9 w9 hp9 => ?_)
  obtain ⟨rfl, rfl⟩ := hp9
  refine xw_sub (w' := wX cI hx a n1 p1 b1 w1 wi1 ni1 A1 ++ (wM cI hm r d kc n3 p3 w3 b3 B1 M1 ++ (wO cJ o f1 ++ wE cD od g))) [0, 1, 4, 5, 6, 2, 3] (by decide) rfl rfl ?_
  refine xw_st (st' := [nV kc]) rfl ?_
  refine xw_iload (pc := 249) C 6 dL_law_249 rfl ?_
  refine xw_icmp_eq_N (pc := 251) (tgt := 256) C dL_law_251 (by decide) (by omega) (by omega) (fun _ => ?_) (fun c => absurd rfl c)
  refine xw_iload (pc := 256) C 6 dL_law_256 rfl ?_
  refine xw_if_ne_N (pc := 258) (tgt := 273) C dL_law_258 (by decide) (by omega) (fun _ => xw_goto (pc := 273) (tgt := 1670) C dL_law_273 (by decide) (xw_lv [0, 1, 2, 3, 4, 5] rfl kk)) (fun c => ?_)
  refine xw_aload_n (pc := 261) C 3 dL_law_261 rfl ?_
  refine xw_iconst_N (pc := 262) C 0 dL_law_262 rfl ?_
  refine xw_lald (pc := 263) C 5 1 rfl rfl dL_law_263 ?_
  refine xw_iload (pc := 264) C 7 dL_law_264 rfl ?_
  refine xw_i2l (pc := 266) C dL_law_266 ?_
  refine xw_lcmp (pc := 267) C (heq c) dL_law_267 ?_
  refine xw_if_eq_N (pc := 268) (tgt := 273) C dL_law_268 (by decide) (by decide) (fun _ => xw_goto (pc := 273) (tgt := 1670) C dL_law_273 (by decide) (xw_lv [0, 1, 2, 3, 4, 5] rfl kk)) (fun c => absurd rfl c)

set_option maxHeartbeats 4000000 in
set_option maxRecDepth 100000 in
theorem g_inverse {φ : Fx} {l : Launch} {D : va_G} {cI cJ cD : ClassId} {b L hx hm r d o od i k nn : Nat} {xs : Nat → Int32} (C : xc φ l room_1 D vwCl [(cI, .int), (cJ, .long), (cD, .double)] 9 cL_law RL wsL_law) (Zc : xzc φ) (X : xsx φ b L xs) (hL : L ≤ 2048) (hi : i + 3 < L) (hk : k + 1 ≤ 1042) (hnn : nn + 6 ≤ 8434) {a n p bb w wi ni n1 p1 b1 w1 wi1 ni1 th n2 p2 w2 b2 n3 p3 w3 b3 kc fr lo : Nat} {A A1 B M B1 M1 : Nat → Nat} {f f1 : Nat → Int64} {g : Nat → UInt64} {z1 : Int} {y : Int} (e1 : (xs (i + 1)).toInt = z1) (hrm : fr ≤ 10 ∧ lo ≤ 300) (hM1 : CZ l yL_inverse wsL_inverse (rmX 8 124) D vwCl [(cI, .int), (cJ, .long)] [.ref hx, iV z1, .ref o] (wX cI hx a n p bb w wi ni A ++ wO cJ o f) (PD (some (nV kc)) (wO cJ o f1 ++ wX cI hx a n1 p1 b1 w1 wi1 ni1 A1)) 1 6) (hM2 : CT l yX1_inverse wsX1_inverse (rmN fr lo) D vwCl [(cI, .int)] [.ref hm, iV z1] (wM cI hm r d th n2 p2 w2 b2 B M) (PD (some (iV y)) (wM cI hm r d kc n3 p3 w3 b3 B1 M1)) 0 0) (hkc : kc ≤ 2) (heq : kc = 0 → f1 0 = (iI y).toInt64) (kk : xw φ (k + 1) (nn + 6) (wX cI hx a n1 p1 b1 w1 wi1 ni1 A1 ++ (wM cI hm r d kc n3 p3 w3 b3 B1 M1 ++ (wO cJ o f1 ++ wE cD od g))) 1670 [(0, .ref b), (1, .ref hx), (2, .ref hm), (3, .ref o), (4, .ref od), (5, nV i)] []) : xw φ k nn (wX cI hx a n p bb w wi ni A ++ (wM cI hm r d th n2 p2 w2 b2 B M ++ (wO cJ o f ++ wE cD od g))) 276 [(0, .ref b), (1, .ref hx), (2, .ref hm), (3, .ref o), (4, .ref od), (5, nV i)] [] := by
  subst e1
  refine xw_aload_n (pc := 276) C 1 dL_law_276 rfl ?_
  refine xw_aload_n (pc := 277) C 0 dL_law_277 rfl ?_
  refine xw_iload (pc := 278) C 5 dL_law_278 rfl ?_
  refine xw_iconst_N (pc := 280) C 1 dL_law_280 rfl ?_
  refine xw_iadd_N (pc := 281) C dL_law_281 ?_
  refine xw_sld (pc := 282) C X (i + 1) rfl (by omega) (by omega) dL_law_282 ?_
  refine xw_aload_n (pc := 283) C 3 dL_law_283 rfl ?_
  refine xw_Z (pc := 284) (na := 3) (rest := []) (wc := wX cI hx a n p bb w wi ni A ++ wO cJ o f) (wr := wM cI hm r d th n2 p2 w2 b2 B M ++ wE cD od g) C Zc [0, 1, 5] [2, 3, 4, 6] [0, 1] hM1 gL_law_L_inverse rfl rfl rfl rfl (by decide +kernel) ⟨(Nat.le_of_ble_eq_true rfl), (Nat.le_of_ble_eq_true rfl)⟩ rfl rfl rfl ⟨rfl, rfl⟩ (by decide) rfl rfl (Nat.le_of_ble_eq_true rfl) dL_law_284 ⟨hk, hnn⟩ (fun v9 w9 hp9 => ?_)
  obtain ⟨rfl, rfl⟩ := hp9
  refine xw_sub (w' := wX cI hx a n1 p1 b1 w1 wi1 ni1 A1 ++ (wM cI hm r d th n2 p2 w2 b2 B M ++ (wO cJ o f1 ++ wE cD od g))) [5, 6, 0, 1, 2, 4, 3] (by decide) rfl rfl ?_
  refine xw_st (st' := [nV kc]) rfl ?_
  refine xw_istore (pc := 287) (lv' := [(0, .ref b), (1, .ref hx), (2, .ref hm), (3, .ref o), (4, .ref od), (5, nV i), (6, nV kc)]) C [1, 2, 3, 4, 5, 6, 0] dL_law_287 (by decide) rfl ?_
  refine xw_aload_n (pc := 289) C 2 dL_law_289 rfl ?_
  refine xw_aload_n (pc := 290) C 0 dL_law_290 rfl ?_
  refine xw_iload (pc := 291) C 5 dL_law_291 rfl ?_
  refine xw_iconst_N (pc := 293) C 1 dL_law_293 rfl ?_
  refine xw_iadd_N (pc := 294) C dL_law_294 ?_
  refine xw_sld (pc := 295) C X (i + 1) rfl (by omega) (by omega) dL_law_295 ?_
  refine xw_VF (pc := 296) (q0 := 0) (na := 1) (rest := []) (wc := wM cI hm r d th n2 p2 w2 b2 B M) (wr := wX cI hx a n1 p1 b1 w1 wi1 ni1 A1 ++ (wO cJ o f1 ++ wE cD od g)) C [2, 3, 4] [0, 1, 5, 6] [0] hM2 gL_law_X1_inverse rfl rfl rfl rfl (by decide +kernel) ⟨Nat.add_le_add_right hrm.1 1, Nat.le_trans (Nat.add_le_add_left hrm.2 _) (Nat.le_of_ble_eq_true rfl)⟩ rfl rfl rfl ⟨rfl, rfl⟩ (by decide) rfl rfl rfl rfl (Nat.le_of_ble_eq_true rfl) dL_law_296 ⟨hk, hnn⟩ (fun v9 w9 hp9 => ?_)
  obtain ⟨rfl, rfl⟩ := hp9
  refine xw_sub (w' := wX cI hx a n1 p1 b1 w1 wi1 ni1 A1 ++ (wM cI hm r d kc n3 p3 w3 b3 B1 M1 ++ (wO cJ o f1 ++ wE cD od g))) [0, 1, 4, 5, 6, 2, 3] (by decide) rfl rfl ?_
  refine xw_st (st' := [iV y]) rfl ?_
  refine xw_istore (pc := 299) (lv' := [(0, .ref b), (1, .ref hx), (2, .ref hm), (3, .ref o), (4, .ref od), (5, nV i), (6, nV kc), (7, iV y)]) C [1, 2, 3, 4, 5, 6, 7, 0] dL_law_299 (by decide) rfl ?_
  refine xw_aload_n (pc := 301) C 2 dL_law_301 rfl ?_
  refine xw_VF (pc := 302) (q0 := 0) (na := 0) (rest := []) (wc := wM cI hm r d kc n3 p3 w3 b3 B1 M1) (wr := wX cI hx a n1 p1 b1 w1 wi1 ni1 A1 ++ (wO cJ o f1 ++ wE cD od g)) C [2, 3, 4] [0, 1, 5, 6] [0] m_X1_thrown gL_law_X1_thrown rfl rfl rfl rfl (by decide +kernel) ⟨(Nat.le_of_ble_eq_true rfl), (Nat.le_of_ble_eq_true rfl)⟩ rfl rfl rfl ⟨rfl, rfl⟩ (by decide) rfl rfl rfl rfl (Nat.le_of_ble_eq_true rfl) dL_law_302 ⟨hk, hnn⟩ (fun v9 w9 hp9 => ?_)
  obtain ⟨rfl, rfl⟩ := hp9
  refine xw_sub (w' := wX cI hx a n1 p1 b1 w1 wi1 ni1 A1 ++ (wM cI hm r d kc n3 p3 w3 b3 B1 M1 ++ (wO cJ o f1 ++ wE cD od g))) [0, 1, 4, 5, 6, 2, 3] (by decide) rfl rfl ?_
  refine xw_st (st' := [nV kc]) rfl ?_
  refine xw_iload (pc := 305) C 6 dL_law_305 rfl ?_
  refine xw_icmp_eq_N (pc := 307) (tgt := 312) C dL_law_307 (by decide) (by omega) (by omega) (fun _ => ?_) (fun c => absurd rfl c)
  refine xw_iload (pc := 312) C 6 dL_law_312 rfl ?_
  refine xw_if_ne_N (pc := 314) (tgt := 329) C dL_law_314 (by decide) (by omega) (fun _ => xw_goto (pc := 329) (tgt := 1670) C dL_law_329 (by decide) (xw_lv [0, 1, 2, 3, 4, 5] rfl kk)) (fun c => ?_)
  refine xw_aload_n (pc := 317) C 3 dL_law_317 rfl ?_
  refine xw_iconst_N (pc := 318) C 0 dL_law_318 rfl ?_
  refine xw_lald (pc := 319) C 5 1 rfl rfl dL_law_319 ?_
  refine xw_iload (pc := 320) C 7 dL_law_320 rfl ?_
  refine xw_i2l (pc := 322) C dL_law_322 ?_
  refine xw_lcmp (pc := 323) C (heq c) dL_law_323 ?_
  refine xw_if_eq_N (pc := 324) (tgt := 329) C dL_law_324 (by decide) (by decide) (fun _ => xw_goto (pc := 329) (tgt := 1670) C dL_law_329 (by decide) (xw_lv [0, 1, 2, 3, 4, 5] rfl kk)) (fun c => absurd rfl c)

set_option maxHeartbeats 4000000 in
set_option maxRecDepth 100000 in
theorem g_root {φ : Fx} {l : Launch} {D : va_G} {cI cJ cD : ClassId} {b L hx hm r d o od i k nn : Nat} {xs : Nat → Int32} (C : xc φ l room_1 D vwCl [(cI, .int), (cJ, .long), (cD, .double)] 9 cL_law RL wsL_law) (Zc : xzc φ) (X : xsx φ b L xs) (hL : L ≤ 2048) (hi : i + 3 < L) (hk : k + 1 ≤ 1042) (hnn : nn + 6 ≤ 8434) {a n p bb w wi ni n1 p1 b1 w1 wi1 ni1 th n2 p2 w2 b2 n3 p3 w3 b3 kc fr lo : Nat} {A A1 B M B1 M1 : Nat → Nat} {f f1 : Nat → Int64} {g : Nat → UInt64} {z1 : Int} {y : Int} (e1 : (xs (i + 1)).toInt = z1) (hrm : fr ≤ 10 ∧ lo ≤ 300) (hM1 : CZ l yL_root wsL_root (rmX 7 103) D vwCl [(cI, .int), (cJ, .long)] [.ref hx, iV z1, .ref o] (wX cI hx a n p bb w wi ni A ++ wO cJ o f) (PD (some (nV kc)) (wO cJ o f1 ++ wX cI hx a n1 p1 b1 w1 wi1 ni1 A1)) 1 6) (hM2 : CT l yX1_root wsX1_root (rmN fr lo) D vwCl [(cI, .int)] [.ref hm, iV z1] (wM cI hm r d th n2 p2 w2 b2 B M) (PD (some (iV y)) (wM cI hm r d kc n3 p3 w3 b3 B1 M1)) 0 0) (hkc : kc ≤ 2) (heq : kc = 0 → f1 0 = (iI y).toInt64) (kk : xw φ (k + 1) (nn + 6) (wX cI hx a n1 p1 b1 w1 wi1 ni1 A1 ++ (wM cI hm r d kc n3 p3 w3 b3 B1 M1 ++ (wO cJ o f1 ++ wE cD od g))) 1670 [(0, .ref b), (1, .ref hx), (2, .ref hm), (3, .ref o), (4, .ref od), (5, nV i)] []) : xw φ k nn (wX cI hx a n p bb w wi ni A ++ (wM cI hm r d th n2 p2 w2 b2 B M ++ (wO cJ o f ++ wE cD od g))) 332 [(0, .ref b), (1, .ref hx), (2, .ref hm), (3, .ref o), (4, .ref od), (5, nV i)] [] := by
  subst e1
  refine xw_aload_n (pc := 332) C 1 dL_law_332 rfl ?_
  refine xw_aload_n (pc := 333) C 0 dL_law_333 rfl ?_
  refine xw_iload (pc := 334) C 5 dL_law_334 rfl ?_
  refine xw_iconst_N (pc := 336) C 1 dL_law_336 rfl ?_
  refine xw_iadd_N (pc := 337) C dL_law_337 ?_
  refine xw_sld (pc := 338) C X (i + 1) rfl (by omega) (by omega) dL_law_338 ?_
  refine xw_aload_n (pc := 339) C 3 dL_law_339 rfl ?_
  refine xw_Z (pc := 340) (na := 3) (rest := []) (wc := wX cI hx a n p bb w wi ni A ++ wO cJ o f) (wr := wM cI hm r d th n2 p2 w2 b2 B M ++ wE cD od g) C Zc [0, 1, 5] [2, 3, 4, 6] [0, 1] hM1 gL_law_L_root rfl rfl rfl rfl (by decide +kernel) ⟨(Nat.le_of_ble_eq_true rfl), (Nat.le_of_ble_eq_true rfl)⟩ rfl rfl rfl ⟨rfl, rfl⟩ (by decide) rfl rfl (Nat.le_of_ble_eq_true rfl) dL_law_340 ⟨hk, hnn⟩ (fun v9 w9 hp9 => ?_)
  obtain ⟨rfl, rfl⟩ := hp9
  refine xw_sub (w' := wX cI hx a n1 p1 b1 w1 wi1 ni1 A1 ++ (wM cI hm r d th n2 p2 w2 b2 B M ++ (wO cJ o f1 ++ wE cD od g))) [5, 6, 0, 1, 2, 4, 3] (by decide) rfl rfl ?_
  refine xw_st (st' := [nV kc]) rfl ?_
  refine xw_istore (pc := 343) (lv' := [(0, .ref b), (1, .ref hx), (2, .ref hm), (3, .ref o), (4, .ref od), (5, nV i), (6, nV kc)]) C [1, 2, 3, 4, 5, 6, 0] dL_law_343 (by decide) rfl ?_
  refine xw_aload_n (pc := 345) C 2 dL_law_345 rfl ?_
  refine xw_aload_n (pc := 346) C 0 dL_law_346 rfl ?_
  refine xw_iload (pc := 347) C 5 dL_law_347 rfl ?_
  refine xw_iconst_N (pc := 349) C 1 dL_law_349 rfl ?_
  refine xw_iadd_N (pc := 350) C dL_law_350 ?_
  refine xw_sld (pc := 351) C X (i + 1) rfl (by omega) (by omega) dL_law_351 ?_
  refine xw_VF (pc := 352) (q0 := 0) (na := 1) (rest := []) (wc := wM cI hm r d th n2 p2 w2 b2 B M) (wr := wX cI hx a n1 p1 b1 w1 wi1 ni1 A1 ++ (wO cJ o f1 ++ wE cD od g)) C [2, 3, 4] [0, 1, 5, 6] [0] hM2 gL_law_X1_root rfl rfl rfl rfl (by decide +kernel) ⟨Nat.add_le_add_right hrm.1 1, Nat.le_trans (Nat.add_le_add_left hrm.2 _) (Nat.le_of_ble_eq_true rfl)⟩ rfl rfl rfl ⟨rfl, rfl⟩ (by decide) rfl rfl rfl rfl (Nat.le_of_ble_eq_true rfl) dL_law_352 ⟨hk, hnn⟩ (fun v9 w9 hp9 => ?_)
  obtain ⟨rfl, rfl⟩ := hp9
  refine xw_sub (w' := wX cI hx a n1 p1 b1 w1 wi1 ni1 A1 ++ (wM cI hm r d kc n3 p3 w3 b3 B1 M1 ++ (wO cJ o f1 ++ wE cD od g))) [0, 1, 4, 5, 6, 2, 3] (by decide) rfl rfl ?_
  refine xw_st (st' := [iV y]) rfl ?_
  refine xw_istore (pc := 355) (lv' := [(0, .ref b), (1, .ref hx), (2, .ref hm), (3, .ref o), (4, .ref od), (5, nV i), (6, nV kc), (7, iV y)]) C [1, 2, 3, 4, 5, 6, 7, 0] dL_law_355 (by decide) rfl ?_
  refine xw_aload_n (pc := 357) C 2 dL_law_357 rfl ?_
  refine xw_VF (pc := 358) (q0 := 0) (na := 0) (rest := []) (wc := wM cI hm r d kc n3 p3 w3 b3 B1 M1) (wr := wX cI hx a n1 p1 b1 w1 wi1 ni1 A1 ++ (wO cJ o f1 ++ wE cD od g)) C [2, 3, 4] [0, 1, 5, 6] [0] m_X1_thrown gL_law_X1_thrown rfl rfl rfl rfl (by decide +kernel) ⟨(Nat.le_of_ble_eq_true rfl), (Nat.le_of_ble_eq_true rfl)⟩ rfl rfl rfl ⟨rfl, rfl⟩ (by decide) rfl rfl rfl rfl (Nat.le_of_ble_eq_true rfl) dL_law_358 ⟨hk, hnn⟩ (fun v9 w9 hp9 => ?_)
  obtain ⟨rfl, rfl⟩ := hp9
  refine xw_sub (w' := wX cI hx a n1 p1 b1 w1 wi1 ni1 A1 ++ (wM cI hm r d kc n3 p3 w3 b3 B1 M1 ++ (wO cJ o f1 ++ wE cD od g))) [0, 1, 4, 5, 6, 2, 3] (by decide) rfl rfl ?_
  refine xw_st (st' := [nV kc]) rfl ?_
  refine xw_iload (pc := 361) C 6 dL_law_361 rfl ?_
  refine xw_icmp_eq_N (pc := 363) (tgt := 368) C dL_law_363 (by decide) (by omega) (by omega) (fun _ => ?_) (fun c => absurd rfl c)
  refine xw_iload (pc := 368) C 6 dL_law_368 rfl ?_
  refine xw_if_ne_N (pc := 370) (tgt := 385) C dL_law_370 (by decide) (by omega) (fun _ => xw_goto (pc := 385) (tgt := 1670) C dL_law_385 (by decide) (xw_lv [0, 1, 2, 3, 4, 5] rfl kk)) (fun c => ?_)
  refine xw_aload_n (pc := 373) C 3 dL_law_373 rfl ?_
  refine xw_iconst_N (pc := 374) C 0 dL_law_374 rfl ?_
  refine xw_lald (pc := 375) C 5 1 rfl rfl dL_law_375 ?_
  refine xw_iload (pc := 376) C 7 dL_law_376 rfl ?_
  refine xw_i2l (pc := 378) C dL_law_378 ?_
  refine xw_lcmp (pc := 379) C (heq c) dL_law_379 ?_
  refine xw_if_eq_N (pc := 380) (tgt := 385) C dL_law_380 (by decide) (by decide) (fun _ => xw_goto (pc := 385) (tgt := 1670) C dL_law_385 (by decide) (xw_lv [0, 1, 2, 3, 4, 5] rfl kk)) (fun c => absurd rfl c)

set_option maxHeartbeats 4000000 in
set_option maxRecDepth 100000 in
theorem g_set {φ : Fx} {l : Launch} {D : va_G} {cI cJ cD : ClassId} {b L hx hm r d o od i k nn : Nat} {xs : Nat → Int32} (C : xc φ l room_1 D vwCl [(cI, .int), (cJ, .long), (cD, .double)] 9 cL_law RL wsL_law) (Zc : xzc φ) (X : xsx φ b L xs) (hL : L ≤ 2048) (hi : i + 3 < L) (hk : k + 1 ≤ 1042) (hnn : nn + 6 ≤ 8434) {a n p bb w wi ni n1 p1 b1 w1 wi1 ni1 th n2 p2 w2 b2 n3 p3 w3 b3 kc fr lo : Nat} {A A1 B M B1 M1 : Nat → Nat} {f f1 : Nat → Int64} {g : Nat → UInt64} {z1 z2 z3 : Int} {y : Int} (e1 : (xs (i + 1)).toInt = z1) (e2 : (xs (i + 2)).toInt = z2) (e3 : (xs (i + 3)).toInt = z3) (hrm : fr ≤ 10 ∧ lo ≤ 300) (hM1 : CZ l yL_set wsL_set (rmX 8 127) D vwCl [(cI, .int), (cJ, .long)] [.ref hx, iV z1, iV z2, iV z3, .ref o] (wX cI hx a n p bb w wi ni A ++ wO cJ o f) (PD (some (nV kc)) (wO cJ o f1 ++ wX cI hx a n1 p1 b1 w1 wi1 ni1 A1)) 1 6) (hM2 : CT l yX1_set wsX1_set (rmN fr lo) D vwCl [(cI, .int)] [.ref hm, iV z1, iV z2, iV z3] (wM cI hm r d th n2 p2 w2 b2 B M) (PD (some (iV y)) (wM cI hm r d kc n3 p3 w3 b3 B1 M1)) 0 0) (hkc : kc ≤ 2) (heq : kc = 0 → f1 0 = (iI y).toInt64) (kk : xw φ (k + 1) (nn + 6) (wX cI hx a n1 p1 b1 w1 wi1 ni1 A1 ++ (wM cI hm r d kc n3 p3 w3 b3 B1 M1 ++ (wO cJ o f1 ++ wE cD od g))) 1670 [(0, .ref b), (1, .ref hx), (2, .ref hm), (3, .ref o), (4, .ref od), (5, nV i)] []) : xw φ k nn (wX cI hx a n p bb w wi ni A ++ (wM cI hm r d th n2 p2 w2 b2 B M ++ (wO cJ o f ++ wE cD od g))) 388 [(0, .ref b), (1, .ref hx), (2, .ref hm), (3, .ref o), (4, .ref od), (5, nV i)] [] := by
  subst e1
  subst e2
  subst e3
  refine xw_aload_n (pc := 388) C 1 dL_law_388 rfl ?_
  refine xw_aload_n (pc := 389) C 0 dL_law_389 rfl ?_
  refine xw_iload (pc := 390) C 5 dL_law_390 rfl ?_
  refine xw_iconst_N (pc := 392) C 1 dL_law_392 rfl ?_
  refine xw_iadd_N (pc := 393) C dL_law_393 ?_
  refine xw_sld (pc := 394) C X (i + 1) rfl (by omega) (by omega) dL_law_394 ?_
  refine xw_aload_n (pc := 395) C 0 dL_law_395 rfl ?_
  refine xw_iload (pc := 396) C 5 dL_law_396 rfl ?_
  refine xw_iconst_N (pc := 398) C 2 dL_law_398 rfl ?_
  refine xw_iadd_N (pc := 399) C dL_law_399 ?_
  refine xw_sld (pc := 400) C X (i + 2) rfl (by omega) (by omega) dL_law_400 ?_
  refine xw_aload_n (pc := 401) C 0 dL_law_401 rfl ?_
  refine xw_iload (pc := 402) C 5 dL_law_402 rfl ?_
  refine xw_iconst_N (pc := 404) C 3 dL_law_404 rfl ?_
  refine xw_iadd_N (pc := 405) C dL_law_405 ?_
  refine xw_sld (pc := 406) C X (i + 3) rfl (by omega) (by omega) dL_law_406 ?_
  refine xw_aload_n (pc := 407) C 3 dL_law_407 rfl ?_
  refine xw_Z (pc := 408) (na := 5) (rest := []) (wc := wX cI hx a n p bb w wi ni A ++ wO cJ o f) (wr := wM cI hm r d th n2 p2 w2 b2 B M ++ wE cD od g) C Zc [0, 1, 5] [2, 3, 4, 6] [0, 1] hM1 gL_law_L_set rfl rfl rfl rfl (by decide +kernel) ⟨(Nat.le_of_ble_eq_true rfl), (Nat.le_of_ble_eq_true rfl)⟩ rfl rfl rfl ⟨rfl, rfl⟩ (by decide) rfl rfl (Nat.le_of_ble_eq_true rfl) dL_law_408 ⟨hk, hnn⟩ (fun v9 w9 hp9 => ?_)
  obtain ⟨rfl, rfl⟩ := hp9
  refine xw_sub (w' := wX cI hx a n1 p1 b1 w1 wi1 ni1 A1 ++ (wM cI hm r d th n2 p2 w2 b2 B M ++ (wO cJ o f1 ++ wE cD od g))) [5, 6, 0, 1, 2, 4, 3] (by decide) rfl rfl ?_
  refine xw_st (st' := [nV kc]) rfl ?_
  refine xw_istore (pc := 411) (lv' := [(0, .ref b), (1, .ref hx), (2, .ref hm), (3, .ref o), (4, .ref od), (5, nV i), (6, nV kc)]) C [1, 2, 3, 4, 5, 6, 0] dL_law_411 (by decide) rfl ?_
  refine xw_aload_n (pc := 413) C 2 dL_law_413 rfl ?_
  refine xw_aload_n (pc := 414) C 0 dL_law_414 rfl ?_
  refine xw_iload (pc := 415) C 5 dL_law_415 rfl ?_
  refine xw_iconst_N (pc := 417) C 1 dL_law_417 rfl ?_
  refine xw_iadd_N (pc := 418) C dL_law_418 ?_
  refine xw_sld (pc := 419) C X (i + 1) rfl (by omega) (by omega) dL_law_419 ?_
  refine xw_aload_n (pc := 420) C 0 dL_law_420 rfl ?_
  refine xw_iload (pc := 421) C 5 dL_law_421 rfl ?_
  refine xw_iconst_N (pc := 423) C 2 dL_law_423 rfl ?_
  refine xw_iadd_N (pc := 424) C dL_law_424 ?_
  refine xw_sld (pc := 425) C X (i + 2) rfl (by omega) (by omega) dL_law_425 ?_
  refine xw_aload_n (pc := 426) C 0 dL_law_426 rfl ?_
  refine xw_iload (pc := 427) C 5 dL_law_427 rfl ?_
  refine xw_iconst_N (pc := 429) C 3 dL_law_429 rfl ?_
  refine xw_iadd_N (pc := 430) C dL_law_430 ?_
  refine xw_sld (pc := 431) C X (i + 3) rfl (by omega) (by omega) dL_law_431 ?_
  refine xw_VF (pc := 432) (q0 := 0) (na := 3) (rest := []) (wc := wM cI hm r d th n2 p2 w2 b2 B M) (wr := wX cI hx a n1 p1 b1 w1 wi1 ni1 A1 ++ (wO cJ o f1 ++ wE cD od g)) C [2, 3, 4] [0, 1, 5, 6] [0] hM2 gL_law_X1_set rfl rfl rfl rfl (by decide +kernel) ⟨Nat.add_le_add_right hrm.1 1, Nat.le_trans (Nat.add_le_add_left hrm.2 _) (Nat.le_of_ble_eq_true rfl)⟩ rfl rfl rfl ⟨rfl, rfl⟩ (by decide) rfl rfl rfl rfl (Nat.le_of_ble_eq_true rfl) dL_law_432 ⟨hk, hnn⟩ (fun v9 w9 hp9 => ?_)
  obtain ⟨rfl, rfl⟩ := hp9
  refine xw_sub (w' := wX cI hx a n1 p1 b1 w1 wi1 ni1 A1 ++ (wM cI hm r d kc n3 p3 w3 b3 B1 M1 ++ (wO cJ o f1 ++ wE cD od g))) [0, 1, 4, 5, 6, 2, 3] (by decide) rfl rfl ?_
  refine xw_st (st' := [iV y]) rfl ?_
  refine xw_istore (pc := 435) (lv' := [(0, .ref b), (1, .ref hx), (2, .ref hm), (3, .ref o), (4, .ref od), (5, nV i), (6, nV kc), (7, iV y)]) C [1, 2, 3, 4, 5, 6, 7, 0] dL_law_435 (by decide) rfl ?_
  refine xw_aload_n (pc := 437) C 2 dL_law_437 rfl ?_
  refine xw_VF (pc := 438) (q0 := 0) (na := 0) (rest := []) (wc := wM cI hm r d kc n3 p3 w3 b3 B1 M1) (wr := wX cI hx a n1 p1 b1 w1 wi1 ni1 A1 ++ (wO cJ o f1 ++ wE cD od g)) C [2, 3, 4] [0, 1, 5, 6] [0] m_X1_thrown gL_law_X1_thrown rfl rfl rfl rfl (by decide +kernel) ⟨(Nat.le_of_ble_eq_true rfl), (Nat.le_of_ble_eq_true rfl)⟩ rfl rfl rfl ⟨rfl, rfl⟩ (by decide) rfl rfl rfl rfl (Nat.le_of_ble_eq_true rfl) dL_law_438 ⟨hk, hnn⟩ (fun v9 w9 hp9 => ?_)
  obtain ⟨rfl, rfl⟩ := hp9
  refine xw_sub (w' := wX cI hx a n1 p1 b1 w1 wi1 ni1 A1 ++ (wM cI hm r d kc n3 p3 w3 b3 B1 M1 ++ (wO cJ o f1 ++ wE cD od g))) [0, 1, 4, 5, 6, 2, 3] (by decide) rfl rfl ?_
  refine xw_st (st' := [nV kc]) rfl ?_
  refine xw_iload (pc := 441) C 6 dL_law_441 rfl ?_
  refine xw_icmp_eq_N (pc := 443) (tgt := 448) C dL_law_443 (by decide) (by omega) (by omega) (fun _ => ?_) (fun c => absurd rfl c)
  refine xw_iload (pc := 448) C 6 dL_law_448 rfl ?_
  refine xw_if_ne_N (pc := 450) (tgt := 465) C dL_law_450 (by decide) (by omega) (fun _ => xw_goto (pc := 465) (tgt := 1670) C dL_law_465 (by decide) (xw_lv [0, 1, 2, 3, 4, 5] rfl kk)) (fun c => ?_)
  refine xw_aload_n (pc := 453) C 3 dL_law_453 rfl ?_
  refine xw_iconst_N (pc := 454) C 0 dL_law_454 rfl ?_
  refine xw_lald (pc := 455) C 5 1 rfl rfl dL_law_455 ?_
  refine xw_iload (pc := 456) C 7 dL_law_456 rfl ?_
  refine xw_i2l (pc := 458) C dL_law_458 ?_
  refine xw_lcmp (pc := 459) C (heq c) dL_law_459 ?_
  refine xw_if_eq_N (pc := 460) (tgt := 465) C dL_law_460 (by decide) (by decide) (fun _ => xw_goto (pc := 465) (tgt := 1670) C dL_law_465 (by decide) (xw_lv [0, 1, 2, 3, 4, 5] rfl kk)) (fun c => absurd rfl c)

set_option maxHeartbeats 4000000 in
set_option maxRecDepth 100000 in
theorem g_copy {φ : Fx} {l : Launch} {D : va_G} {cI cJ cD : ClassId} {b L hx hm r d o od i k nn : Nat} {xs : Nat → Int32} (C : xc φ l room_1 D vwCl [(cI, .int), (cJ, .long), (cD, .double)] 9 cL_law RL wsL_law) (Zc : xzc φ) (X : xsx φ b L xs) (hL : L ≤ 2048) (hi : i + 3 < L) (hk : k + 1 ≤ 1042) (hnn : nn + 6 ≤ 8434) {a n p bb w wi ni n1 p1 b1 w1 wi1 ni1 th n2 p2 w2 b2 n3 p3 w3 b3 kc fr lo : Nat} {A A1 B M B1 M1 : Nat → Nat} {f f1 : Nat → Int64} {g : Nat → UInt64} {z1 z2 : Int} {y : Int} (e1 : (xs (i + 1)).toInt = z1) (e2 : (xs (i + 2)).toInt = z2) (hrm : fr ≤ 10 ∧ lo ≤ 300) (hM1 : CZ l yL_copy wsL_copy (rmX 8 125) D vwCl [(cI, .int), (cJ, .long)] [.ref hx, iV z1, iV z2, .ref o] (wX cI hx a n p bb w wi ni A ++ wO cJ o f) (PD (some (nV kc)) (wO cJ o f1 ++ wX cI hx a n1 p1 b1 w1 wi1 ni1 A1)) 1 6) (hM2 : CT l yX1_copy wsX1_copy (rmN fr lo) D vwCl [(cI, .int)] [.ref hm, iV z1, iV z2] (wM cI hm r d th n2 p2 w2 b2 B M) (PD (some (iV y)) (wM cI hm r d kc n3 p3 w3 b3 B1 M1)) 0 0) (hkc : kc ≤ 2) (heq : kc = 0 → f1 0 = (iI y).toInt64) (kk : xw φ (k + 1) (nn + 6) (wX cI hx a n1 p1 b1 w1 wi1 ni1 A1 ++ (wM cI hm r d kc n3 p3 w3 b3 B1 M1 ++ (wO cJ o f1 ++ wE cD od g))) 1670 [(0, .ref b), (1, .ref hx), (2, .ref hm), (3, .ref o), (4, .ref od), (5, nV i)] []) : xw φ k nn (wX cI hx a n p bb w wi ni A ++ (wM cI hm r d th n2 p2 w2 b2 B M ++ (wO cJ o f ++ wE cD od g))) 468 [(0, .ref b), (1, .ref hx), (2, .ref hm), (3, .ref o), (4, .ref od), (5, nV i)] [] := by
  subst e1
  subst e2
  refine xw_aload_n (pc := 468) C 1 dL_law_468 rfl ?_
  refine xw_aload_n (pc := 469) C 0 dL_law_469 rfl ?_
  refine xw_iload (pc := 470) C 5 dL_law_470 rfl ?_
  refine xw_iconst_N (pc := 472) C 1 dL_law_472 rfl ?_
  refine xw_iadd_N (pc := 473) C dL_law_473 ?_
  refine xw_sld (pc := 474) C X (i + 1) rfl (by omega) (by omega) dL_law_474 ?_
  refine xw_aload_n (pc := 475) C 0 dL_law_475 rfl ?_
  refine xw_iload (pc := 476) C 5 dL_law_476 rfl ?_
  refine xw_iconst_N (pc := 478) C 2 dL_law_478 rfl ?_
  refine xw_iadd_N (pc := 479) C dL_law_479 ?_
  refine xw_sld (pc := 480) C X (i + 2) rfl (by omega) (by omega) dL_law_480 ?_
  refine xw_aload_n (pc := 481) C 3 dL_law_481 rfl ?_
  refine xw_Z (pc := 482) (na := 4) (rest := []) (wc := wX cI hx a n p bb w wi ni A ++ wO cJ o f) (wr := wM cI hm r d th n2 p2 w2 b2 B M ++ wE cD od g) C Zc [0, 1, 5] [2, 3, 4, 6] [0, 1] hM1 gL_law_L_copy rfl rfl rfl rfl (by decide +kernel) ⟨(Nat.le_of_ble_eq_true rfl), (Nat.le_of_ble_eq_true rfl)⟩ rfl rfl rfl ⟨rfl, rfl⟩ (by decide) rfl rfl (Nat.le_of_ble_eq_true rfl) dL_law_482 ⟨hk, hnn⟩ (fun v9 w9 hp9 => ?_)
  obtain ⟨rfl, rfl⟩ := hp9
  refine xw_sub (w' := wX cI hx a n1 p1 b1 w1 wi1 ni1 A1 ++ (wM cI hm r d th n2 p2 w2 b2 B M ++ (wO cJ o f1 ++ wE cD od g))) [5, 6, 0, 1, 2, 4, 3] (by decide) rfl rfl ?_
  refine xw_st (st' := [nV kc]) rfl ?_
  refine xw_istore (pc := 485) (lv' := [(0, .ref b), (1, .ref hx), (2, .ref hm), (3, .ref o), (4, .ref od), (5, nV i), (6, nV kc)]) C [1, 2, 3, 4, 5, 6, 0] dL_law_485 (by decide) rfl ?_
  refine xw_aload_n (pc := 487) C 2 dL_law_487 rfl ?_
  refine xw_aload_n (pc := 488) C 0 dL_law_488 rfl ?_
  refine xw_iload (pc := 489) C 5 dL_law_489 rfl ?_
  refine xw_iconst_N (pc := 491) C 1 dL_law_491 rfl ?_
  refine xw_iadd_N (pc := 492) C dL_law_492 ?_
  refine xw_sld (pc := 493) C X (i + 1) rfl (by omega) (by omega) dL_law_493 ?_
  refine xw_aload_n (pc := 494) C 0 dL_law_494 rfl ?_
  refine xw_iload (pc := 495) C 5 dL_law_495 rfl ?_
  refine xw_iconst_N (pc := 497) C 2 dL_law_497 rfl ?_
  refine xw_iadd_N (pc := 498) C dL_law_498 ?_
  refine xw_sld (pc := 499) C X (i + 2) rfl (by omega) (by omega) dL_law_499 ?_
  refine xw_VF (pc := 500) (q0 := 0) (na := 2) (rest := []) (wc := wM cI hm r d th n2 p2 w2 b2 B M) (wr := wX cI hx a n1 p1 b1 w1 wi1 ni1 A1 ++ (wO cJ o f1 ++ wE cD od g)) C [2, 3, 4] [0, 1, 5, 6] [0] hM2 gL_law_X1_copy rfl rfl rfl rfl (by decide +kernel) ⟨Nat.add_le_add_right hrm.1 1, Nat.le_trans (Nat.add_le_add_left hrm.2 _) (Nat.le_of_ble_eq_true rfl)⟩ rfl rfl rfl ⟨rfl, rfl⟩ (by decide) rfl rfl rfl rfl (Nat.le_of_ble_eq_true rfl) dL_law_500 ⟨hk, hnn⟩ (fun v9 w9 hp9 => ?_)
  obtain ⟨rfl, rfl⟩ := hp9
  refine xw_sub (w' := wX cI hx a n1 p1 b1 w1 wi1 ni1 A1 ++ (wM cI hm r d kc n3 p3 w3 b3 B1 M1 ++ (wO cJ o f1 ++ wE cD od g))) [0, 1, 4, 5, 6, 2, 3] (by decide) rfl rfl ?_
  refine xw_st (st' := [iV y]) rfl ?_
  refine xw_istore (pc := 503) (lv' := [(0, .ref b), (1, .ref hx), (2, .ref hm), (3, .ref o), (4, .ref od), (5, nV i), (6, nV kc), (7, iV y)]) C [1, 2, 3, 4, 5, 6, 7, 0] dL_law_503 (by decide) rfl ?_
  refine xw_aload_n (pc := 505) C 2 dL_law_505 rfl ?_
  refine xw_VF (pc := 506) (q0 := 0) (na := 0) (rest := []) (wc := wM cI hm r d kc n3 p3 w3 b3 B1 M1) (wr := wX cI hx a n1 p1 b1 w1 wi1 ni1 A1 ++ (wO cJ o f1 ++ wE cD od g)) C [2, 3, 4] [0, 1, 5, 6] [0] m_X1_thrown gL_law_X1_thrown rfl rfl rfl rfl (by decide +kernel) ⟨(Nat.le_of_ble_eq_true rfl), (Nat.le_of_ble_eq_true rfl)⟩ rfl rfl rfl ⟨rfl, rfl⟩ (by decide) rfl rfl rfl rfl (Nat.le_of_ble_eq_true rfl) dL_law_506 ⟨hk, hnn⟩ (fun v9 w9 hp9 => ?_)
  obtain ⟨rfl, rfl⟩ := hp9
  refine xw_sub (w' := wX cI hx a n1 p1 b1 w1 wi1 ni1 A1 ++ (wM cI hm r d kc n3 p3 w3 b3 B1 M1 ++ (wO cJ o f1 ++ wE cD od g))) [0, 1, 4, 5, 6, 2, 3] (by decide) rfl rfl ?_
  refine xw_st (st' := [nV kc]) rfl ?_
  refine xw_iload (pc := 509) C 6 dL_law_509 rfl ?_
  refine xw_icmp_eq_N (pc := 511) (tgt := 516) C dL_law_511 (by decide) (by omega) (by omega) (fun _ => ?_) (fun c => absurd rfl c)
  refine xw_iload (pc := 516) C 6 dL_law_516 rfl ?_
  refine xw_if_ne_N (pc := 518) (tgt := 533) C dL_law_518 (by decide) (by omega) (fun _ => xw_goto (pc := 533) (tgt := 1670) C dL_law_533 (by decide) (xw_lv [0, 1, 2, 3, 4, 5] rfl kk)) (fun c => ?_)
  refine xw_aload_n (pc := 521) C 3 dL_law_521 rfl ?_
  refine xw_iconst_N (pc := 522) C 0 dL_law_522 rfl ?_
  refine xw_lald (pc := 523) C 5 1 rfl rfl dL_law_523 ?_
  refine xw_iload (pc := 524) C 7 dL_law_524 rfl ?_
  refine xw_i2l (pc := 526) C dL_law_526 ?_
  refine xw_lcmp (pc := 527) C (heq c) dL_law_527 ?_
  refine xw_if_eq_N (pc := 528) (tgt := 533) C dL_law_528 (by decide) (by decide) (fun _ => xw_goto (pc := 533) (tgt := 1670) C dL_law_533 (by decide) (xw_lv [0, 1, 2, 3, 4, 5] rfl kk)) (fun c => absurd rfl c)

set_option maxHeartbeats 4000000 in
set_option maxRecDepth 100000 in
theorem g_turn {φ : Fx} {l : Launch} {D : va_G} {cI cJ cD : ClassId} {b L hx hm r d o od i k nn : Nat} {xs : Nat → Int32} (C : xc φ l room_1 D vwCl [(cI, .int), (cJ, .long), (cD, .double)] 9 cL_law RL wsL_law) (Zc : xzc φ) (X : xsx φ b L xs) (hL : L ≤ 2048) (hi : i + 3 < L) (hk : k + 1 ≤ 1042) (hnn : nn + 6 ≤ 8434) {a n p bb w wi ni n1 p1 b1 w1 wi1 ni1 th n2 p2 w2 b2 n3 p3 w3 b3 kc fr lo : Nat} {A A1 B M B1 M1 : Nat → Nat} {f f1 : Nat → Int64} {g : Nat → UInt64} {z1 : Int} {z2 : Bool} {y : Int} (e1 : (xs (i + 1)).toInt = z1) (e2 : decide (¬ (xs (i + 2)).toInt = 0) = z2) (hrm : fr ≤ 10 ∧ lo ≤ 300) (hM1 : CZ l yL_turn wsL_turn (rmX 8 135) D vwCl [(cI, .int), (cJ, .long)] [.ref hx, iV z1, bV z2, .ref o] (wX cI hx a n p bb w wi ni A ++ wO cJ o f) (PD (some (nV kc)) (wO cJ o f1 ++ wX cI hx a n1 p1 b1 w1 wi1 ni1 A1)) 1 6) (hM2 : CT l yX1_turn wsX1_turn (rmN fr lo) D vwCl [(cI, .int)] [.ref hm, iV z1, bV z2] (wM cI hm r d th n2 p2 w2 b2 B M) (PD (some (iV y)) (wM cI hm r d kc n3 p3 w3 b3 B1 M1)) 0 0) (hkc : kc ≤ 2) (heq : kc = 0 → f1 0 = (iI y).toInt64) (kk : xw φ (k + 1) (nn + 6) (wX cI hx a n1 p1 b1 w1 wi1 ni1 A1 ++ (wM cI hm r d kc n3 p3 w3 b3 B1 M1 ++ (wO cJ o f1 ++ wE cD od g))) 1670 [(0, .ref b), (1, .ref hx), (2, .ref hm), (3, .ref o), (4, .ref od), (5, nV i)] []) : xw φ k nn (wX cI hx a n p bb w wi ni A ++ (wM cI hm r d th n2 p2 w2 b2 B M ++ (wO cJ o f ++ wE cD od g))) 536 [(0, .ref b), (1, .ref hx), (2, .ref hm), (3, .ref o), (4, .ref od), (5, nV i)] [] := by
  subst e1
  subst e2
  refine xw_aload_n (pc := 536) C 1 dL_law_536 rfl ?_
  refine xw_aload_n (pc := 537) C 0 dL_law_537 rfl ?_
  refine xw_iload (pc := 538) C 5 dL_law_538 rfl ?_
  refine xw_iconst_N (pc := 540) C 1 dL_law_540 rfl ?_
  refine xw_iadd_N (pc := 541) C dL_law_541 ?_
  refine xw_sld (pc := 542) C X (i + 1) rfl (by omega) (by omega) dL_law_542 ?_
  refine xw_aload_n (pc := 543) C 0 dL_law_543 rfl ?_
  refine xw_iload (pc := 544) C 5 dL_law_544 rfl ?_
  refine xw_iconst_N (pc := 546) C 2 dL_law_546 rfl ?_
  refine xw_iadd_N (pc := 547) C dL_law_547 ?_
  refine xw_sld (pc := 548) C X (i + 2) rfl (by omega) (by omega) dL_law_548 ?_
  refine xw_nz (pc := 549) C (iI_rg _) dL_law_549 dL_law_552 dL_law_553 dL_law_556 ?_
  refine xw_aload_n (pc := 557) C 3 dL_law_557 rfl ?_
  refine xw_Z (pc := 558) (na := 4) (rest := []) (wc := wX cI hx a n p bb w wi ni A ++ wO cJ o f) (wr := wM cI hm r d th n2 p2 w2 b2 B M ++ wE cD od g) C Zc [0, 1, 5] [2, 3, 4, 6] [0, 1] hM1 gL_law_L_turn rfl rfl rfl rfl (by decide +kernel) ⟨(Nat.le_of_ble_eq_true rfl), (Nat.le_of_ble_eq_true rfl)⟩ rfl rfl rfl ⟨rfl, rfl⟩ (by decide) rfl rfl (Nat.le_of_ble_eq_true rfl) dL_law_558 ⟨hk, hnn⟩ (fun v9 w9 hp9 => ?_)
  obtain ⟨rfl, rfl⟩ := hp9
  refine xw_sub (w' := wX cI hx a n1 p1 b1 w1 wi1 ni1 A1 ++ (wM cI hm r d th n2 p2 w2 b2 B M ++ (wO cJ o f1 ++ wE cD od g))) [5, 6, 0, 1, 2, 4, 3] (by decide) rfl rfl ?_
  refine xw_st (st' := [nV kc]) rfl ?_
  refine xw_istore (pc := 561) (lv' := [(0, .ref b), (1, .ref hx), (2, .ref hm), (3, .ref o), (4, .ref od), (5, nV i), (6, nV kc)]) C [1, 2, 3, 4, 5, 6, 0] dL_law_561 (by decide) rfl ?_
  refine xw_aload_n (pc := 563) C 2 dL_law_563 rfl ?_
  refine xw_aload_n (pc := 564) C 0 dL_law_564 rfl ?_
  refine xw_iload (pc := 565) C 5 dL_law_565 rfl ?_
  refine xw_iconst_N (pc := 567) C 1 dL_law_567 rfl ?_
  refine xw_iadd_N (pc := 568) C dL_law_568 ?_
  refine xw_sld (pc := 569) C X (i + 1) rfl (by omega) (by omega) dL_law_569 ?_
  refine xw_aload_n (pc := 570) C 0 dL_law_570 rfl ?_
  refine xw_iload (pc := 571) C 5 dL_law_571 rfl ?_
  refine xw_iconst_N (pc := 573) C 2 dL_law_573 rfl ?_
  refine xw_iadd_N (pc := 574) C dL_law_574 ?_
  refine xw_sld (pc := 575) C X (i + 2) rfl (by omega) (by omega) dL_law_575 ?_
  refine xw_nz (pc := 576) C (iI_rg _) dL_law_576 dL_law_579 dL_law_580 dL_law_583 ?_
  refine xw_VF (pc := 584) (q0 := 0) (na := 2) (rest := []) (wc := wM cI hm r d th n2 p2 w2 b2 B M) (wr := wX cI hx a n1 p1 b1 w1 wi1 ni1 A1 ++ (wO cJ o f1 ++ wE cD od g)) C [2, 3, 4] [0, 1, 5, 6] [0] hM2 gL_law_X1_turn rfl rfl rfl rfl (by decide +kernel) ⟨Nat.add_le_add_right hrm.1 1, Nat.le_trans (Nat.add_le_add_left hrm.2 _) (Nat.le_of_ble_eq_true rfl)⟩ rfl rfl rfl ⟨rfl, rfl⟩ (by decide) rfl rfl rfl rfl (Nat.le_of_ble_eq_true rfl) dL_law_584 ⟨hk, hnn⟩ (fun v9 w9 hp9 => ?_)
  obtain ⟨rfl, rfl⟩ := hp9
  refine xw_sub (w' := wX cI hx a n1 p1 b1 w1 wi1 ni1 A1 ++ (wM cI hm r d kc n3 p3 w3 b3 B1 M1 ++ (wO cJ o f1 ++ wE cD od g))) [0, 1, 4, 5, 6, 2, 3] (by decide) rfl rfl ?_
  refine xw_st (st' := [iV y]) rfl ?_
  refine xw_istore (pc := 587) (lv' := [(0, .ref b), (1, .ref hx), (2, .ref hm), (3, .ref o), (4, .ref od), (5, nV i), (6, nV kc), (7, iV y)]) C [1, 2, 3, 4, 5, 6, 7, 0] dL_law_587 (by decide) rfl ?_
  refine xw_aload_n (pc := 589) C 2 dL_law_589 rfl ?_
  refine xw_VF (pc := 590) (q0 := 0) (na := 0) (rest := []) (wc := wM cI hm r d kc n3 p3 w3 b3 B1 M1) (wr := wX cI hx a n1 p1 b1 w1 wi1 ni1 A1 ++ (wO cJ o f1 ++ wE cD od g)) C [2, 3, 4] [0, 1, 5, 6] [0] m_X1_thrown gL_law_X1_thrown rfl rfl rfl rfl (by decide +kernel) ⟨(Nat.le_of_ble_eq_true rfl), (Nat.le_of_ble_eq_true rfl)⟩ rfl rfl rfl ⟨rfl, rfl⟩ (by decide) rfl rfl rfl rfl (Nat.le_of_ble_eq_true rfl) dL_law_590 ⟨hk, hnn⟩ (fun v9 w9 hp9 => ?_)
  obtain ⟨rfl, rfl⟩ := hp9
  refine xw_sub (w' := wX cI hx a n1 p1 b1 w1 wi1 ni1 A1 ++ (wM cI hm r d kc n3 p3 w3 b3 B1 M1 ++ (wO cJ o f1 ++ wE cD od g))) [0, 1, 4, 5, 6, 2, 3] (by decide) rfl rfl ?_
  refine xw_st (st' := [nV kc]) rfl ?_
  refine xw_iload (pc := 593) C 6 dL_law_593 rfl ?_
  refine xw_icmp_eq_N (pc := 595) (tgt := 600) C dL_law_595 (by decide) (by omega) (by omega) (fun _ => ?_) (fun c => absurd rfl c)
  refine xw_iload (pc := 600) C 6 dL_law_600 rfl ?_
  refine xw_if_ne_N (pc := 602) (tgt := 617) C dL_law_602 (by decide) (by omega) (fun _ => xw_goto (pc := 617) (tgt := 1670) C dL_law_617 (by decide) (xw_lv [0, 1, 2, 3, 4, 5] rfl kk)) (fun c => ?_)
  refine xw_aload_n (pc := 605) C 3 dL_law_605 rfl ?_
  refine xw_iconst_N (pc := 606) C 0 dL_law_606 rfl ?_
  refine xw_lald (pc := 607) C 5 1 rfl rfl dL_law_607 ?_
  refine xw_iload (pc := 608) C 7 dL_law_608 rfl ?_
  refine xw_i2l (pc := 610) C dL_law_610 ?_
  refine xw_lcmp (pc := 611) C (heq c) dL_law_611 ?_
  refine xw_if_eq_N (pc := 612) (tgt := 617) C dL_law_612 (by decide) (by decide) (fun _ => xw_goto (pc := 617) (tgt := 1670) C dL_law_617 (by decide) (xw_lv [0, 1, 2, 3, 4, 5] rfl kk)) (fun c => absurd rfl c)

set_option maxHeartbeats 4000000 in
set_option maxRecDepth 100000 in
theorem g_mirror {φ : Fx} {l : Launch} {D : va_G} {cI cJ cD : ClassId} {b L hx hm r d o od i k nn : Nat} {xs : Nat → Int32} (C : xc φ l room_1 D vwCl [(cI, .int), (cJ, .long), (cD, .double)] 9 cL_law RL wsL_law) (Zc : xzc φ) (X : xsx φ b L xs) (hL : L ≤ 2048) (hi : i + 3 < L) (hk : k + 1 ≤ 1042) (hnn : nn + 6 ≤ 8434) {a n p bb w wi ni n1 p1 b1 w1 wi1 ni1 th n2 p2 w2 b2 n3 p3 w3 b3 kc fr lo : Nat} {A A1 B M B1 M1 : Nat → Nat} {f f1 : Nat → Int64} {g : Nat → UInt64} {z1 : Int} {y : Int} (e1 : (xs (i + 1)).toInt = z1) (hrm : fr ≤ 10 ∧ lo ≤ 300) (hM1 : CZ l yL_mirror wsL_mirror (rmX 8 125) D vwCl [(cI, .int), (cJ, .long)] [.ref hx, iV z1, .ref o] (wX cI hx a n p bb w wi ni A ++ wO cJ o f) (PD (some (nV kc)) (wO cJ o f1 ++ wX cI hx a n1 p1 b1 w1 wi1 ni1 A1)) 1 6) (hM2 : CT l yX1_mirror wsX1_mirror (rmN fr lo) D vwCl [(cI, .int)] [.ref hm, iV z1] (wM cI hm r d th n2 p2 w2 b2 B M) (PD (some (iV y)) (wM cI hm r d kc n3 p3 w3 b3 B1 M1)) 0 0) (hkc : kc ≤ 2) (heq : kc = 0 → f1 0 = (iI y).toInt64) (kk : xw φ (k + 1) (nn + 6) (wX cI hx a n1 p1 b1 w1 wi1 ni1 A1 ++ (wM cI hm r d kc n3 p3 w3 b3 B1 M1 ++ (wO cJ o f1 ++ wE cD od g))) 1670 [(0, .ref b), (1, .ref hx), (2, .ref hm), (3, .ref o), (4, .ref od), (5, nV i)] []) : xw φ k nn (wX cI hx a n p bb w wi ni A ++ (wM cI hm r d th n2 p2 w2 b2 B M ++ (wO cJ o f ++ wE cD od g))) 620 [(0, .ref b), (1, .ref hx), (2, .ref hm), (3, .ref o), (4, .ref od), (5, nV i)] [] := by
  subst e1
  refine xw_aload_n (pc := 620) C 1 dL_law_620 rfl ?_
  refine xw_aload_n (pc := 621) C 0 dL_law_621 rfl ?_
  refine xw_iload (pc := 622) C 5 dL_law_622 rfl ?_
  refine xw_iconst_N (pc := 624) C 1 dL_law_624 rfl ?_
  refine xw_iadd_N (pc := 625) C dL_law_625 ?_
  refine xw_sld (pc := 626) C X (i + 1) rfl (by omega) (by omega) dL_law_626 ?_
  refine xw_aload_n (pc := 627) C 3 dL_law_627 rfl ?_
  refine xw_Z (pc := 628) (na := 3) (rest := []) (wc := wX cI hx a n p bb w wi ni A ++ wO cJ o f) (wr := wM cI hm r d th n2 p2 w2 b2 B M ++ wE cD od g) C Zc [0, 1, 5] [2, 3, 4, 6] [0, 1] hM1 gL_law_L_mirror rfl rfl rfl rfl (by decide +kernel) ⟨(Nat.le_of_ble_eq_true rfl), (Nat.le_of_ble_eq_true rfl)⟩ rfl rfl rfl ⟨rfl, rfl⟩ (by decide) rfl rfl (Nat.le_of_ble_eq_true rfl) dL_law_628 ⟨hk, hnn⟩ (fun v9 w9 hp9 => ?_)
  obtain ⟨rfl, rfl⟩ := hp9
  refine xw_sub (w' := wX cI hx a n1 p1 b1 w1 wi1 ni1 A1 ++ (wM cI hm r d th n2 p2 w2 b2 B M ++ (wO cJ o f1 ++ wE cD od g))) [5, 6, 0, 1, 2, 4, 3] (by decide) rfl rfl ?_
  refine xw_st (st' := [nV kc]) rfl ?_
  refine xw_istore (pc := 631) (lv' := [(0, .ref b), (1, .ref hx), (2, .ref hm), (3, .ref o), (4, .ref od), (5, nV i), (6, nV kc)]) C [1, 2, 3, 4, 5, 6, 0] dL_law_631 (by decide) rfl ?_
  refine xw_aload_n (pc := 633) C 2 dL_law_633 rfl ?_
  refine xw_aload_n (pc := 634) C 0 dL_law_634 rfl ?_
  refine xw_iload (pc := 635) C 5 dL_law_635 rfl ?_
  refine xw_iconst_N (pc := 637) C 1 dL_law_637 rfl ?_
  refine xw_iadd_N (pc := 638) C dL_law_638 ?_
  refine xw_sld (pc := 639) C X (i + 1) rfl (by omega) (by omega) dL_law_639 ?_
  refine xw_VF (pc := 640) (q0 := 0) (na := 1) (rest := []) (wc := wM cI hm r d th n2 p2 w2 b2 B M) (wr := wX cI hx a n1 p1 b1 w1 wi1 ni1 A1 ++ (wO cJ o f1 ++ wE cD od g)) C [2, 3, 4] [0, 1, 5, 6] [0] hM2 gL_law_X1_mirror rfl rfl rfl rfl (by decide +kernel) ⟨Nat.add_le_add_right hrm.1 1, Nat.le_trans (Nat.add_le_add_left hrm.2 _) (Nat.le_of_ble_eq_true rfl)⟩ rfl rfl rfl ⟨rfl, rfl⟩ (by decide) rfl rfl rfl rfl (Nat.le_of_ble_eq_true rfl) dL_law_640 ⟨hk, hnn⟩ (fun v9 w9 hp9 => ?_)
  obtain ⟨rfl, rfl⟩ := hp9
  refine xw_sub (w' := wX cI hx a n1 p1 b1 w1 wi1 ni1 A1 ++ (wM cI hm r d kc n3 p3 w3 b3 B1 M1 ++ (wO cJ o f1 ++ wE cD od g))) [0, 1, 4, 5, 6, 2, 3] (by decide) rfl rfl ?_
  refine xw_st (st' := [iV y]) rfl ?_
  refine xw_istore (pc := 643) (lv' := [(0, .ref b), (1, .ref hx), (2, .ref hm), (3, .ref o), (4, .ref od), (5, nV i), (6, nV kc), (7, iV y)]) C [1, 2, 3, 4, 5, 6, 7, 0] dL_law_643 (by decide) rfl ?_
  refine xw_aload_n (pc := 645) C 2 dL_law_645 rfl ?_
  refine xw_VF (pc := 646) (q0 := 0) (na := 0) (rest := []) (wc := wM cI hm r d kc n3 p3 w3 b3 B1 M1) (wr := wX cI hx a n1 p1 b1 w1 wi1 ni1 A1 ++ (wO cJ o f1 ++ wE cD od g)) C [2, 3, 4] [0, 1, 5, 6] [0] m_X1_thrown gL_law_X1_thrown rfl rfl rfl rfl (by decide +kernel) ⟨(Nat.le_of_ble_eq_true rfl), (Nat.le_of_ble_eq_true rfl)⟩ rfl rfl rfl ⟨rfl, rfl⟩ (by decide) rfl rfl rfl rfl (Nat.le_of_ble_eq_true rfl) dL_law_646 ⟨hk, hnn⟩ (fun v9 w9 hp9 => ?_)
  obtain ⟨rfl, rfl⟩ := hp9
  refine xw_sub (w' := wX cI hx a n1 p1 b1 w1 wi1 ni1 A1 ++ (wM cI hm r d kc n3 p3 w3 b3 B1 M1 ++ (wO cJ o f1 ++ wE cD od g))) [0, 1, 4, 5, 6, 2, 3] (by decide) rfl rfl ?_
  refine xw_st (st' := [nV kc]) rfl ?_
  refine xw_iload (pc := 649) C 6 dL_law_649 rfl ?_
  refine xw_icmp_eq_N (pc := 651) (tgt := 656) C dL_law_651 (by decide) (by omega) (by omega) (fun _ => ?_) (fun c => absurd rfl c)
  refine xw_iload (pc := 656) C 6 dL_law_656 rfl ?_
  refine xw_if_ne_N (pc := 658) (tgt := 673) C dL_law_658 (by decide) (by omega) (fun _ => xw_goto (pc := 673) (tgt := 1670) C dL_law_673 (by decide) (xw_lv [0, 1, 2, 3, 4, 5] rfl kk)) (fun c => ?_)
  refine xw_aload_n (pc := 661) C 3 dL_law_661 rfl ?_
  refine xw_iconst_N (pc := 662) C 0 dL_law_662 rfl ?_
  refine xw_lald (pc := 663) C 5 1 rfl rfl dL_law_663 ?_
  refine xw_iload (pc := 664) C 7 dL_law_664 rfl ?_
  refine xw_i2l (pc := 666) C dL_law_666 ?_
  refine xw_lcmp (pc := 667) C (heq c) dL_law_667 ?_
  refine xw_if_eq_N (pc := 668) (tgt := 673) C dL_law_668 (by decide) (by decide) (fun _ => xw_goto (pc := 673) (tgt := 1670) C dL_law_673 (by decide) (xw_lv [0, 1, 2, 3, 4, 5] rfl kk)) (fun c => absurd rfl c)

set_option maxHeartbeats 4000000 in
set_option maxRecDepth 100000 in
theorem g_stage {φ : Fx} {l : Launch} {D : va_G} {cI cJ cD : ClassId} {b L hx hm r d o od i k nn : Nat} {xs : Nat → Int32} (C : xc φ l room_1 D vwCl [(cI, .int), (cJ, .long), (cD, .double)] 9 cL_law RL wsL_law) (Zc : xzc φ) (X : xsx φ b L xs) (hL : L ≤ 2048) (hi : i + 3 < L) (hk : k + 1 ≤ 1042) (hnn : nn + 6 ≤ 8434) {a n p bb w wi ni n1 p1 b1 w1 wi1 ni1 th n2 p2 w2 b2 n3 p3 w3 b3 kc fr lo : Nat} {A A1 B M B1 M1 : Nat → Nat} {f f1 : Nat → Int64} {g : Nat → UInt64} {z1 z2 : Int} {y : Int} (e1 : (xs (i + 1)).toInt = z1) (e2 : (xs (i + 2)).toInt = z2) (hrm : fr ≤ 10 ∧ lo ≤ 300) (hM1 : CZ l yL_stage wsL_stage (rmX 8 129) D vwCl [(cI, .int), (cJ, .long)] [.ref hx, iV z1, iV z2, .ref o] (wX cI hx a n p bb w wi ni A ++ wO cJ o f) (PD (some (nV kc)) (wO cJ o f1 ++ wX cI hx a n1 p1 b1 w1 wi1 ni1 A1)) 1 6) (hM2 : CT l yX1_stage wsX1_stage (rmN fr lo) D vwCl [(cI, .int)] [.ref hm, iV z1, iV z2] (wM cI hm r d th n2 p2 w2 b2 B M) (PD (some (iV y)) (wM cI hm r d kc n3 p3 w3 b3 B1 M1)) 0 0) (hkc : kc ≤ 2) (heq : kc = 0 → f1 0 = (iI y).toInt64) (kk : xw φ (k + 1) (nn + 6) (wX cI hx a n1 p1 b1 w1 wi1 ni1 A1 ++ (wM cI hm r d kc n3 p3 w3 b3 B1 M1 ++ (wO cJ o f1 ++ wE cD od g))) 1670 [(0, .ref b), (1, .ref hx), (2, .ref hm), (3, .ref o), (4, .ref od), (5, nV i)] []) : xw φ k nn (wX cI hx a n p bb w wi ni A ++ (wM cI hm r d th n2 p2 w2 b2 B M ++ (wO cJ o f ++ wE cD od g))) 676 [(0, .ref b), (1, .ref hx), (2, .ref hm), (3, .ref o), (4, .ref od), (5, nV i)] [] := by
  subst e1
  subst e2
  refine xw_aload_n (pc := 676) C 1 dL_law_676 rfl ?_
  refine xw_aload_n (pc := 677) C 0 dL_law_677 rfl ?_
  refine xw_iload (pc := 678) C 5 dL_law_678 rfl ?_
  refine xw_iconst_N (pc := 680) C 1 dL_law_680 rfl ?_
  refine xw_iadd_N (pc := 681) C dL_law_681 ?_
  refine xw_sld (pc := 682) C X (i + 1) rfl (by omega) (by omega) dL_law_682 ?_
  refine xw_aload_n (pc := 683) C 0 dL_law_683 rfl ?_
  refine xw_iload (pc := 684) C 5 dL_law_684 rfl ?_
  refine xw_iconst_N (pc := 686) C 2 dL_law_686 rfl ?_
  refine xw_iadd_N (pc := 687) C dL_law_687 ?_
  refine xw_sld (pc := 688) C X (i + 2) rfl (by omega) (by omega) dL_law_688 ?_
  refine xw_aload_n (pc := 689) C 3 dL_law_689 rfl ?_
  refine xw_Z (pc := 690) (na := 4) (rest := []) (wc := wX cI hx a n p bb w wi ni A ++ wO cJ o f) (wr := wM cI hm r d th n2 p2 w2 b2 B M ++ wE cD od g) C Zc [0, 1, 5] [2, 3, 4, 6] [0, 1] hM1 gL_law_L_stage rfl rfl rfl rfl (by decide +kernel) ⟨(Nat.le_of_ble_eq_true rfl), (Nat.le_of_ble_eq_true rfl)⟩ rfl rfl rfl ⟨rfl, rfl⟩ (by decide) rfl rfl (Nat.le_of_ble_eq_true rfl) dL_law_690 ⟨hk, hnn⟩ (fun v9 w9 hp9 => ?_)
  obtain ⟨rfl, rfl⟩ := hp9
  refine xw_sub (w' := wX cI hx a n1 p1 b1 w1 wi1 ni1 A1 ++ (wM cI hm r d th n2 p2 w2 b2 B M ++ (wO cJ o f1 ++ wE cD od g))) [5, 6, 0, 1, 2, 4, 3] (by decide) rfl rfl ?_
  refine xw_st (st' := [nV kc]) rfl ?_
  refine xw_istore (pc := 693) (lv' := [(0, .ref b), (1, .ref hx), (2, .ref hm), (3, .ref o), (4, .ref od), (5, nV i), (6, nV kc)]) C [1, 2, 3, 4, 5, 6, 0] dL_law_693 (by decide) rfl ?_
  refine xw_aload_n (pc := 695) C 2 dL_law_695 rfl ?_
  refine xw_aload_n (pc := 696) C 0 dL_law_696 rfl ?_
  refine xw_iload (pc := 697) C 5 dL_law_697 rfl ?_
  refine xw_iconst_N (pc := 699) C 1 dL_law_699 rfl ?_
  refine xw_iadd_N (pc := 700) C dL_law_700 ?_
  refine xw_sld (pc := 701) C X (i + 1) rfl (by omega) (by omega) dL_law_701 ?_
  refine xw_aload_n (pc := 702) C 0 dL_law_702 rfl ?_
  refine xw_iload (pc := 703) C 5 dL_law_703 rfl ?_
  refine xw_iconst_N (pc := 705) C 2 dL_law_705 rfl ?_
  refine xw_iadd_N (pc := 706) C dL_law_706 ?_
  refine xw_sld (pc := 707) C X (i + 2) rfl (by omega) (by omega) dL_law_707 ?_
  refine xw_VF (pc := 708) (q0 := 0) (na := 2) (rest := []) (wc := wM cI hm r d th n2 p2 w2 b2 B M) (wr := wX cI hx a n1 p1 b1 w1 wi1 ni1 A1 ++ (wO cJ o f1 ++ wE cD od g)) C [2, 3, 4] [0, 1, 5, 6] [0] hM2 gL_law_X1_stage rfl rfl rfl rfl (by decide +kernel) ⟨Nat.add_le_add_right hrm.1 1, Nat.le_trans (Nat.add_le_add_left hrm.2 _) (Nat.le_of_ble_eq_true rfl)⟩ rfl rfl rfl ⟨rfl, rfl⟩ (by decide) rfl rfl rfl rfl (Nat.le_of_ble_eq_true rfl) dL_law_708 ⟨hk, hnn⟩ (fun v9 w9 hp9 => ?_)
  obtain ⟨rfl, rfl⟩ := hp9
  refine xw_sub (w' := wX cI hx a n1 p1 b1 w1 wi1 ni1 A1 ++ (wM cI hm r d kc n3 p3 w3 b3 B1 M1 ++ (wO cJ o f1 ++ wE cD od g))) [0, 1, 4, 5, 6, 2, 3] (by decide) rfl rfl ?_
  refine xw_st (st' := [iV y]) rfl ?_
  refine xw_istore (pc := 711) (lv' := [(0, .ref b), (1, .ref hx), (2, .ref hm), (3, .ref o), (4, .ref od), (5, nV i), (6, nV kc), (7, iV y)]) C [1, 2, 3, 4, 5, 6, 7, 0] dL_law_711 (by decide) rfl ?_
  refine xw_aload_n (pc := 713) C 2 dL_law_713 rfl ?_
  refine xw_VF (pc := 714) (q0 := 0) (na := 0) (rest := []) (wc := wM cI hm r d kc n3 p3 w3 b3 B1 M1) (wr := wX cI hx a n1 p1 b1 w1 wi1 ni1 A1 ++ (wO cJ o f1 ++ wE cD od g)) C [2, 3, 4] [0, 1, 5, 6] [0] m_X1_thrown gL_law_X1_thrown rfl rfl rfl rfl (by decide +kernel) ⟨(Nat.le_of_ble_eq_true rfl), (Nat.le_of_ble_eq_true rfl)⟩ rfl rfl rfl ⟨rfl, rfl⟩ (by decide) rfl rfl rfl rfl (Nat.le_of_ble_eq_true rfl) dL_law_714 ⟨hk, hnn⟩ (fun v9 w9 hp9 => ?_)
  obtain ⟨rfl, rfl⟩ := hp9
  refine xw_sub (w' := wX cI hx a n1 p1 b1 w1 wi1 ni1 A1 ++ (wM cI hm r d kc n3 p3 w3 b3 B1 M1 ++ (wO cJ o f1 ++ wE cD od g))) [0, 1, 4, 5, 6, 2, 3] (by decide) rfl rfl ?_
  refine xw_st (st' := [nV kc]) rfl ?_
  refine xw_iload (pc := 717) C 6 dL_law_717 rfl ?_
  refine xw_icmp_eq_N (pc := 719) (tgt := 724) C dL_law_719 (by decide) (by omega) (by omega) (fun _ => ?_) (fun c => absurd rfl c)
  refine xw_iload (pc := 724) C 6 dL_law_724 rfl ?_
  refine xw_if_ne_N (pc := 726) (tgt := 741) C dL_law_726 (by decide) (by omega) (fun _ => xw_goto (pc := 741) (tgt := 1670) C dL_law_741 (by decide) (xw_lv [0, 1, 2, 3, 4, 5] rfl kk)) (fun c => ?_)
  refine xw_aload_n (pc := 729) C 3 dL_law_729 rfl ?_
  refine xw_iconst_N (pc := 730) C 0 dL_law_730 rfl ?_
  refine xw_lald (pc := 731) C 5 1 rfl rfl dL_law_731 ?_
  refine xw_iload (pc := 732) C 7 dL_law_732 rfl ?_
  refine xw_i2l (pc := 734) C dL_law_734 ?_
  refine xw_lcmp (pc := 735) C (heq c) dL_law_735 ?_
  refine xw_if_eq_N (pc := 736) (tgt := 741) C dL_law_736 (by decide) (by decide) (fun _ => xw_goto (pc := 741) (tgt := 1670) C dL_law_741 (by decide) (xw_lv [0, 1, 2, 3, 4, 5] rfl kk)) (fun c => absurd rfl c)

set_option maxHeartbeats 4000000 in
set_option maxRecDepth 100000 in
theorem g_fold {φ : Fx} {l : Launch} {D : va_G} {cI cJ cD : ClassId} {b L hx hm r d o od i k nn : Nat} {xs : Nat → Int32} (C : xc φ l room_1 D vwCl [(cI, .int), (cJ, .long), (cD, .double)] 9 cL_law RL wsL_law) (Zc : xzc φ) (X : xsx φ b L xs) (hL : L ≤ 2048) (hi : i + 3 < L) (hk : k + 1 ≤ 1042) (hnn : nn + 6 ≤ 8434) {a n p bb w wi ni n1 p1 b1 w1 wi1 ni1 th n2 p2 w2 b2 n3 p3 w3 b3 kc fr lo : Nat} {A A1 B M B1 M1 : Nat → Nat} {f f1 : Nat → Int64} {g : Nat → UInt64} {z1 z2 : Int} {y : Int} (e1 : (xs (i + 1)).toInt = z1) (e2 : (xs (i + 2)).toInt = z2) (hrm : fr ≤ 10 ∧ lo ≤ 300) (hM1 : CZ l yL_fold wsL_fold (rmX 8 126) D vwCl [(cI, .int), (cJ, .long)] [.ref hx, iV z1, iV z2, .ref o] (wX cI hx a n p bb w wi ni A ++ wO cJ o f) (PD (some (nV kc)) (wO cJ o f1 ++ wX cI hx a n1 p1 b1 w1 wi1 ni1 A1)) 1 6) (hM2 : CT l yX1_fold wsX1_fold (rmN fr lo) D vwCl [(cI, .int)] [.ref hm, iV z1, iV z2] (wM cI hm r d th n2 p2 w2 b2 B M) (PD (some (iV y)) (wM cI hm r d kc n3 p3 w3 b3 B1 M1)) 0 0) (hkc : kc ≤ 2) (heq : kc = 0 → f1 0 = (iI y).toInt64) (kk : xw φ (k + 1) (nn + 6) (wX cI hx a n1 p1 b1 w1 wi1 ni1 A1 ++ (wM cI hm r d kc n3 p3 w3 b3 B1 M1 ++ (wO cJ o f1 ++ wE cD od g))) 1670 [(0, .ref b), (1, .ref hx), (2, .ref hm), (3, .ref o), (4, .ref od), (5, nV i)] []) : xw φ k nn (wX cI hx a n p bb w wi ni A ++ (wM cI hm r d th n2 p2 w2 b2 B M ++ (wO cJ o f ++ wE cD od g))) 744 [(0, .ref b), (1, .ref hx), (2, .ref hm), (3, .ref o), (4, .ref od), (5, nV i)] [] := by
  subst e1
  subst e2
  refine xw_aload_n (pc := 744) C 1 dL_law_744 rfl ?_
  refine xw_aload_n (pc := 745) C 0 dL_law_745 rfl ?_
  refine xw_iload (pc := 746) C 5 dL_law_746 rfl ?_
  refine xw_iconst_N (pc := 748) C 1 dL_law_748 rfl ?_
  refine xw_iadd_N (pc := 749) C dL_law_749 ?_
  refine xw_sld (pc := 750) C X (i + 1) rfl (by omega) (by omega) dL_law_750 ?_
  refine xw_aload_n (pc := 751) C 0 dL_law_751 rfl ?_
  refine xw_iload (pc := 752) C 5 dL_law_752 rfl ?_
  refine xw_iconst_N (pc := 754) C 2 dL_law_754 rfl ?_
  refine xw_iadd_N (pc := 755) C dL_law_755 ?_
  refine xw_sld (pc := 756) C X (i + 2) rfl (by omega) (by omega) dL_law_756 ?_
  refine xw_aload_n (pc := 757) C 3 dL_law_757 rfl ?_
  refine xw_Z (pc := 758) (na := 4) (rest := []) (wc := wX cI hx a n p bb w wi ni A ++ wO cJ o f) (wr := wM cI hm r d th n2 p2 w2 b2 B M ++ wE cD od g) C Zc [0, 1, 5] [2, 3, 4, 6] [0, 1] hM1 gL_law_L_fold rfl rfl rfl rfl (by decide +kernel) ⟨(Nat.le_of_ble_eq_true rfl), (Nat.le_of_ble_eq_true rfl)⟩ rfl rfl rfl ⟨rfl, rfl⟩ (by decide) rfl rfl (Nat.le_of_ble_eq_true rfl) dL_law_758 ⟨hk, hnn⟩ (fun v9 w9 hp9 => ?_)
  obtain ⟨rfl, rfl⟩ := hp9
  refine xw_sub (w' := wX cI hx a n1 p1 b1 w1 wi1 ni1 A1 ++ (wM cI hm r d th n2 p2 w2 b2 B M ++ (wO cJ o f1 ++ wE cD od g))) [5, 6, 0, 1, 2, 4, 3] (by decide) rfl rfl ?_
  refine xw_st (st' := [nV kc]) rfl ?_
  refine xw_istore (pc := 761) (lv' := [(0, .ref b), (1, .ref hx), (2, .ref hm), (3, .ref o), (4, .ref od), (5, nV i), (6, nV kc)]) C [1, 2, 3, 4, 5, 6, 0] dL_law_761 (by decide) rfl ?_
  refine xw_aload_n (pc := 763) C 2 dL_law_763 rfl ?_
  refine xw_aload_n (pc := 764) C 0 dL_law_764 rfl ?_
  refine xw_iload (pc := 765) C 5 dL_law_765 rfl ?_
  refine xw_iconst_N (pc := 767) C 1 dL_law_767 rfl ?_
  refine xw_iadd_N (pc := 768) C dL_law_768 ?_
  refine xw_sld (pc := 769) C X (i + 1) rfl (by omega) (by omega) dL_law_769 ?_
  refine xw_aload_n (pc := 770) C 0 dL_law_770 rfl ?_
  refine xw_iload (pc := 771) C 5 dL_law_771 rfl ?_
  refine xw_iconst_N (pc := 773) C 2 dL_law_773 rfl ?_
  refine xw_iadd_N (pc := 774) C dL_law_774 ?_
  refine xw_sld (pc := 775) C X (i + 2) rfl (by omega) (by omega) dL_law_775 ?_
  refine xw_VF (pc := 776) (q0 := 0) (na := 2) (rest := []) (wc := wM cI hm r d th n2 p2 w2 b2 B M) (wr := wX cI hx a n1 p1 b1 w1 wi1 ni1 A1 ++ (wO cJ o f1 ++ wE cD od g)) C [2, 3, 4] [0, 1, 5, 6] [0] hM2 gL_law_X1_fold rfl rfl rfl rfl (by decide +kernel) ⟨Nat.add_le_add_right hrm.1 1, Nat.le_trans (Nat.add_le_add_left hrm.2 _) (Nat.le_of_ble_eq_true rfl)⟩ rfl rfl rfl ⟨rfl, rfl⟩ (by decide) rfl rfl rfl rfl (Nat.le_of_ble_eq_true rfl) dL_law_776 ⟨hk, hnn⟩ (fun v9 w9 hp9 => ?_)
  obtain ⟨rfl, rfl⟩ := hp9
  refine xw_sub (w' := wX cI hx a n1 p1 b1 w1 wi1 ni1 A1 ++ (wM cI hm r d kc n3 p3 w3 b3 B1 M1 ++ (wO cJ o f1 ++ wE cD od g))) [0, 1, 4, 5, 6, 2, 3] (by decide) rfl rfl ?_
  refine xw_st (st' := [iV y]) rfl ?_
  refine xw_istore (pc := 779) (lv' := [(0, .ref b), (1, .ref hx), (2, .ref hm), (3, .ref o), (4, .ref od), (5, nV i), (6, nV kc), (7, iV y)]) C [1, 2, 3, 4, 5, 6, 7, 0] dL_law_779 (by decide) rfl ?_
  refine xw_aload_n (pc := 781) C 2 dL_law_781 rfl ?_
  refine xw_VF (pc := 782) (q0 := 0) (na := 0) (rest := []) (wc := wM cI hm r d kc n3 p3 w3 b3 B1 M1) (wr := wX cI hx a n1 p1 b1 w1 wi1 ni1 A1 ++ (wO cJ o f1 ++ wE cD od g)) C [2, 3, 4] [0, 1, 5, 6] [0] m_X1_thrown gL_law_X1_thrown rfl rfl rfl rfl (by decide +kernel) ⟨(Nat.le_of_ble_eq_true rfl), (Nat.le_of_ble_eq_true rfl)⟩ rfl rfl rfl ⟨rfl, rfl⟩ (by decide) rfl rfl rfl rfl (Nat.le_of_ble_eq_true rfl) dL_law_782 ⟨hk, hnn⟩ (fun v9 w9 hp9 => ?_)
  obtain ⟨rfl, rfl⟩ := hp9
  refine xw_sub (w' := wX cI hx a n1 p1 b1 w1 wi1 ni1 A1 ++ (wM cI hm r d kc n3 p3 w3 b3 B1 M1 ++ (wO cJ o f1 ++ wE cD od g))) [0, 1, 4, 5, 6, 2, 3] (by decide) rfl rfl ?_
  refine xw_st (st' := [nV kc]) rfl ?_
  refine xw_iload (pc := 785) C 6 dL_law_785 rfl ?_
  refine xw_icmp_eq_N (pc := 787) (tgt := 792) C dL_law_787 (by decide) (by omega) (by omega) (fun _ => ?_) (fun c => absurd rfl c)
  refine xw_iload (pc := 792) C 6 dL_law_792 rfl ?_
  refine xw_if_ne_N (pc := 794) (tgt := 809) C dL_law_794 (by decide) (by omega) (fun _ => xw_goto (pc := 809) (tgt := 1670) C dL_law_809 (by decide) (xw_lv [0, 1, 2, 3, 4, 5] rfl kk)) (fun c => ?_)
  refine xw_aload_n (pc := 797) C 3 dL_law_797 rfl ?_
  refine xw_iconst_N (pc := 798) C 0 dL_law_798 rfl ?_
  refine xw_lald (pc := 799) C 5 1 rfl rfl dL_law_799 ?_
  refine xw_iload (pc := 800) C 7 dL_law_800 rfl ?_
  refine xw_i2l (pc := 802) C dL_law_802 ?_
  refine xw_lcmp (pc := 803) C (heq c) dL_law_803 ?_
  refine xw_if_eq_N (pc := 804) (tgt := 809) C dL_law_804 (by decide) (by decide) (fun _ => xw_goto (pc := 809) (tgt := 1670) C dL_law_809 (by decide) (xw_lv [0, 1, 2, 3, 4, 5] rfl kk)) (fun c => absurd rfl c)

set_option maxHeartbeats 4000000 in
set_option maxRecDepth 100000 in
theorem g_join {φ : Fx} {l : Launch} {D : va_G} {cI cJ cD : ClassId} {b L hx hm r d o od i k nn : Nat} {xs : Nat → Int32} (C : xc φ l room_1 D vwCl [(cI, .int), (cJ, .long), (cD, .double)] 9 cL_law RL wsL_law) (Zc : xzc φ) (X : xsx φ b L xs) (hL : L ≤ 2048) (hi : i + 3 < L) (hk : k + 1 ≤ 1042) (hnn : nn + 6 ≤ 8434) {a n p bb w wi ni n1 p1 b1 w1 wi1 ni1 th n2 p2 w2 b2 n3 p3 w3 b3 kc fr lo : Nat} {A A1 B M B1 M1 : Nat → Nat} {f f1 : Nat → Int64} {g : Nat → UInt64} {z1 z2 z3 : Int} {y : Int} (e1 : (xs (i + 1)).toInt = z1) (e2 : (xs (i + 2)).toInt = z2) (e3 : (xs (i + 3)).toInt = z3) (hrm : fr ≤ 10 ∧ lo ≤ 300) (hM1 : CZ l yL_join wsL_join (rmX 8 127) D vwCl [(cI, .int), (cJ, .long)] [.ref hx, iV z1, iV z2, iV z3, .ref o] (wX cI hx a n p bb w wi ni A ++ wO cJ o f) (PD (some (nV kc)) (wO cJ o f1 ++ wX cI hx a n1 p1 b1 w1 wi1 ni1 A1)) 1 6) (hM2 : CT l yX1_join wsX1_join (rmN fr lo) D vwCl [(cI, .int)] [.ref hm, iV z1, iV z2, iV z3] (wM cI hm r d th n2 p2 w2 b2 B M) (PD (some (iV y)) (wM cI hm r d kc n3 p3 w3 b3 B1 M1)) 0 0) (hkc : kc ≤ 2) (heq : kc = 0 → f1 0 = (iI y).toInt64) (kk : xw φ (k + 1) (nn + 6) (wX cI hx a n1 p1 b1 w1 wi1 ni1 A1 ++ (wM cI hm r d kc n3 p3 w3 b3 B1 M1 ++ (wO cJ o f1 ++ wE cD od g))) 1670 [(0, .ref b), (1, .ref hx), (2, .ref hm), (3, .ref o), (4, .ref od), (5, nV i)] []) : xw φ k nn (wX cI hx a n p bb w wi ni A ++ (wM cI hm r d th n2 p2 w2 b2 B M ++ (wO cJ o f ++ wE cD od g))) 812 [(0, .ref b), (1, .ref hx), (2, .ref hm), (3, .ref o), (4, .ref od), (5, nV i)] [] := by
  subst e1
  subst e2
  subst e3
  refine xw_aload_n (pc := 812) C 1 dL_law_812 rfl ?_
  refine xw_aload_n (pc := 813) C 0 dL_law_813 rfl ?_
  refine xw_iload (pc := 814) C 5 dL_law_814 rfl ?_
  refine xw_iconst_N (pc := 816) C 1 dL_law_816 rfl ?_
  refine xw_iadd_N (pc := 817) C dL_law_817 ?_
  refine xw_sld (pc := 818) C X (i + 1) rfl (by omega) (by omega) dL_law_818 ?_
  refine xw_aload_n (pc := 819) C 0 dL_law_819 rfl ?_
  refine xw_iload (pc := 820) C 5 dL_law_820 rfl ?_
  refine xw_iconst_N (pc := 822) C 2 dL_law_822 rfl ?_
  refine xw_iadd_N (pc := 823) C dL_law_823 ?_
  refine xw_sld (pc := 824) C X (i + 2) rfl (by omega) (by omega) dL_law_824 ?_
  refine xw_aload_n (pc := 825) C 0 dL_law_825 rfl ?_
  refine xw_iload (pc := 826) C 5 dL_law_826 rfl ?_
  refine xw_iconst_N (pc := 828) C 3 dL_law_828 rfl ?_
  refine xw_iadd_N (pc := 829) C dL_law_829 ?_
  refine xw_sld (pc := 830) C X (i + 3) rfl (by omega) (by omega) dL_law_830 ?_
  refine xw_aload_n (pc := 831) C 3 dL_law_831 rfl ?_
  refine xw_Z (pc := 832) (na := 5) (rest := []) (wc := wX cI hx a n p bb w wi ni A ++ wO cJ o f) (wr := wM cI hm r d th n2 p2 w2 b2 B M ++ wE cD od g) C Zc [0, 1, 5] [2, 3, 4, 6] [0, 1] hM1 gL_law_L_join rfl rfl rfl rfl (by decide +kernel) ⟨(Nat.le_of_ble_eq_true rfl), (Nat.le_of_ble_eq_true rfl)⟩ rfl rfl rfl ⟨rfl, rfl⟩ (by decide) rfl rfl (Nat.le_of_ble_eq_true rfl) dL_law_832 ⟨hk, hnn⟩ (fun v9 w9 hp9 => ?_)
  obtain ⟨rfl, rfl⟩ := hp9
  refine xw_sub (w' := wX cI hx a n1 p1 b1 w1 wi1 ni1 A1 ++ (wM cI hm r d th n2 p2 w2 b2 B M ++ (wO cJ o f1 ++ wE cD od g))) [5, 6, 0, 1, 2, 4, 3] (by decide) rfl rfl ?_
  refine xw_st (st' := [nV kc]) rfl ?_
  refine xw_istore (pc := 835) (lv' := [(0, .ref b), (1, .ref hx), (2, .ref hm), (3, .ref o), (4, .ref od), (5, nV i), (6, nV kc)]) C [1, 2, 3, 4, 5, 6, 0] dL_law_835 (by decide) rfl ?_
  refine xw_aload_n (pc := 837) C 2 dL_law_837 rfl ?_
  refine xw_aload_n (pc := 838) C 0 dL_law_838 rfl ?_
  refine xw_iload (pc := 839) C 5 dL_law_839 rfl ?_
  refine xw_iconst_N (pc := 841) C 1 dL_law_841 rfl ?_
  refine xw_iadd_N (pc := 842) C dL_law_842 ?_
  refine xw_sld (pc := 843) C X (i + 1) rfl (by omega) (by omega) dL_law_843 ?_
  refine xw_aload_n (pc := 844) C 0 dL_law_844 rfl ?_
  refine xw_iload (pc := 845) C 5 dL_law_845 rfl ?_
  refine xw_iconst_N (pc := 847) C 2 dL_law_847 rfl ?_
  refine xw_iadd_N (pc := 848) C dL_law_848 ?_
  refine xw_sld (pc := 849) C X (i + 2) rfl (by omega) (by omega) dL_law_849 ?_
  refine xw_aload_n (pc := 850) C 0 dL_law_850 rfl ?_
  refine xw_iload (pc := 851) C 5 dL_law_851 rfl ?_
  refine xw_iconst_N (pc := 853) C 3 dL_law_853 rfl ?_
  refine xw_iadd_N (pc := 854) C dL_law_854 ?_
  refine xw_sld (pc := 855) C X (i + 3) rfl (by omega) (by omega) dL_law_855 ?_
  refine xw_VF (pc := 856) (q0 := 0) (na := 3) (rest := []) (wc := wM cI hm r d th n2 p2 w2 b2 B M) (wr := wX cI hx a n1 p1 b1 w1 wi1 ni1 A1 ++ (wO cJ o f1 ++ wE cD od g)) C [2, 3, 4] [0, 1, 5, 6] [0] hM2 gL_law_X1_join rfl rfl rfl rfl (by decide +kernel) ⟨Nat.add_le_add_right hrm.1 1, Nat.le_trans (Nat.add_le_add_left hrm.2 _) (Nat.le_of_ble_eq_true rfl)⟩ rfl rfl rfl ⟨rfl, rfl⟩ (by decide) rfl rfl rfl rfl (Nat.le_of_ble_eq_true rfl) dL_law_856 ⟨hk, hnn⟩ (fun v9 w9 hp9 => ?_)
  obtain ⟨rfl, rfl⟩ := hp9
  refine xw_sub (w' := wX cI hx a n1 p1 b1 w1 wi1 ni1 A1 ++ (wM cI hm r d kc n3 p3 w3 b3 B1 M1 ++ (wO cJ o f1 ++ wE cD od g))) [0, 1, 4, 5, 6, 2, 3] (by decide) rfl rfl ?_
  refine xw_st (st' := [iV y]) rfl ?_
  refine xw_istore (pc := 859) (lv' := [(0, .ref b), (1, .ref hx), (2, .ref hm), (3, .ref o), (4, .ref od), (5, nV i), (6, nV kc), (7, iV y)]) C [1, 2, 3, 4, 5, 6, 7, 0] dL_law_859 (by decide) rfl ?_
  refine xw_aload_n (pc := 861) C 2 dL_law_861 rfl ?_
  refine xw_VF (pc := 862) (q0 := 0) (na := 0) (rest := []) (wc := wM cI hm r d kc n3 p3 w3 b3 B1 M1) (wr := wX cI hx a n1 p1 b1 w1 wi1 ni1 A1 ++ (wO cJ o f1 ++ wE cD od g)) C [2, 3, 4] [0, 1, 5, 6] [0] m_X1_thrown gL_law_X1_thrown rfl rfl rfl rfl (by decide +kernel) ⟨(Nat.le_of_ble_eq_true rfl), (Nat.le_of_ble_eq_true rfl)⟩ rfl rfl rfl ⟨rfl, rfl⟩ (by decide) rfl rfl rfl rfl (Nat.le_of_ble_eq_true rfl) dL_law_862 ⟨hk, hnn⟩ (fun v9 w9 hp9 => ?_)
  obtain ⟨rfl, rfl⟩ := hp9
  refine xw_sub (w' := wX cI hx a n1 p1 b1 w1 wi1 ni1 A1 ++ (wM cI hm r d kc n3 p3 w3 b3 B1 M1 ++ (wO cJ o f1 ++ wE cD od g))) [0, 1, 4, 5, 6, 2, 3] (by decide) rfl rfl ?_
  refine xw_st (st' := [nV kc]) rfl ?_
  refine xw_iload (pc := 865) C 6 dL_law_865 rfl ?_
  refine xw_icmp_eq_N (pc := 867) (tgt := 872) C dL_law_867 (by decide) (by omega) (by omega) (fun _ => ?_) (fun c => absurd rfl c)
  refine xw_iload (pc := 872) C 6 dL_law_872 rfl ?_
  refine xw_if_ne_N (pc := 874) (tgt := 889) C dL_law_874 (by decide) (by omega) (fun _ => xw_goto (pc := 889) (tgt := 1670) C dL_law_889 (by decide) (xw_lv [0, 1, 2, 3, 4, 5] rfl kk)) (fun c => ?_)
  refine xw_aload_n (pc := 877) C 3 dL_law_877 rfl ?_
  refine xw_iconst_N (pc := 878) C 0 dL_law_878 rfl ?_
  refine xw_lald (pc := 879) C 5 1 rfl rfl dL_law_879 ?_
  refine xw_iload (pc := 880) C 7 dL_law_880 rfl ?_
  refine xw_i2l (pc := 882) C dL_law_882 ?_
  refine xw_lcmp (pc := 883) C (heq c) dL_law_883 ?_
  refine xw_if_eq_N (pc := 884) (tgt := 889) C dL_law_884 (by decide) (by decide) (fun _ => xw_goto (pc := 889) (tgt := 1670) C dL_law_889 (by decide) (xw_lv [0, 1, 2, 3, 4, 5] rfl kk)) (fun c => absurd rfl c)

set_option maxHeartbeats 4000000 in
set_option maxRecDepth 100000 in
theorem g_move {φ : Fx} {l : Launch} {D : va_G} {cI cJ cD : ClassId} {b L hx hm r d o od i k nn : Nat} {xs : Nat → Int32} (C : xc φ l room_1 D vwCl [(cI, .int), (cJ, .long), (cD, .double)] 9 cL_law RL wsL_law) (Zc : xzc φ) (X : xsx φ b L xs) (hL : L ≤ 2048) (hi : i + 3 < L) (hk : k + 1 ≤ 1042) (hnn : nn + 6 ≤ 8434) {a n p bb w wi ni n1 p1 b1 w1 wi1 ni1 th n2 p2 w2 b2 n3 p3 w3 b3 kc fr lo : Nat} {A A1 B M B1 M1 : Nat → Nat} {f f1 : Nat → Int64} {g : Nat → UInt64} {z1 z2 : Int} {y : Int} (e1 : (xs (i + 1)).toInt = z1) (e2 : (xs (i + 2)).toInt = z2) (hrm : fr ≤ 10 ∧ lo ≤ 300) (hM1 : CZ l yL_move wsL_move (rmX 8 126) D vwCl [(cI, .int), (cJ, .long)] [.ref hx, iV z1, iV z2, .ref o] (wX cI hx a n p bb w wi ni A ++ wO cJ o f) (PD (some (nV kc)) (wO cJ o f1 ++ wX cI hx a n1 p1 b1 w1 wi1 ni1 A1)) 1 6) (hM2 : CT l yX1_move wsX1_move (rmN fr lo) D vwCl [(cI, .int)] [.ref hm, iV z1, iV z2] (wM cI hm r d th n2 p2 w2 b2 B M) (PD (some (iV y)) (wM cI hm r d kc n3 p3 w3 b3 B1 M1)) 0 0) (hkc : kc ≤ 2) (heq : kc = 0 → f1 0 = (iI y).toInt64) (kk : xw φ (k + 1) (nn + 6) (wX cI hx a n1 p1 b1 w1 wi1 ni1 A1 ++ (wM cI hm r d kc n3 p3 w3 b3 B1 M1 ++ (wO cJ o f1 ++ wE cD od g))) 1670 [(0, .ref b), (1, .ref hx), (2, .ref hm), (3, .ref o), (4, .ref od), (5, nV i)] []) : xw φ k nn (wX cI hx a n p bb w wi ni A ++ (wM cI hm r d th n2 p2 w2 b2 B M ++ (wO cJ o f ++ wE cD od g))) 892 [(0, .ref b), (1, .ref hx), (2, .ref hm), (3, .ref o), (4, .ref od), (5, nV i)] [] := by
  subst e1
  subst e2
  refine xw_aload_n (pc := 892) C 1 dL_law_892 rfl ?_
  refine xw_aload_n (pc := 893) C 0 dL_law_893 rfl ?_
  refine xw_iload (pc := 894) C 5 dL_law_894 rfl ?_
  refine xw_iconst_N (pc := 896) C 1 dL_law_896 rfl ?_
  refine xw_iadd_N (pc := 897) C dL_law_897 ?_
  refine xw_sld (pc := 898) C X (i + 1) rfl (by omega) (by omega) dL_law_898 ?_
  refine xw_aload_n (pc := 899) C 0 dL_law_899 rfl ?_
  refine xw_iload (pc := 900) C 5 dL_law_900 rfl ?_
  refine xw_iconst_N (pc := 902) C 2 dL_law_902 rfl ?_
  refine xw_iadd_N (pc := 903) C dL_law_903 ?_
  refine xw_sld (pc := 904) C X (i + 2) rfl (by omega) (by omega) dL_law_904 ?_
  refine xw_aload_n (pc := 905) C 3 dL_law_905 rfl ?_
  refine xw_Z (pc := 906) (na := 4) (rest := []) (wc := wX cI hx a n p bb w wi ni A ++ wO cJ o f) (wr := wM cI hm r d th n2 p2 w2 b2 B M ++ wE cD od g) C Zc [0, 1, 5] [2, 3, 4, 6] [0, 1] hM1 gL_law_L_move rfl rfl rfl rfl (by decide +kernel) ⟨(Nat.le_of_ble_eq_true rfl), (Nat.le_of_ble_eq_true rfl)⟩ rfl rfl rfl ⟨rfl, rfl⟩ (by decide) rfl rfl (Nat.le_of_ble_eq_true rfl) dL_law_906 ⟨hk, hnn⟩ (fun v9 w9 hp9 => ?_)
  obtain ⟨rfl, rfl⟩ := hp9
  refine xw_sub (w' := wX cI hx a n1 p1 b1 w1 wi1 ni1 A1 ++ (wM cI hm r d th n2 p2 w2 b2 B M ++ (wO cJ o f1 ++ wE cD od g))) [5, 6, 0, 1, 2, 4, 3] (by decide) rfl rfl ?_
  refine xw_st (st' := [nV kc]) rfl ?_
  refine xw_istore (pc := 909) (lv' := [(0, .ref b), (1, .ref hx), (2, .ref hm), (3, .ref o), (4, .ref od), (5, nV i), (6, nV kc)]) C [1, 2, 3, 4, 5, 6, 0] dL_law_909 (by decide) rfl ?_
  refine xw_aload_n (pc := 911) C 2 dL_law_911 rfl ?_
  refine xw_aload_n (pc := 912) C 0 dL_law_912 rfl ?_
  refine xw_iload (pc := 913) C 5 dL_law_913 rfl ?_
  refine xw_iconst_N (pc := 915) C 1 dL_law_915 rfl ?_
  refine xw_iadd_N (pc := 916) C dL_law_916 ?_
  refine xw_sld (pc := 917) C X (i + 1) rfl (by omega) (by omega) dL_law_917 ?_
  refine xw_aload_n (pc := 918) C 0 dL_law_918 rfl ?_
  refine xw_iload (pc := 919) C 5 dL_law_919 rfl ?_
  refine xw_iconst_N (pc := 921) C 2 dL_law_921 rfl ?_
  refine xw_iadd_N (pc := 922) C dL_law_922 ?_
  refine xw_sld (pc := 923) C X (i + 2) rfl (by omega) (by omega) dL_law_923 ?_
  refine xw_VF (pc := 924) (q0 := 0) (na := 2) (rest := []) (wc := wM cI hm r d th n2 p2 w2 b2 B M) (wr := wX cI hx a n1 p1 b1 w1 wi1 ni1 A1 ++ (wO cJ o f1 ++ wE cD od g)) C [2, 3, 4] [0, 1, 5, 6] [0] hM2 gL_law_X1_move rfl rfl rfl rfl (by decide +kernel) ⟨Nat.add_le_add_right hrm.1 1, Nat.le_trans (Nat.add_le_add_left hrm.2 _) (Nat.le_of_ble_eq_true rfl)⟩ rfl rfl rfl ⟨rfl, rfl⟩ (by decide) rfl rfl rfl rfl (Nat.le_of_ble_eq_true rfl) dL_law_924 ⟨hk, hnn⟩ (fun v9 w9 hp9 => ?_)
  obtain ⟨rfl, rfl⟩ := hp9
  refine xw_sub (w' := wX cI hx a n1 p1 b1 w1 wi1 ni1 A1 ++ (wM cI hm r d kc n3 p3 w3 b3 B1 M1 ++ (wO cJ o f1 ++ wE cD od g))) [0, 1, 4, 5, 6, 2, 3] (by decide) rfl rfl ?_
  refine xw_st (st' := [iV y]) rfl ?_
  refine xw_istore (pc := 927) (lv' := [(0, .ref b), (1, .ref hx), (2, .ref hm), (3, .ref o), (4, .ref od), (5, nV i), (6, nV kc), (7, iV y)]) C [1, 2, 3, 4, 5, 6, 7, 0] dL_law_927 (by decide) rfl ?_
  refine xw_aload_n (pc := 929) C 2 dL_law_929 rfl ?_
  refine xw_VF (pc := 930) (q0 := 0) (na := 0) (rest := []) (wc := wM cI hm r d kc n3 p3 w3 b3 B1 M1) (wr := wX cI hx a n1 p1 b1 w1 wi1 ni1 A1 ++ (wO cJ o f1 ++ wE cD od g)) C [2, 3, 4] [0, 1, 5, 6] [0] m_X1_thrown gL_law_X1_thrown rfl rfl rfl rfl (by decide +kernel) ⟨(Nat.le_of_ble_eq_true rfl), (Nat.le_of_ble_eq_true rfl)⟩ rfl rfl rfl ⟨rfl, rfl⟩ (by decide) rfl rfl rfl rfl (Nat.le_of_ble_eq_true rfl) dL_law_930 ⟨hk, hnn⟩ (fun v9 w9 hp9 => ?_)
  obtain ⟨rfl, rfl⟩ := hp9
  refine xw_sub (w' := wX cI hx a n1 p1 b1 w1 wi1 ni1 A1 ++ (wM cI hm r d kc n3 p3 w3 b3 B1 M1 ++ (wO cJ o f1 ++ wE cD od g))) [0, 1, 4, 5, 6, 2, 3] (by decide) rfl rfl ?_
  refine xw_st (st' := [nV kc]) rfl ?_
  refine xw_iload (pc := 933) C 6 dL_law_933 rfl ?_
  refine xw_icmp_eq_N (pc := 935) (tgt := 940) C dL_law_935 (by decide) (by omega) (by omega) (fun _ => ?_) (fun c => absurd rfl c)
  refine xw_iload (pc := 940) C 6 dL_law_940 rfl ?_
  refine xw_if_ne_N (pc := 942) (tgt := 957) C dL_law_942 (by decide) (by omega) (fun _ => xw_goto (pc := 957) (tgt := 1670) C dL_law_957 (by decide) (xw_lv [0, 1, 2, 3, 4, 5] rfl kk)) (fun c => ?_)
  refine xw_aload_n (pc := 945) C 3 dL_law_945 rfl ?_
  refine xw_iconst_N (pc := 946) C 0 dL_law_946 rfl ?_
  refine xw_lald (pc := 947) C 5 1 rfl rfl dL_law_947 ?_
  refine xw_iload (pc := 948) C 7 dL_law_948 rfl ?_
  refine xw_i2l (pc := 950) C dL_law_950 ?_
  refine xw_lcmp (pc := 951) C (heq c) dL_law_951 ?_
  refine xw_if_eq_N (pc := 952) (tgt := 957) C dL_law_952 (by decide) (by decide) (fun _ => xw_goto (pc := 957) (tgt := 1670) C dL_law_957 (by decide) (xw_lv [0, 1, 2, 3, 4, 5] rfl kk)) (fun c => absurd rfl c)

set_option maxHeartbeats 4000000 in
set_option maxRecDepth 100000 in
theorem g_times {φ : Fx} {l : Launch} {D : va_G} {cI cJ cD : ClassId} {b L hx hm r d o od i k nn : Nat} {xs : Nat → Int32} (C : xc φ l room_1 D vwCl [(cI, .int), (cJ, .long), (cD, .double)] 9 cL_law RL wsL_law) (Zc : xzc φ) (X : xsx φ b L xs) (hL : L ≤ 2048) (hi : i + 3 < L) (hk : k + 1 ≤ 1042) (hnn : nn + 6 ≤ 8434) {a n p bb w wi ni n1 p1 b1 w1 wi1 ni1 th n2 p2 w2 b2 n3 p3 w3 b3 kc fr lo : Nat} {A A1 B M B1 M1 : Nat → Nat} {f f1 : Nat → Int64} {g : Nat → UInt64} {z1 z2 : Int} {y : Int} (e1 : (xs (i + 1)).toInt = z1) (e2 : (xs (i + 2)).toInt = z2) (hrm : fr ≤ 10 ∧ lo ≤ 300) (hM1 : CZ l yL_times wsL_times (rmX 8 126) D vwCl [(cI, .int), (cJ, .long)] [.ref hx, iV z1, iV z2, .ref o] (wX cI hx a n p bb w wi ni A ++ wO cJ o f) (PD (some (nV kc)) (wO cJ o f1 ++ wX cI hx a n1 p1 b1 w1 wi1 ni1 A1)) 1 6) (hM2 : CT l yX1_times wsX1_times (rmN fr lo) D vwCl [(cI, .int)] [.ref hm, iV z1, iV z2] (wM cI hm r d th n2 p2 w2 b2 B M) (PD (some (iV y)) (wM cI hm r d kc n3 p3 w3 b3 B1 M1)) 0 0) (hkc : kc ≤ 2) (heq : kc = 0 → f1 0 = (iI y).toInt64) (kk : xw φ (k + 1) (nn + 6) (wX cI hx a n1 p1 b1 w1 wi1 ni1 A1 ++ (wM cI hm r d kc n3 p3 w3 b3 B1 M1 ++ (wO cJ o f1 ++ wE cD od g))) 1670 [(0, .ref b), (1, .ref hx), (2, .ref hm), (3, .ref o), (4, .ref od), (5, nV i)] []) : xw φ k nn (wX cI hx a n p bb w wi ni A ++ (wM cI hm r d th n2 p2 w2 b2 B M ++ (wO cJ o f ++ wE cD od g))) 960 [(0, .ref b), (1, .ref hx), (2, .ref hm), (3, .ref o), (4, .ref od), (5, nV i)] [] := by
  subst e1
  subst e2
  refine xw_aload_n (pc := 960) C 1 dL_law_960 rfl ?_
  refine xw_aload_n (pc := 961) C 0 dL_law_961 rfl ?_
  refine xw_iload (pc := 962) C 5 dL_law_962 rfl ?_
  refine xw_iconst_N (pc := 964) C 1 dL_law_964 rfl ?_
  refine xw_iadd_N (pc := 965) C dL_law_965 ?_
  refine xw_sld (pc := 966) C X (i + 1) rfl (by omega) (by omega) dL_law_966 ?_
  refine xw_aload_n (pc := 967) C 0 dL_law_967 rfl ?_
  refine xw_iload (pc := 968) C 5 dL_law_968 rfl ?_
  refine xw_iconst_N (pc := 970) C 2 dL_law_970 rfl ?_
  refine xw_iadd_N (pc := 971) C dL_law_971 ?_
  refine xw_sld (pc := 972) C X (i + 2) rfl (by omega) (by omega) dL_law_972 ?_
  refine xw_aload_n (pc := 973) C 3 dL_law_973 rfl ?_
  refine xw_Z (pc := 974) (na := 4) (rest := []) (wc := wX cI hx a n p bb w wi ni A ++ wO cJ o f) (wr := wM cI hm r d th n2 p2 w2 b2 B M ++ wE cD od g) C Zc [0, 1, 5] [2, 3, 4, 6] [0, 1] hM1 gL_law_L_times rfl rfl rfl rfl (by decide +kernel) ⟨(Nat.le_of_ble_eq_true rfl), (Nat.le_of_ble_eq_true rfl)⟩ rfl rfl rfl ⟨rfl, rfl⟩ (by decide) rfl rfl (Nat.le_of_ble_eq_true rfl) dL_law_974 ⟨hk, hnn⟩ (fun v9 w9 hp9 => ?_)
  obtain ⟨rfl, rfl⟩ := hp9
  refine xw_sub (w' := wX cI hx a n1 p1 b1 w1 wi1 ni1 A1 ++ (wM cI hm r d th n2 p2 w2 b2 B M ++ (wO cJ o f1 ++ wE cD od g))) [5, 6, 0, 1, 2, 4, 3] (by decide) rfl rfl ?_
  refine xw_st (st' := [nV kc]) rfl ?_
  refine xw_istore (pc := 977) (lv' := [(0, .ref b), (1, .ref hx), (2, .ref hm), (3, .ref o), (4, .ref od), (5, nV i), (6, nV kc)]) C [1, 2, 3, 4, 5, 6, 0] dL_law_977 (by decide) rfl ?_
  refine xw_aload_n (pc := 979) C 2 dL_law_979 rfl ?_
  refine xw_aload_n (pc := 980) C 0 dL_law_980 rfl ?_
  refine xw_iload (pc := 981) C 5 dL_law_981 rfl ?_
  refine xw_iconst_N (pc := 983) C 1 dL_law_983 rfl ?_
  refine xw_iadd_N (pc := 984) C dL_law_984 ?_
  refine xw_sld (pc := 985) C X (i + 1) rfl (by omega) (by omega) dL_law_985 ?_
  refine xw_aload_n (pc := 986) C 0 dL_law_986 rfl ?_
  refine xw_iload (pc := 987) C 5 dL_law_987 rfl ?_
  refine xw_iconst_N (pc := 989) C 2 dL_law_989 rfl ?_
  refine xw_iadd_N (pc := 990) C dL_law_990 ?_
  refine xw_sld (pc := 991) C X (i + 2) rfl (by omega) (by omega) dL_law_991 ?_
  refine xw_VF (pc := 992) (q0 := 0) (na := 2) (rest := []) (wc := wM cI hm r d th n2 p2 w2 b2 B M) (wr := wX cI hx a n1 p1 b1 w1 wi1 ni1 A1 ++ (wO cJ o f1 ++ wE cD od g)) C [2, 3, 4] [0, 1, 5, 6] [0] hM2 gL_law_X1_times rfl rfl rfl rfl (by decide +kernel) ⟨Nat.add_le_add_right hrm.1 1, Nat.le_trans (Nat.add_le_add_left hrm.2 _) (Nat.le_of_ble_eq_true rfl)⟩ rfl rfl rfl ⟨rfl, rfl⟩ (by decide) rfl rfl rfl rfl (Nat.le_of_ble_eq_true rfl) dL_law_992 ⟨hk, hnn⟩ (fun v9 w9 hp9 => ?_)
  obtain ⟨rfl, rfl⟩ := hp9
  refine xw_sub (w' := wX cI hx a n1 p1 b1 w1 wi1 ni1 A1 ++ (wM cI hm r d kc n3 p3 w3 b3 B1 M1 ++ (wO cJ o f1 ++ wE cD od g))) [0, 1, 4, 5, 6, 2, 3] (by decide) rfl rfl ?_
  refine xw_st (st' := [iV y]) rfl ?_
  refine xw_istore (pc := 995) (lv' := [(0, .ref b), (1, .ref hx), (2, .ref hm), (3, .ref o), (4, .ref od), (5, nV i), (6, nV kc), (7, iV y)]) C [1, 2, 3, 4, 5, 6, 7, 0] dL_law_995 (by decide) rfl ?_
  refine xw_aload_n (pc := 997) C 2 dL_law_997 rfl ?_
  refine xw_VF (pc := 998) (q0 := 0) (na := 0) (rest := []) (wc := wM cI hm r d kc n3 p3 w3 b3 B1 M1) (wr := wX cI hx a n1 p1 b1 w1 wi1 ni1 A1 ++ (wO cJ o f1 ++ wE cD od g)) C [2, 3, 4] [0, 1, 5, 6] [0] m_X1_thrown gL_law_X1_thrown rfl rfl rfl rfl (by decide +kernel) ⟨(Nat.le_of_ble_eq_true rfl), (Nat.le_of_ble_eq_true rfl)⟩ rfl rfl rfl ⟨rfl, rfl⟩ (by decide) rfl rfl rfl rfl (Nat.le_of_ble_eq_true rfl) dL_law_998 ⟨hk, hnn⟩ (fun v9 w9 hp9 => ?_)
  obtain ⟨rfl, rfl⟩ := hp9
  refine xw_sub (w' := wX cI hx a n1 p1 b1 w1 wi1 ni1 A1 ++ (wM cI hm r d kc n3 p3 w3 b3 B1 M1 ++ (wO cJ o f1 ++ wE cD od g))) [0, 1, 4, 5, 6, 2, 3] (by decide) rfl rfl ?_
  refine xw_st (st' := [nV kc]) rfl ?_
  refine xw_iload (pc := 1001) C 6 dL_law_1001 rfl ?_
  refine xw_icmp_eq_N (pc := 1003) (tgt := 1008) C dL_law_1003 (by decide) (by omega) (by omega) (fun _ => ?_) (fun c => absurd rfl c)
  refine xw_iload (pc := 1008) C 6 dL_law_1008 rfl ?_
  refine xw_if_ne_N (pc := 1010) (tgt := 1025) C dL_law_1010 (by decide) (by omega) (fun _ => xw_goto (pc := 1025) (tgt := 1670) C dL_law_1025 (by decide) (xw_lv [0, 1, 2, 3, 4, 5] rfl kk)) (fun c => ?_)
  refine xw_aload_n (pc := 1013) C 3 dL_law_1013 rfl ?_
  refine xw_iconst_N (pc := 1014) C 0 dL_law_1014 rfl ?_
  refine xw_lald (pc := 1015) C 5 1 rfl rfl dL_law_1015 ?_
  refine xw_iload (pc := 1016) C 7 dL_law_1016 rfl ?_
  refine xw_i2l (pc := 1018) C dL_law_1018 ?_
  refine xw_lcmp (pc := 1019) C (heq c) dL_law_1019 ?_
  refine xw_if_eq_N (pc := 1020) (tgt := 1025) C dL_law_1020 (by decide) (by decide) (fun _ => xw_goto (pc := 1025) (tgt := 1670) C dL_law_1025 (by decide) (xw_lv [0, 1, 2, 3, 4, 5] rfl kk)) (fun c => absurd rfl c)

set_option maxHeartbeats 4000000 in
set_option maxRecDepth 100000 in
theorem g_at {φ : Fx} {l : Launch} {D : va_G} {cI cJ cD : ClassId} {b L hx hm r d o od i k nn : Nat} {xs : Nat → Int32} (C : xc φ l room_1 D vwCl [(cI, .int), (cJ, .long), (cD, .double)] 9 cL_law RL wsL_law) (Zc : xzc φ) (X : xsx φ b L xs) (hL : L ≤ 2048) (hi : i + 3 < L) (hk : k + 1 ≤ 1042) (hnn : nn + 6 ≤ 8434) {a n p bb w wi ni n1 p1 b1 w1 wi1 ni1 th n2 p2 w2 b2 n3 p3 w3 b3 kc fr lo : Nat} {A A1 B M B1 M1 : Nat → Nat} {f f1 : Nat → Int64} {g : Nat → UInt64} {z1 z2 : Int} {y : Int} (e1 : (xs (i + 1)).toInt = z1) (e2 : (xs (i + 2)).toInt = z2) (hrm : fr ≤ 10 ∧ lo ≤ 300) (hM1 : CZ l yL_at wsL_at (rmX 8 125) D vwCl [(cI, .int), (cJ, .long)] [.ref hx, iV z1, iV z2, .ref o] (wX cI hx a n p bb w wi ni A ++ wO cJ o f) (PD (some (nV kc)) (wO cJ o f1 ++ wX cI hx a n1 p1 b1 w1 wi1 ni1 A1)) 1 6) (hM2 : CT l yX1_at wsX1_at (rmN fr lo) D vwCl [(cI, .int)] [.ref hm, iV z1, iV z2] (wM cI hm r d th n2 p2 w2 b2 B M) (PD (some (iV y)) (wM cI hm r d kc n3 p3 w3 b3 B1 M1)) 0 0) (hkc : kc ≤ 2) (heq : kc = 0 → f1 0 = (iI y).toInt64) (kk : xw φ (k + 1) (nn + 6) (wX cI hx a n1 p1 b1 w1 wi1 ni1 A1 ++ (wM cI hm r d kc n3 p3 w3 b3 B1 M1 ++ (wO cJ o f1 ++ wE cD od g))) 1670 [(0, .ref b), (1, .ref hx), (2, .ref hm), (3, .ref o), (4, .ref od), (5, nV i)] []) : xw φ k nn (wX cI hx a n p bb w wi ni A ++ (wM cI hm r d th n2 p2 w2 b2 B M ++ (wO cJ o f ++ wE cD od g))) 1028 [(0, .ref b), (1, .ref hx), (2, .ref hm), (3, .ref o), (4, .ref od), (5, nV i)] [] := by
  subst e1
  subst e2
  refine xw_aload_n (pc := 1028) C 1 dL_law_1028 rfl ?_
  refine xw_aload_n (pc := 1029) C 0 dL_law_1029 rfl ?_
  refine xw_iload (pc := 1030) C 5 dL_law_1030 rfl ?_
  refine xw_iconst_N (pc := 1032) C 1 dL_law_1032 rfl ?_
  refine xw_iadd_N (pc := 1033) C dL_law_1033 ?_
  refine xw_sld (pc := 1034) C X (i + 1) rfl (by omega) (by omega) dL_law_1034 ?_
  refine xw_aload_n (pc := 1035) C 0 dL_law_1035 rfl ?_
  refine xw_iload (pc := 1036) C 5 dL_law_1036 rfl ?_
  refine xw_iconst_N (pc := 1038) C 2 dL_law_1038 rfl ?_
  refine xw_iadd_N (pc := 1039) C dL_law_1039 ?_
  refine xw_sld (pc := 1040) C X (i + 2) rfl (by omega) (by omega) dL_law_1040 ?_
  refine xw_aload_n (pc := 1041) C 3 dL_law_1041 rfl ?_
  refine xw_Z (pc := 1042) (na := 4) (rest := []) (wc := wX cI hx a n p bb w wi ni A ++ wO cJ o f) (wr := wM cI hm r d th n2 p2 w2 b2 B M ++ wE cD od g) C Zc [0, 1, 5] [2, 3, 4, 6] [0, 1] hM1 gL_law_L_at rfl rfl rfl rfl (by decide +kernel) ⟨(Nat.le_of_ble_eq_true rfl), (Nat.le_of_ble_eq_true rfl)⟩ rfl rfl rfl ⟨rfl, rfl⟩ (by decide) rfl rfl (Nat.le_of_ble_eq_true rfl) dL_law_1042 ⟨hk, hnn⟩ (fun v9 w9 hp9 => ?_)
  obtain ⟨rfl, rfl⟩ := hp9
  refine xw_sub (w' := wX cI hx a n1 p1 b1 w1 wi1 ni1 A1 ++ (wM cI hm r d th n2 p2 w2 b2 B M ++ (wO cJ o f1 ++ wE cD od g))) [5, 6, 0, 1, 2, 4, 3] (by decide) rfl rfl ?_
  refine xw_st (st' := [nV kc]) rfl ?_
  refine xw_istore (pc := 1045) (lv' := [(0, .ref b), (1, .ref hx), (2, .ref hm), (3, .ref o), (4, .ref od), (5, nV i), (6, nV kc)]) C [1, 2, 3, 4, 5, 6, 0] dL_law_1045 (by decide) rfl ?_
  refine xw_aload_n (pc := 1047) C 2 dL_law_1047 rfl ?_
  refine xw_aload_n (pc := 1048) C 0 dL_law_1048 rfl ?_
  refine xw_iload (pc := 1049) C 5 dL_law_1049 rfl ?_
  refine xw_iconst_N (pc := 1051) C 1 dL_law_1051 rfl ?_
  refine xw_iadd_N (pc := 1052) C dL_law_1052 ?_
  refine xw_sld (pc := 1053) C X (i + 1) rfl (by omega) (by omega) dL_law_1053 ?_
  refine xw_aload_n (pc := 1054) C 0 dL_law_1054 rfl ?_
  refine xw_iload (pc := 1055) C 5 dL_law_1055 rfl ?_
  refine xw_iconst_N (pc := 1057) C 2 dL_law_1057 rfl ?_
  refine xw_iadd_N (pc := 1058) C dL_law_1058 ?_
  refine xw_sld (pc := 1059) C X (i + 2) rfl (by omega) (by omega) dL_law_1059 ?_
  refine xw_VF (pc := 1060) (q0 := 0) (na := 2) (rest := []) (wc := wM cI hm r d th n2 p2 w2 b2 B M) (wr := wX cI hx a n1 p1 b1 w1 wi1 ni1 A1 ++ (wO cJ o f1 ++ wE cD od g)) C [2, 3, 4] [0, 1, 5, 6] [0] hM2 gL_law_X1_at rfl rfl rfl rfl (by decide +kernel) ⟨Nat.add_le_add_right hrm.1 1, Nat.le_trans (Nat.add_le_add_left hrm.2 _) (Nat.le_of_ble_eq_true rfl)⟩ rfl rfl rfl ⟨rfl, rfl⟩ (by decide) rfl rfl rfl rfl (Nat.le_of_ble_eq_true rfl) dL_law_1060 ⟨hk, hnn⟩ (fun v9 w9 hp9 => ?_)
  obtain ⟨rfl, rfl⟩ := hp9
  refine xw_sub (w' := wX cI hx a n1 p1 b1 w1 wi1 ni1 A1 ++ (wM cI hm r d kc n3 p3 w3 b3 B1 M1 ++ (wO cJ o f1 ++ wE cD od g))) [0, 1, 4, 5, 6, 2, 3] (by decide) rfl rfl ?_
  refine xw_st (st' := [iV y]) rfl ?_
  refine xw_istore (pc := 1063) (lv' := [(0, .ref b), (1, .ref hx), (2, .ref hm), (3, .ref o), (4, .ref od), (5, nV i), (6, nV kc), (7, iV y)]) C [1, 2, 3, 4, 5, 6, 7, 0] dL_law_1063 (by decide) rfl ?_
  refine xw_aload_n (pc := 1065) C 2 dL_law_1065 rfl ?_
  refine xw_VF (pc := 1066) (q0 := 0) (na := 0) (rest := []) (wc := wM cI hm r d kc n3 p3 w3 b3 B1 M1) (wr := wX cI hx a n1 p1 b1 w1 wi1 ni1 A1 ++ (wO cJ o f1 ++ wE cD od g)) C [2, 3, 4] [0, 1, 5, 6] [0] m_X1_thrown gL_law_X1_thrown rfl rfl rfl rfl (by decide +kernel) ⟨(Nat.le_of_ble_eq_true rfl), (Nat.le_of_ble_eq_true rfl)⟩ rfl rfl rfl ⟨rfl, rfl⟩ (by decide) rfl rfl rfl rfl (Nat.le_of_ble_eq_true rfl) dL_law_1066 ⟨hk, hnn⟩ (fun v9 w9 hp9 => ?_)
  obtain ⟨rfl, rfl⟩ := hp9
  refine xw_sub (w' := wX cI hx a n1 p1 b1 w1 wi1 ni1 A1 ++ (wM cI hm r d kc n3 p3 w3 b3 B1 M1 ++ (wO cJ o f1 ++ wE cD od g))) [0, 1, 4, 5, 6, 2, 3] (by decide) rfl rfl ?_
  refine xw_st (st' := [nV kc]) rfl ?_
  refine xw_iload (pc := 1069) C 6 dL_law_1069 rfl ?_
  refine xw_icmp_eq_N (pc := 1071) (tgt := 1076) C dL_law_1071 (by decide) (by omega) (by omega) (fun _ => ?_) (fun c => absurd rfl c)
  refine xw_iload (pc := 1076) C 6 dL_law_1076 rfl ?_
  refine xw_if_ne_N (pc := 1078) (tgt := 1093) C dL_law_1078 (by decide) (by omega) (fun _ => xw_goto (pc := 1093) (tgt := 1670) C dL_law_1093 (by decide) (xw_lv [0, 1, 2, 3, 4, 5] rfl kk)) (fun c => ?_)
  refine xw_aload_n (pc := 1081) C 3 dL_law_1081 rfl ?_
  refine xw_iconst_N (pc := 1082) C 0 dL_law_1082 rfl ?_
  refine xw_lald (pc := 1083) C 5 1 rfl rfl dL_law_1083 ?_
  refine xw_iload (pc := 1084) C 7 dL_law_1084 rfl ?_
  refine xw_i2l (pc := 1086) C dL_law_1086 ?_
  refine xw_lcmp (pc := 1087) C (heq c) dL_law_1087 ?_
  refine xw_if_eq_N (pc := 1088) (tgt := 1093) C dL_law_1088 (by decide) (by decide) (fun _ => xw_goto (pc := 1093) (tgt := 1670) C dL_law_1093 (by decide) (xw_lv [0, 1, 2, 3, 4, 5] rfl kk)) (fun c => absurd rfl c)

set_option maxHeartbeats 4000000 in
set_option maxRecDepth 100000 in
theorem g_point {φ : Fx} {l : Launch} {D : va_G} {cI cJ cD : ClassId} {b L hx hm r d o od i k nn : Nat} {xs : Nat → Int32} (C : xc φ l room_1 D vwCl [(cI, .int), (cJ, .long), (cD, .double)] 9 cL_law RL wsL_law) (Zc : xzc φ) (X : xsx φ b L xs) (hL : L ≤ 2048) (hi : i + 3 < L) (hk : k + 1 ≤ 1042) (hnn : nn + 6 ≤ 8434) {a n p bb w wi ni n1 p1 b1 w1 wi1 ni1 th n2 p2 w2 b2 n3 p3 w3 b3 kc fr lo : Nat} {A A1 B M B1 M1 : Nat → Nat} {f f1 : Nat → Int64} {g : Nat → UInt64} {z1 z2 : Int} {y : Int} (e1 : (xs (i + 1)).toInt = z1) (e2 : (xs (i + 2)).toInt = z2) (hrm : fr ≤ 10 ∧ lo ≤ 300) (hM1 : CZ l yL_point wsL_point (rmX 8 125) D vwCl [(cI, .int), (cJ, .long)] [.ref hx, iV z1, iV z2, .ref o] (wX cI hx a n p bb w wi ni A ++ wO cJ o f) (PD (some (nV kc)) (wO cJ o f1 ++ wX cI hx a n1 p1 b1 w1 wi1 ni1 A1)) 1 6) (hM2 : CT l yX1_point wsX1_point (rmN fr lo) D vwCl [(cI, .int)] [.ref hm, iV z1, iV z2] (wM cI hm r d th n2 p2 w2 b2 B M) (PD (some (iV y)) (wM cI hm r d kc n3 p3 w3 b3 B1 M1)) 0 0) (hkc : kc ≤ 2) (heq : kc = 0 → f1 0 = (iI y).toInt64) (kk : xw φ (k + 1) (nn + 6) (wX cI hx a n1 p1 b1 w1 wi1 ni1 A1 ++ (wM cI hm r d kc n3 p3 w3 b3 B1 M1 ++ (wO cJ o f1 ++ wE cD od g))) 1670 [(0, .ref b), (1, .ref hx), (2, .ref hm), (3, .ref o), (4, .ref od), (5, nV i)] []) : xw φ k nn (wX cI hx a n p bb w wi ni A ++ (wM cI hm r d th n2 p2 w2 b2 B M ++ (wO cJ o f ++ wE cD od g))) 1096 [(0, .ref b), (1, .ref hx), (2, .ref hm), (3, .ref o), (4, .ref od), (5, nV i)] [] := by
  subst e1
  subst e2
  refine xw_aload_n (pc := 1096) C 1 dL_law_1096 rfl ?_
  refine xw_aload_n (pc := 1097) C 0 dL_law_1097 rfl ?_
  refine xw_iload (pc := 1098) C 5 dL_law_1098 rfl ?_
  refine xw_iconst_N (pc := 1100) C 1 dL_law_1100 rfl ?_
  refine xw_iadd_N (pc := 1101) C dL_law_1101 ?_
  refine xw_sld (pc := 1102) C X (i + 1) rfl (by omega) (by omega) dL_law_1102 ?_
  refine xw_aload_n (pc := 1103) C 0 dL_law_1103 rfl ?_
  refine xw_iload (pc := 1104) C 5 dL_law_1104 rfl ?_
  refine xw_iconst_N (pc := 1106) C 2 dL_law_1106 rfl ?_
  refine xw_iadd_N (pc := 1107) C dL_law_1107 ?_
  refine xw_sld (pc := 1108) C X (i + 2) rfl (by omega) (by omega) dL_law_1108 ?_
  refine xw_aload_n (pc := 1109) C 3 dL_law_1109 rfl ?_
  refine xw_Z (pc := 1110) (na := 4) (rest := []) (wc := wX cI hx a n p bb w wi ni A ++ wO cJ o f) (wr := wM cI hm r d th n2 p2 w2 b2 B M ++ wE cD od g) C Zc [0, 1, 5] [2, 3, 4, 6] [0, 1] hM1 gL_law_L_point rfl rfl rfl rfl (by decide +kernel) ⟨(Nat.le_of_ble_eq_true rfl), (Nat.le_of_ble_eq_true rfl)⟩ rfl rfl rfl ⟨rfl, rfl⟩ (by decide) rfl rfl (Nat.le_of_ble_eq_true rfl) dL_law_1110 ⟨hk, hnn⟩ (fun v9 w9 hp9 => ?_)
  obtain ⟨rfl, rfl⟩ := hp9
  refine xw_sub (w' := wX cI hx a n1 p1 b1 w1 wi1 ni1 A1 ++ (wM cI hm r d th n2 p2 w2 b2 B M ++ (wO cJ o f1 ++ wE cD od g))) [5, 6, 0, 1, 2, 4, 3] (by decide) rfl rfl ?_
  refine xw_st (st' := [nV kc]) rfl ?_
  refine xw_istore (pc := 1113) (lv' := [(0, .ref b), (1, .ref hx), (2, .ref hm), (3, .ref o), (4, .ref od), (5, nV i), (6, nV kc)]) C [1, 2, 3, 4, 5, 6, 0] dL_law_1113 (by decide) rfl ?_
  refine xw_aload_n (pc := 1115) C 2 dL_law_1115 rfl ?_
  refine xw_aload_n (pc := 1116) C 0 dL_law_1116 rfl ?_
  refine xw_iload (pc := 1117) C 5 dL_law_1117 rfl ?_
  refine xw_iconst_N (pc := 1119) C 1 dL_law_1119 rfl ?_
  refine xw_iadd_N (pc := 1120) C dL_law_1120 ?_
  refine xw_sld (pc := 1121) C X (i + 1) rfl (by omega) (by omega) dL_law_1121 ?_
  refine xw_aload_n (pc := 1122) C 0 dL_law_1122 rfl ?_
  refine xw_iload (pc := 1123) C 5 dL_law_1123 rfl ?_
  refine xw_iconst_N (pc := 1125) C 2 dL_law_1125 rfl ?_
  refine xw_iadd_N (pc := 1126) C dL_law_1126 ?_
  refine xw_sld (pc := 1127) C X (i + 2) rfl (by omega) (by omega) dL_law_1127 ?_
  refine xw_VF (pc := 1128) (q0 := 0) (na := 2) (rest := []) (wc := wM cI hm r d th n2 p2 w2 b2 B M) (wr := wX cI hx a n1 p1 b1 w1 wi1 ni1 A1 ++ (wO cJ o f1 ++ wE cD od g)) C [2, 3, 4] [0, 1, 5, 6] [0] hM2 gL_law_X1_point rfl rfl rfl rfl (by decide +kernel) ⟨Nat.add_le_add_right hrm.1 1, Nat.le_trans (Nat.add_le_add_left hrm.2 _) (Nat.le_of_ble_eq_true rfl)⟩ rfl rfl rfl ⟨rfl, rfl⟩ (by decide) rfl rfl rfl rfl (Nat.le_of_ble_eq_true rfl) dL_law_1128 ⟨hk, hnn⟩ (fun v9 w9 hp9 => ?_)
  obtain ⟨rfl, rfl⟩ := hp9
  refine xw_sub (w' := wX cI hx a n1 p1 b1 w1 wi1 ni1 A1 ++ (wM cI hm r d kc n3 p3 w3 b3 B1 M1 ++ (wO cJ o f1 ++ wE cD od g))) [0, 1, 4, 5, 6, 2, 3] (by decide) rfl rfl ?_
  refine xw_st (st' := [iV y]) rfl ?_
  refine xw_istore (pc := 1131) (lv' := [(0, .ref b), (1, .ref hx), (2, .ref hm), (3, .ref o), (4, .ref od), (5, nV i), (6, nV kc), (7, iV y)]) C [1, 2, 3, 4, 5, 6, 7, 0] dL_law_1131 (by decide) rfl ?_
  refine xw_aload_n (pc := 1133) C 2 dL_law_1133 rfl ?_
  refine xw_VF (pc := 1134) (q0 := 0) (na := 0) (rest := []) (wc := wM cI hm r d kc n3 p3 w3 b3 B1 M1) (wr := wX cI hx a n1 p1 b1 w1 wi1 ni1 A1 ++ (wO cJ o f1 ++ wE cD od g)) C [2, 3, 4] [0, 1, 5, 6] [0] m_X1_thrown gL_law_X1_thrown rfl rfl rfl rfl (by decide +kernel) ⟨(Nat.le_of_ble_eq_true rfl), (Nat.le_of_ble_eq_true rfl)⟩ rfl rfl rfl ⟨rfl, rfl⟩ (by decide) rfl rfl rfl rfl (Nat.le_of_ble_eq_true rfl) dL_law_1134 ⟨hk, hnn⟩ (fun v9 w9 hp9 => ?_)
  obtain ⟨rfl, rfl⟩ := hp9
  refine xw_sub (w' := wX cI hx a n1 p1 b1 w1 wi1 ni1 A1 ++ (wM cI hm r d kc n3 p3 w3 b3 B1 M1 ++ (wO cJ o f1 ++ wE cD od g))) [0, 1, 4, 5, 6, 2, 3] (by decide) rfl rfl ?_
  refine xw_st (st' := [nV kc]) rfl ?_
  refine xw_iload (pc := 1137) C 6 dL_law_1137 rfl ?_
  refine xw_icmp_eq_N (pc := 1139) (tgt := 1144) C dL_law_1139 (by decide) (by omega) (by omega) (fun _ => ?_) (fun c => absurd rfl c)
  refine xw_iload (pc := 1144) C 6 dL_law_1144 rfl ?_
  refine xw_if_ne_N (pc := 1146) (tgt := 1161) C dL_law_1146 (by decide) (by omega) (fun _ => xw_goto (pc := 1161) (tgt := 1670) C dL_law_1161 (by decide) (xw_lv [0, 1, 2, 3, 4, 5] rfl kk)) (fun c => ?_)
  refine xw_aload_n (pc := 1149) C 3 dL_law_1149 rfl ?_
  refine xw_iconst_N (pc := 1150) C 0 dL_law_1150 rfl ?_
  refine xw_lald (pc := 1151) C 5 1 rfl rfl dL_law_1151 ?_
  refine xw_iload (pc := 1152) C 7 dL_law_1152 rfl ?_
  refine xw_i2l (pc := 1154) C dL_law_1154 ?_
  refine xw_lcmp (pc := 1155) C (heq c) dL_law_1155 ?_
  refine xw_if_eq_N (pc := 1156) (tgt := 1161) C dL_law_1156 (by decide) (by decide) (fun _ => xw_goto (pc := 1161) (tgt := 1670) C dL_law_1161 (by decide) (xw_lv [0, 1, 2, 3, 4, 5] rfl kk)) (fun c => absurd rfl c)

set_option maxHeartbeats 4000000 in
set_option maxRecDepth 100000 in
theorem g_about {φ : Fx} {l : Launch} {D : va_G} {cI cJ cD : ClassId} {b L hx hm r d o od i k nn : Nat} {xs : Nat → Int32} (C : xc φ l room_1 D vwCl [(cI, .int), (cJ, .long), (cD, .double)] 9 cL_law RL wsL_law) (Zc : xzc φ) (X : xsx φ b L xs) (hL : L ≤ 2048) (hi : i + 3 < L) (hk : k + 1 ≤ 1042) (hnn : nn + 6 ≤ 8434) {a n p bb w wi ni n1 p1 b1 w1 wi1 ni1 th n2 p2 w2 b2 n3 p3 w3 b3 kc fr lo : Nat} {A A1 B M B1 M1 : Nat → Nat} {f f1 : Nat → Int64} {g : Nat → UInt64} {z1 z2 : Int} {y : Int} (e1 : (xs (i + 1)).toInt = z1) (e2 : (xs (i + 2)).toInt = z2) (hrm : fr ≤ 10 ∧ lo ≤ 300) (hM1 : CZ l yL_about wsL_about (rmX 8 125) D vwCl [(cI, .int), (cJ, .long)] [.ref hx, iV z1, iV z2, .ref o] (wX cI hx a n p bb w wi ni A ++ wO cJ o f) (PD (some (nV kc)) (wO cJ o f1 ++ wX cI hx a n1 p1 b1 w1 wi1 ni1 A1)) 1 6) (hM2 : CT l yX1_about wsX1_about (rmN fr lo) D vwCl [(cI, .int)] [.ref hm, iV z1, iV z2] (wM cI hm r d th n2 p2 w2 b2 B M) (PD (some (iV y)) (wM cI hm r d kc n3 p3 w3 b3 B1 M1)) 0 0) (hkc : kc ≤ 2) (heq : kc = 0 → f1 0 = (iI y).toInt64) (kk : xw φ (k + 1) (nn + 6) (wX cI hx a n1 p1 b1 w1 wi1 ni1 A1 ++ (wM cI hm r d kc n3 p3 w3 b3 B1 M1 ++ (wO cJ o f1 ++ wE cD od g))) 1670 [(0, .ref b), (1, .ref hx), (2, .ref hm), (3, .ref o), (4, .ref od), (5, nV i)] []) : xw φ k nn (wX cI hx a n p bb w wi ni A ++ (wM cI hm r d th n2 p2 w2 b2 B M ++ (wO cJ o f ++ wE cD od g))) 1164 [(0, .ref b), (1, .ref hx), (2, .ref hm), (3, .ref o), (4, .ref od), (5, nV i)] [] := by
  subst e1
  subst e2
  refine xw_aload_n (pc := 1164) C 1 dL_law_1164 rfl ?_
  refine xw_aload_n (pc := 1165) C 0 dL_law_1165 rfl ?_
  refine xw_iload (pc := 1166) C 5 dL_law_1166 rfl ?_
  refine xw_iconst_N (pc := 1168) C 1 dL_law_1168 rfl ?_
  refine xw_iadd_N (pc := 1169) C dL_law_1169 ?_
  refine xw_sld (pc := 1170) C X (i + 1) rfl (by omega) (by omega) dL_law_1170 ?_
  refine xw_aload_n (pc := 1171) C 0 dL_law_1171 rfl ?_
  refine xw_iload (pc := 1172) C 5 dL_law_1172 rfl ?_
  refine xw_iconst_N (pc := 1174) C 2 dL_law_1174 rfl ?_
  refine xw_iadd_N (pc := 1175) C dL_law_1175 ?_
  refine xw_sld (pc := 1176) C X (i + 2) rfl (by omega) (by omega) dL_law_1176 ?_
  refine xw_aload_n (pc := 1177) C 3 dL_law_1177 rfl ?_
  refine xw_Z (pc := 1178) (na := 4) (rest := []) (wc := wX cI hx a n p bb w wi ni A ++ wO cJ o f) (wr := wM cI hm r d th n2 p2 w2 b2 B M ++ wE cD od g) C Zc [0, 1, 5] [2, 3, 4, 6] [0, 1] hM1 gL_law_L_about rfl rfl rfl rfl (by decide +kernel) ⟨(Nat.le_of_ble_eq_true rfl), (Nat.le_of_ble_eq_true rfl)⟩ rfl rfl rfl ⟨rfl, rfl⟩ (by decide) rfl rfl (Nat.le_of_ble_eq_true rfl) dL_law_1178 ⟨hk, hnn⟩ (fun v9 w9 hp9 => ?_)
  obtain ⟨rfl, rfl⟩ := hp9
  refine xw_sub (w' := wX cI hx a n1 p1 b1 w1 wi1 ni1 A1 ++ (wM cI hm r d th n2 p2 w2 b2 B M ++ (wO cJ o f1 ++ wE cD od g))) [5, 6, 0, 1, 2, 4, 3] (by decide) rfl rfl ?_
  refine xw_st (st' := [nV kc]) rfl ?_
  refine xw_istore (pc := 1181) (lv' := [(0, .ref b), (1, .ref hx), (2, .ref hm), (3, .ref o), (4, .ref od), (5, nV i), (6, nV kc)]) C [1, 2, 3, 4, 5, 6, 0] dL_law_1181 (by decide) rfl ?_
  refine xw_aload_n (pc := 1183) C 2 dL_law_1183 rfl ?_
  refine xw_aload_n (pc := 1184) C 0 dL_law_1184 rfl ?_
  refine xw_iload (pc := 1185) C 5 dL_law_1185 rfl ?_
  refine xw_iconst_N (pc := 1187) C 1 dL_law_1187 rfl ?_
  refine xw_iadd_N (pc := 1188) C dL_law_1188 ?_
  refine xw_sld (pc := 1189) C X (i + 1) rfl (by omega) (by omega) dL_law_1189 ?_
  refine xw_aload_n (pc := 1190) C 0 dL_law_1190 rfl ?_
  refine xw_iload (pc := 1191) C 5 dL_law_1191 rfl ?_
  refine xw_iconst_N (pc := 1193) C 2 dL_law_1193 rfl ?_
  refine xw_iadd_N (pc := 1194) C dL_law_1194 ?_
  refine xw_sld (pc := 1195) C X (i + 2) rfl (by omega) (by omega) dL_law_1195 ?_
  refine xw_VF (pc := 1196) (q0 := 0) (na := 2) (rest := []) (wc := wM cI hm r d th n2 p2 w2 b2 B M) (wr := wX cI hx a n1 p1 b1 w1 wi1 ni1 A1 ++ (wO cJ o f1 ++ wE cD od g)) C [2, 3, 4] [0, 1, 5, 6] [0] hM2 gL_law_X1_about rfl rfl rfl rfl (by decide +kernel) ⟨Nat.add_le_add_right hrm.1 1, Nat.le_trans (Nat.add_le_add_left hrm.2 _) (Nat.le_of_ble_eq_true rfl)⟩ rfl rfl rfl ⟨rfl, rfl⟩ (by decide) rfl rfl rfl rfl (Nat.le_of_ble_eq_true rfl) dL_law_1196 ⟨hk, hnn⟩ (fun v9 w9 hp9 => ?_)
  obtain ⟨rfl, rfl⟩ := hp9
  refine xw_sub (w' := wX cI hx a n1 p1 b1 w1 wi1 ni1 A1 ++ (wM cI hm r d kc n3 p3 w3 b3 B1 M1 ++ (wO cJ o f1 ++ wE cD od g))) [0, 1, 4, 5, 6, 2, 3] (by decide) rfl rfl ?_
  refine xw_st (st' := [iV y]) rfl ?_
  refine xw_istore (pc := 1199) (lv' := [(0, .ref b), (1, .ref hx), (2, .ref hm), (3, .ref o), (4, .ref od), (5, nV i), (6, nV kc), (7, iV y)]) C [1, 2, 3, 4, 5, 6, 7, 0] dL_law_1199 (by decide) rfl ?_
  refine xw_aload_n (pc := 1201) C 2 dL_law_1201 rfl ?_
  refine xw_VF (pc := 1202) (q0 := 0) (na := 0) (rest := []) (wc := wM cI hm r d kc n3 p3 w3 b3 B1 M1) (wr := wX cI hx a n1 p1 b1 w1 wi1 ni1 A1 ++ (wO cJ o f1 ++ wE cD od g)) C [2, 3, 4] [0, 1, 5, 6] [0] m_X1_thrown gL_law_X1_thrown rfl rfl rfl rfl (by decide +kernel) ⟨(Nat.le_of_ble_eq_true rfl), (Nat.le_of_ble_eq_true rfl)⟩ rfl rfl rfl ⟨rfl, rfl⟩ (by decide) rfl rfl rfl rfl (Nat.le_of_ble_eq_true rfl) dL_law_1202 ⟨hk, hnn⟩ (fun v9 w9 hp9 => ?_)
  obtain ⟨rfl, rfl⟩ := hp9
  refine xw_sub (w' := wX cI hx a n1 p1 b1 w1 wi1 ni1 A1 ++ (wM cI hm r d kc n3 p3 w3 b3 B1 M1 ++ (wO cJ o f1 ++ wE cD od g))) [0, 1, 4, 5, 6, 2, 3] (by decide) rfl rfl ?_
  refine xw_st (st' := [nV kc]) rfl ?_
  refine xw_iload (pc := 1205) C 6 dL_law_1205 rfl ?_
  refine xw_icmp_eq_N (pc := 1207) (tgt := 1212) C dL_law_1207 (by decide) (by omega) (by omega) (fun _ => ?_) (fun c => absurd rfl c)
  refine xw_iload (pc := 1212) C 6 dL_law_1212 rfl ?_
  refine xw_if_ne_N (pc := 1214) (tgt := 1229) C dL_law_1214 (by decide) (by omega) (fun _ => xw_goto (pc := 1229) (tgt := 1670) C dL_law_1229 (by decide) (xw_lv [0, 1, 2, 3, 4, 5] rfl kk)) (fun c => ?_)
  refine xw_aload_n (pc := 1217) C 3 dL_law_1217 rfl ?_
  refine xw_iconst_N (pc := 1218) C 0 dL_law_1218 rfl ?_
  refine xw_lald (pc := 1219) C 5 1 rfl rfl dL_law_1219 ?_
  refine xw_iload (pc := 1220) C 7 dL_law_1220 rfl ?_
  refine xw_i2l (pc := 1222) C dL_law_1222 ?_
  refine xw_lcmp (pc := 1223) C (heq c) dL_law_1223 ?_
  refine xw_if_eq_N (pc := 1224) (tgt := 1229) C dL_law_1224 (by decide) (by decide) (fun _ => xw_goto (pc := 1229) (tgt := 1670) C dL_law_1229 (by decide) (xw_lv [0, 1, 2, 3, 4, 5] rfl kk)) (fun c => absurd rfl c)

set_option maxHeartbeats 4000000 in
set_option maxRecDepth 100000 in
theorem g_count {φ : Fx} {l : Launch} {D : va_G} {cI cJ cD : ClassId} {b L hx hm r d o od i k nn : Nat} {xs : Nat → Int32} (C : xc φ l room_1 D vwCl [(cI, .int), (cJ, .long), (cD, .double)] 9 cL_law RL wsL_law) (Zc : xzc φ) (X : xsx φ b L xs) (hL : L ≤ 2048) (hi : i + 3 < L) (hk : k + 1 ≤ 1042) (hnn : nn + 6 ≤ 8434) {a n p bb w wi ni n1 p1 b1 w1 wi1 ni1 th n2 p2 w2 b2 n3 p3 w3 b3 kc fr lo : Nat} {A A1 B M B1 M1 : Nat → Nat} {f f1 : Nat → Int64} {g : Nat → UInt64} {z1 : Int} {y : Int} (e1 : (xs (i + 1)).toInt = z1) (hrm : fr ≤ 10 ∧ lo ≤ 300) (hM1 : CZ l yL_count wsL_count (rmX 7 103) D vwCl [(cI, .int), (cJ, .long)] [.ref hx, iV z1, .ref o] (wX cI hx a n p bb w wi ni A ++ wO cJ o f) (PD (some (nV kc)) (wO cJ o f1 ++ wX cI hx a n1 p1 b1 w1 wi1 ni1 A1)) 1 6) (hM2 : CT l yX1_count wsX1_count (rmN fr lo) D vwCl [(cI, .int)] [.ref hm, iV z1] (wM cI hm r d th n2 p2 w2 b2 B M) (PD (some (iV y)) (wM cI hm r d kc n3 p3 w3 b3 B1 M1)) 0 0) (hkc : kc ≤ 2) (heq : kc = 0 → f1 0 = (iI y).toInt64) (kk : xw φ (k + 1) (nn + 6) (wX cI hx a n1 p1 b1 w1 wi1 ni1 A1 ++ (wM cI hm r d kc n3 p3 w3 b3 B1 M1 ++ (wO cJ o f1 ++ wE cD od g))) 1670 [(0, .ref b), (1, .ref hx), (2, .ref hm), (3, .ref o), (4, .ref od), (5, nV i)] []) : xw φ k nn (wX cI hx a n p bb w wi ni A ++ (wM cI hm r d th n2 p2 w2 b2 B M ++ (wO cJ o f ++ wE cD od g))) 1232 [(0, .ref b), (1, .ref hx), (2, .ref hm), (3, .ref o), (4, .ref od), (5, nV i)] [] := by
  subst e1
  refine xw_aload_n (pc := 1232) C 1 dL_law_1232 rfl ?_
  refine xw_aload_n (pc := 1233) C 0 dL_law_1233 rfl ?_
  refine xw_iload (pc := 1234) C 5 dL_law_1234 rfl ?_
  refine xw_iconst_N (pc := 1236) C 1 dL_law_1236 rfl ?_
  refine xw_iadd_N (pc := 1237) C dL_law_1237 ?_
  refine xw_sld (pc := 1238) C X (i + 1) rfl (by omega) (by omega) dL_law_1238 ?_
  refine xw_aload_n (pc := 1239) C 3 dL_law_1239 rfl ?_
  refine xw_Z (pc := 1240) (na := 3) (rest := []) (wc := wX cI hx a n p bb w wi ni A ++ wO cJ o f) (wr := wM cI hm r d th n2 p2 w2 b2 B M ++ wE cD od g) C Zc [0, 1, 5] [2, 3, 4, 6] [0, 1] hM1 gL_law_L_count rfl rfl rfl rfl (by decide +kernel) ⟨(Nat.le_of_ble_eq_true rfl), (Nat.le_of_ble_eq_true rfl)⟩ rfl rfl rfl ⟨rfl, rfl⟩ (by decide) rfl rfl (Nat.le_of_ble_eq_true rfl) dL_law_1240 ⟨hk, hnn⟩ (fun v9 w9 hp9 => ?_)
  obtain ⟨rfl, rfl⟩ := hp9
  refine xw_sub (w' := wX cI hx a n1 p1 b1 w1 wi1 ni1 A1 ++ (wM cI hm r d th n2 p2 w2 b2 B M ++ (wO cJ o f1 ++ wE cD od g))) [5, 6, 0, 1, 2, 4, 3] (by decide) rfl rfl ?_
  refine xw_st (st' := [nV kc]) rfl ?_
  refine xw_istore (pc := 1243) (lv' := [(0, .ref b), (1, .ref hx), (2, .ref hm), (3, .ref o), (4, .ref od), (5, nV i), (6, nV kc)]) C [1, 2, 3, 4, 5, 6, 0] dL_law_1243 (by decide) rfl ?_
  refine xw_aload_n (pc := 1245) C 2 dL_law_1245 rfl ?_
  refine xw_aload_n (pc := 1246) C 0 dL_law_1246 rfl ?_
  refine xw_iload (pc := 1247) C 5 dL_law_1247 rfl ?_
  refine xw_iconst_N (pc := 1249) C 1 dL_law_1249 rfl ?_
  refine xw_iadd_N (pc := 1250) C dL_law_1250 ?_
  refine xw_sld (pc := 1251) C X (i + 1) rfl (by omega) (by omega) dL_law_1251 ?_
  refine xw_VF (pc := 1252) (q0 := 0) (na := 1) (rest := []) (wc := wM cI hm r d th n2 p2 w2 b2 B M) (wr := wX cI hx a n1 p1 b1 w1 wi1 ni1 A1 ++ (wO cJ o f1 ++ wE cD od g)) C [2, 3, 4] [0, 1, 5, 6] [0] hM2 gL_law_X1_count rfl rfl rfl rfl (by decide +kernel) ⟨Nat.add_le_add_right hrm.1 1, Nat.le_trans (Nat.add_le_add_left hrm.2 _) (Nat.le_of_ble_eq_true rfl)⟩ rfl rfl rfl ⟨rfl, rfl⟩ (by decide) rfl rfl rfl rfl (Nat.le_of_ble_eq_true rfl) dL_law_1252 ⟨hk, hnn⟩ (fun v9 w9 hp9 => ?_)
  obtain ⟨rfl, rfl⟩ := hp9
  refine xw_sub (w' := wX cI hx a n1 p1 b1 w1 wi1 ni1 A1 ++ (wM cI hm r d kc n3 p3 w3 b3 B1 M1 ++ (wO cJ o f1 ++ wE cD od g))) [0, 1, 4, 5, 6, 2, 3] (by decide) rfl rfl ?_
  refine xw_st (st' := [iV y]) rfl ?_
  refine xw_istore (pc := 1255) (lv' := [(0, .ref b), (1, .ref hx), (2, .ref hm), (3, .ref o), (4, .ref od), (5, nV i), (6, nV kc), (7, iV y)]) C [1, 2, 3, 4, 5, 6, 7, 0] dL_law_1255 (by decide) rfl ?_
  refine xw_aload_n (pc := 1257) C 2 dL_law_1257 rfl ?_
  refine xw_VF (pc := 1258) (q0 := 0) (na := 0) (rest := []) (wc := wM cI hm r d kc n3 p3 w3 b3 B1 M1) (wr := wX cI hx a n1 p1 b1 w1 wi1 ni1 A1 ++ (wO cJ o f1 ++ wE cD od g)) C [2, 3, 4] [0, 1, 5, 6] [0] m_X1_thrown gL_law_X1_thrown rfl rfl rfl rfl (by decide +kernel) ⟨(Nat.le_of_ble_eq_true rfl), (Nat.le_of_ble_eq_true rfl)⟩ rfl rfl rfl ⟨rfl, rfl⟩ (by decide) rfl rfl rfl rfl (Nat.le_of_ble_eq_true rfl) dL_law_1258 ⟨hk, hnn⟩ (fun v9 w9 hp9 => ?_)
  obtain ⟨rfl, rfl⟩ := hp9
  refine xw_sub (w' := wX cI hx a n1 p1 b1 w1 wi1 ni1 A1 ++ (wM cI hm r d kc n3 p3 w3 b3 B1 M1 ++ (wO cJ o f1 ++ wE cD od g))) [0, 1, 4, 5, 6, 2, 3] (by decide) rfl rfl ?_
  refine xw_st (st' := [nV kc]) rfl ?_
  refine xw_iload (pc := 1261) C 6 dL_law_1261 rfl ?_
  refine xw_icmp_eq_N (pc := 1263) (tgt := 1268) C dL_law_1263 (by decide) (by omega) (by omega) (fun _ => ?_) (fun c => absurd rfl c)
  refine xw_iload (pc := 1268) C 6 dL_law_1268 rfl ?_
  refine xw_if_ne_N (pc := 1270) (tgt := 1285) C dL_law_1270 (by decide) (by omega) (fun _ => xw_goto (pc := 1285) (tgt := 1670) C dL_law_1285 (by decide) (xw_lv [0, 1, 2, 3, 4, 5] rfl kk)) (fun c => ?_)
  refine xw_aload_n (pc := 1273) C 3 dL_law_1273 rfl ?_
  refine xw_iconst_N (pc := 1274) C 0 dL_law_1274 rfl ?_
  refine xw_lald (pc := 1275) C 5 1 rfl rfl dL_law_1275 ?_
  refine xw_iload (pc := 1276) C 7 dL_law_1276 rfl ?_
  refine xw_i2l (pc := 1278) C dL_law_1278 ?_
  refine xw_lcmp (pc := 1279) C (heq c) dL_law_1279 ?_
  refine xw_if_eq_N (pc := 1280) (tgt := 1285) C dL_law_1280 (by decide) (by decide) (fun _ => xw_goto (pc := 1285) (tgt := 1670) C dL_law_1285 (by decide) (xw_lv [0, 1, 2, 3, 4, 5] rfl kk)) (fun c => absurd rfl c)

set_option maxHeartbeats 4000000 in
set_option maxRecDepth 100000 in
theorem g_would {φ : Fx} {l : Launch} {D : va_G} {cI cJ cD : ClassId} {b L hx hm r d o od i k nn : Nat} {xs : Nat → Int32} (C : xc φ l room_1 D vwCl [(cI, .int), (cJ, .long), (cD, .double)] 9 cL_law RL wsL_law) (Zc : xzc φ) (X : xsx φ b L xs) (hL : L ≤ 2048) (hi : i + 3 < L) (hk : k + 1 ≤ 1042) (hnn : nn + 6 ≤ 8434) {a n p bb w wi ni n1 p1 b1 w1 wi1 ni1 th n2 p2 w2 b2 n3 p3 w3 b3 kc fr lo : Nat} {A A1 B M B1 M1 : Nat → Nat} {f f1 : Nat → Int64} {g : Nat → UInt64} {z1 z2 z3 : Int} {y : Int} (e1 : (xs (i + 1)).toInt = z1) (e2 : (xs (i + 2)).toInt = z2) (e3 : (xs (i + 3)).toInt = z3) (hrm : fr ≤ 10 ∧ lo ≤ 300) (hM1 : CZ l yL_would wsL_would (rmX 8 126) D vwCl [(cI, .int), (cJ, .long)] [.ref hx, iV z1, iV z2, iV z3, .ref o] (wX cI hx a n p bb w wi ni A ++ wO cJ o f) (PD (some (nV kc)) (wO cJ o f1 ++ wX cI hx a n1 p1 b1 w1 wi1 ni1 A1)) 1 6) (hM2 : CT l yX1_would wsX1_would (rmN fr lo) D vwCl [(cI, .int)] [.ref hm, iV z1, iV z2, iV z3] (wM cI hm r d th n2 p2 w2 b2 B M) (PD (some (iV y)) (wM cI hm r d kc n3 p3 w3 b3 B1 M1)) 0 0) (hkc : kc ≤ 2) (heq : kc = 0 → f1 0 = (iI y).toInt64) (kk : xw φ (k + 1) (nn + 6) (wX cI hx a n1 p1 b1 w1 wi1 ni1 A1 ++ (wM cI hm r d kc n3 p3 w3 b3 B1 M1 ++ (wO cJ o f1 ++ wE cD od g))) 1670 [(0, .ref b), (1, .ref hx), (2, .ref hm), (3, .ref o), (4, .ref od), (5, nV i)] []) : xw φ k nn (wX cI hx a n p bb w wi ni A ++ (wM cI hm r d th n2 p2 w2 b2 B M ++ (wO cJ o f ++ wE cD od g))) 1288 [(0, .ref b), (1, .ref hx), (2, .ref hm), (3, .ref o), (4, .ref od), (5, nV i)] [] := by
  subst e1
  subst e2
  subst e3
  refine xw_aload_n (pc := 1288) C 1 dL_law_1288 rfl ?_
  refine xw_aload_n (pc := 1289) C 0 dL_law_1289 rfl ?_
  refine xw_iload (pc := 1290) C 5 dL_law_1290 rfl ?_
  refine xw_iconst_N (pc := 1292) C 1 dL_law_1292 rfl ?_
  refine xw_iadd_N (pc := 1293) C dL_law_1293 ?_
  refine xw_sld (pc := 1294) C X (i + 1) rfl (by omega) (by omega) dL_law_1294 ?_
  refine xw_aload_n (pc := 1295) C 0 dL_law_1295 rfl ?_
  refine xw_iload (pc := 1296) C 5 dL_law_1296 rfl ?_
  refine xw_iconst_N (pc := 1298) C 2 dL_law_1298 rfl ?_
  refine xw_iadd_N (pc := 1299) C dL_law_1299 ?_
  refine xw_sld (pc := 1300) C X (i + 2) rfl (by omega) (by omega) dL_law_1300 ?_
  refine xw_aload_n (pc := 1301) C 0 dL_law_1301 rfl ?_
  refine xw_iload (pc := 1302) C 5 dL_law_1302 rfl ?_
  refine xw_iconst_N (pc := 1304) C 3 dL_law_1304 rfl ?_
  refine xw_iadd_N (pc := 1305) C dL_law_1305 ?_
  refine xw_sld (pc := 1306) C X (i + 3) rfl (by omega) (by omega) dL_law_1306 ?_
  refine xw_aload_n (pc := 1307) C 3 dL_law_1307 rfl ?_
  refine xw_Z (pc := 1308) (na := 5) (rest := []) (wc := wX cI hx a n p bb w wi ni A ++ wO cJ o f) (wr := wM cI hm r d th n2 p2 w2 b2 B M ++ wE cD od g) C Zc [0, 1, 5] [2, 3, 4, 6] [0, 1] hM1 gL_law_L_would rfl rfl rfl rfl (by decide +kernel) ⟨(Nat.le_of_ble_eq_true rfl), (Nat.le_of_ble_eq_true rfl)⟩ rfl rfl rfl ⟨rfl, rfl⟩ (by decide) rfl rfl (Nat.le_of_ble_eq_true rfl) dL_law_1308 ⟨hk, hnn⟩ (fun v9 w9 hp9 => ?_)
  obtain ⟨rfl, rfl⟩ := hp9
  refine xw_sub (w' := wX cI hx a n1 p1 b1 w1 wi1 ni1 A1 ++ (wM cI hm r d th n2 p2 w2 b2 B M ++ (wO cJ o f1 ++ wE cD od g))) [5, 6, 0, 1, 2, 4, 3] (by decide) rfl rfl ?_
  refine xw_st (st' := [nV kc]) rfl ?_
  refine xw_istore (pc := 1311) (lv' := [(0, .ref b), (1, .ref hx), (2, .ref hm), (3, .ref o), (4, .ref od), (5, nV i), (6, nV kc)]) C [1, 2, 3, 4, 5, 6, 0] dL_law_1311 (by decide) rfl ?_
  refine xw_aload_n (pc := 1313) C 2 dL_law_1313 rfl ?_
  refine xw_aload_n (pc := 1314) C 0 dL_law_1314 rfl ?_
  refine xw_iload (pc := 1315) C 5 dL_law_1315 rfl ?_
  refine xw_iconst_N (pc := 1317) C 1 dL_law_1317 rfl ?_
  refine xw_iadd_N (pc := 1318) C dL_law_1318 ?_
  refine xw_sld (pc := 1319) C X (i + 1) rfl (by omega) (by omega) dL_law_1319 ?_
  refine xw_aload_n (pc := 1320) C 0 dL_law_1320 rfl ?_
  refine xw_iload (pc := 1321) C 5 dL_law_1321 rfl ?_
  refine xw_iconst_N (pc := 1323) C 2 dL_law_1323 rfl ?_
  refine xw_iadd_N (pc := 1324) C dL_law_1324 ?_
  refine xw_sld (pc := 1325) C X (i + 2) rfl (by omega) (by omega) dL_law_1325 ?_
  refine xw_aload_n (pc := 1326) C 0 dL_law_1326 rfl ?_
  refine xw_iload (pc := 1327) C 5 dL_law_1327 rfl ?_
  refine xw_iconst_N (pc := 1329) C 3 dL_law_1329 rfl ?_
  refine xw_iadd_N (pc := 1330) C dL_law_1330 ?_
  refine xw_sld (pc := 1331) C X (i + 3) rfl (by omega) (by omega) dL_law_1331 ?_
  refine xw_VF (pc := 1332) (q0 := 0) (na := 3) (rest := []) (wc := wM cI hm r d th n2 p2 w2 b2 B M) (wr := wX cI hx a n1 p1 b1 w1 wi1 ni1 A1 ++ (wO cJ o f1 ++ wE cD od g)) C [2, 3, 4] [0, 1, 5, 6] [0] hM2 gL_law_X1_would rfl rfl rfl rfl (by decide +kernel) ⟨Nat.add_le_add_right hrm.1 1, Nat.le_trans (Nat.add_le_add_left hrm.2 _) (Nat.le_of_ble_eq_true rfl)⟩ rfl rfl rfl ⟨rfl, rfl⟩ (by decide) rfl rfl rfl rfl (Nat.le_of_ble_eq_true rfl) dL_law_1332 ⟨hk, hnn⟩ (fun v9 w9 hp9 => ?_)
  obtain ⟨rfl, rfl⟩ := hp9
  refine xw_sub (w' := wX cI hx a n1 p1 b1 w1 wi1 ni1 A1 ++ (wM cI hm r d kc n3 p3 w3 b3 B1 M1 ++ (wO cJ o f1 ++ wE cD od g))) [0, 1, 4, 5, 6, 2, 3] (by decide) rfl rfl ?_
  refine xw_st (st' := [iV y]) rfl ?_
  refine xw_istore (pc := 1335) (lv' := [(0, .ref b), (1, .ref hx), (2, .ref hm), (3, .ref o), (4, .ref od), (5, nV i), (6, nV kc), (7, iV y)]) C [1, 2, 3, 4, 5, 6, 7, 0] dL_law_1335 (by decide) rfl ?_
  refine xw_aload_n (pc := 1337) C 2 dL_law_1337 rfl ?_
  refine xw_VF (pc := 1338) (q0 := 0) (na := 0) (rest := []) (wc := wM cI hm r d kc n3 p3 w3 b3 B1 M1) (wr := wX cI hx a n1 p1 b1 w1 wi1 ni1 A1 ++ (wO cJ o f1 ++ wE cD od g)) C [2, 3, 4] [0, 1, 5, 6] [0] m_X1_thrown gL_law_X1_thrown rfl rfl rfl rfl (by decide +kernel) ⟨(Nat.le_of_ble_eq_true rfl), (Nat.le_of_ble_eq_true rfl)⟩ rfl rfl rfl ⟨rfl, rfl⟩ (by decide) rfl rfl rfl rfl (Nat.le_of_ble_eq_true rfl) dL_law_1338 ⟨hk, hnn⟩ (fun v9 w9 hp9 => ?_)
  obtain ⟨rfl, rfl⟩ := hp9
  refine xw_sub (w' := wX cI hx a n1 p1 b1 w1 wi1 ni1 A1 ++ (wM cI hm r d kc n3 p3 w3 b3 B1 M1 ++ (wO cJ o f1 ++ wE cD od g))) [0, 1, 4, 5, 6, 2, 3] (by decide) rfl rfl ?_
  refine xw_st (st' := [nV kc]) rfl ?_
  refine xw_iload (pc := 1341) C 6 dL_law_1341 rfl ?_
  refine xw_icmp_eq_N (pc := 1343) (tgt := 1348) C dL_law_1343 (by decide) (by omega) (by omega) (fun _ => ?_) (fun c => absurd rfl c)
  refine xw_iload (pc := 1348) C 6 dL_law_1348 rfl ?_
  refine xw_if_ne_N (pc := 1350) (tgt := 1365) C dL_law_1350 (by decide) (by omega) (fun _ => xw_goto (pc := 1365) (tgt := 1670) C dL_law_1365 (by decide) (xw_lv [0, 1, 2, 3, 4, 5] rfl kk)) (fun c => ?_)
  refine xw_aload_n (pc := 1353) C 3 dL_law_1353 rfl ?_
  refine xw_iconst_N (pc := 1354) C 0 dL_law_1354 rfl ?_
  refine xw_lald (pc := 1355) C 5 1 rfl rfl dL_law_1355 ?_
  refine xw_iload (pc := 1356) C 7 dL_law_1356 rfl ?_
  refine xw_i2l (pc := 1358) C dL_law_1358 ?_
  refine xw_lcmp (pc := 1359) C (heq c) dL_law_1359 ?_
  refine xw_if_eq_N (pc := 1360) (tgt := 1365) C dL_law_1360 (by decide) (by decide) (fun _ => xw_goto (pc := 1365) (tgt := 1670) C dL_law_1365 (by decide) (xw_lv [0, 1, 2, 3, 4, 5] rfl kk)) (fun c => absurd rfl c)

set_option maxHeartbeats 4000000 in
set_option maxRecDepth 100000 in
theorem g_comes {φ : Fx} {l : Launch} {D : va_G} {cI cJ cD : ClassId} {b L hx hm r d o od i k nn : Nat} {xs : Nat → Int32} (C : xc φ l room_1 D vwCl [(cI, .int), (cJ, .long), (cD, .double)] 9 cL_law RL wsL_law) (Zc : xzc φ) (X : xsx φ b L xs) (hL : L ≤ 2048) (hi : i + 3 < L) (hk : k + 1 ≤ 1042) (hnn : nn + 6 ≤ 8434) {a n p bb w wi ni n1 p1 b1 w1 wi1 ni1 th n2 p2 w2 b2 n3 p3 w3 b3 kc fr lo : Nat} {A A1 B M B1 M1 : Nat → Nat} {f f1 : Nat → Int64} {g : Nat → UInt64} {z1 z2 : Int} {y : Int} (e1 : (xs (i + 1)).toInt = z1) (e2 : (xs (i + 2)).toInt = z2) (hrm : fr ≤ 10 ∧ lo ≤ 300) (hM1 : CZ l yL_comes wsL_comes (rmX 8 126) D vwCl [(cI, .int), (cJ, .long)] [.ref hx, iV z1, iV z2, .ref o] (wX cI hx a n p bb w wi ni A ++ wO cJ o f) (PD (some (nV kc)) (wO cJ o f1 ++ wX cI hx a n1 p1 b1 w1 wi1 ni1 A1)) 1 6) (hM2 : CT l yX1_comes wsX1_comes (rmN fr lo) D vwCl [(cI, .int)] [.ref hm, iV z1, iV z2] (wM cI hm r d th n2 p2 w2 b2 B M) (PD (some (iV y)) (wM cI hm r d kc n3 p3 w3 b3 B1 M1)) 0 0) (hkc : kc ≤ 2) (heq : kc = 0 → f1 0 = (iI y).toInt64) (kk : xw φ (k + 1) (nn + 6) (wX cI hx a n1 p1 b1 w1 wi1 ni1 A1 ++ (wM cI hm r d kc n3 p3 w3 b3 B1 M1 ++ (wO cJ o f1 ++ wE cD od g))) 1670 [(0, .ref b), (1, .ref hx), (2, .ref hm), (3, .ref o), (4, .ref od), (5, nV i)] []) : xw φ k nn (wX cI hx a n p bb w wi ni A ++ (wM cI hm r d th n2 p2 w2 b2 B M ++ (wO cJ o f ++ wE cD od g))) 1368 [(0, .ref b), (1, .ref hx), (2, .ref hm), (3, .ref o), (4, .ref od), (5, nV i)] [] := by
  subst e1
  subst e2
  refine xw_aload_n (pc := 1368) C 1 dL_law_1368 rfl ?_
  refine xw_aload_n (pc := 1369) C 0 dL_law_1369 rfl ?_
  refine xw_iload (pc := 1370) C 5 dL_law_1370 rfl ?_
  refine xw_iconst_N (pc := 1372) C 1 dL_law_1372 rfl ?_
  refine xw_iadd_N (pc := 1373) C dL_law_1373 ?_
  refine xw_sld (pc := 1374) C X (i + 1) rfl (by omega) (by omega) dL_law_1374 ?_
  refine xw_aload_n (pc := 1375) C 0 dL_law_1375 rfl ?_
  refine xw_iload (pc := 1376) C 5 dL_law_1376 rfl ?_
  refine xw_iconst_N (pc := 1378) C 2 dL_law_1378 rfl ?_
  refine xw_iadd_N (pc := 1379) C dL_law_1379 ?_
  refine xw_sld (pc := 1380) C X (i + 2) rfl (by omega) (by omega) dL_law_1380 ?_
  refine xw_aload_n (pc := 1381) C 3 dL_law_1381 rfl ?_
  refine xw_Z (pc := 1382) (na := 4) (rest := []) (wc := wX cI hx a n p bb w wi ni A ++ wO cJ o f) (wr := wM cI hm r d th n2 p2 w2 b2 B M ++ wE cD od g) C Zc [0, 1, 5] [2, 3, 4, 6] [0, 1] hM1 gL_law_L_comes rfl rfl rfl rfl (by decide +kernel) ⟨(Nat.le_of_ble_eq_true rfl), (Nat.le_of_ble_eq_true rfl)⟩ rfl rfl rfl ⟨rfl, rfl⟩ (by decide) rfl rfl (Nat.le_of_ble_eq_true rfl) dL_law_1382 ⟨hk, hnn⟩ (fun v9 w9 hp9 => ?_)
  obtain ⟨rfl, rfl⟩ := hp9
  refine xw_sub (w' := wX cI hx a n1 p1 b1 w1 wi1 ni1 A1 ++ (wM cI hm r d th n2 p2 w2 b2 B M ++ (wO cJ o f1 ++ wE cD od g))) [5, 6, 0, 1, 2, 4, 3] (by decide) rfl rfl ?_
  refine xw_st (st' := [nV kc]) rfl ?_
  refine xw_istore (pc := 1385) (lv' := [(0, .ref b), (1, .ref hx), (2, .ref hm), (3, .ref o), (4, .ref od), (5, nV i), (6, nV kc)]) C [1, 2, 3, 4, 5, 6, 0] dL_law_1385 (by decide) rfl ?_
  refine xw_aload_n (pc := 1387) C 2 dL_law_1387 rfl ?_
  refine xw_aload_n (pc := 1388) C 0 dL_law_1388 rfl ?_
  refine xw_iload (pc := 1389) C 5 dL_law_1389 rfl ?_
  refine xw_iconst_N (pc := 1391) C 1 dL_law_1391 rfl ?_
  refine xw_iadd_N (pc := 1392) C dL_law_1392 ?_
  refine xw_sld (pc := 1393) C X (i + 1) rfl (by omega) (by omega) dL_law_1393 ?_
  refine xw_aload_n (pc := 1394) C 0 dL_law_1394 rfl ?_
  refine xw_iload (pc := 1395) C 5 dL_law_1395 rfl ?_
  refine xw_iconst_N (pc := 1397) C 2 dL_law_1397 rfl ?_
  refine xw_iadd_N (pc := 1398) C dL_law_1398 ?_
  refine xw_sld (pc := 1399) C X (i + 2) rfl (by omega) (by omega) dL_law_1399 ?_
  refine xw_VF (pc := 1400) (q0 := 0) (na := 2) (rest := []) (wc := wM cI hm r d th n2 p2 w2 b2 B M) (wr := wX cI hx a n1 p1 b1 w1 wi1 ni1 A1 ++ (wO cJ o f1 ++ wE cD od g)) C [2, 3, 4] [0, 1, 5, 6] [0] hM2 gL_law_X1_comes rfl rfl rfl rfl (by decide +kernel) ⟨Nat.add_le_add_right hrm.1 1, Nat.le_trans (Nat.add_le_add_left hrm.2 _) (Nat.le_of_ble_eq_true rfl)⟩ rfl rfl rfl ⟨rfl, rfl⟩ (by decide) rfl rfl rfl rfl (Nat.le_of_ble_eq_true rfl) dL_law_1400 ⟨hk, hnn⟩ (fun v9 w9 hp9 => ?_)
  obtain ⟨rfl, rfl⟩ := hp9
  refine xw_sub (w' := wX cI hx a n1 p1 b1 w1 wi1 ni1 A1 ++ (wM cI hm r d kc n3 p3 w3 b3 B1 M1 ++ (wO cJ o f1 ++ wE cD od g))) [0, 1, 4, 5, 6, 2, 3] (by decide) rfl rfl ?_
  refine xw_st (st' := [iV y]) rfl ?_
  refine xw_istore (pc := 1403) (lv' := [(0, .ref b), (1, .ref hx), (2, .ref hm), (3, .ref o), (4, .ref od), (5, nV i), (6, nV kc), (7, iV y)]) C [1, 2, 3, 4, 5, 6, 7, 0] dL_law_1403 (by decide) rfl ?_
  refine xw_aload_n (pc := 1405) C 2 dL_law_1405 rfl ?_
  refine xw_VF (pc := 1406) (q0 := 0) (na := 0) (rest := []) (wc := wM cI hm r d kc n3 p3 w3 b3 B1 M1) (wr := wX cI hx a n1 p1 b1 w1 wi1 ni1 A1 ++ (wO cJ o f1 ++ wE cD od g)) C [2, 3, 4] [0, 1, 5, 6] [0] m_X1_thrown gL_law_X1_thrown rfl rfl rfl rfl (by decide +kernel) ⟨(Nat.le_of_ble_eq_true rfl), (Nat.le_of_ble_eq_true rfl)⟩ rfl rfl rfl ⟨rfl, rfl⟩ (by decide) rfl rfl rfl rfl (Nat.le_of_ble_eq_true rfl) dL_law_1406 ⟨hk, hnn⟩ (fun v9 w9 hp9 => ?_)
  obtain ⟨rfl, rfl⟩ := hp9
  refine xw_sub (w' := wX cI hx a n1 p1 b1 w1 wi1 ni1 A1 ++ (wM cI hm r d kc n3 p3 w3 b3 B1 M1 ++ (wO cJ o f1 ++ wE cD od g))) [0, 1, 4, 5, 6, 2, 3] (by decide) rfl rfl ?_
  refine xw_st (st' := [nV kc]) rfl ?_
  refine xw_iload (pc := 1409) C 6 dL_law_1409 rfl ?_
  refine xw_icmp_eq_N (pc := 1411) (tgt := 1416) C dL_law_1411 (by decide) (by omega) (by omega) (fun _ => ?_) (fun c => absurd rfl c)
  refine xw_iload (pc := 1416) C 6 dL_law_1416 rfl ?_
  refine xw_if_ne_N (pc := 1418) (tgt := 1433) C dL_law_1418 (by decide) (by omega) (fun _ => xw_goto (pc := 1433) (tgt := 1670) C dL_law_1433 (by decide) (xw_lv [0, 1, 2, 3, 4, 5] rfl kk)) (fun c => ?_)
  refine xw_aload_n (pc := 1421) C 3 dL_law_1421 rfl ?_
  refine xw_iconst_N (pc := 1422) C 0 dL_law_1422 rfl ?_
  refine xw_lald (pc := 1423) C 5 1 rfl rfl dL_law_1423 ?_
  refine xw_iload (pc := 1424) C 7 dL_law_1424 rfl ?_
  refine xw_i2l (pc := 1426) C dL_law_1426 ?_
  refine xw_lcmp (pc := 1427) C (heq c) dL_law_1427 ?_
  refine xw_if_eq_N (pc := 1428) (tgt := 1433) C dL_law_1428 (by decide) (by decide) (fun _ => xw_goto (pc := 1433) (tgt := 1670) C dL_law_1433 (by decide) (xw_lv [0, 1, 2, 3, 4, 5] rfl kk)) (fun c => absurd rfl c)

set_option maxHeartbeats 4000000 in
set_option maxRecDepth 100000 in
theorem g_advise {φ : Fx} {l : Launch} {D : va_G} {cI cJ cD : ClassId} {b L hx hm r d o od i k nn : Nat} {xs : Nat → Int32} (C : xc φ l room_1 D vwCl [(cI, .int), (cJ, .long), (cD, .double)] 9 cL_law RL wsL_law) (Zc : xzc φ) (X : xsx φ b L xs) (hL : L ≤ 2048) (hi : i + 3 < L) (hk : k + 1 ≤ 1042) (hnn : nn + 6 ≤ 8434) {a n p bb w wi ni n1 p1 b1 w1 wi1 ni1 th n2 p2 w2 b2 n3 p3 w3 b3 kc fr lo : Nat} {A A1 B M B1 M1 : Nat → Nat} {f f1 : Nat → Int64} {g : Nat → UInt64} {z1 z2 : Int} {y : Int} (e1 : (xs (i + 1)).toInt = z1) (e2 : (xs (i + 2)).toInt = z2) (hrm : fr ≤ 10 ∧ lo ≤ 300) (hM1 : CZ l yL_advise wsL_advise (rmX 8 129) D vwCl [(cI, .int), (cJ, .long)] [.ref hx, iV z1, iV z2, .ref o] (wX cI hx a n p bb w wi ni A ++ wO cJ o f) (PD (some (nV kc)) (wO cJ o f1 ++ wX cI hx a n1 p1 b1 w1 wi1 ni1 A1)) 1 6) (hM2 : CT l yX1_advise wsX1_advise (rmN fr lo) D vwCl [(cI, .int)] [.ref hm, iV z1, iV z2] (wM cI hm r d th n2 p2 w2 b2 B M) (PD (some (iV y)) (wM cI hm r d kc n3 p3 w3 b3 B1 M1)) 0 0) (hkc : kc ≤ 2) (heq : kc = 0 → f1 0 = (iI y).toInt64) (kk : xw φ (k + 1) (nn + 6) (wX cI hx a n1 p1 b1 w1 wi1 ni1 A1 ++ (wM cI hm r d kc n3 p3 w3 b3 B1 M1 ++ (wO cJ o f1 ++ wE cD od g))) 1670 [(0, .ref b), (1, .ref hx), (2, .ref hm), (3, .ref o), (4, .ref od), (5, nV i)] []) : xw φ k nn (wX cI hx a n p bb w wi ni A ++ (wM cI hm r d th n2 p2 w2 b2 B M ++ (wO cJ o f ++ wE cD od g))) 1436 [(0, .ref b), (1, .ref hx), (2, .ref hm), (3, .ref o), (4, .ref od), (5, nV i)] [] := by
  subst e1
  subst e2
  refine xw_aload_n (pc := 1436) C 1 dL_law_1436 rfl ?_
  refine xw_aload_n (pc := 1437) C 0 dL_law_1437 rfl ?_
  refine xw_iload (pc := 1438) C 5 dL_law_1438 rfl ?_
  refine xw_iconst_N (pc := 1440) C 1 dL_law_1440 rfl ?_
  refine xw_iadd_N (pc := 1441) C dL_law_1441 ?_
  refine xw_sld (pc := 1442) C X (i + 1) rfl (by omega) (by omega) dL_law_1442 ?_
  refine xw_aload_n (pc := 1443) C 0 dL_law_1443 rfl ?_
  refine xw_iload (pc := 1444) C 5 dL_law_1444 rfl ?_
  refine xw_iconst_N (pc := 1446) C 2 dL_law_1446 rfl ?_
  refine xw_iadd_N (pc := 1447) C dL_law_1447 ?_
  refine xw_sld (pc := 1448) C X (i + 2) rfl (by omega) (by omega) dL_law_1448 ?_
  refine xw_aload_n (pc := 1449) C 3 dL_law_1449 rfl ?_
  refine xw_Z (pc := 1450) (na := 4) (rest := []) (wc := wX cI hx a n p bb w wi ni A ++ wO cJ o f) (wr := wM cI hm r d th n2 p2 w2 b2 B M ++ wE cD od g) C Zc [0, 1, 5] [2, 3, 4, 6] [0, 1] hM1 gL_law_L_advise rfl rfl rfl rfl (by decide +kernel) ⟨(Nat.le_of_ble_eq_true rfl), (Nat.le_of_ble_eq_true rfl)⟩ rfl rfl rfl ⟨rfl, rfl⟩ (by decide) rfl rfl (Nat.le_of_ble_eq_true rfl) dL_law_1450 ⟨hk, hnn⟩ (fun v9 w9 hp9 => ?_)
  obtain ⟨rfl, rfl⟩ := hp9
  refine xw_sub (w' := wX cI hx a n1 p1 b1 w1 wi1 ni1 A1 ++ (wM cI hm r d th n2 p2 w2 b2 B M ++ (wO cJ o f1 ++ wE cD od g))) [5, 6, 0, 1, 2, 4, 3] (by decide) rfl rfl ?_
  refine xw_st (st' := [nV kc]) rfl ?_
  refine xw_istore (pc := 1453) (lv' := [(0, .ref b), (1, .ref hx), (2, .ref hm), (3, .ref o), (4, .ref od), (5, nV i), (6, nV kc)]) C [1, 2, 3, 4, 5, 6, 0] dL_law_1453 (by decide) rfl ?_
  refine xw_aload_n (pc := 1455) C 2 dL_law_1455 rfl ?_
  refine xw_aload_n (pc := 1456) C 0 dL_law_1456 rfl ?_
  refine xw_iload (pc := 1457) C 5 dL_law_1457 rfl ?_
  refine xw_iconst_N (pc := 1459) C 1 dL_law_1459 rfl ?_
  refine xw_iadd_N (pc := 1460) C dL_law_1460 ?_
  refine xw_sld (pc := 1461) C X (i + 1) rfl (by omega) (by omega) dL_law_1461 ?_
  refine xw_aload_n (pc := 1462) C 0 dL_law_1462 rfl ?_
  refine xw_iload (pc := 1463) C 5 dL_law_1463 rfl ?_
  refine xw_iconst_N (pc := 1465) C 2 dL_law_1465 rfl ?_
  refine xw_iadd_N (pc := 1466) C dL_law_1466 ?_
  refine xw_sld (pc := 1467) C X (i + 2) rfl (by omega) (by omega) dL_law_1467 ?_
  refine xw_VF (pc := 1468) (q0 := 0) (na := 2) (rest := []) (wc := wM cI hm r d th n2 p2 w2 b2 B M) (wr := wX cI hx a n1 p1 b1 w1 wi1 ni1 A1 ++ (wO cJ o f1 ++ wE cD od g)) C [2, 3, 4] [0, 1, 5, 6] [0] hM2 gL_law_X1_advise rfl rfl rfl rfl (by decide +kernel) ⟨Nat.add_le_add_right hrm.1 1, Nat.le_trans (Nat.add_le_add_left hrm.2 _) (Nat.le_of_ble_eq_true rfl)⟩ rfl rfl rfl ⟨rfl, rfl⟩ (by decide) rfl rfl rfl rfl (Nat.le_of_ble_eq_true rfl) dL_law_1468 ⟨hk, hnn⟩ (fun v9 w9 hp9 => ?_)
  obtain ⟨rfl, rfl⟩ := hp9
  refine xw_sub (w' := wX cI hx a n1 p1 b1 w1 wi1 ni1 A1 ++ (wM cI hm r d kc n3 p3 w3 b3 B1 M1 ++ (wO cJ o f1 ++ wE cD od g))) [0, 1, 4, 5, 6, 2, 3] (by decide) rfl rfl ?_
  refine xw_st (st' := [iV y]) rfl ?_
  refine xw_istore (pc := 1471) (lv' := [(0, .ref b), (1, .ref hx), (2, .ref hm), (3, .ref o), (4, .ref od), (5, nV i), (6, nV kc), (7, iV y)]) C [1, 2, 3, 4, 5, 6, 7, 0] dL_law_1471 (by decide) rfl ?_
  refine xw_aload_n (pc := 1473) C 2 dL_law_1473 rfl ?_
  refine xw_VF (pc := 1474) (q0 := 0) (na := 0) (rest := []) (wc := wM cI hm r d kc n3 p3 w3 b3 B1 M1) (wr := wX cI hx a n1 p1 b1 w1 wi1 ni1 A1 ++ (wO cJ o f1 ++ wE cD od g)) C [2, 3, 4] [0, 1, 5, 6] [0] m_X1_thrown gL_law_X1_thrown rfl rfl rfl rfl (by decide +kernel) ⟨(Nat.le_of_ble_eq_true rfl), (Nat.le_of_ble_eq_true rfl)⟩ rfl rfl rfl ⟨rfl, rfl⟩ (by decide) rfl rfl rfl rfl (Nat.le_of_ble_eq_true rfl) dL_law_1474 ⟨hk, hnn⟩ (fun v9 w9 hp9 => ?_)
  obtain ⟨rfl, rfl⟩ := hp9
  refine xw_sub (w' := wX cI hx a n1 p1 b1 w1 wi1 ni1 A1 ++ (wM cI hm r d kc n3 p3 w3 b3 B1 M1 ++ (wO cJ o f1 ++ wE cD od g))) [0, 1, 4, 5, 6, 2, 3] (by decide) rfl rfl ?_
  refine xw_st (st' := [nV kc]) rfl ?_
  refine xw_iload (pc := 1477) C 6 dL_law_1477 rfl ?_
  refine xw_icmp_eq_N (pc := 1479) (tgt := 1484) C dL_law_1479 (by decide) (by omega) (by omega) (fun _ => ?_) (fun c => absurd rfl c)
  refine xw_iload (pc := 1484) C 6 dL_law_1484 rfl ?_
  refine xw_if_ne_N (pc := 1486) (tgt := 1501) C dL_law_1486 (by decide) (by omega) (fun _ => xw_goto (pc := 1501) (tgt := 1670) C dL_law_1501 (by decide) (xw_lv [0, 1, 2, 3, 4, 5] rfl kk)) (fun c => ?_)
  refine xw_aload_n (pc := 1489) C 3 dL_law_1489 rfl ?_
  refine xw_iconst_N (pc := 1490) C 0 dL_law_1490 rfl ?_
  refine xw_lald (pc := 1491) C 5 1 rfl rfl dL_law_1491 ?_
  refine xw_iload (pc := 1492) C 7 dL_law_1492 rfl ?_
  refine xw_i2l (pc := 1494) C dL_law_1494 ?_
  refine xw_lcmp (pc := 1495) C (heq c) dL_law_1495 ?_
  refine xw_if_eq_N (pc := 1496) (tgt := 1501) C dL_law_1496 (by decide) (by decide) (fun _ => xw_goto (pc := 1501) (tgt := 1670) C dL_law_1501 (by decide) (xw_lv [0, 1, 2, 3, 4, 5] rfl kk)) (fun c => absurd rfl c)

set_option maxHeartbeats 4000000 in
set_option maxRecDepth 100000 in
theorem g_tones {φ : Fx} {l : Launch} {D : va_G} {cI cJ cD : ClassId} {b L hx hm r d o od i k nn : Nat} {xs : Nat → Int32} (C : xc φ l room_1 D vwCl [(cI, .int), (cJ, .long), (cD, .double)] 9 cL_law RL wsL_law) (Zc : xzc φ) (X : xsx φ b L xs) (hL : L ≤ 2048) (hi : i + 3 < L) (hk : k + 1 ≤ 1042) (hnn : nn + 6 ≤ 8434) {a n p bb w wi ni n1 p1 b1 w1 wi1 ni1 th n2 p2 w2 b2 n3 p3 w3 b3 kc fr lo : Nat} {A A1 B M B1 M1 : Nat → Nat} {f f1 : Nat → Int64} {g : Nat → UInt64} {z1 z2 : Int} {y : Bool} (e1 : (xs (i + 1)).toInt = z1) (e2 : (xs (i + 2)).toInt = z2) (hrm : fr ≤ 10 ∧ lo ≤ 300) (hM1 : CZ l yL_tones wsL_tones (rmX 8 135) D vwCl [(cI, .int), (cJ, .long)] [.ref hx, iV z1, iV z2, .ref o] (wX cI hx a n p bb w wi ni A ++ wO cJ o f) (PD (some (nV kc)) (wO cJ o f1 ++ wX cI hx a n1 p1 b1 w1 wi1 ni1 A1)) 1 6) (hM2 : CT l yX1_tones wsX1_tones (rmN fr lo) D vwCl [(cI, .int)] [.ref hm, iV z1, iV z2] (wM cI hm r d th n2 p2 w2 b2 B M) (PD (some (bV y)) (wM cI hm r d kc n3 p3 w3 b3 B1 M1)) 0 0) (hkc : kc ≤ 2) (heq : kc = 0 → f1 0 = (if y = true then 1 else 0)) (kk : xw φ (k + 1) (nn + 6) (wX cI hx a n1 p1 b1 w1 wi1 ni1 A1 ++ (wM cI hm r d kc n3 p3 w3 b3 B1 M1 ++ (wO cJ o f1 ++ wE cD od g))) 1670 [(0, .ref b), (1, .ref hx), (2, .ref hm), (3, .ref o), (4, .ref od), (5, nV i)] []) : xw φ k nn (wX cI hx a n p bb w wi ni A ++ (wM cI hm r d th n2 p2 w2 b2 B M ++ (wO cJ o f ++ wE cD od g))) 1504 [(0, .ref b), (1, .ref hx), (2, .ref hm), (3, .ref o), (4, .ref od), (5, nV i)] [] := by
  subst e1
  subst e2
  refine xw_aload_n (pc := 1504) C 1 dL_law_1504 rfl ?_
  refine xw_aload_n (pc := 1505) C 0 dL_law_1505 rfl ?_
  refine xw_iload (pc := 1506) C 5 dL_law_1506 rfl ?_
  refine xw_iconst_N (pc := 1508) C 1 dL_law_1508 rfl ?_
  refine xw_iadd_N (pc := 1509) C dL_law_1509 ?_
  refine xw_sld (pc := 1510) C X (i + 1) rfl (by omega) (by omega) dL_law_1510 ?_
  refine xw_aload_n (pc := 1511) C 0 dL_law_1511 rfl ?_
  refine xw_iload (pc := 1512) C 5 dL_law_1512 rfl ?_
  refine xw_iconst_N (pc := 1514) C 2 dL_law_1514 rfl ?_
  refine xw_iadd_N (pc := 1515) C dL_law_1515 ?_
  refine xw_sld (pc := 1516) C X (i + 2) rfl (by omega) (by omega) dL_law_1516 ?_
  refine xw_aload_n (pc := 1517) C 3 dL_law_1517 rfl ?_
  refine xw_Z (pc := 1518) (na := 4) (rest := []) (wc := wX cI hx a n p bb w wi ni A ++ wO cJ o f) (wr := wM cI hm r d th n2 p2 w2 b2 B M ++ wE cD od g) C Zc [0, 1, 5] [2, 3, 4, 6] [0, 1] hM1 gL_law_L_tones rfl rfl rfl rfl (by decide +kernel) ⟨(Nat.le_of_ble_eq_true rfl), (Nat.le_of_ble_eq_true rfl)⟩ rfl rfl rfl ⟨rfl, rfl⟩ (by decide) rfl rfl (Nat.le_of_ble_eq_true rfl) dL_law_1518 ⟨hk, hnn⟩ (fun v9 w9 hp9 => ?_)
  obtain ⟨rfl, rfl⟩ := hp9
  refine xw_sub (w' := wX cI hx a n1 p1 b1 w1 wi1 ni1 A1 ++ (wM cI hm r d th n2 p2 w2 b2 B M ++ (wO cJ o f1 ++ wE cD od g))) [5, 6, 0, 1, 2, 4, 3] (by decide) rfl rfl ?_
  refine xw_st (st' := [nV kc]) rfl ?_
  refine xw_istore (pc := 1521) (lv' := [(0, .ref b), (1, .ref hx), (2, .ref hm), (3, .ref o), (4, .ref od), (5, nV i), (6, nV kc)]) C [1, 2, 3, 4, 5, 6, 0] dL_law_1521 (by decide) rfl ?_
  refine xw_aload_n (pc := 1523) C 2 dL_law_1523 rfl ?_
  refine xw_aload_n (pc := 1524) C 0 dL_law_1524 rfl ?_
  refine xw_iload (pc := 1525) C 5 dL_law_1525 rfl ?_
  refine xw_iconst_N (pc := 1527) C 1 dL_law_1527 rfl ?_
  refine xw_iadd_N (pc := 1528) C dL_law_1528 ?_
  refine xw_sld (pc := 1529) C X (i + 1) rfl (by omega) (by omega) dL_law_1529 ?_
  refine xw_aload_n (pc := 1530) C 0 dL_law_1530 rfl ?_
  refine xw_iload (pc := 1531) C 5 dL_law_1531 rfl ?_
  refine xw_iconst_N (pc := 1533) C 2 dL_law_1533 rfl ?_
  refine xw_iadd_N (pc := 1534) C dL_law_1534 ?_
  refine xw_sld (pc := 1535) C X (i + 2) rfl (by omega) (by omega) dL_law_1535 ?_
  refine xw_VF (pc := 1536) (q0 := 0) (na := 2) (rest := []) (wc := wM cI hm r d th n2 p2 w2 b2 B M) (wr := wX cI hx a n1 p1 b1 w1 wi1 ni1 A1 ++ (wO cJ o f1 ++ wE cD od g)) C [2, 3, 4] [0, 1, 5, 6] [0] hM2 gL_law_X1_tones rfl rfl rfl rfl (by decide +kernel) ⟨Nat.add_le_add_right hrm.1 1, Nat.le_trans (Nat.add_le_add_left hrm.2 _) (Nat.le_of_ble_eq_true rfl)⟩ rfl rfl rfl ⟨rfl, rfl⟩ (by decide) rfl rfl rfl rfl (Nat.le_of_ble_eq_true rfl) dL_law_1536 ⟨hk, hnn⟩ (fun v9 w9 hp9 => ?_)
  obtain ⟨rfl, rfl⟩ := hp9
  refine xw_sub (w' := wX cI hx a n1 p1 b1 w1 wi1 ni1 A1 ++ (wM cI hm r d kc n3 p3 w3 b3 B1 M1 ++ (wO cJ o f1 ++ wE cD od g))) [0, 1, 4, 5, 6, 2, 3] (by decide) rfl rfl ?_
  refine xw_st (st' := [bV y]) rfl ?_
  refine xw_istore (pc := 1539) (lv' := [(0, .ref b), (1, .ref hx), (2, .ref hm), (3, .ref o), (4, .ref od), (5, nV i), (6, nV kc), (7, bV y)]) C [1, 2, 3, 4, 5, 6, 7, 0] dL_law_1539 (by decide) rfl ?_
  refine xw_aload_n (pc := 1541) C 2 dL_law_1541 rfl ?_
  refine xw_VF (pc := 1542) (q0 := 0) (na := 0) (rest := []) (wc := wM cI hm r d kc n3 p3 w3 b3 B1 M1) (wr := wX cI hx a n1 p1 b1 w1 wi1 ni1 A1 ++ (wO cJ o f1 ++ wE cD od g)) C [2, 3, 4] [0, 1, 5, 6] [0] m_X1_thrown gL_law_X1_thrown rfl rfl rfl rfl (by decide +kernel) ⟨(Nat.le_of_ble_eq_true rfl), (Nat.le_of_ble_eq_true rfl)⟩ rfl rfl rfl ⟨rfl, rfl⟩ (by decide) rfl rfl rfl rfl (Nat.le_of_ble_eq_true rfl) dL_law_1542 ⟨hk, hnn⟩ (fun v9 w9 hp9 => ?_)
  obtain ⟨rfl, rfl⟩ := hp9
  refine xw_sub (w' := wX cI hx a n1 p1 b1 w1 wi1 ni1 A1 ++ (wM cI hm r d kc n3 p3 w3 b3 B1 M1 ++ (wO cJ o f1 ++ wE cD od g))) [0, 1, 4, 5, 6, 2, 3] (by decide) rfl rfl ?_
  refine xw_st (st' := [nV kc]) rfl ?_
  refine xw_iload (pc := 1545) C 6 dL_law_1545 rfl ?_
  refine xw_icmp_eq_N (pc := 1547) (tgt := 1552) C dL_law_1547 (by decide) (by omega) (by omega) (fun _ => ?_) (fun c => absurd rfl c)
  refine xw_iload (pc := 1552) C 6 dL_law_1552 rfl ?_
  refine xw_if_ne_N (pc := 1554) (tgt := 1576) C dL_law_1554 (by decide) (by omega) (fun _ => xw_goto (pc := 1576) (tgt := 1670) C dL_law_1576 (by decide) (xw_lv [0, 1, 2, 3, 4, 5] rfl kk)) (fun c => ?_)
  refine xw_aload_n (pc := 1557) C 3 dL_law_1557 rfl ?_
  refine xw_iconst_N (pc := 1558) C 0 dL_law_1558 rfl ?_
  refine xw_lald (pc := 1559) C 5 1 rfl rfl dL_law_1559 ?_
  refine xw_iload (pc := 1560) C 7 dL_law_1560 rfl ?_
  refine xw_nzL (pc := 1562) C dL_law_1562 dL_law_1565 dL_law_1566 dL_law_1569 ?_
  refine xw_lcmp (pc := 1570) C (heq c) dL_law_1570 ?_
  refine xw_if_eq_N (pc := 1571) (tgt := 1576) C dL_law_1571 (by decide) (by decide) (fun _ => xw_goto (pc := 1576) (tgt := 1670) C dL_law_1576 (by decide) (xw_lv [0, 1, 2, 3, 4, 5] rfl kk)) (fun c => absurd rfl c)

set_option maxHeartbeats 4000000 in
set_option maxRecDepth 100000 in
theorem g_mean {φ : Fx} {l : Launch} {D : va_G} {cI cJ cD : ClassId} {b L hx hm r d o od i k nn : Nat} {xs : Nat → Int32} (C : xc φ l room_1 D vwCl [(cI, .int), (cJ, .long), (cD, .double)] 9 cL_law RL wsL_law) (Zc : xzc φ) (X : xsx φ b L xs) (hL : L ≤ 2048) (hi : i + 3 < L) (hk : k + 1 ≤ 1042) (hnn : nn + 6 ≤ 8434) {a n p bb w wi ni n1 p1 b1 w1 wi1 ni1 th n2 p2 w2 b2 n3 p3 w3 b3 kc fr lo : Nat} {A A1 B M B1 M1 : Nat → Nat} {f : Nat → Int64} {g g1 : Nat → UInt64} {z1 : Int} {y : UInt64} (e1 : (xs (i + 1)).toInt = z1) (hrm : fr ≤ 10 ∧ lo ≤ 300) (hM1 : CZ l yL_mean wsL_mean (rmX 8 124) D vwCl [(cI, .int), (cD, .double)] [.ref hx, iV z1, .ref od] (wX cI hx a n p bb w wi ni A ++ wE cD od g) (PD (some (nV kc)) (wE cD od g1 ++ wX cI hx a n1 p1 b1 w1 wi1 ni1 A1)) 1 6) (hM2 : CT l yX1_mean wsX1_mean (rmN fr lo) D vwCl [(cI, .int)] [.ref hm, iV z1] (wM cI hm r d th n2 p2 w2 b2 B M) (PD (some (.double y)) (wM cI hm r d kc n3 p3 w3 b3 B1 M1)) 0 0) (hkc : kc ≤ 2) (heq : kc = 0 → FP.dcmp (g1 0) y = some .eq) (kk : xw φ (k + 1) (nn + 6) (wX cI hx a n1 p1 b1 w1 wi1 ni1 A1 ++ (wM cI hm r d kc n3 p3 w3 b3 B1 M1 ++ (wO cJ o f ++ wE cD od g1))) 1670 [(0, .ref b), (1, .ref hx), (2, .ref hm), (3, .ref o), (4, .ref od), (5, nV i)] []) : xw φ k nn (wX cI hx a n p bb w wi ni A ++ (wM cI hm r d th n2 p2 w2 b2 B M ++ (wO cJ o f ++ wE cD od g))) 1579 [(0, .ref b), (1, .ref hx), (2, .ref hm), (3, .ref o), (4, .ref od), (5, nV i)] [] := by
  subst e1
  refine xw_aload_n (pc := 1579) C 1 dL_law_1579 rfl ?_
  refine xw_aload_n (pc := 1580) C 0 dL_law_1580 rfl ?_
  refine xw_iload (pc := 1581) C 5 dL_law_1581 rfl ?_
  refine xw_iconst_N (pc := 1583) C 1 dL_law_1583 rfl ?_
  refine xw_iadd_N (pc := 1584) C dL_law_1584 ?_
  refine xw_sld (pc := 1585) C X (i + 1) rfl (by omega) (by omega) dL_law_1585 ?_
  refine xw_aload (pc := 1586) C 4 dL_law_1586 rfl ?_
  refine xw_Z (pc := 1588) (na := 3) (rest := []) (wc := wX cI hx a n p bb w wi ni A ++ wE cD od g) (wr := wM cI hm r d th n2 p2 w2 b2 B M ++ wO cJ o f) C Zc [0, 1, 6] [2, 3, 4, 5] [0, 2] hM1 gL_law_L_mean rfl rfl rfl rfl (by decide +kernel) ⟨(Nat.le_of_ble_eq_true rfl), (Nat.le_of_ble_eq_true rfl)⟩ rfl rfl rfl ⟨rfl, rfl⟩ (by decide) rfl rfl (Nat.le_of_ble_eq_true rfl) dL_law_1588 ⟨hk, hnn⟩ (fun v9 w9 hp9 => ?_)
  obtain ⟨rfl, rfl⟩ := hp9
  refine xw_sub (w' := wX cI hx a n1 p1 b1 w1 wi1 ni1 A1 ++ (wM cI hm r d th n2 p2 w2 b2 B M ++ (wO cJ o f ++ wE cD od g1))) [5, 6, 0, 1, 2, 3, 4] (by decide) rfl rfl ?_
  refine xw_st (st' := [nV kc]) rfl ?_
  refine xw_istore (pc := 1591) (lv' := [(0, .ref b), (1, .ref hx), (2, .ref hm), (3, .ref o), (4, .ref od), (5, nV i), (6, nV kc)]) C [1, 2, 3, 4, 5, 6, 0] dL_law_1591 (by decide) rfl ?_
  refine xw_aload_n (pc := 1593) C 2 dL_law_1593 rfl ?_
  refine xw_aload_n (pc := 1594) C 0 dL_law_1594 rfl ?_
  refine xw_iload (pc := 1595) C 5 dL_law_1595 rfl ?_
  refine xw_iconst_N (pc := 1597) C 1 dL_law_1597 rfl ?_
  refine xw_iadd_N (pc := 1598) C dL_law_1598 ?_
  refine xw_sld (pc := 1599) C X (i + 1) rfl (by omega) (by omega) dL_law_1599 ?_
  refine xw_VF (pc := 1600) (q0 := 0) (na := 1) (rest := []) (wc := wM cI hm r d th n2 p2 w2 b2 B M) (wr := wX cI hx a n1 p1 b1 w1 wi1 ni1 A1 ++ (wO cJ o f ++ wE cD od g1)) C [2, 3, 4] [0, 1, 5, 6] [0] hM2 gL_law_X1_mean rfl rfl rfl rfl (by decide +kernel) ⟨Nat.add_le_add_right hrm.1 1, Nat.le_trans (Nat.add_le_add_left hrm.2 _) (Nat.le_of_ble_eq_true rfl)⟩ rfl rfl rfl ⟨rfl, rfl⟩ (by decide) rfl rfl rfl rfl (Nat.le_of_ble_eq_true rfl) dL_law_1600 ⟨hk, hnn⟩ (fun v9 w9 hp9 => ?_)
  obtain ⟨rfl, rfl⟩ := hp9
  refine xw_sub (w' := wX cI hx a n1 p1 b1 w1 wi1 ni1 A1 ++ (wM cI hm r d kc n3 p3 w3 b3 B1 M1 ++ (wO cJ o f ++ wE cD od g1))) [0, 1, 4, 5, 6, 2, 3] (by decide) rfl rfl ?_
  refine xw_st (st' := [.double y]) rfl ?_
  refine xw_dstore (pc := 1603) (lv' := [(0, .ref b), (1, .ref hx), (2, .ref hm), (3, .ref o), (4, .ref od), (5, nV i), (6, nV kc), (7, .double y)]) C [1, 2, 3, 4, 5, 6, 7, 0] dL_law_1603 (by decide) rfl ?_
  refine xw_aload_n (pc := 1605) C 2 dL_law_1605 rfl ?_
  refine xw_VF (pc := 1606) (q0 := 0) (na := 0) (rest := []) (wc := wM cI hm r d kc n3 p3 w3 b3 B1 M1) (wr := wX cI hx a n1 p1 b1 w1 wi1 ni1 A1 ++ (wO cJ o f ++ wE cD od g1)) C [2, 3, 4] [0, 1, 5, 6] [0] m_X1_thrown gL_law_X1_thrown rfl rfl rfl rfl (by decide +kernel) ⟨(Nat.le_of_ble_eq_true rfl), (Nat.le_of_ble_eq_true rfl)⟩ rfl rfl rfl ⟨rfl, rfl⟩ (by decide) rfl rfl rfl rfl (Nat.le_of_ble_eq_true rfl) dL_law_1606 ⟨hk, hnn⟩ (fun v9 w9 hp9 => ?_)
  obtain ⟨rfl, rfl⟩ := hp9
  refine xw_sub (w' := wX cI hx a n1 p1 b1 w1 wi1 ni1 A1 ++ (wM cI hm r d kc n3 p3 w3 b3 B1 M1 ++ (wO cJ o f ++ wE cD od g1))) [0, 1, 4, 5, 6, 2, 3] (by decide) rfl rfl ?_
  refine xw_st (st' := [nV kc]) rfl ?_
  refine xw_iload (pc := 1609) C 6 dL_law_1609 rfl ?_
  refine xw_icmp_eq_N (pc := 1611) (tgt := 1616) C dL_law_1611 (by decide) (by omega) (by omega) (fun _ => ?_) (fun c => absurd rfl c)
  refine xw_iload (pc := 1616) C 6 dL_law_1616 rfl ?_
  refine xw_if_ne_N (pc := 1618) (tgt := 1653) C dL_law_1618 (by decide) (by omega) (fun _ => xw_goto (pc := 1653) (tgt := 1670) C dL_law_1653 (by decide) (xw_lv [0, 1, 2, 3, 4, 5] rfl kk)) (fun c => ?_)
  refine xw_aload (pc := 1621) C 4 dL_law_1621 rfl ?_
  refine xw_iconst_N (pc := 1623) C 0 dL_law_1623 rfl ?_
  refine xw_dald (pc := 1624) C 6 2 rfl rfl dL_law_1624 ?_
  refine xw_dload (pc := 1625) C 7 dL_law_1625 rfl ?_
  refine xw_dcmp (pc := 1627) C dL_law_1627 (heq c) ?_
  refine xw_if_eq_N (pc := 1628) (tgt := 1653) C dL_law_1628 (by decide) (by decide) (fun _ => xw_goto (pc := 1653) (tgt := 1670) C dL_law_1653 (by decide) (xw_lv [0, 1, 2, 3, 4, 5] rfl kk)) (fun c => absurd rfl c)

set_option maxHeartbeats 4000000 in
set_option maxRecDepth 100000 in
theorem c_digest {φ : Fx} {l : Launch} {D : va_G} {cI cJ cD : ClassId} {b L hx hm r d o od i k nn : Nat} {xs : Nat → Int32} (C : xc φ l room_1 D vwCl [(cI, .int), (cJ, .long), (cD, .double)] 9 cL_law RL wsL_law) (Zc : xzc φ) (X : xsx φ b L xs) (hL : L ≤ 2048) (hi : i + 3 < L) (hk : k + 1 ≤ 1042) (hnn : nn + 6 ≤ 8434) {a n p th : Nat} {A B M : Nat → Nat} {f : Nat → Int64} {g : Nat → UInt64} (I : LI n p A B M) (kk : ∀ (n p th : Nat) (A B M : Nat → Nat) (f : Nat → Int64) (g : Nat → UInt64), LI n p A B M → xw φ (k + 1) (nn + 6) (wL cI cJ cD hx a hm r d o od n p th A B M f g) 1670 [(0, .ref b), (1, .ref hx), (2, .ref hm), (3, .ref o), (4, .ref od), (5, nV i)] []) : xw φ k nn (wL cI cJ cD hx a hm r d o od n p th A B M f g) 1656 [(0, .ref b), (1, .ref hx), (2, .ref hm), (3, .ref o), (4, .ref od), (5, nV i)] [] := by
  obtain ⟨hro, hA, hAB, hB, hAp, hM⟩ := id I
  have hn3 := hro.1
  have hp := hro.2.1
  have hp5 := hro.2.2.1
  have hn16 := lt3 hn3
  have hw := rok_w hro
  refine xw_wd (Nat.le_add_right k 1) (Nat.le_add_right nn 6) ?_
  refine xw_aload_n (pc := 1656) C 1 dL_law_1656 rfl ?_
  refine xw_VF (pc := 1657) (q0 := 0) (na := 0) (rest := []) (wc := wX cI hx a n p (bt n) (rt n p) (rt n p ^ (p - 2) % p) (n ^ (p - 2) % p) A) (wr := wM cI hm r d th n p (rt n p) (bt n) B M ++ (wO cJ o f ++ wE cD od g)) C [0, 1] [2, 3, 4, 5, 6] [0] (m_X0_digest (by omega) hp5 hn3 hA (by omega)) gL_law_X0_digest rfl rfl rfl rfl (by decide +kernel) ⟨(Nat.le_of_ble_eq_true rfl), (Nat.le_of_ble_eq_true rfl)⟩ rfl rfl rfl ⟨rfl, rfl⟩ (by decide) rfl rfl rfl rfl (Nat.le_of_ble_eq_true rfl) dL_law_1657 ⟨hk, hnn⟩ (fun v9 w9 hp9 => ?_)
  obtain ⟨A9, hA91, hA92, rfl, rfl⟩ := hp9
  refine xw_sub (w' := wL cI cJ cD hx a hm r d o od n p th A9 B M f g) [5, 6, 0, 1, 2, 3, 4] (by decide) rfl rfl ?_
  refine xw_aload_n (pc := 1660) C 2 dL_law_1660 rfl ?_
  refine xw_VF (pc := 1661) (q0 := 0) (na := 0) (wc := wM cI hm r d th n p (rt n p) (bt n) B M) (wr := wX cI hx a n p (bt n) (rt n p) (rt n p ^ (p - 2) % p) (n ^ (p - 2) % p) A9 ++ (wO cJ o f ++ wE cD od g)) C [2, 3, 4] [0, 1, 5, 6] [0] (m_X1_digest hro hB hM hw.1 hw.2) gL_law_X1_digest rfl rfl rfl rfl (by decide +kernel) ⟨(Nat.le_of_ble_eq_true rfl), (Nat.le_of_ble_eq_true rfl)⟩ rfl rfl rfl ⟨rfl, rfl⟩ (by decide) rfl rfl rfl rfl (Nat.le_of_ble_eq_true rfl) dL_law_1661 ⟨hk, hnn⟩ (fun v9 w9 hp9 => ?_)
  obtain ⟨M9, hM9, rfl, rfl⟩ := hp9
  refine xw_sub (w' := wL cI cJ cD hx a hm r d o od n p 0 A9 B M9 f g) [0, 1, 4, 5, 6, 2, 3] (by decide) rfl rfl ?_
  refine xw_lcmp (pc := 1664) C (drs_cg (by omega) (by omega) hAB 4 (Nat.le_refl 4)) dL_law_1664 ?_
  exact xw_if_eq_N (pc := 1665) (tgt := 1670) C dL_law_1665 (by decide) (by decide) (fun _ => kk _ _ _ _ _ _ _ _ (LI_M (LI_A I hA92 hA91) hM9)) (fun c => absurd rfl c)
