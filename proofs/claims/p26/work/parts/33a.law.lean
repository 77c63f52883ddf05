set_option maxHeartbeats 4000000 in
set_option maxRecDepth 100000 in
theorem law_B {φ : Fx} {l : Launch} {D : va_G} {cI cQ : ClassId} {sc h a o rr n p : Nat} {g A : Nat → Nat} (C : xc φ l room_1 D vwCl [(cI, .int), (cQ, .array .int)] 19 cL_law RL wsL_law) (Y : xyc sc φ) (hS : SI n p A) (k nn : Nat) (hk : k ≤ 3000) (hnn : nn ≤ 30000) {i : Nat} {x : Int32} (hi : i < 14)
    (kk : ∀ (d0 : Int64) (A1 : Nat → Nat), SI n p A1 → DG n p A1 = d0 → xw φ k nn (LV cI cQ h a o rr n p g A1) 292 [(0, .ref sc), (1, .ref h), (2, .ref o), (3, nV i), (4, .int x), (5, .long d0), (7, nV n), (8, nV p)] []) : xw φ k nn (LV cI cQ h a o rr n p g A) 80 [(0, .ref sc), (1, .ref h), (2, .ref o), (3, nV i), (4, .int x)] [] := by
  obtain ⟨hrg, hA, hAp⟩ := id hS
  obtain ⟨hn, hp4, hp5, hp1, hp0, hn16, hnp, hr1, hrl, hfer⟩ := rgs_o hrg
  have hn3 := lt3 hn
  obtain ⟨b1, b2, b3, b4⟩ := rgb_o hrg
  have hbt := bt_le n
  have hwl : rt n p ^ (p - 2) % p < p := Nat.mod_lt _ hp0
  have hnl : n ^ (p - 2) % p < p := Nat.mod_lt _ hp0
  have hb1 : rt n p * (rt n p ^ (p - 2) % p) < 2147483648 := mb0 (by omega) (by omega)
  have hb2 : n * (n ^ (p - 2) % p) < 2147483648 := mb0 (by omega) (by omega)
  refine xw_aload_n (pc := 80) C 1 dL_law_80 rfl ?_
  refine xw_VF (pc := 81) (q0 := 0) (na := 0) (rest := []) (wc := WX cI h a n p A) (wr := wS cI cQ o n p (rt n p) rr g A ++ []) C [6, 7] [0, 1, 2, 3, 4, 5] [0] (m_X0_digest hp0 hp5 hn hA (by omega)) gL_law_X0_digest rfl rfl rfl rfl (by decide +kernel) ⟨(Nat.le_of_ble_eq_true rfl), (Nat.le_of_ble_eq_true rfl)⟩ rfl rfl rfl ⟨rfl, rfl⟩ (by decide) rfl rfl rfl rfl (Nat.le_of_ble_eq_true rfl) dL_law_81 ⟨by show k + 0 ≤ 759041; omega, by show nn + 0 ≤ 6824346; omega⟩ (fun v1 w1 hp1 => ?_)
  obtain ⟨A_1, e_A_1, l_A_1, rfl, rfl⟩ := hp1
  refine xw_st (st' := [.long (DG n p A)]) rfl ?_
  refine xw_wo (w' := LW cI cQ o rr n p (rt n p) g A [] (WX cI h a n p A_1)) rfl ?_
  have hS_A_1 : SI n p A_1 := ⟨hrg, l_A_1, fun j hj => by rw [e_A_1 j hj]; exact hAp j hj⟩
  have hAp_A_1 := hS_A_1.2.2
  have ls_A_1 : LiS n A A_1 := fun i hi k hk => (e_A_1 _ (by omega)).symm
  refine xw_sB A_1 (ls_A_1) ?_
  obtain ⟨d_2, hd0⟩ : ∃ d, DG n p A = d := ⟨_, rfl⟩
  refine xw_st (st' := [.long d_2]) (by rw [hd0]) ?_
  have hd_A_1 : DG n p A_1 = d_2 := (DG_l (by omega) ls_A_1).symm.trans hd0
  refine xw_lstore (pc := 84) (lv' := [(0, .ref sc), (1, .ref h), (2, .ref o), (3, nV i), (4, .int x), (5, .long d_2)]) C [1, 2, 3, 4, 5, 0] dL_law_84 (by decide) rfl ?_
  refine xw_aload_n (pc := 86) C 1 dL_law_86 rfl ?_
  refine xw_iconst_N (pc := 87) C 0 dL_law_87 rfl ?_
  refine xw_VF (pc := 88) (q0 := 0) (na := 1) (rest := []) (wc := WX cI h a n p A_1) (wr := wS cI cQ o n p (rt n p) rr g A_1 ++ []) C [6, 7] [0, 1, 2, 3, 4, 5] [0] (m_X0_count 0 (by omega)) gL_law_X0_count rfl rfl rfl rfl (by decide +kernel) ⟨(Nat.le_of_ble_eq_true rfl), (Nat.le_of_ble_eq_true rfl)⟩ rfl rfl rfl ⟨rfl, rfl⟩ (by decide) rfl rfl rfl rfl (Nat.le_of_ble_eq_true rfl) dL_law_88 ⟨by show k + 0 ≤ 759041; omega, by show nn + 0 ≤ 6824346; omega⟩ (fun v1 w1 hp1 => ?_)
  obtain ⟨rfl, rfl⟩ := hp1
  refine xw_st (st' := [nV n]) rfl ?_
  refine xw_wo (w' := LW cI cQ o rr n p (rt n p) g A_1 [] (WX cI h a n p A_1)) rfl ?_
  refine xw_istore (pc := 91) (lv' := [(0, .ref sc), (1, .ref h), (2, .ref o), (3, nV i), (4, .int x), (5, .long d_2), (7, nV n)]) C [1, 2, 3, 4, 5, 6, 0] dL_law_91 (by decide) rfl ?_
  refine xw_aload_n (pc := 93) C 1 dL_law_93 rfl ?_
  refine xw_iconst_N (pc := 94) C 1 dL_law_94 rfl ?_
  refine xw_VF (pc := 95) (q0 := 0) (na := 1) (rest := []) (wc := WX cI h a n p A_1) (wr := wS cI cQ o n p (rt n p) rr g A_1 ++ []) C [6, 7] [0, 1, 2, 3, 4, 5] [0] (m_X0_count 1 (by omega)) gL_law_X0_count rfl rfl rfl rfl (by decide +kernel) ⟨(Nat.le_of_ble_eq_true rfl), (Nat.le_of_ble_eq_true rfl)⟩ rfl rfl rfl ⟨rfl, rfl⟩ (by decide) rfl rfl rfl rfl (Nat.le_of_ble_eq_true rfl) dL_law_95 ⟨by show k + 0 ≤ 759041; omega, by show nn + 0 ≤ 6824346; omega⟩ (fun v1 w1 hp1 => ?_)
  obtain ⟨rfl, rfl⟩ := hp1
  refine xw_st (st' := [nV p]) rfl ?_
  refine xw_wo (w' := LW cI cQ o rr n p (rt n p) g A_1 [] (WX cI h a n p A_1)) rfl ?_
  refine xw_istore (pc := 98) (lv' := [(0, .ref sc), (1, .ref h), (2, .ref o), (3, nV i), (4, .int x), (5, .long d_2), (7, nV n), (8, nV p)]) C [1, 2, 3, 4, 5, 6, 7, 0] dL_law_98 (by decide) rfl ?_
  refine xw_aload_n (pc := 100) C 1 dL_law_100 rfl ?_
  refine xw_aload_n (pc := 101) C 1 dL_law_101 rfl ?_
  refine xw_iconst_N (pc := 102) C 2 dL_law_102 rfl ?_
  refine xw_VF (pc := 103) (q0 := 0) (na := 1) (rest := [.ref h]) (wc := WX cI h a n p A_1) (wr := wS cI cQ o n p (rt n p) rr g A_1 ++ []) C [6, 7] [0, 1, 2, 3, 4, 5] [0] (m_X0_count 2 (by omega)) gL_law_X0_count rfl rfl rfl rfl (by decide +kernel) ⟨(Nat.le_of_ble_eq_true rfl), (Nat.le_of_ble_eq_true rfl)⟩ rfl rfl rfl ⟨rfl, rfl⟩ (by decide) rfl rfl rfl rfl (Nat.le_of_ble_eq_true rfl) dL_law_103 ⟨by show k + 0 ≤ 759041; omega, by show nn + 0 ≤ 6824346; omega⟩ (fun v1 w1 hp1 => ?_)
  obtain ⟨rfl, rfl⟩ := hp1
  refine xw_st (st' := [nV (rt n p), .ref h]) rfl ?_
  refine xw_wo (w' := LW cI cQ o rr n p (rt n p) g A_1 [] (WX cI h a n p A_1)) rfl ?_
  refine xw_VF (pc := 106) (q0 := 0) (na := 1) (rest := []) (wc := WX cI h a n p A_1) (wr := wS cI cQ o n p (rt n p) rr g A_1 ++ []) C [6, 7] [0, 1, 2, 3, 4, 5] [0] (m_X0_order hp1 hp5 (rt n p) (by omega) (by omega)) gL_law_X0_order rfl rfl rfl rfl (by decide +kernel) ⟨(Nat.le_of_ble_eq_true rfl), (Nat.le_of_ble_eq_true rfl)⟩ rfl rfl rfl ⟨rfl, rfl⟩ (by decide) rfl rfl rfl rfl (Nat.le_of_ble_eq_true rfl) dL_law_106 ⟨by show k + 0 ≤ 759041; omega, by show nn + 0 ≤ 6824346; omega⟩ (fun v1 w1 hp1 => ?_)
  obtain ⟨rfl, rfl⟩ := hp1
  refine xw_st (st' := [nV (od p (rt n p))]) rfl ?_
  refine xw_wo (w' := LW cI cQ o rr n p (rt n p) g A_1 [] (WX cI h a n p A_1)) rfl ?_
  refine xw_iload (pc := 109) C 6 dL_law_109 rfl ?_
  refine xw_ne_same (pc := 111) (tgt := 199) C (congrArg (fun z : Nat => iI (z : Int)) (show od p (rt n p) = n from od_rt hrg)) dL_law_111 (by decide) ?_
  refine xw_aload_n (pc := 114) C 1 dL_law_114 rfl ?_
  refine xw_iconst_N (pc := 115) C 2 dL_law_115 rfl ?_
  refine xw_VF (pc := 116) (q0 := 0) (na := 1) (rest := []) (wc := WX cI h a n p A_1) (wr := wS cI cQ o n p (rt n p) rr g A_1 ++ []) C [6, 7] [0, 1, 2, 3, 4, 5] [0] (m_X0_count 2 (by omega)) gL_law_X0_count rfl rfl rfl rfl (by decide +kernel) ⟨(Nat.le_of_ble_eq_true rfl), (Nat.le_of_ble_eq_true rfl)⟩ rfl rfl rfl ⟨rfl, rfl⟩ (by decide) rfl rfl rfl rfl (Nat.le_of_ble_eq_true rfl) dL_law_116 ⟨by show k + 0 ≤ 759041; omega, by show nn + 0 ≤ 6824346; omega⟩ (fun v1 w1 hp1 => ?_)
  obtain ⟨rfl, rfl⟩ := hp1
  refine xw_st (st' := [nV (rt n p)]) rfl ?_
  refine xw_wo (w' := LW cI cQ o rr n p (rt n p) g A_1 [] (WX cI h a n p A_1)) rfl ?_
  refine xw_aload_n (pc := 119) C 1 dL_law_119 rfl ?_
  refine xw_iconst_N (pc := 120) C 3 dL_law_120 rfl ?_
  refine xw_VF (pc := 121) (q0 := 0) (na := 1) (rest := [nV (rt n p)]) (wc := WX cI h a n p A_1) (wr := wS cI cQ o n p (rt n p) rr g A_1 ++ []) C [6, 7] [0, 1, 2, 3, 4, 5] [0] (m_X0_count 3 (by omega)) gL_law_X0_count rfl rfl rfl rfl (by decide +kernel) ⟨(Nat.le_of_ble_eq_true rfl), (Nat.le_of_ble_eq_true rfl)⟩ rfl rfl rfl ⟨rfl, rfl⟩ (by decide) rfl rfl rfl rfl (Nat.le_of_ble_eq_true rfl) dL_law_121 ⟨by show k + 0 ≤ 759041; omega, by show nn + 0 ≤ 6824346; omega⟩ (fun v1 w1 hp1 => ?_)
  obtain ⟨rfl, rfl⟩ := hp1
  refine xw_st (st' := [nV ((rt n p) ^ (p - 2) % p), nV (rt n p)]) rfl ?_
  refine xw_wo (w' := LW cI cQ o rr n p (rt n p) g A_1 [] (WX cI h a n p A_1)) rfl ?_
  refine xw_imul_N (pc := 124) C dL_law_124 ?_
  refine xw_iload (pc := 125) C 7 dL_law_125 rfl ?_
  refine xw_irem_N (pc := 127) C dL_law_127 (hb1) (by omega) ?_
  refine xw_iconst_N (pc := 128) C 1 dL_law_128 rfl ?_
  refine xw_ne_same (pc := 129) (tgt := 199) C (congrArg (fun z : Nat => iI (z : Int)) (show ((rt n p) * ((rt n p) ^ (p - 2) % p)) % p = 1 from b2)) dL_law_129 (by decide) ?_
  refine xw_iload (pc := 132) C 6 dL_law_132 rfl ?_
  refine xw_aload_n (pc := 134) C 1 dL_law_134 rfl ?_
  refine xw_iconst_N (pc := 135) C 4 dL_law_135 rfl ?_
  refine xw_VF (pc := 136) (q0 := 0) (na := 1) (rest := [nV n]) (wc := WX cI h a n p A_1) (wr := wS cI cQ o n p (rt n p) rr g A_1 ++ []) C [6, 7] [0, 1, 2, 3, 4, 5] [0] (m_X0_count 4 (by omega)) gL_law_X0_count rfl rfl rfl rfl (by decide +kernel) ⟨(Nat.le_of_ble_eq_true rfl), (Nat.le_of_ble_eq_true rfl)⟩ rfl rfl rfl ⟨rfl, rfl⟩ (by decide) rfl rfl rfl rfl (Nat.le_of_ble_eq_true rfl) dL_law_136 ⟨by show k + 0 ≤ 759041; omega, by show nn + 0 ≤ 6824346; omega⟩ (fun v1 w1 hp1 => ?_)
  obtain ⟨rfl, rfl⟩ := hp1
  refine xw_st (st' := [nV (n ^ (p - 2) % p), nV n]) rfl ?_
  refine xw_wo (w' := LW cI cQ o rr n p (rt n p) g A_1 [] (WX cI h a n p A_1)) rfl ?_
  refine xw_imul_N (pc := 139) C dL_law_139 ?_
  refine xw_iload (pc := 140) C 7 dL_law_140 rfl ?_
  refine xw_irem_N (pc := 142) C dL_law_142 (hb2) (by omega) ?_
  refine xw_iconst_N (pc := 143) C 1 dL_law_143 rfl ?_
  refine xw_ne_same (pc := 144) (tgt := 199) C (congrArg (fun z : Nat => iI (z : Int)) (show (n * (n ^ (p - 2) % p)) % p = 1 from b3)) dL_law_144 (by decide) ?_
  refine xw_iconst_N (pc := 147) C 1 dL_law_147 rfl ?_
  refine xw_aload_n (pc := 148) C 1 dL_law_148 rfl ?_
  refine xw_iconst_N (pc := 149) C 5 dL_law_149 rfl ?_
  refine xw_VF (pc := 150) (q0 := 0) (na := 1) (rest := [nV 1]) (wc := WX cI h a n p A_1) (wr := wS cI cQ o n p (rt n p) rr g A_1 ++ []) C [6, 7] [0, 1, 2, 3, 4, 5] [0] (m_X0_count 5 (by omega)) gL_law_X0_count rfl rfl rfl rfl (by decide +kernel) ⟨(Nat.le_of_ble_eq_true rfl), (Nat.le_of_ble_eq_true rfl)⟩ rfl rfl rfl ⟨rfl, rfl⟩ (by decide) rfl rfl rfl rfl (Nat.le_of_ble_eq_true rfl) dL_law_150 ⟨by show k + 0 ≤ 759041; omega, by show nn + 0 ≤ 6824346; omega⟩ (fun v1 w1 hp1 => ?_)
  obtain ⟨rfl, rfl⟩ := hp1
  refine xw_st (st' := [nV (bt n), nV 1]) rfl ?_
  refine xw_wo (w' := LW cI cQ o rr n p (rt n p) g A_1 [] (WX cI h a n p A_1)) rfl ?_
  refine xw_ishl (pc := 153) (r := iI ((2 ^ bt n : Nat) : Int)) C dL_law_153 (shl_k (bt n) (by omega)) ?_
  refine xw_iload (pc := 154) C 6 dL_law_154 rfl ?_
  refine xw_ne_same (pc := 156) (tgt := 199) C (congrArg (fun z : Nat => iI (z : Int)) (show 2 ^ bt n = n from p2_bt hn)) dL_law_156 (by decide) ?_
  refine xw_aload_n (pc := 159) C 1 dL_law_159 rfl ?_
  refine xw_iload (pc := 160) C 6 dL_law_160 rfl ?_
  refine xw_VF (pc := 162) (q0 := 0) (na := 1) (rest := []) (wc := WX cI h a n p A_1) (wr := wS cI cQ o n p (rt n p) rr g A_1 ++ []) C [6, 7] [0, 1, 2, 3, 4, 5] [0] (m_X0_root hp1 hp5 (by omega) n (by omega)) gL_law_X0_root rfl rfl rfl rfl (by decide +kernel) ⟨(Nat.le_of_ble_eq_true rfl), (Nat.le_of_ble_eq_true rfl)⟩ rfl rfl rfl ⟨rfl, rfl⟩ (by decide) rfl rfl rfl rfl (Nat.le_of_ble_eq_true rfl) dL_law_162 ⟨by show k + 0 ≤ 759041; omega, by show nn + 0 ≤ 6824346; omega⟩ (fun v1 w1 hp1 => ?_)
  obtain ⟨rfl, rfl⟩ := hp1
  refine xw_st (st' := [nV (rt n p ^ n % p)]) rfl ?_
  refine xw_wo (w' := LW cI cQ o rr n p (rt n p) g A_1 [] (WX cI h a n p A_1)) rfl ?_
  refine xw_iconst_N (pc := 165) C 1 dL_law_165 rfl ?_
  refine xw_ne_same (pc := 166) (tgt := 199) C (congrArg (fun z : Nat => iI (z : Int)) (show rt n p ^ n % p = 1 from b1)) dL_law_166 (by decide) ?_
  refine xw_aload_n (pc := 169) C 1 dL_law_169 rfl ?_
  refine xw_iconst_N (pc := 170) C 1 dL_law_170 rfl ?_
  refine xw_VF (pc := 171) (q0 := 0) (na := 1) (rest := []) (wc := WX cI h a n p A_1) (wr := wS cI cQ o n p (rt n p) rr g A_1 ++ []) C [6, 7] [0, 1, 2, 3, 4, 5] [0] (m_X0_root hp1 hp5 (by omega) 1 (by omega)) gL_law_X0_root rfl rfl rfl rfl (by decide +kernel) ⟨(Nat.le_of_ble_eq_true rfl), (Nat.le_of_ble_eq_true rfl)⟩ rfl rfl rfl ⟨rfl, rfl⟩ (by decide) rfl rfl rfl rfl (Nat.le_of_ble_eq_true rfl) dL_law_171 ⟨by show k + 0 ≤ 759041; omega, by show nn + 0 ≤ 6824346; omega⟩ (fun v1 w1 hp1 => ?_)
  obtain ⟨rfl, rfl⟩ := hp1
  refine xw_st (st' := [nV (rt n p ^ 1 % p)]) rfl ?_
  refine xw_wo (w' := LW cI cQ o rr n p (rt n p) g A_1 [] (WX cI h a n p A_1)) rfl ?_
  refine xw_aload_n (pc := 174) C 1 dL_law_174 rfl ?_
  refine xw_iconst_N (pc := 175) C 2 dL_law_175 rfl ?_
  refine xw_VF (pc := 176) (q0 := 0) (na := 1) (rest := [nV (rt n p ^ 1 % p)]) (wc := WX cI h a n p A_1) (wr := wS cI cQ o n p (rt n p) rr g A_1 ++ []) C [6, 7] [0, 1, 2, 3, 4, 5] [0] (m_X0_count 2 (by omega)) gL_law_X0_count rfl rfl rfl rfl (by decide +kernel) ⟨(Nat.le_of_ble_eq_true rfl), (Nat.le_of_ble_eq_true rfl)⟩ rfl rfl rfl ⟨rfl, rfl⟩ (by decide) rfl rfl rfl rfl (Nat.le_of_ble_eq_true rfl) dL_law_176 ⟨by show k + 0 ≤ 759041; omega, by show nn + 0 ≤ 6824346; omega⟩ (fun v1 w1 hp1 => ?_)
  obtain ⟨rfl, rfl⟩ := hp1
  refine xw_st (st' := [nV (rt n p), nV (rt n p ^ 1 % p)]) rfl ?_
  refine xw_wo (w' := LW cI cQ o rr n p (rt n p) g A_1 [] (WX cI h a n p A_1)) rfl ?_
  refine xw_ne_same (pc := 179) (tgt := 199) C (congrArg (fun z : Nat => iI (z : Int)) (show rt n p ^ 1 % p = rt n p from by rw [Nat.pow_one, Nat.mod_eq_of_lt hrl])) dL_law_179 (by decide) ?_
  refine xw_aload_n (pc := 182) C 1 dL_law_182 rfl ?_
  refine xw_aload_n (pc := 183) C 1 dL_law_183 rfl ?_
  refine xw_iconst_N (pc := 184) C 2 dL_law_184 rfl ?_
  refine xw_VF (pc := 185) (q0 := 0) (na := 1) (rest := [.ref h]) (wc := WX cI h a n p A_1) (wr := wS cI cQ o n p (rt n p) rr g A_1 ++ []) C [6, 7] [0, 1, 2, 3, 4, 5] [0] (m_X0_count 2 (by omega)) gL_law_X0_count rfl rfl rfl rfl (by decide +kernel) ⟨(Nat.le_of_ble_eq_true rfl), (Nat.le_of_ble_eq_true rfl)⟩ rfl rfl rfl ⟨rfl, rfl⟩ (by decide) rfl rfl rfl rfl (Nat.le_of_ble_eq_true rfl) dL_law_185 ⟨by show k + 0 ≤ 759041; omega, by show nn + 0 ≤ 6824346; omega⟩ (fun v1 w1 hp1 => ?_)
  obtain ⟨rfl, rfl⟩ := hp1
  refine xw_st (st' := [nV (rt n p), .ref h]) rfl ?_
  refine xw_wo (w' := LW cI cQ o rr n p (rt n p) g A_1 [] (WX cI h a n p A_1)) rfl ?_
  refine xw_VF (pc := 188) (q0 := 0) (na := 1) (rest := []) (wc := WX cI h a n p A_1) (wr := wS cI cQ o n p (rt n p) rr g A_1 ++ []) C [6, 7] [0, 1, 2, 3, 4, 5] [0] (m_X0_inverse hp1 hp5 (rt n p) (by omega) (by omega)) gL_law_X0_inverse rfl rfl rfl rfl (by decide +kernel) ⟨(Nat.le_of_ble_eq_true rfl), (Nat.le_of_ble_eq_true rfl)⟩ rfl rfl rfl ⟨rfl, rfl⟩ (by decide) rfl rfl rfl rfl (Nat.le_of_ble_eq_true rfl) dL_law_188 ⟨by show k + 0 ≤ 759041; omega, by show nn + 0 ≤ 6824346; omega⟩ (fun v1 w1 hp1 => ?_)
  obtain ⟨rfl, rfl⟩ := hp1
  refine xw_st (st' := [nV ((rt n p) ^ (p - 2) % p)]) rfl ?_
  refine xw_wo (w' := LW cI cQ o rr n p (rt n p) g A_1 [] (WX cI h a n p A_1)) rfl ?_
  refine xw_aload_n (pc := 191) C 1 dL_law_191 rfl ?_
  refine xw_iconst_N (pc := 192) C 3 dL_law_192 rfl ?_
  refine xw_VF (pc := 193) (q0 := 0) (na := 1) (rest := [nV ((rt n p) ^ (p - 2) % p)]) (wc := WX cI h a n p A_1) (wr := wS cI cQ o n p (rt n p) rr g A_1 ++ []) C [6, 7] [0, 1, 2, 3, 4, 5] [0] (m_X0_count 3 (by omega)) gL_law_X0_count rfl rfl rfl rfl (by decide +kernel) ⟨(Nat.le_of_ble_eq_true rfl), (Nat.le_of_ble_eq_true rfl)⟩ rfl rfl rfl ⟨rfl, rfl⟩ (by decide) rfl rfl rfl rfl (Nat.le_of_ble_eq_true rfl) dL_law_193 ⟨by show k + 0 ≤ 759041; omega, by show nn + 0 ≤ 6824346; omega⟩ (fun v1 w1 hp1 => ?_)
  obtain ⟨rfl, rfl⟩ := hp1
  refine xw_st (st' := [nV ((rt n p) ^ (p - 2) % p), nV ((rt n p) ^ (p - 2) % p)]) rfl ?_
  refine xw_wo (w' := LW cI cQ o rr n p (rt n p) g A_1 [] (WX cI h a n p A_1)) rfl ?_
  refine xw_eq_same (pc := 196) (tgt := 201) C (congrArg (fun z : Nat => iI (z : Int)) (show (rt n p) ^ (p - 2) % p = (rt n p) ^ (p - 2) % p from rfl)) dL_law_196 (by decide) ?_
  refine xw_iconst_N (pc := 201) C 1 dL_law_201 rfl ?_
  refine xw_iload (pc := 202) C 4 dL_law_202 rfl ?_
  refine xw_iconst_N (pc := 204) C 3 dL_law_204 rfl ?_
  obtain ⟨x_3, hx_3⟩ : ∃ x_3 : Int32, x >>> (iI ((3 : Nat) : Int) &&& 31) = x_3 := ⟨_, rfl⟩
  refine xw_ishr (pc := 205) C dL_law_205 hx_3 ?_
  refine xw_iload (pc := 206) C 7 dL_law_206 rfl ?_
  refine xw_iconst_N (pc := 208) C 1 dL_law_208 rfl ?_
  refine xw_isub_N (pc := 209) C dL_law_209 (by omega) ?_
  refine xw_S (pc := 210) (na := 2) (rest := [nV 1]) C (m_L_below x_3 (p - 1) (by omega) (by omega)) gL_law_L_below rfl rfl rfl rfl (by decide +kernel) ⟨(Nat.le_of_ble_eq_true rfl), (Nat.le_of_ble_eq_true rfl)⟩ rfl (Nat.le_of_ble_eq_true rfl) dL_law_210 ⟨by show k + 0 ≤ 759041; omega, by show nn + 0 ≤ 6824346; omega⟩ (fun v1 w1 hp1 => ?_)
  obtain ⟨m_4, hm_4, rfl, rfl⟩ := hp1
  refine xw_st (st' := [nV m_4, nV 1]) rfl ?_
  refine xw_iadd_N (pc := 213) C dL_law_213 ?_
  refine xw_istore (pc := 214) (lv' := [(0, .ref sc), (1, .ref h), (2, .ref o), (3, nV i), (4, .int x), (5, .long d_2), (7, nV n), (8, nV p), (9, nV (1 + m_4))]) C [1, 2, 3, 4, 5, 6, 7, 8, 0] dL_law_214 (by decide) rfl ?_
  have hv1 : 1 ≤ 1 + m_4 := by omega
  have hvl : 1 + m_4 < p := by omega
  have hvx := hfer _ hv1 hvl
  have hvo := od_is hp1 hvx
  have hvi := iv_is hp1 hvl hvx
  have hvm : (1 + m_4) ^ (p - 2) % p < p := Nat.mod_lt _ hp0
  have hvp : (1 + m_4) * ((1 + m_4) ^ (p - 2) % p) < 2147483648 := mb0 (by omega) (by omega)
  refine xw_aload_n (pc := 216) C 1 dL_law_216 rfl ?_
  refine xw_iload (pc := 217) C 8 dL_law_217 rfl ?_
  refine xw_VF (pc := 219) (q0 := 0) (na := 1) (rest := []) (wc := WX cI h a n p A_1) (wr := wS cI cQ o n p (rt n p) rr g A_1 ++ []) C [6, 7] [0, 1, 2, 3, 4, 5] [0] (m_X0_order hp1 hp5 (1 + m_4) (by omega) (by omega)) gL_law_X0_order rfl rfl rfl rfl (by decide +kernel) ⟨(Nat.le_of_ble_eq_true rfl), (Nat.le_of_ble_eq_true rfl)⟩ rfl rfl rfl ⟨rfl, rfl⟩ (by decide) rfl rfl rfl rfl (Nat.le_of_ble_eq_true rfl) dL_law_219 ⟨by show k + 0 ≤ 759041; omega, by show nn + 0 ≤ 6824346; omega⟩ (fun v1 w1 hp1 => ?_)
  obtain ⟨rfl, rfl⟩ := hp1
  refine xw_st (st' := [nV (od p (1 + m_4))]) rfl ?_
  refine xw_wo (w' := LW cI cQ o rr n p (rt n p) g A_1 [] (WX cI h a n p A_1)) rfl ?_
  refine xw_istore (pc := 222) (lv' := [(0, .ref sc), (1, .ref h), (2, .ref o), (3, nV i), (4, .int x), (5, .long d_2), (7, nV n), (8, nV p), (9, nV (1 + m_4)), (10, nV (od p (1 + m_4)))]) C [1, 2, 3, 4, 5, 6, 7, 8, 9, 0] dL_law_222 (by decide) rfl ?_
  refine xw_iload (pc := 224) C 7 dL_law_224 rfl ?_
  refine xw_iconst_N (pc := 226) C 1 dL_law_226 rfl ?_
  refine xw_isub_N (pc := 227) C dL_law_227 (by omega) ?_
  refine xw_iload (pc := 228) C 9 dL_law_228 rfl ?_
  refine xw_irem_N (pc := 230) C dL_law_230 (by omega) (by omega) ?_
  refine xw_if_ne_N (pc := 231) (tgt := 290) C dL_law_231 (by decide) (by rw [od_dvd hp1 hvx]; decide) (fun c_5 => (by exact absurd (od_dvd hp1 hvx) c_5)) (fun c_5 => ?_)
  refine xw_iload (pc := 234) C 8 dL_law_234 rfl ?_
  refine xw_aload_n (pc := 236) C 1 dL_law_236 rfl ?_
  refine xw_iload (pc := 237) C 8 dL_law_237 rfl ?_
  refine xw_VF (pc := 239) (q0 := 0) (na := 1) (rest := [nV (1 + m_4)]) (wc := WX cI h a n p A_1) (wr := wS cI cQ o n p (rt n p) rr g A_1 ++ []) C [6, 7] [0, 1, 2, 3, 4, 5] [0] (m_X0_inverse hp1 hp5 (1 + m_4) (by omega) (by omega)) gL_law_X0_inverse rfl rfl rfl rfl (by decide +kernel) ⟨(Nat.le_of_ble_eq_true rfl), (Nat.le_of_ble_eq_true rfl)⟩ rfl rfl rfl ⟨rfl, rfl⟩ (by decide) rfl rfl rfl rfl (Nat.le_of_ble_eq_true rfl) dL_law_239 ⟨by show k + 0 ≤ 759041; omega, by show nn + 0 ≤ 6824346; omega⟩ (fun v1 w1 hp1 => ?_)
  obtain ⟨rfl, rfl⟩ := hp1
  refine xw_st (st' := [nV ((1 + m_4) ^ (p - 2) % p), nV (1 + m_4)]) rfl ?_
  refine xw_wo (w' := LW cI cQ o rr n p (rt n p) g A_1 [] (WX cI h a n p A_1)) rfl ?_
  refine xw_imul_N (pc := 242) C dL_law_242 ?_
  refine xw_iload (pc := 243) C 7 dL_law_243 rfl ?_
  refine xw_irem_N (pc := 245) C dL_law_245 (hvp) (by omega) ?_
  refine xw_iconst_N (pc := 246) C 1 dL_law_246 rfl ?_
  refine xw_ne_same (pc := 247) (tgt := 290) C (congrArg (fun z : Nat => iI (z : Int)) (show ((1 + m_4) * ((1 + m_4) ^ (p - 2) % p)) % p = 1 from iv_mul hp1 hvl hvx)) dL_law_247 (by decide) ?_
  refine xw_aload_n (pc := 250) C 1 dL_law_250 rfl ?_
  refine xw_aload_n (pc := 251) C 1 dL_law_251 rfl ?_
  refine xw_iload (pc := 252) C 8 dL_law_252 rfl ?_
  refine xw_VF (pc := 254) (q0 := 0) (na := 1) (rest := [.ref h]) (wc := WX cI h a n p A_1) (wr := wS cI cQ o n p (rt n p) rr g A_1 ++ []) C [6, 7] [0, 1, 2, 3, 4, 5] [0] (m_X0_inverse hp1 hp5 (1 + m_4) (by omega) (by omega)) gL_law_X0_inverse rfl rfl rfl rfl (by decide +kernel) ⟨(Nat.le_of_ble_eq_true rfl), (Nat.le_of_ble_eq_true rfl)⟩ rfl rfl rfl ⟨rfl, rfl⟩ (by decide) rfl rfl rfl rfl (Nat.le_of_ble_eq_true rfl) dL_law_254 ⟨by show k + 0 ≤ 759041; omega, by show nn + 0 ≤ 6824346; omega⟩ (fun v1 w1 hp1 => ?_)
  obtain ⟨rfl, rfl⟩ := hp1
  refine xw_st (st' := [nV ((1 + m_4) ^ (p - 2) % p), .ref h]) rfl ?_
  refine xw_wo (w' := LW cI cQ o rr n p (rt n p) g A_1 [] (WX cI h a n p A_1)) rfl ?_
  refine xw_VF (pc := 257) (q0 := 0) (na := 1) (rest := []) (wc := WX cI h a n p A_1) (wr := wS cI cQ o n p (rt n p) rr g A_1 ++ []) C [6, 7] [0, 1, 2, 3, 4, 5] [0] (m_X0_order hp1 hp5 ((1 + m_4) ^ (p - 2) % p) hvi.1 hvm) gL_law_X0_order rfl rfl rfl rfl (by decide +kernel) ⟨(Nat.le_of_ble_eq_true rfl), (Nat.le_of_ble_eq_true rfl)⟩ rfl rfl rfl ⟨rfl, rfl⟩ (by decide) rfl rfl rfl rfl (Nat.le_of_ble_eq_true rfl) dL_law_257 ⟨by show k + 0 ≤ 759041; omega, by show nn + 0 ≤ 6824346; omega⟩ (fun v1 w1 hp1 => ?_)
  obtain ⟨rfl, rfl⟩ := hp1
  refine xw_st (st' := [nV (od p ((1 + m_4) ^ (p - 2) % p))]) rfl ?_
  refine xw_wo (w' := LW cI cQ o rr n p (rt n p) g A_1 [] (WX cI h a n p A_1)) rfl ?_
  refine xw_iload (pc := 260) C 9 dL_law_260 rfl ?_
  refine xw_ne_same (pc := 262) (tgt := 290) C (congrArg (fun z : Nat => iI (z : Int)) (show od p ((1 + m_4) ^ (p - 2) % p) = od p (1 + m_4) from od_inv hp1 hvl hvx)) dL_law_262 (by decide) ?_
  have J292_6 : xw φ k nn (LW cI cQ o rr n p (rt n p) g A_1 [] (WX cI h a n p A_1)) 292 [(0, .ref sc), (1, .ref h), (2, .ref o), (3, nV i), (4, .int x), (5, .long d_2), (7, nV n), (8, nV p), (9, nV (1 + m_4)), (10, nV (od p (1 + m_4)))] [] := by
    refine xw_lv (lv' := [(0, .ref sc), (1, .ref h), (2, .ref o), (3, nV i), (4, .int x), (5, .long d_2), (7, nV n), (8, nV p)]) [0, 1, 2, 3, 4, 5, 6, 7] rfl ?_
    exact kk _ _ hS_A_1 hd_A_1
  refine xw_iload (pc := 265) C 9 dL_law_265 rfl ?_
  refine xw_iconst_N (pc := 267) C 1 dL_law_267 rfl ?_
  refine xw_icmp_ne_N (pc := 268) (tgt := 275) C dL_law_268 (by decide) (by omega) (by omega) (fun c_7 => ?_) (fun c_7 => ?_)
  ·
    have hod1 := c_7
    refine xw_iconst_N (pc := 275) C 0 dL_law_275 rfl ?_
    refine xw_iload (pc := 276) C 8 dL_law_276 rfl ?_
    refine xw_iconst_N (pc := 278) C 1 dL_law_278 rfl ?_
    refine xw_icmp_ne_N (pc := 279) (tgt := 286) C dL_law_279 (by decide) (by omega) (by omega) (fun c_8 => ?_) (fun c_8 => (by exact absurd ((od_one hp1 hvl hvx).mpr c_8) hod1))
    refine xw_iconst_N (pc := 286) C 0 dL_law_286 rfl ?_
    refine xw_eq_same (pc := 287) (tgt := 292) C (congrArg (fun z : Nat => iI (z : Int)) (show 0 = 0 from rfl)) dL_law_287 (by decide) ?_
    refine xw_lv (lv' := [(0, .ref sc), (1, .ref h), (2, .ref o), (3, nV i), (4, .int x), (5, .long d_2), (7, nV n), (8, nV p)]) [0, 1, 2, 3, 4, 5, 6, 7] rfl ?_
    exact kk _ _ hS_A_1 hd_A_1
  ·
    have hod1 := c_7
    refine xw_iconst_N (pc := 271) C 1 dL_law_271 rfl ?_
    refine xw_goto (pc := 272) (tgt := 276) C dL_law_272 (by decide) ?_
    refine xw_iload (pc := 276) C 8 dL_law_276 rfl ?_
    refine xw_iconst_N (pc := 278) C 1 dL_law_278 rfl ?_
    refine xw_icmp_ne_N (pc := 279) (tgt := 286) C dL_law_279 (by decide) (by omega) (by omega) (fun c_9 => (by exact absurd ((od_one hp1 hvl hvx).mp hod1) c_9)) (fun c_9 => ?_)
    refine xw_iconst_N (pc := 282) C 1 dL_law_282 rfl ?_
    refine xw_goto (pc := 283) (tgt := 287) C dL_law_283 (by decide) ?_
    refine xw_eq_same (pc := 287) (tgt := 292) C (congrArg (fun z : Nat => iI (z : Int)) (show 1 = 1 from rfl)) dL_law_287 (by decide) ?_
    refine xw_lv (lv' := [(0, .ref sc), (1, .ref h), (2, .ref o), (3, nV i), (4, .int x), (5, .long d_2), (7, nV n), (8, nV p)]) [0, 1, 2, 3, 4, 5, 6, 7] rfl ?_
    exact kk _ _ hS_A_1 hd_A_1

set_option maxHeartbeats 4000000 in
set_option maxRecDepth 100000 in
theorem law_C {φ : Fx} {l : Launch} {D : va_G} {cI cQ : ClassId} {sc h a o rr n p : Nat} {g A : Nat → Nat} (C : xc φ l room_1 D vwCl [(cI, .int), (cQ, .array .int)] 19 cL_law RL wsL_law) (Y : xyc sc φ) (hS : SI n p A) (k nn : Nat) (hk : k ≤ 3000) (hnn : nn ≤ 30000) {i : Nat} {x : Int32} (hi : i < 14) {d0 : Int64} (hd : DG n p A = d0)
    (kk : ∀ (A1 : Nat → Nat) (ma pd : Nat), SI n p A1 → DG n p A1 = d0 → pe n A1 ma = pd → ma < 4 → xw φ k nn (LV cI cQ h a o rr n p g A1) 601 [(0, .ref sc), (1, .ref h), (2, .ref o), (3, nV i), (4, .int x), (5, .long d0), (7, nV n), (11, nV ma), (14, nV pd)] []) : xw φ k nn (LV cI cQ h a o rr n p g A) 292 [(0, .ref sc), (1, .ref h), (2, .ref o), (3, nV i), (4, .int x), (5, .long d0), (7, nV n), (8, nV p)] [] := by
  obtain ⟨hrg, hA, hAp⟩ := id hS
  obtain ⟨hn, hp4, hp5, hp1, hp0, hn16, hnp, hr1, hrl, hfer⟩ := rgs_o hrg
  have hn3 := lt3 hn
  refine xw_iload (pc := 292) C 4 dL_law_292 rfl ?_
  refine xw_iconst_N (pc := 294) C 4 dL_law_294 rfl ?_
  obtain ⟨x_1, hx_1⟩ : ∃ x_1 : Int32, x >>> (iI ((4 : Nat) : Int) &&& 31) = x_1 := ⟨_, rfl⟩
  refine xw_ishr (pc := 295) C dL_law_295 hx_1 ?_
  refine xw_iconst_N (pc := 296) C 4 dL_law_296 rfl ?_
  refine xw_S (pc := 297) (na := 2) (rest := []) C (m_L_below x_1 4 (by omega) (by omega)) gL_law_L_below rfl rfl rfl rfl (by decide +kernel) ⟨(Nat.le_of_ble_eq_true rfl), (Nat.le_of_ble_eq_true rfl)⟩ rfl (Nat.le_of_ble_eq_true rfl) dL_law_297 ⟨by show k + 0 ≤ 759041; omega, by show nn + 0 ≤ 6824346; omega⟩ (fun v1 w1 hp1 => ?_)
  obtain ⟨m_2, hm_2, rfl, rfl⟩ := hp1
  refine xw_st (st' := [nV m_2]) rfl ?_
  refine xw_istore (pc := 300) (lv' := [(0, .ref sc), (1, .ref h), (2, .ref o), (3, nV i), (4, .int x), (5, .long d0), (7, nV n), (8, nV p), (11, nV m_2)]) C [1, 2, 3, 4, 5, 6, 7, 8, 0] dL_law_300 (by decide) rfl ?_
  refine xw_iload (pc := 302) C 4 dL_law_302 rfl ?_
  refine xw_bipush_N (pc := 304) C 6 dL_law_304 (by decide) ?_
  obtain ⟨x_3, hx_3⟩ : ∃ x_3 : Int32, x >>> (iI ((6 : Nat) : Int) &&& 31) = x_3 := ⟨_, rfl⟩
  refine xw_ishr (pc := 306) C dL_law_306 hx_3 ?_
  refine xw_iconst_N (pc := 307) C 4 dL_law_307 rfl ?_
  refine xw_S (pc := 308) (na := 2) (rest := []) C (m_L_below x_3 4 (by omega) (by omega)) gL_law_L_below rfl rfl rfl rfl (by decide +kernel) ⟨(Nat.le_of_ble_eq_true rfl), (Nat.le_of_ble_eq_true rfl)⟩ rfl (Nat.le_of_ble_eq_true rfl) dL_law_308 ⟨by show k + 0 ≤ 759041; omega, by show nn + 0 ≤ 6824346; omega⟩ (fun v1 w1 hp1 => ?_)
  obtain ⟨m_4, hm_4, rfl, rfl⟩ := hp1
  refine xw_st (st' := [nV m_4]) rfl ?_
  refine xw_istore (pc := 311) (lv' := [(0, .ref sc), (1, .ref h), (2, .ref o), (3, nV i), (4, .int x), (5, .long d0), (7, nV n), (8, nV p), (11, nV m_2), (12, nV m_4)]) C [1, 2, 3, 4, 5, 6, 7, 8, 9, 0] dL_law_311 (by decide) rfl ?_
  have hma := hm_2
  generalize m_2 = ma at hma ⊢
  have hmb := hm_4
  generalize m_4 = mb at hmb ⊢
  refine xw_iconst_N (pc := 313) C 0 dL_law_313 rfl ?_
  refine xw_istore (pc := 314) (lv' := [(0, .ref sc), (1, .ref h), (2, .ref o), (3, nV i), (4, .int x), (5, .long d0), (7, nV n), (8, nV p), (11, nV ma), (12, nV mb), (13, nV 0)]) C [1, 2, 3, 4, 5, 6, 7, 8, 9, 10, 0] dL_law_314 (by decide) rfl ?_
  refine xw_iconst_N (pc := 316) C 0 dL_law_316 rfl ?_
  refine xw_istore (pc := 317) (lv' := [(0, .ref sc), (1, .ref h), (2, .ref o), (3, nV i), (4, .int x), (5, .long d0), (7, nV n), (8, nV p), (11, nV ma), (12, nV mb), (13, nV 0), (14, nV 0)]) C [1, 2, 3, 4, 5, 6, 7, 8, 9, 10, 11, 0] dL_law_317 (by decide) rfl ?_
  have L319 : ∀ (fuel : Nat) (q s : Nat), n < q + fuel → q ≤ n → s = su (fun q => fo p n A ma mb q n) q → xw φ k nn (LW cI cQ o rr n p (rt n p) g A [] (WX cI h a n p A)) 319 [(0, .ref sc), (1, .ref h), (2, .ref o), (3, nV i), (4, .int x), (5, .long d0), (7, nV n), (8, nV p), (11, nV ma), (12, nV mb), (13, nV s), (14, nV q)] [] := by
    intro fuel
    induction fuel with
    | zero =>
      intro q s hq hqn hs
      omega
    | succ fuel ih319 =>
      intro q s hq hqn hs
      have hsl : s ≤ 499 * q := by rw [hs]; exact fo_500 hp0 hp5 q
      have hal := hA (16 * ma + q)
      have hap : q < n → A (16 * ma + q) < p := fun z => hAp _ (by omega)
      have hf1 := fo_lt (p := p) (n := n) (A := A) (a := ma) (b := mb) (q := q) hp0 n
      have hf2 := fo_lt (p := p) (n := n) (A := A) (a := mb) (b := ma) (q := q) hp0 n
      refine xw_iload (pc := 319) C 11 dL_law_319 rfl ?_
      refine xw_iload (pc := 321) C 6 dL_law_321 rfl ?_
      refine xw_icmp_ge_N (pc := 323) (tgt := 396) C dL_law_323 (by decide) (by omega) (by omega) (fun c_5 => ?_) (fun c_5 => ?_)
      ·
        have hqe : q = n := by omega
        refine xw_aload_n (pc := 396) C 1 dL_law_396 rfl ?_
        refine xw_iload (pc := 397) C 8 dL_law_397 rfl ?_
        refine xw_iconst_N (pc := 399) C 3 dL_law_399 rfl ?_
        refine xw_VF (pc := 400) (q0 := 0) (na := 2) (rest := []) (wc := WX cI h a n p A) (wr := wS cI cQ o n p (rt n p) rr g A ++ []) C [6, 7] [0, 1, 2, 3, 4, 5] [0] (m_X0_about hp0 hp5 hn hA ma (by omega) 3 (by omega)) gL_law_X0_about rfl rfl rfl rfl (by decide +kernel) ⟨(Nat.le_of_ble_eq_true rfl), (Nat.le_of_ble_eq_true rfl)⟩ rfl rfl rfl ⟨rfl, rfl⟩ (by decide) rfl rfl rfl rfl (Nat.le_of_ble_eq_true rfl) dL_law_400 ⟨by show k + 0 ≤ 759041; omega, by show nn + 0 ≤ 6824346; omega⟩ (fun v1 w1 hp1 => ?_)
        obtain ⟨rfl, rfl⟩ := hp1
        refine xw_st (st' := [nV (pe n A ma)]) rfl ?_
        refine xw_wo (w' := LW cI cQ o rr n p (rt n p) g A [] (WX cI h a n p A)) rfl ?_
        obtain ⟨pd, hpd0⟩ : ∃ pd, pe n A ma = pd := ⟨_, rfl⟩
        refine xw_st (st' := [nV pd]) (by rw [hpd0]) ?_
        have hpi := pe_is (A := A) (a := ma) (show 0 < n by omega)
        rw [hpd0] at hpi
        have hpv := pe_dvd (A := A) (a := ma) (show 0 < n by omega)
        rw [hpd0] at hpv
        have hcl := cm_lt (A := A) (a := ma) (b := mb) (show 0 < n by omega)
        rw [hpd0] at hcl
        have hcr : -1 ≤ cm n A ma mb := by unfold cm; split <;> omega
        have hoc := cc_le (fun k => decide (A (16 * ma + k) ≠ 0)) n
        have hln := ln_rg (A := A) (r := ma) n
        have hgr := gr_lt (r := ma) hA n
        have hs1 := Nat.mod_lt (sm A ma n) hp0
        have hs2 := Nat.mod_lt (sm A mb n) hp0
        have hsm2 : sm A ma n % p * (sm A mb n % p) < 2147483648 := mb0 (by omega) (by omega)
        refine xw_istore (pc := 403) (lv' := [(0, .ref sc), (1, .ref h), (2, .ref o), (3, nV i), (4, .int x), (5, .long d0), (7, nV n), (8, nV p), (11, nV ma), (12, nV mb), (13, nV s), (14, nV pd)]) C [1, 2, 3, 4, 5, 6, 7, 8, 9, 10, 11, 0] dL_law_403 (by decide) rfl ?_
        refine xw_iload (pc := 405) C 10 dL_law_405 rfl ?_
        refine xw_iload (pc := 407) C 7 dL_law_407 rfl ?_
        refine xw_irem_N (pc := 409) C dL_law_409 (by omega) (by omega) ?_
        refine xw_aload_n (pc := 410) C 1 dL_law_410 rfl ?_
        refine xw_iload (pc := 411) C 8 dL_law_411 rfl ?_
        refine xw_iconst_N (pc := 413) C 0 dL_law_413 rfl ?_
        refine xw_VF (pc := 414) (q0 := 0) (na := 2) (rest := [nV (s % p)]) (wc := WX cI h a n p A) (wr := wS cI cQ o n p (rt n p) rr g A ++ []) C [6, 7] [0, 1, 2, 3, 4, 5] [0] (m_X0_about hp0 hp5 hn hA ma (by omega) 0 (by omega)) gL_law_X0_about rfl rfl rfl rfl (by decide +kernel) ⟨(Nat.le_of_ble_eq_true rfl), (Nat.le_of_ble_eq_true rfl)⟩ rfl rfl rfl ⟨rfl, rfl⟩ (by decide) rfl rfl rfl rfl (Nat.le_of_ble_eq_true rfl) dL_law_414 ⟨by show k + 0 ≤ 759041; omega, by show nn + 0 ≤ 6824346; omega⟩ (fun v1 w1 hp1 => ?_)
        obtain ⟨rfl, rfl⟩ := hp1
        refine xw_st (st' := [nV (sm A ma n % p), nV (s % p)]) rfl ?_
        refine xw_wo (w' := LW cI cQ o rr n p (rt n p) g A [] (WX cI h a n p A)) rfl ?_
        refine xw_aload_n (pc := 417) C 1 dL_law_417 rfl ?_
        refine xw_iload (pc := 418) C 9 dL_law_418 rfl ?_
        refine xw_iconst_N (pc := 420) C 0 dL_law_420 rfl ?_
        refine xw_VF (pc := 421) (q0 := 0) (na := 2) (rest := [nV (sm A ma n % p), nV (s % p)]) (wc := WX cI h a n p A) (wr := wS cI cQ o n p (rt n p) rr g A ++ []) C [6, 7] [0, 1, 2, 3, 4, 5] [0] (m_X0_about hp0 hp5 hn hA mb (by omega) 0 (by omega)) gL_law_X0_about rfl rfl rfl rfl (by decide +kernel) ⟨(Nat.le_of_ble_eq_true rfl), (Nat.le_of_ble_eq_true rfl)⟩ rfl rfl rfl ⟨rfl, rfl⟩ (by decide) rfl rfl rfl rfl (Nat.le_of_ble_eq_true rfl) dL_law_421 ⟨by show k + 0 ≤ 759041; omega, by show nn + 0 ≤ 6824346; omega⟩ (fun v1 w1 hp1 => ?_)
        obtain ⟨rfl, rfl⟩ := hp1
        refine xw_st (st' := [nV (sm A mb n % p), nV (sm A ma n % p), nV (s % p)]) rfl ?_
        refine xw_wo (w' := LW cI cQ o rr n p (rt n p) g A [] (WX cI h a n p A)) rfl ?_
        refine xw_imul_N (pc := 424) C dL_law_424 ?_
        refine xw_iload (pc := 425) C 7 dL_law_425 rfl ?_
        refine xw_irem_N (pc := 427) C dL_law_427 (hsm2) (by omega) ?_
        refine xw_ne_same (pc := 428) (tgt := 587) C (congrArg (fun z : Nat => iI (z : Int)) (show s % p = ((sm A ma n % p) * (sm A mb n % p)) % p from by rw [hs, hqe]; exact fo_sum)) dL_law_428 (by decide) ?_
        refine xw_aload_n (pc := 431) C 1 dL_law_431 rfl ?_
        refine xw_iload (pc := 432) C 8 dL_law_432 rfl ?_
        refine xw_iconst_N (pc := 434) C 0 dL_law_434 rfl ?_
        refine xw_VF (pc := 435) (q0 := 0) (na := 2) (rest := []) (wc := WX cI h a n p A) (wr := wS cI cQ o n p (rt n p) rr g A ++ []) C [6, 7] [0, 1, 2, 3, 4, 5] [0] (m_X0_about hp0 hp5 hn hA ma (by omega) 0 (by omega)) gL_law_X0_about rfl rfl rfl rfl (by decide +kernel) ⟨(Nat.le_of_ble_eq_true rfl), (Nat.le_of_ble_eq_true rfl)⟩ rfl rfl rfl ⟨rfl, rfl⟩ (by decide) rfl rfl rfl rfl (Nat.le_of_ble_eq_true rfl) dL_law_435 ⟨by show k + 0 ≤ 759041; omega, by show nn + 0 ≤ 6824346; omega⟩ (fun v1 w1 hp1 => ?_)
        obtain ⟨rfl, rfl⟩ := hp1
        refine xw_st (st' := [nV (sm A ma n % p)]) rfl ?_
        refine xw_wo (w' := LW cI cQ o rr n p (rt n p) g A [] (WX cI h a n p A)) rfl ?_
        refine xw_aload_n (pc := 438) C 1 dL_law_438 rfl ?_
        refine xw_iload (pc := 439) C 8 dL_law_439 rfl ?_
        refine xw_iconst_N (pc := 441) C 1 dL_law_441 rfl ?_
        refine xw_VF (pc := 442) (q0 := 0) (na := 2) (rest := [nV (sm A ma n % p)]) (wc := WX cI h a n p A) (wr := wS cI cQ o n p (rt n p) rr g A ++ []) C [6, 7] [0, 1, 2, 3, 4, 5] [0] (m_X0_point hp0 hp5 hn hA ma (by omega) 1 (by omega)) gL_law_X0_point rfl rfl rfl rfl (by decide +kernel) ⟨(Nat.le_of_ble_eq_true rfl), (Nat.le_of_ble_eq_true rfl)⟩ rfl rfl rfl ⟨rfl, rfl⟩ (by decide) rfl rfl rfl rfl (Nat.le_of_ble_eq_true rfl) dL_law_442 ⟨by show k + 0 ≤ 759041; omega, by show nn + 0 ≤ 6824346; omega⟩ (fun v1 w1 hp1 => ?_)
        obtain ⟨rfl, rfl⟩ := hp1
        refine xw_st (st' := [nV (pv p n A ma 1), nV (sm A ma n % p)]) rfl ?_
        refine xw_wo (w' := LW cI cQ o rr n p (rt n p) g A [] (WX cI h a n p A)) rfl ?_
        refine xw_ne_same (pc := 445) (tgt := 587) C (congrArg (fun z : Nat => iI (z : Int)) (show sm A ma n % p = pv p n A ma 1 from (pv_1 hp0).symm)) dL_law_445 (by decide) ?_
        refine xw_aload_n (pc := 448) C 1 dL_law_448 rfl ?_
        refine xw_iload (pc := 449) C 8 dL_law_449 rfl ?_
        refine xw_iconst_N (pc := 451) C 0 dL_law_451 rfl ?_
        refine xw_VF (pc := 452) (q0 := 0) (na := 2) (rest := []) (wc := WX cI h a n p A) (wr := wS cI cQ o n p (rt n p) rr g A ++ []) C [6, 7] [0, 1, 2, 3, 4, 5] [0] (m_X0_point hp0 hp5 hn hA ma (by omega) 0 (by omega)) gL_law_X0_point rfl rfl rfl rfl (by decide +kernel) ⟨(Nat.le_of_ble_eq_true rfl), (Nat.le_of_ble_eq_true rfl)⟩ rfl rfl rfl ⟨rfl, rfl⟩ (by decide) rfl rfl rfl rfl (Nat.le_of_ble_eq_true rfl) dL_law_452 ⟨by show k + 0 ≤ 759041; omega, by show nn + 0 ≤ 6824346; omega⟩ (fun v1 w1 hp1 => ?_)
        obtain ⟨rfl, rfl⟩ := hp1
        refine xw_st (st' := [nV (pv p n A ma 0)]) rfl ?_
        refine xw_wo (w' := LW cI cQ o rr n p (rt n p) g A [] (WX cI h a n p A)) rfl ?_
        refine xw_aload_n (pc := 455) C 1 dL_law_455 rfl ?_
        refine xw_iload (pc := 456) C 8 dL_law_456 rfl ?_
        refine xw_iconst_N (pc := 458) C 0 dL_law_458 rfl ?_
        refine xw_VF (pc := 459) (q0 := 0) (na := 2) (rest := [nV (pv p n A ma 0)]) (wc := WX cI h a n p A) (wr := wS cI cQ o n p (rt n p) rr g A ++ []) C [6, 7] [0, 1, 2, 3, 4, 5] [0] (m_X0_at hn ma (by omega) 0 (by omega)) gL_law_X0_at rfl rfl rfl rfl (by decide +kernel) ⟨(Nat.le_of_ble_eq_true rfl), (Nat.le_of_ble_eq_true rfl)⟩ rfl rfl rfl ⟨rfl, rfl⟩ (by decide) rfl rfl rfl rfl (Nat.le_of_ble_eq_true rfl) dL_law_459 ⟨by show k + 0 ≤ 759041; omega, by show nn + 0 ≤ 6824346; omega⟩ (fun v1 w1 hp1 => ?_)
        obtain ⟨rfl, rfl⟩ := hp1
        refine xw_st (st' := [nV (A (16 * ma + 0)), nV (pv p n A ma 0)]) rfl ?_
        refine xw_wo (w' := LW cI cQ o rr n p (rt n p) g A [] (WX cI h a n p A)) rfl ?_
        refine xw_ne_same (pc := 462) (tgt := 587) C (congrArg (fun z : Nat => iI (z : Int)) (show pv p n A ma 0 = A (16 * ma + 0) from pv_0 hp0 (by omega) (hAp _ (by omega)))) dL_law_462 (by decide) ?_
        refine xw_iload (pc := 465) C 6 dL_law_465 rfl ?_
        refine xw_iload (pc := 467) C 11 dL_law_467 rfl ?_
        refine xw_irem_N (pc := 469) C dL_law_469 (by omega) (by omega) ?_
        refine xw_if_ne_N (pc := 470) (tgt := 587) C dL_law_470 (by decide) (by rw [hpv]; decide) (fun c_6 => (by exact absurd hpv c_6)) (fun c_6 => ?_)
        refine xw_aload_n (pc := 473) C 1 dL_law_473 rfl ?_
        refine xw_iload (pc := 474) C 8 dL_law_474 rfl ?_
        refine xw_iload (pc := 476) C 8 dL_law_476 rfl ?_
        refine xw_VF (pc := 478) (q0 := 0) (na := 2) (rest := []) (wc := WX cI h a n p A) (wr := wS cI cQ o n p (rt n p) rr g A ++ []) C [6, 7] [0, 1, 2, 3, 4, 5] [0] (m_X0_comes hn hA ma ma (by omega) (by omega)) gL_law_X0_comes rfl rfl rfl rfl (by decide +kernel) ⟨(Nat.le_of_ble_eq_true rfl), (Nat.le_of_ble_eq_true rfl)⟩ rfl rfl rfl ⟨rfl, rfl⟩ (by decide) rfl rfl rfl rfl (Nat.le_of_ble_eq_true rfl) dL_law_478 ⟨by show k + 0 ≤ 759041; omega, by show nn + 0 ≤ 6824346; omega⟩ (fun v1 w1 hp1 => ?_)
        obtain ⟨rfl, rfl⟩ := hp1
        refine xw_st (st' := [iV (cm n A ma ma)]) rfl ?_
        refine xw_wo (w' := LW cI cQ o rr n p (rt n p) g A [] (WX cI h a n p A)) rfl ?_
        refine xw_if_ne (pc := 481) (tgt := 587) C dL_law_481 (by decide) (by rw [cm_aa (by omega)]; omega) (fun c_7 => (by exact absurd (cm_aa (by omega)) c_7)) (fun c_7 => ?_)
        refine xw_aload_n (pc := 484) C 1 dL_law_484 rfl ?_
        refine xw_iload (pc := 485) C 8 dL_law_485 rfl ?_
        refine xw_iload (pc := 487) C 9 dL_law_487 rfl ?_
        refine xw_VF (pc := 489) (q0 := 0) (na := 2) (rest := []) (wc := WX cI h a n p A) (wr := wS cI cQ o n p (rt n p) rr g A ++ []) C [6, 7] [0, 1, 2, 3, 4, 5] [0] (m_X0_comes hn hA ma mb (by omega) (by omega)) gL_law_X0_comes rfl rfl rfl rfl (by decide +kernel) ⟨(Nat.le_of_ble_eq_true rfl), (Nat.le_of_ble_eq_true rfl)⟩ rfl rfl rfl ⟨rfl, rfl⟩ (by decide) rfl rfl rfl rfl (Nat.le_of_ble_eq_true rfl) dL_law_489 ⟨by show k + 0 ≤ 759041; omega, by show nn + 0 ≤ 6824346; omega⟩ (fun v1 w1 hp1 => ?_)
        obtain ⟨rfl, rfl⟩ := hp1
        refine xw_st (st' := [iV (cm n A ma mb)]) rfl ?_
        refine xw_wo (w' := LW cI cQ o rr n p (rt n p) g A [] (WX cI h a n p A)) rfl ?_
        refine xw_iload (pc := 492) C 11 dL_law_492 rfl ?_
        refine xw_icmp_ge (pc := 494) (tgt := 587) C dL_law_494 (by decide) (by omega) (by omega) (fun c_8 => (by omega)) (fun c_8 => ?_)
        refine xw_aload_n (pc := 497) C 1 dL_law_497 rfl ?_
        refine xw_iload (pc := 498) C 8 dL_law_498 rfl ?_
        refine xw_iconst_N (pc := 500) C 1 dL_law_500 rfl ?_
        refine xw_VF (pc := 501) (q0 := 0) (na := 2) (rest := []) (wc := WX cI h a n p A) (wr := wS cI cQ o n p (rt n p) rr g A ++ []) C [6, 7] [0, 1, 2, 3, 4, 5] [0] (m_X0_about hp0 hp5 hn hA ma (by omega) 1 (by omega)) gL_law_X0_about rfl rfl rfl rfl (by decide +kernel) ⟨(Nat.le_of_ble_eq_true rfl), (Nat.le_of_ble_eq_true rfl)⟩ rfl rfl rfl ⟨rfl, rfl⟩ (by decide) rfl rfl rfl rfl (Nat.le_of_ble_eq_true rfl) dL_law_501 ⟨by show k + 0 ≤ 759041; omega, by show nn + 0 ≤ 6824346; omega⟩ (fun v1 w1 hp1 => ?_)
        obtain ⟨rfl, rfl⟩ := hp1
        refine xw_st (st' := [nV (cc (fun k => decide (A (16 * ma + k) ≠ 0)) n)]) rfl ?_
        refine xw_wo (w' := LW cI cQ o rr n p (rt n p) g A [] (WX cI h a n p A)) rfl ?_
        refine xw_iload (pc := 504) C 6 dL_law_504 rfl ?_
        refine xw_icmp_gt_N (pc := 506) (tgt := 587) C dL_law_506 (by decide) (by omega) (by omega) (fun c_9 => (by omega)) (fun c_9 => ?_)
        refine xw_aload_n (pc := 509) C 1 dL_law_509 rfl ?_
        refine xw_iload (pc := 510) C 8 dL_law_510 rfl ?_
        refine xw_iconst_N (pc := 512) C 2 dL_law_512 rfl ?_
        refine xw_VF (pc := 513) (q0 := 0) (na := 2) (rest := []) (wc := WX cI h a n p A) (wr := wS cI cQ o n p (rt n p) rr g A ++ []) C [6, 7] [0, 1, 2, 3, 4, 5] [0] (m_X0_about hp0 hp5 hn hA ma (by omega) 2 (by omega)) gL_law_X0_about rfl rfl rfl rfl (by decide +kernel) ⟨(Nat.le_of_ble_eq_true rfl), (Nat.le_of_ble_eq_true rfl)⟩ rfl rfl rfl ⟨rfl, rfl⟩ (by decide) rfl rfl rfl rfl (Nat.le_of_ble_eq_true rfl) dL_law_513 ⟨by show k + 0 ≤ 759041; omega, by show nn + 0 ≤ 6824346; omega⟩ (fun v1 w1 hp1 => ?_)
        obtain ⟨rfl, rfl⟩ := hp1
        refine xw_st (st' := [iV (ln A ma n)]) rfl ?_
        refine xw_wo (w' := LW cI cQ o rr n p (rt n p) g A [] (WX cI h a n p A)) rfl ?_
        refine xw_iload (pc := 516) C 6 dL_law_516 rfl ?_
        refine xw_icmp_ge (pc := 518) (tgt := 587) C dL_law_518 (by decide) (by omega) (by omega) (fun c_10 => (by omega)) (fun c_10 => ?_)
        have J589_11 : xw φ k nn (LW cI cQ o rr n p (rt n p) g A [] (WX cI h a n p A)) 589 [(0, .ref sc), (1, .ref h), (2, .ref o), (3, nV i), (4, .int x), (5, .long d0), (7, nV n), (8, nV p), (11, nV ma), (12, nV mb), (13, nV s), (14, nV pd)] [] := by
          refine xw_aload_n (pc := 589) C 1 dL_law_589 rfl ?_
          refine xw_VF (pc := 590) (q0 := 0) (na := 0) (rest := []) (wc := WX cI h a n p A) (wr := wS cI cQ o n p (rt n p) rr g A ++ []) C [6, 7] [0, 1, 2, 3, 4, 5] [0] (m_X0_digest hp0 hp5 hn hA (by omega)) gL_law_X0_digest rfl rfl rfl rfl (by decide +kernel) ⟨(Nat.le_of_ble_eq_true rfl), (Nat.le_of_ble_eq_true rfl)⟩ rfl rfl rfl ⟨rfl, rfl⟩ (by decide) rfl rfl rfl rfl (Nat.le_of_ble_eq_true rfl) dL_law_590 ⟨by show k + 0 ≤ 759041; omega, by show nn + 0 ≤ 6824346; omega⟩ (fun v1 w1 hp1 => ?_)
          obtain ⟨A_12, e_A_12, l_A_12, rfl, rfl⟩ := hp1
          refine xw_st (st' := [.long (DG n p A)]) rfl ?_
          refine xw_wo (w' := LW cI cQ o rr n p (rt n p) g A [] (WX cI h a n p A_12)) rfl ?_
          have hS_A_12 : SI n p A_12 := ⟨hrg, l_A_12, fun j hj => by rw [e_A_12 j hj]; exact hAp j hj⟩
          have hAp_A_12 := hS_A_12.2.2
          have ls_A_12 : LiS n A A_12 := fun i hi k hk => (e_A_12 _ (by omega)).symm
          have hd_A_12 : DG n p A_12 = d0 := (DG_l (by omega) ls_A_12).symm.trans hd
          have hpd_A_12 : pe n A_12 ma = pd := (pe_cg (by omega) (fun k hk => ls_A_12 ma hma k hk)).symm.trans hpd0
          refine xw_sB A_12 (ls_A_12) ?_
          refine xw_lload (pc := 593) C 5 dL_law_593 rfl ?_
          refine xw_lcmp (pc := 595) C (hd) dL_law_595 ?_
          refine xw_if_eq_N (pc := 596) (tgt := 601) C dL_law_596 (by decide) (by omega) (fun c_13 => ?_) (fun c_13 => (by omega))
          refine xw_lv (lv' := [(0, .ref sc), (1, .ref h), (2, .ref o), (3, nV i), (4, .int x), (5, .long d0), (7, nV n), (11, nV ma), (14, nV pd)]) [0, 1, 2, 3, 4, 5, 6, 8, 11] rfl ?_
          exact kk _ _ _ hS_A_12 hd_A_12 hpd_A_12 hma
        refine xw_aload_n (pc := 521) C 1 dL_law_521 rfl ?_
        refine xw_iload (pc := 522) C 8 dL_law_522 rfl ?_
        refine xw_iconst_N (pc := 524) C 1 dL_law_524 rfl ?_
        refine xw_VF (pc := 525) (q0 := 0) (na := 2) (rest := []) (wc := WX cI h a n p A) (wr := wS cI cQ o n p (rt n p) rr g A ++ []) C [6, 7] [0, 1, 2, 3, 4, 5] [0] (m_X0_about hp0 hp5 hn hA ma (by omega) 1 (by omega)) gL_law_X0_about rfl rfl rfl rfl (by decide +kernel) ⟨(Nat.le_of_ble_eq_true rfl), (Nat.le_of_ble_eq_true rfl)⟩ rfl rfl rfl ⟨rfl, rfl⟩ (by decide) rfl rfl rfl rfl (Nat.le_of_ble_eq_true rfl) dL_law_525 ⟨by show k + 0 ≤ 759041; omega, by show nn + 0 ≤ 6824346; omega⟩ (fun v1 w1 hp1 => ?_)
        obtain ⟨rfl, rfl⟩ := hp1
        refine xw_st (st' := [nV (cc (fun k => decide (A (16 * ma + k) ≠ 0)) n)]) rfl ?_
        refine xw_wo (w' := LW cI cQ o rr n p (rt n p) g A [] (WX cI h a n p A)) rfl ?_
        refine xw_if_ne_N (pc := 528) (tgt := 535) C dL_law_528 (by decide) (by omega) (fun c_14 => ?_) (fun c_14 => ?_)
        ·
          have hz := c_14
          refine xw_iconst_N (pc := 535) C 0 dL_law_535 rfl ?_
          refine xw_aload_n (pc := 536) C 1 dL_law_536 rfl ?_
          refine xw_iload (pc := 537) C 8 dL_law_537 rfl ?_
          refine xw_iconst_N (pc := 539) C 2 dL_law_539 rfl ?_
          refine xw_VF (pc := 540) (q0 := 0) (na := 2) (rest := [nV 0]) (wc := WX cI h a n p A) (wr := wS cI cQ o n p (rt n p) rr g A ++ []) C [6, 7] [0, 1, 2, 3, 4, 5] [0] (m_X0_about hp0 hp5 hn hA ma (by omega) 2 (by omega)) gL_law_X0_about rfl rfl rfl rfl (by decide +kernel) ⟨(Nat.le_of_ble_eq_true rfl), (Nat.le_of_ble_eq_true rfl)⟩ rfl rfl rfl ⟨rfl, rfl⟩ (by decide) rfl rfl rfl rfl (Nat.le_of_ble_eq_true rfl) dL_law_540 ⟨by show k + 0 ≤ 759041; omega, by show nn + 0 ≤ 6824346; omega⟩ (fun v1 w1 hp1 => ?_)
          obtain ⟨rfl, rfl⟩ := hp1
          refine xw_st (st' := [iV (ln A ma n), nV 0]) rfl ?_
          refine xw_wo (w' := LW cI cQ o rr n p (rt n p) g A [] (WX cI h a n p A)) rfl ?_
          refine xw_if_ge (pc := 543) (tgt := 550) C dL_law_543 (by decide) (by omega) (fun c_15 => ?_) (fun c_15 => (by exact absurd (oc_0.mpr ((ln_0 n).mp (by omega))) hz))
          refine xw_iconst_N (pc := 550) C 0 dL_law_550 rfl ?_
          refine xw_ne_same (pc := 551) (tgt := 587) C (congrArg (fun z : Nat => iI (z : Int)) (show 0 = 0 from rfl)) dL_law_551 (by decide) ?_
          refine xw_aload_n (pc := 554) C 1 dL_law_554 rfl ?_
          refine xw_iload (pc := 555) C 8 dL_law_555 rfl ?_
          refine xw_iconst_N (pc := 557) C 1 dL_law_557 rfl ?_
          refine xw_VF (pc := 558) (q0 := 0) (na := 2) (rest := []) (wc := WX cI h a n p A) (wr := wS cI cQ o n p (rt n p) rr g A ++ []) C [6, 7] [0, 1, 2, 3, 4, 5] [0] (m_X0_about hp0 hp5 hn hA ma (by omega) 1 (by omega)) gL_law_X0_about rfl rfl rfl rfl (by decide +kernel) ⟨(Nat.le_of_ble_eq_true rfl), (Nat.le_of_ble_eq_true rfl)⟩ rfl rfl rfl ⟨rfl, rfl⟩ (by decide) rfl rfl rfl rfl (Nat.le_of_ble_eq_true rfl) dL_law_558 ⟨by show k + 0 ≤ 759041; omega, by show nn + 0 ≤ 6824346; omega⟩ (fun v1 w1 hp1 => ?_)
          obtain ⟨rfl, rfl⟩ := hp1
          refine xw_st (st' := [nV (cc (fun k => decide (A (16 * ma + k) ≠ 0)) n)]) rfl ?_
          refine xw_wo (w' := LW cI cQ o rr n p (rt n p) g A [] (WX cI h a n p A)) rfl ?_
          refine xw_if_ne_N (pc := 561) (tgt := 568) C dL_law_561 (by decide) (by omega) (fun c_16 => ?_) (fun c_16 => (by exact absurd c_16 hz))
          refine xw_iconst_N (pc := 568) C 0 dL_law_568 rfl ?_
          refine xw_aload_n (pc := 569) C 1 dL_law_569 rfl ?_
          refine xw_iload (pc := 570) C 8 dL_law_570 rfl ?_
          refine xw_iconst_N (pc := 572) C 4 dL_law_572 rfl ?_
          refine xw_VF (pc := 573) (q0 := 0) (na := 2) (rest := [nV 0]) (wc := WX cI h a n p A) (wr := wS cI cQ o n p (rt n p) rr g A ++ []) C [6, 7] [0, 1, 2, 3, 4, 5] [0] (m_X0_about hp0 hp5 hn hA ma (by omega) 4 (by omega)) gL_law_X0_about rfl rfl rfl rfl (by decide +kernel) ⟨(Nat.le_of_ble_eq_true rfl), (Nat.le_of_ble_eq_true rfl)⟩ rfl rfl rfl ⟨rfl, rfl⟩ (by decide) rfl rfl rfl rfl (Nat.le_of_ble_eq_true rfl) dL_law_573 ⟨by show k + 0 ≤ 759041; omega, by show nn + 0 ≤ 6824346; omega⟩ (fun v1 w1 hp1 => ?_)
          obtain ⟨rfl, rfl⟩ := hp1
          refine xw_st (st' := [nV (gr A ma n), nV 0]) rfl ?_
          refine xw_wo (w' := LW cI cQ o rr n p (rt n p) g A [] (WX cI h a n p A)) rfl ?_
          refine xw_if_ne_N (pc := 576) (tgt := 583) C dL_law_576 (by decide) (by omega) (fun c_17 => ?_) (fun c_17 => (by exact absurd (oc_0.mpr ((gr_z n).mp c_17)) hz))
          refine xw_iconst_N (pc := 583) C 0 dL_law_583 rfl ?_
          refine xw_eq_same (pc := 584) (tgt := 589) C (congrArg (fun z : Nat => iI (z : Int)) (show 0 = 0 from rfl)) dL_law_584 (by decide) ?_
          exact J589_11
        ·
          have hz := c_14
          refine xw_iconst_N (pc := 531) C 1 dL_law_531 rfl ?_
          refine xw_goto (pc := 532) (tgt := 536) C dL_law_532 (by decide) ?_
          refine xw_aload_n (pc := 536) C 1 dL_law_536 rfl ?_
          refine xw_iload (pc := 537) C 8 dL_law_537 rfl ?_
          refine xw_iconst_N (pc := 539) C 2 dL_law_539 rfl ?_
          refine xw_VF (pc := 540) (q0 := 0) (na := 2) (rest := [nV 1]) (wc := WX cI h a n p A) (wr := wS cI cQ o n p (rt n p) rr g A ++ []) C [6, 7] [0, 1, 2, 3, 4, 5] [0] (m_X0_about hp0 hp5 hn hA ma (by omega) 2 (by omega)) gL_law_X0_about rfl rfl rfl rfl (by decide +kernel) ⟨(Nat.le_of_ble_eq_true rfl), (Nat.le_of_ble_eq_true rfl)⟩ rfl rfl rfl ⟨rfl, rfl⟩ (by decide) rfl rfl rfl rfl (Nat.le_of_ble_eq_true rfl) dL_law_540 ⟨by show k + 0 ≤ 759041; omega, by show nn + 0 ≤ 6824346; omega⟩ (fun v1 w1 hp1 => ?_)
          obtain ⟨rfl, rfl⟩ := hp1
          refine xw_st (st' := [iV (ln A ma n), nV 1]) rfl ?_
          refine xw_wo (w' := LW cI cQ o rr n p (rt n p) g A [] (WX cI h a n p A)) rfl ?_
          refine xw_if_ge (pc := 543) (tgt := 550) C dL_law_543 (by decide) (by omega) (fun c_18 => (by have hq := (ln_0 (A := A) (r := ma) n).mpr (oc_0.mp hz); omega)) (fun c_18 => ?_)
          refine xw_iconst_N (pc := 546) C 1 dL_law_546 rfl ?_
          refine xw_goto (pc := 547) (tgt := 551) C dL_law_547 (by decide) ?_
          refine xw_ne_same (pc := 551) (tgt := 587) C (congrArg (fun z : Nat => iI (z : Int)) (show 1 = 1 from rfl)) dL_law_551 (by decide) ?_
          refine xw_aload_n (pc := 554) C 1 dL_law_554 rfl ?_
          refine xw_iload (pc := 555) C 8 dL_law_555 rfl ?_
          refine xw_iconst_N (pc := 557) C 1 dL_law_557 rfl ?_
          refine xw_VF (pc := 558) (q0 := 0) (na := 2) (rest := []) (wc := WX cI h a n p A) (wr := wS cI cQ o n p (rt n p) rr g A ++ []) C [6, 7] [0, 1, 2, 3, 4, 5] [0] (m_X0_about hp0 hp5 hn hA ma (by omega) 1 (by omega)) gL_law_X0_about rfl rfl rfl rfl (by decide +kernel) ⟨(Nat.le_of_ble_eq_true rfl), (Nat.le_of_ble_eq_true rfl)⟩ rfl rfl rfl ⟨rfl, rfl⟩ (by decide) rfl rfl rfl rfl (Nat.le_of_ble_eq_true rfl) dL_law_558 ⟨by show k + 0 ≤ 759041; omega, by show nn + 0 ≤ 6824346; omega⟩ (fun v1 w1 hp1 => ?_)
          obtain ⟨rfl, rfl⟩ := hp1
          refine xw_st (st' := [nV (cc (fun k => decide (A (16 * ma + k) ≠ 0)) n)]) rfl ?_
          refine xw_wo (w' := LW cI cQ o rr n p (rt n p) g A [] (WX cI h a n p A)) rfl ?_
          refine xw_if_ne_N (pc := 561) (tgt := 568) C dL_law_561 (by decide) (by omega) (fun c_19 => (by exact absurd hz c_19)) (fun c_19 => ?_)
          refine xw_iconst_N (pc := 564) C 1 dL_law_564 rfl ?_
          refine xw_goto (pc := 565) (tgt := 569) C dL_law_565 (by decide) ?_
          refine xw_aload_n (pc := 569) C 1 dL_law_569 rfl ?_
          refine xw_iload (pc := 570) C 8 dL_law_570 rfl ?_
          refine xw_iconst_N (pc := 572) C 4 dL_law_572 rfl ?_
          refine xw_VF (pc := 573) (q0 := 0) (na := 2) (rest := [nV 1]) (wc := WX cI h a n p A) (wr := wS cI cQ o n p (rt n p) rr g A ++ []) C [6, 7] [0, 1, 2, 3, 4, 5] [0] (m_X0_about hp0 hp5 hn hA ma (by omega) 4 (by omega)) gL_law_X0_about rfl rfl rfl rfl (by decide +kernel) ⟨(Nat.le_of_ble_eq_true rfl), (Nat.le_of_ble_eq_true rfl)⟩ rfl rfl rfl ⟨rfl, rfl⟩ (by decide) rfl rfl rfl rfl (Nat.le_of_ble_eq_true rfl) dL_law_573 ⟨by show k + 0 ≤ 759041; omega, by show nn + 0 ≤ 6824346; omega⟩ (fun v1 w1 hp1 => ?_)
          obtain ⟨rfl, rfl⟩ := hp1
          refine xw_st (st' := [nV (gr A ma n), nV 1]) rfl ?_
          refine xw_wo (w' := LW cI cQ o rr n p (rt n p) g A [] (WX cI h a n p A)) rfl ?_
          refine xw_if_ne_N (pc := 576) (tgt := 583) C dL_law_576 (by decide) (by omega) (fun c_20 => (by exact absurd ((gr_z n).mpr (oc_0.mp hz)) c_20)) (fun c_20 => ?_)
          refine xw_iconst_N (pc := 579) C 1 dL_law_579 rfl ?_
          refine xw_goto (pc := 580) (tgt := 584) C dL_law_580 (by decide) ?_
          refine xw_eq_same (pc := 584) (tgt := 589) C (congrArg (fun z : Nat => iI (z : Int)) (show 1 = 1 from rfl)) dL_law_584 (by decide) ?_
          exact J589_11
      ·
        refine xw_aload_n (pc := 326) C 1 dL_law_326 rfl ?_
        refine xw_iload (pc := 327) C 8 dL_law_327 rfl ?_
        refine xw_iload (pc := 329) C 11 dL_law_329 rfl ?_
        refine xw_VF (pc := 331) (q0 := 0) (na := 2) (rest := []) (wc := WX cI h a n p A) (wr := wS cI cQ o n p (rt n p) rr g A ++ []) C [6, 7] [0, 1, 2, 3, 4, 5] [0] (m_X0_at hn ma (by omega) q (by omega)) gL_law_X0_at rfl rfl rfl rfl (by decide +kernel) ⟨(Nat.le_of_ble_eq_true rfl), (Nat.le_of_ble_eq_true rfl)⟩ rfl rfl rfl ⟨rfl, rfl⟩ (by decide) rfl rfl rfl rfl (Nat.le_of_ble_eq_true rfl) dL_law_331 ⟨by show k + 0 ≤ 759041; omega, by show nn + 0 ≤ 6824346; omega⟩ (fun v1 w1 hp1 => ?_)
        obtain ⟨rfl, rfl⟩ := hp1
        refine xw_st (st' := [nV (A (16 * ma + q))]) rfl ?_
        refine xw_wo (w' := LW cI cQ o rr n p (rt n p) g A [] (WX cI h a n p A)) rfl ?_
        refine xw_if_lt_N (pc := 334) (tgt := 373) C dL_law_334 (by decide) (by omega) (fun c_21 => (by omega)) (fun c_21 => ?_)
        refine xw_aload_n (pc := 337) C 1 dL_law_337 rfl ?_
        refine xw_iload (pc := 338) C 8 dL_law_338 rfl ?_
        refine xw_iload (pc := 340) C 11 dL_law_340 rfl ?_
        refine xw_VF (pc := 342) (q0 := 0) (na := 2) (rest := []) (wc := WX cI h a n p A) (wr := wS cI cQ o n p (rt n p) rr g A ++ []) C [6, 7] [0, 1, 2, 3, 4, 5] [0] (m_X0_at hn ma (by omega) q (by omega)) gL_law_X0_at rfl rfl rfl rfl (by decide +kernel) ⟨(Nat.le_of_ble_eq_true rfl), (Nat.le_of_ble_eq_true rfl)⟩ rfl rfl rfl ⟨rfl, rfl⟩ (by decide) rfl rfl rfl rfl (Nat.le_of_ble_eq_true rfl) dL_law_342 ⟨by show k + 0 ≤ 759041; omega, by show nn + 0 ≤ 6824346; omega⟩ (fun v1 w1 hp1 => ?_)
        obtain ⟨rfl, rfl⟩ := hp1
        refine xw_st (st' := [nV (A (16 * ma + q))]) rfl ?_
        refine xw_wo (w' := LW cI cQ o rr n p (rt n p) g A [] (WX cI h a n p A)) rfl ?_
        refine xw_iload (pc := 345) C 7 dL_law_345 rfl ?_
        refine xw_icmp_ge_N (pc := 347) (tgt := 373) C dL_law_347 (by decide) (by omega) (by omega) (fun c_22 => (by have := hap (by omega); omega)) (fun c_22 => ?_)
        refine xw_aload_n (pc := 350) C 1 dL_law_350 rfl ?_
        refine xw_iload (pc := 351) C 8 dL_law_351 rfl ?_
        refine xw_iload (pc := 353) C 9 dL_law_353 rfl ?_
        refine xw_iload (pc := 355) C 11 dL_law_355 rfl ?_
        refine xw_VF (pc := 357) (q0 := 0) (na := 3) (rest := []) (wc := WX cI h a n p A) (wr := wS cI cQ o n p (rt n p) rr g A ++ []) C [6, 7] [0, 1, 2, 3, 4, 5] [0] (m_X0_would hp0 hp5 hn hA ma mb (by omega) (by omega) q (by omega)) gL_law_X0_would rfl rfl rfl rfl (by decide +kernel) ⟨(Nat.le_of_ble_eq_true rfl), (Nat.le_of_ble_eq_true rfl)⟩ rfl rfl rfl ⟨rfl, rfl⟩ (by decide) rfl rfl rfl rfl (Nat.le_of_ble_eq_true rfl) dL_law_357 ⟨by show k + 0 ≤ 759041; omega, by show nn + 0 ≤ 6824346; omega⟩ (fun v1 w1 hp1 => ?_)
        obtain ⟨rfl, rfl⟩ := hp1
        refine xw_st (st' := [nV (fo p n A ma mb q n)]) rfl ?_
        refine xw_wo (w' := LW cI cQ o rr n p (rt n p) g A [] (WX cI h a n p A)) rfl ?_
        refine xw_aload_n (pc := 360) C 1 dL_law_360 rfl ?_
        refine xw_iload (pc := 361) C 9 dL_law_361 rfl ?_
        refine xw_iload (pc := 363) C 8 dL_law_363 rfl ?_
        refine xw_iload (pc := 365) C 11 dL_law_365 rfl ?_
        refine xw_VF (pc := 367) (q0 := 0) (na := 3) (rest := [nV (fo p n A ma mb q n)]) (wc := WX cI h a n p A) (wr := wS cI cQ o n p (rt n p) rr g A ++ []) C [6, 7] [0, 1, 2, 3, 4, 5] [0] (m_X0_would hp0 hp5 hn hA mb ma (by omega) (by omega) q (by omega)) gL_law_X0_would rfl rfl rfl rfl (by decide +kernel) ⟨(Nat.le_of_ble_eq_true rfl), (Nat.le_of_ble_eq_true rfl)⟩ rfl rfl rfl ⟨rfl, rfl⟩ (by decide) rfl rfl rfl rfl (Nat.le_of_ble_eq_true rfl) dL_law_367 ⟨by show k + 0 ≤ 759041; omega, by show nn + 0 ≤ 6824346; omega⟩ (fun v1 w1 hp1 => ?_)
        obtain ⟨rfl, rfl⟩ := hp1
        refine xw_st (st' := [nV (fo p n A mb ma q n), nV (fo p n A ma mb q n)]) rfl ?_
        refine xw_wo (w' := LW cI cQ o rr n p (rt n p) g A [] (WX cI h a n p A)) rfl ?_
        refine xw_eq_same (pc := 370) (tgt := 375) C (congrArg (fun z : Nat => iI (z : Int)) (show fo p n A ma mb q n = fo p n A mb ma q n from fo_comm (by omega))) dL_law_370 (by decide) ?_
        refine xw_iload (pc := 375) C 10 dL_law_375 rfl ?_
        refine xw_aload_n (pc := 377) C 1 dL_law_377 rfl ?_
        refine xw_iload (pc := 378) C 8 dL_law_378 rfl ?_
        refine xw_iload (pc := 380) C 9 dL_law_380 rfl ?_
        refine xw_iload (pc := 382) C 11 dL_law_382 rfl ?_
        refine xw_VF (pc := 384) (q0 := 0) (na := 3) (rest := [nV s]) (wc := WX cI h a n p A) (wr := wS cI cQ o n p (rt n p) rr g A ++ []) C [6, 7] [0, 1, 2, 3, 4, 5] [0] (m_X0_would hp0 hp5 hn hA ma mb (by omega) (by omega) q (by omega)) gL_law_X0_would rfl rfl rfl rfl (by decide +kernel) ⟨(Nat.le_of_ble_eq_true rfl), (Nat.le_of_ble_eq_true rfl)⟩ rfl rfl rfl ⟨rfl, rfl⟩ (by decide) rfl rfl rfl rfl (Nat.le_of_ble_eq_true rfl) dL_law_384 ⟨by show k + 0 ≤ 759041; omega, by show nn + 0 ≤ 6824346; omega⟩ (fun v1 w1 hp1 => ?_)
        obtain ⟨rfl, rfl⟩ := hp1
        refine xw_st (st' := [nV (fo p n A ma mb q n), nV s]) rfl ?_
        refine xw_wo (w' := LW cI cQ o rr n p (rt n p) g A [] (WX cI h a n p A)) rfl ?_
        refine xw_iadd_N (pc := 387) C dL_law_387 ?_
        refine xw_istore (pc := 388) (lv' := [(0, .ref sc), (1, .ref h), (2, .ref o), (3, nV i), (4, .int x), (5, .long d0), (7, nV n), (8, nV p), (11, nV ma), (12, nV mb), (13, nV (s + (fo p n A ma mb q n))), (14, nV q)]) C [1, 2, 3, 4, 5, 6, 7, 8, 9, 10, 0, 11] dL_law_388 (by decide) rfl ?_
        refine xw_iinc_N (pc := 390) (b := q + 1) (lv' := [(0, .ref sc), (1, .ref h), (2, .ref o), (3, nV i), (4, .int x), (5, .long d0), (7, nV n), (8, nV p), (11, nV ma), (12, nV mb), (13, nV (s + (fo p n A ma mb q n))), (14, nV (q + 1))]) C 11 [1, 2, 3, 4, 5, 6, 7, 8, 9, 10, 11, 0] dL_law_390 rfl (by decide) rfl rfl ?_
        refine xw_goto (pc := 393) (tgt := 319) C dL_law_393 (by decide) ?_
        exact ih319 (q + 1) _ (by omega) (by omega) (by rw [hs]; rfl)
  exact L319 (n + 1) 0 0 (by omega) (by omega) rfl

set_option maxHeartbeats 4000000 in
set_option maxRecDepth 100000 in
theorem law_D {φ : Fx} {l : Launch} {D : va_G} {cI cQ : ClassId} {sc h a o rr n p : Nat} {g A : Nat → Nat} (C : xc φ l room_1 D vwCl [(cI, .int), (cQ, .array .int)] 19 cL_law RL wsL_law) (Y : xyc sc φ) (hS : SI n p A) (k nn : Nat) (hk : k ≤ 3000) (hnn : nn ≤ 30000) {i : Nat} {x : Int32} (hi : i < 14) {d0 : Int64} {ma pd : Nat} (hd : DG n p A = d0) (hpd : pe n A ma = pd) (hma : ma < 4)
    (kk : ∀ (A1 : Nat → Nat), SI n p A1 → DG n p A1 = d0 → pe n A1 ma = pd → xw φ (k + 1) (nn + 16) (LV cI cQ h a o rr n p g A1) 768 [(0, .ref sc), (1, .ref h), (2, .ref o), (3, nV i), (4, .int x), (5, .long d0), (7, nV n), (11, nV ma), (14, nV pd)] []) : xw φ k nn (LV cI cQ h a o rr n p g A) 601 [(0, .ref sc), (1, .ref h), (2, .ref o), (3, nV i), (4, .int x), (5, .long d0), (7, nV n), (11, nV ma), (14, nV pd)] [] := by
  have hin : ∀ w ∈ wsX10, w ∈ wsL_law := inlX1
  obtain ⟨hrg, hA, hAp⟩ := id hS
  obtain ⟨hn, hp4, hp5, hp1, hp0, hn16, hnp, hr1, hrl, hfer⟩ := rgs_o hrg
  have hn3 := lt3 hn
  have hb0 := hA (16 * ma + 0)
  have htl : ∀ k, tn p n A ma (rt n p) 1 k < p := fun _ => Nat.mod_lt _ hp0
  have hs1 := Nat.mod_lt (sm A ma n) hp0
  refine xw_iload (pc := 601) C 6 dL_law_601 rfl ?_
  refine xw_newI (pc := 603) C 0 rfl (by decide +kernel) (by show n * 4 ≤ 536870912; omega) (by show k + 1 ≤ 759041; omega) (by show nn + n ≤ 6824346; omega) dL_law_603 (fun q_1 => ?_)
  refine xw_wd (k' := k + 1) (n' := nn + 16) (by omega) (by omega) ?_
  refine xw_astore (pc := 605) (lv' := [(0, .ref sc), (1, .ref h), (2, .ref o), (3, nV i), (4, .int x), (5, .long d0), (7, nV n), (11, nV ma), (14, nV pd), (15, .ref q_1)]) C [1, 2, 3, 4, 5, 6, 7, 8, 9, 0] dL_law_605 (by decide) rfl ?_
  refine xw_sub (w' := LW cI cQ o rr n p (rt n p) g A [(q_1, .inl (cI, n, .inl (fN (fun _ => 0))))] (WX cI h a n p A)) [0, 1, 2, 3, 4, 5, 8, 6, 7] rfl rfl rfl ?_
  refine xw_iconst_N (pc := 607) C 0 dL_law_607 rfl ?_
  refine xw_istore (pc := 608) (lv' := [(0, .ref sc), (1, .ref h), (2, .ref o), (3, nV i), (4, .int x), (5, .long d0), (7, nV n), (11, nV ma), (14, nV pd), (15, .ref q_1), (16, nV 0)]) C [1, 2, 3, 4, 5, 6, 7, 8, 9, 10, 0] dL_law_608 (by decide) rfl ?_
  have L610 : ∀ (fuel : Nat) (q : Nat), n < q + fuel → q ≤ n → xw φ (k + 1) (nn + 16) (LW cI cQ o rr n p (rt n p) g A [(q_1, .inl (cI, n, .inl (fN (mk (fun _ => 0) (tn p n A ma (rt n p) 1) q))))] (WX cI h a n p A)) 610 [(0, .ref sc), (1, .ref h), (2, .ref o), (3, nV i), (4, .int x), (5, .long d0), (7, nV n), (11, nV ma), (14, nV pd), (15, .ref q_1), (16, nV q)] [] := by
    intro fuel
    induction fuel with
    | zero =>
      intro q hq hqn
      omega
    | succ fuel ih610 =>
      intro q hq hqn
      refine xw_iload (pc := 610) C 10 dL_law_610 rfl ?_
      refine xw_iload (pc := 612) C 6 dL_law_612 rfl ?_
      refine xw_icmp_ge_N (pc := 614) (tgt := 640) C dL_law_614 (by decide) (by omega) (by omega) (fun c_2 => ?_) (fun c_2 => ?_)
      ·
        have hqe : q = n := by omega
        refine xw_wo (w' := LW cI cQ o rr n p (rt n p) g A [(q_1, .inl (cI, n, .inl (fN (mk (fun _ => 0) (tn p n A ma (rt n p) 1) n))))] (WX cI h a n p A)) (by rw [hqe]) ?_
        refine xw_lv (lv' := [(0, .ref sc), (1, .ref h), (2, .ref o), (3, nV i), (4, .int x), (5, .long d0), (7, nV n), (11, nV ma), (14, nV pd), (15, .ref q_1)]) [0, 1, 2, 3, 4, 5, 6, 7, 8, 9] rfl ?_
        refine xw_aload_n (pc := 640) C 1 dL_law_640 rfl ?_
        refine xw_iload (pc := 641) C 7 dL_law_641 rfl ?_
        refine xw_iconst_N (pc := 643) C 0 dL_law_643 rfl ?_
        refine xw_VF (pc := 644) (q0 := 0) (na := 2) (rest := []) (wc := WX cI h a n p A) (wr := wS cI cQ o n p (rt n p) rr g A ++ [(q_1, .inl (cI, n, .inl (fN (mk (fun _ => 0) (tn p n A ma (rt n p) 1) n))))]) C [7, 8] [0, 1, 2, 3, 4, 5, 6] [0] (m_X0_about hp0 hp5 hn hA ma (by omega) 0 (by omega)) gL_law_X0_about rfl rfl rfl rfl (by decide +kernel) ⟨(Nat.le_of_ble_eq_true rfl), (Nat.le_of_ble_eq_true rfl)⟩ rfl rfl rfl ⟨rfl, rfl⟩ (by decide) rfl rfl rfl rfl (Nat.le_of_ble_eq_true rfl) dL_law_644 ⟨by show k + 1 + 0 ≤ 759041; omega, by show nn + 16 + 0 ≤ 6824346; omega⟩ (fun v1 w1 hp1 => ?_)
        obtain ⟨rfl, rfl⟩ := hp1
        refine xw_st (st' := [nV (sm A ma n % p)]) rfl ?_
        refine xw_wo (w' := LW cI cQ o rr n p (rt n p) g A [(q_1, .inl (cI, n, .inl (fN (mk (fun _ => 0) (tn p n A ma (rt n p) 1) n))))] (WX cI h a n p A)) rfl ?_
        refine xw_istore (pc := 647) (lv' := [(0, .ref sc), (1, .ref h), (2, .ref o), (3, nV i), (4, .int x), (5, .long d0), (7, nV n), (11, nV ma), (13, nV (sm A ma n % p)), (14, nV pd), (15, .ref q_1)]) C [1, 2, 3, 4, 5, 6, 7, 8, 0, 9, 10] dL_law_647 (by decide) rfl ?_
        refine xw_aload_n (pc := 649) C 1 dL_law_649 rfl ?_
        refine xw_iload (pc := 650) C 7 dL_law_650 rfl ?_
        refine xw_iconst_N (pc := 652) C 0 dL_law_652 rfl ?_
        refine xw_VF (pc := 653) (q0 := 0) (na := 2) (rest := []) (wc := WX cI h a n p A) (wr := wS cI cQ o n p (rt n p) rr g A ++ [(q_1, .inl (cI, n, .inl (fN (mk (fun _ => 0) (tn p n A ma (rt n p) 1) n))))]) C [7, 8] [0, 1, 2, 3, 4, 5, 6] [0] (m_X0_turn_false hp0 hp5 hn hA (by omega) (ml hp0 hp5) (ml hp0 hp5) ma (by omega)) gL_law_X0_turn rfl rfl rfl rfl (by decide +kernel) ⟨(Nat.le_of_ble_eq_true rfl), (Nat.le_of_ble_eq_true rfl)⟩ rfl rfl rfl ⟨rfl, rfl⟩ (by decide) rfl rfl rfl rfl (Nat.le_of_ble_eq_true rfl) dL_law_653 ⟨by show k + 1 + 0 ≤ 759041; omega, by show nn + 16 + 0 ≤ 6824346; omega⟩ (fun v1 w1 hp1 => ?_)
        obtain ⟨rfl, rfl⟩ := hp1
        refine xw_st (st' := [nV (tn p n A ma (rt n p) 1 0)]) rfl ?_
        refine xw_wo (w' := LW cI cQ o rr n p (rt n p) g A [(q_1, .inl (cI, n, .inl (fN (mk (fun _ => 0) (tn p n A ma (rt n p) 1) n))))] (WX cI h a n p (ly A (tn p n A ma (rt n p) 1) ma n))) rfl ?_
        refine xw_iload (pc := 656) C 8 dL_law_656 rfl ?_
        refine xw_ne_same (pc := 658) (tgt := 670) C (congrArg (fun z : Nat => iI (z : Int)) (show tn p n A ma (rt n p) 1 0 = sm A ma n % p from tn_0 hp1)) dL_law_658 (by decide) ?_
        refine xw_aload (pc := 661) C 10 dL_law_661 rfl ?_
        refine xw_iconst_N (pc := 663) C 0 dL_law_663 rfl ?_
        refine xw_iald (pc := 664) C 6 0 0 rfl rfl rfl (by omega) (by omega) dL_law_664 ?_
        refine xw_st (st' := [nV ((mk (fun _ => 0) (tn p n A ma (rt n p) 1) n) 0)]) rfl ?_
        refine xw_iload (pc := 665) C 8 dL_law_665 rfl ?_
        refine xw_eq_same (pc := 667) (tgt := 672) C (congrArg (fun z : Nat => iI (z : Int)) (show (mk (fun _ => 0) (tn p n A ma (rt n p) 1) n) 0 = sm A ma n % p from by rw [mk_in (by omega)]; exact tn_0 hp1)) dL_law_667 (by decide) ?_
        refine xw_iconst_N (pc := 672) C 0 dL_law_672 rfl ?_
        refine xw_istore (pc := 673) (lv' := [(0, .ref sc), (1, .ref h), (2, .ref o), (3, nV i), (4, .int x), (5, .long d0), (7, nV n), (11, nV ma), (13, nV (sm A ma n % p)), (14, nV pd), (15, .ref q_1), (16, nV 0)]) C [1, 2, 3, 4, 5, 6, 7, 8, 9, 10, 11, 0] dL_law_673 (by decide) rfl ?_
        have L675 : ∀ (fuel : Nat) (q : Nat), n < q + fuel → q ≤ n → xw φ (k + 1) (nn + 16) (LW cI cQ o rr n p (rt n p) g A [(q_1, .inl (cI, n, .inl (fN (mk (fun _ => 0) (tn p n A ma (rt n p) 1) n))))] (WX cI h a n p (ly A (tn p n A ma (rt n p) 1) ma n))) 675 [(0, .ref sc), (1, .ref h), (2, .ref o), (3, nV i), (4, .int x), (5, .long d0), (7, nV n), (11, nV ma), (13, nV (sm A ma n % p)), (14, nV pd), (15, .ref q_1), (16, nV q)] [] := by
          intro fuel
          induction fuel with
          | zero =>
            intro q hq hqn
            omega
          | succ fuel ih675 =>
            intro q hq hqn
            refine xw_iload (pc := 675) C 11 dL_law_675 rfl ?_
            refine xw_iload (pc := 677) C 6 dL_law_677 rfl ?_
            refine xw_icmp_ge_N (pc := 679) (tgt := 706) C dL_law_679 (by decide) (by omega) (by omega) (fun c_3 => ?_) (fun c_3 => ?_)
            ·
              refine xw_sub (w' := LW cI cQ o rr n p (rt n p) g A [] (WX cI h a n p (ly A (tn p n A ma (rt n p) 1) ma n))) [0, 1, 2, 3, 4, 5, 7, 8] rfl rfl rfl ?_
              refine xw_aload_n (pc := 706) C 1 dL_law_706 rfl ?_
              refine xw_iload (pc := 707) C 7 dL_law_707 rfl ?_
              refine xw_iconst_N (pc := 709) C 1 dL_law_709 rfl ?_
              refine xw_VF (pc := 710) (q0 := 0) (na := 2) (rest := []) (wc := WX cI h a n p (ly A (tn p n A ma (rt n p) 1) ma n)) (wr := wS cI cQ o n p (rt n p) rr g A ++ []) C [6, 7] [0, 1, 2, 3, 4, 5] [0] (m_X0_turn_true hp0 hp5 hn (ly_lt hA (fun j _ => ml hp0 hp5)) (by omega) (ml hp0 hp5) (ml hp0 hp5) ma (by omega)) gL_law_X0_turn rfl rfl rfl rfl (by decide +kernel) ⟨(Nat.le_of_ble_eq_true rfl), (Nat.le_of_ble_eq_true rfl)⟩ rfl rfl rfl ⟨rfl, rfl⟩ (by decide) rfl rfl rfl rfl (Nat.le_of_ble_eq_true rfl) dL_law_710 ⟨by show k + 1 + 0 ≤ 759041; omega, by show nn + 16 + 0 ≤ 6824346; omega⟩ (fun v1 w1 hp1 => ?_)
              obtain ⟨rfl, rfl⟩ := hp1
              refine xw_st (st' := [nV (tn p n (ly A (tn p n A ma (rt n p) 1) ma n) ma (rt n p ^ (p - 2) % p) (n ^ (p - 2) % p) 0)]) rfl ?_
              refine xw_wo (w' := LW cI cQ o rr n p (rt n p) g A [] (WX cI h a n p (ly (ly A (tn p n A ma (rt n p) 1) ma n) (tn p n (ly A (tn p n A ma (rt n p) 1) ma n) ma (rt n p ^ (p - 2) % p) (n ^ (p - 2) % p)) ma n))) rfl ?_
              refine xw_aload_n (pc := 713) C 2 dL_law_713 rfl ?_
              refine xw_get (pc := 714) (T := TX1) (N := 4) (ref := "ToneButterfliesLaw$Sim") C hin 0 3 LW_o rfl (by decide) (by decide +kernel) rfl rfl dL_law_714 ?_
              refine xw_iload (pc := 717) C 7 dL_law_717 rfl ?_
              refine xw_aald (pc := 719) (r := g ma) C 1 1 ma LW_q rfl (by omega) (by decide) (if_pos (by omega)) dL_law_719 ?_
              refine xw_iconst_N (pc := 720) C 0 dL_law_720 rfl ?_
              refine xw_iald (pc := 721) C (2 + ma) 0 0 (LW_r (by omega)) rfl rfl (by omega) (by omega) dL_law_721 ?_
              refine xw_st (st' := [nV (A (16 * ma + 0)), nV (tn p n (ly A (tn p n A ma (rt n p) 1) ma n) ma (rt n p ^ (p - 2) % p) (n ^ (p - 2) % p) 0)]) rfl ?_
              refine xw_ne_same (pc := 722) (tgt := 735) C (congrArg (fun z : Nat => iI (z : Int)) (show tn p n (ly A (tn p n A ma (rt n p) 1) ma n) ma (rt n p ^ (p - 2) % p) (n ^ (p - 2) % p) 0 = A (16 * ma + 0) from tn_inv hrg (by omega) (hAp _ (by omega)) (fun k hk => ly_in hk))) dL_law_722 (by decide) ?_
              have ls_A_4 : LiS n A (ly (ly A (tn p n A ma (rt n p) 1) ma n) (tn p n (ly A (tn p n A ma (rt n p) 1) ma n) ma (rt n p ^ (p - 2) % p) (n ^ (p - 2) % p)) ma n) := LiS.sy (LiS_ly2 hn16 (fun j hj => tn_inv hrg hj (hAp _ (by omega)) (fun k hk => ly_in hk)))
              have hS_A_4 : SI n p (ly (ly A (tn p n A ma (rt n p) 1) ma n) (tn p n (ly A (tn p n A ma (rt n p) 1) ma n) ma (rt n p ^ (p - 2) % p) (n ^ (p - 2) % p)) ma n) := SI_ly (SI_ly hS hn16 hma (fun _ _ => Nat.mod_lt _ hp0)) hn16 hma (fun _ _ => Nat.mod_lt _ hp0)
              refine xw_sB (ly (ly A (tn p n A ma (rt n p) 1) ma n) (tn p n (ly A (tn p n A ma (rt n p) 1) ma n) ma (rt n p ^ (p - 2) % p) (n ^ (p - 2) % p)) ma n) ls_A_4 ?_
              have hd_A_4 : DG n p (ly (ly A (tn p n A ma (rt n p) 1) ma n) (tn p n (ly A (tn p n A ma (rt n p) 1) ma n) ma (rt n p ^ (p - 2) % p) (n ^ (p - 2) % p)) ma n) = d0 := (DG_l (by omega) ls_A_4).symm.trans hd
              have hpd_A_4 : pe n (ly (ly A (tn p n A ma (rt n p) 1) ma n) (tn p n (ly A (tn p n A ma (rt n p) 1) ma n) ma (rt n p ^ (p - 2) % p) (n ^ (p - 2) % p)) ma n) ma = pd := (pe_cg (by omega) (fun k hk => ls_A_4 ma hma k hk)).symm.trans hpd
              clear ls_A_4
              generalize ly (ly A (tn p n A ma (rt n p) 1) ma n) (tn p n (ly A (tn p n A ma (rt n p) 1) ma n) ma (rt n p ^ (p - 2) % p) (n ^ (p - 2) % p)) ma n = A_4 at hS_A_4 hd_A_4 hpd_A_4 ⊢
              have hA_A_4 := hS_A_4.2.1
              have hAp_A_4 := hS_A_4.2.2
              refine xw_aload_n (pc := 725) C 1 dL_law_725 rfl ?_
              refine xw_VF (pc := 726) (q0 := 0) (na := 0) (rest := []) (wc := WX cI h a n p A_4) (wr := wS cI cQ o n p (rt n p) rr g A_4 ++ []) C [6, 7] [0, 1, 2, 3, 4, 5] [0] (m_X0_digest hp0 hp5 hn hA_A_4 (by omega)) gL_law_X0_digest rfl rfl rfl rfl (by decide +kernel) ⟨(Nat.le_of_ble_eq_true rfl), (Nat.le_of_ble_eq_true rfl)⟩ rfl rfl rfl ⟨rfl, rfl⟩ (by decide) rfl rfl rfl rfl (Nat.le_of_ble_eq_true rfl) dL_law_726 ⟨by show k + 1 + 0 ≤ 759041; omega, by show nn + 16 + 0 ≤ 6824346; omega⟩ (fun v1 w1 hp1 => ?_)
              obtain ⟨A_5, e_A_5, l_A_5, rfl, rfl⟩ := hp1
              refine xw_st (st' := [.long (DG n p A_4)]) rfl ?_
              refine xw_wo (w' := LW cI cQ o rr n p (rt n p) g A_4 [] (WX cI h a n p A_5)) rfl ?_
              have hS_A_5 : SI n p A_5 := ⟨hrg, l_A_5, fun j hj => by rw [e_A_5 j hj]; exact hAp_A_4 j hj⟩
              have hAp_A_5 := hS_A_5.2.2
              have ls_A_5 : LiS n A_4 A_5 := fun i hi k hk => (e_A_5 _ (by omega)).symm
              have hd_A_5 : DG n p A_5 = d0 := (DG_l (by omega) ls_A_5).symm.trans hd_A_4
              have hpd_A_5 : pe n A_5 ma = pd := (pe_cg (by omega) (fun k hk => ls_A_5 ma hma k hk)).symm.trans hpd_A_4
              refine xw_sB A_5 (ls_A_5) ?_
              refine xw_lload (pc := 729) C 5 dL_law_729 rfl ?_
              refine xw_lcmp (pc := 731) C (hd_A_4) dL_law_731 ?_
              refine xw_if_eq_N (pc := 732) (tgt := 737) C dL_law_732 (by decide) (by omega) (fun c_6 => ?_) (fun c_6 => (by omega))
              refine xw_aload_n (pc := 737) C 1 dL_law_737 rfl ?_
              refine xw_iload (pc := 738) C 7 dL_law_738 rfl ?_
              refine xw_VF (pc := 740) (q0 := 0) (na := 1) (rest := []) (wc := WX cI h a n p A_5) (wr := wS cI cQ o n p (rt n p) rr g A_5 ++ []) C [6, 7] [0, 1, 2, 3, 4, 5] [0] (m_X0_mirror hn l_A_5 rfl ma (by omega)) gL_law_X0_mirror rfl rfl rfl rfl (by decide +kernel) ⟨(Nat.le_of_ble_eq_true rfl), (Nat.le_of_ble_eq_true rfl)⟩ rfl rfl rfl ⟨rfl, rfl⟩ (by decide) rfl rfl rfl rfl (Nat.le_of_ble_eq_true rfl) dL_law_740 ⟨by show k + 1 + 0 ≤ 759041; omega, by show nn + 16 + 0 ≤ 6824346; omega⟩ (fun v1 w1 hp1 => ?_)
              obtain ⟨rfl, rfl⟩ := hp1
              refine xw_st (st' := [nV (cc (fun j => decide (A_5 (16 * ma + j) ≠ (fun m => A_5 (16 * ma + mi m (bt n))) j)) n)]) rfl ?_
              refine xw_wo (w' := LW cI cQ o rr n p (rt n p) g A_5 [] (WX cI h a n p (ly A_5 (fun m => A_5 (16 * ma + mi m (bt n))) ma n))) rfl ?_
              refine xw_istore (pc := 743) (lv' := [(0, .ref sc), (1, .ref h), (2, .ref o), (3, nV i), (4, .int x), (5, .long d0), (7, nV n), (11, nV ma), (13, nV (sm A ma n % p)), (14, nV pd), (15, .ref q_1), (16, nV (cc (fun j => decide (A_5 (16 * ma + j) ≠ (fun m => A_5 (16 * ma + mi m (bt n))) j)) n))]) C [1, 2, 3, 4, 5, 6, 7, 8, 9, 10, 11, 0] dL_law_743 (by decide) rfl ?_
              refine xw_aload_n (pc := 745) C 1 dL_law_745 rfl ?_
              refine xw_iload (pc := 746) C 7 dL_law_746 rfl ?_
              refine xw_VF (pc := 748) (q0 := 0) (na := 1) (rest := []) (wc := WX cI h a n p (ly A_5 (fun m => A_5 (16 * ma + mi m (bt n))) ma n)) (wr := wS cI cQ o n p (rt n p) rr g A_5 ++ []) C [6, 7] [0, 1, 2, 3, 4, 5] [0] (m_X0_mirror hn (ly_lt l_A_5 (fun j _ => l_A_5 _)) rfl ma (by omega)) gL_law_X0_mirror rfl rfl rfl rfl (by decide +kernel) ⟨(Nat.le_of_ble_eq_true rfl), (Nat.le_of_ble_eq_true rfl)⟩ rfl rfl rfl ⟨rfl, rfl⟩ (by decide) rfl rfl rfl rfl (Nat.le_of_ble_eq_true rfl) dL_law_748 ⟨by show k + 1 + 0 ≤ 759041; omega, by show nn + 16 + 0 ≤ 6824346; omega⟩ (fun v1 w1 hp1 => ?_)
              obtain ⟨rfl, rfl⟩ := hp1
              refine xw_st (st' := [nV (cc (fun j => decide ((ly A_5 (fun m => A_5 (16 * ma + mi m (bt n))) ma n) (16 * ma + j) ≠ (fun m => (ly A_5 (fun m => A_5 (16 * ma + mi m (bt n))) ma n) (16 * ma + mi m (bt n))) j)) n)]) rfl ?_
              refine xw_wo (w' := LW cI cQ o rr n p (rt n p) g A_5 [] (WX cI h a n p (ly (ly A_5 (fun m => A_5 (16 * ma + mi m (bt n))) ma n) (fun m => (ly A_5 (fun m => A_5 (16 * ma + mi m (bt n))) ma n) (16 * ma + mi m (bt n))) ma n))) rfl ?_
              refine xw_iload (pc := 751) C 11 dL_law_751 rfl ?_
              refine xw_ne_same (pc := 753) (tgt := 766) C (congrArg (fun z : Nat => iI (z : Int)) (show cc (fun j => decide ((ly A_5 (fun m => A_5 (16 * ma + mi m (bt n))) ma n) (16 * ma + j) ≠ (fun m => (ly A_5 (fun m => A_5 (16 * ma + mi m (bt n))) ma n) (16 * ma + mi m (bt n))) j)) n = cc (fun j => decide (A_5 (16 * ma + j) ≠ (fun m => A_5 (16 * ma + mi m (bt n))) j)) n from mi_cc hn)) dL_law_753 (by decide) ?_
              have ls_A_7 : LiS n A_5 (ly (ly A_5 (fun m => A_5 (16 * ma + mi m (bt n))) ma n) (fun m => (ly A_5 (fun m => A_5 (16 * ma + mi m (bt n))) ma n) (16 * ma + mi m (bt n))) ma n) := LiS.sy (LiS_ly2 hn16 (fun j hj => mi_2 hn hj))
              have hS_A_7 : SI n p (ly (ly A_5 (fun m => A_5 (16 * ma + mi m (bt n))) ma n) (fun m => (ly A_5 (fun m => A_5 (16 * ma + mi m (bt n))) ma n) (16 * ma + mi m (bt n))) ma n) := (fun (z : SI n p A_5) => SI_ly (SI_ly z hn16 hma (fun k hk => z.2.2 _ (mi_64 hn hma hk))) hn16 hma (fun k hk => (SI_ly z hn16 hma (fun k hk => z.2.2 _ (mi_64 hn hma hk))).2.2 _ (mi_64 hn hma hk))) hS_A_5
              refine xw_sB (ly (ly A_5 (fun m => A_5 (16 * ma + mi m (bt n))) ma n) (fun m => (ly A_5 (fun m => A_5 (16 * ma + mi m (bt n))) ma n) (16 * ma + mi m (bt n))) ma n) ls_A_7 ?_
              have hd_A_7 : DG n p (ly (ly A_5 (fun m => A_5 (16 * ma + mi m (bt n))) ma n) (fun m => (ly A_5 (fun m => A_5 (16 * ma + mi m (bt n))) ma n) (16 * ma + mi m (bt n))) ma n) = d0 := (DG_l (by omega) ls_A_7).symm.trans hd_A_5
              have hpd_A_7 : pe n (ly (ly A_5 (fun m => A_5 (16 * ma + mi m (bt n))) ma n) (fun m => (ly A_5 (fun m => A_5 (16 * ma + mi m (bt n))) ma n) (16 * ma + mi m (bt n))) ma n) ma = pd := (pe_cg (by omega) (fun k hk => ls_A_7 ma hma k hk)).symm.trans hpd_A_5
              clear ls_A_7
              generalize ly (ly A_5 (fun m => A_5 (16 * ma + mi m (bt n))) ma n) (fun m => (ly A_5 (fun m => A_5 (16 * ma + mi m (bt n))) ma n) (16 * ma + mi m (bt n))) ma n = A_7 at hS_A_7 hd_A_7 hpd_A_7 ⊢
              have hA_A_7 := hS_A_7.2.1
              have hAp_A_7 := hS_A_7.2.2
              refine xw_aload_n (pc := 756) C 1 dL_law_756 rfl ?_
              refine xw_VF (pc := 757) (q0 := 0) (na := 0) (rest := []) (wc := WX cI h a n p A_7) (wr := wS cI cQ o n p (rt n p) rr g A_7 ++ []) C [6, 7] [0, 1, 2, 3, 4, 5] [0] (m_X0_digest hp0 hp5 hn hA_A_7 (by omega)) gL_law_X0_digest rfl rfl rfl rfl (by decide +kernel) ⟨(Nat.le_of_ble_eq_true rfl), (Nat.le_of_ble_eq_true rfl)⟩ rfl rfl rfl ⟨rfl, rfl⟩ (by decide) rfl rfl rfl rfl (Nat.le_of_ble_eq_true rfl) dL_law_757 ⟨by show k + 1 + 0 ≤ 759041; omega, by show nn + 16 + 0 ≤ 6824346; omega⟩ (fun v1 w1 hp1 => ?_)
              obtain ⟨A_8, e_A_8, l_A_8, rfl, rfl⟩ := hp1
              refine xw_st (st' := [.long (DG n p A_7)]) rfl ?_
              refine xw_wo (w' := LW cI cQ o rr n p (rt n p) g A_7 [] (WX cI h a n p A_8)) rfl ?_
              have hS_A_8 : SI n p A_8 := ⟨hrg, l_A_8, fun j hj => by rw [e_A_8 j hj]; exact hAp_A_7 j hj⟩
              have hAp_A_8 := hS_A_8.2.2
              have ls_A_8 : LiS n A_7 A_8 := fun i hi k hk => (e_A_8 _ (by omega)).symm
              have hd_A_8 : DG n p A_8 = d0 := (DG_l (by omega) ls_A_8).symm.trans hd_A_7
              have hpd_A_8 : pe n A_8 ma = pd := (pe_cg (by omega) (fun k hk => ls_A_8 ma hma k hk)).symm.trans hpd_A_7
              refine xw_sB A_8 (ls_A_8) ?_
              refine xw_lload (pc := 760) C 5 dL_law_760 rfl ?_
              refine xw_lcmp (pc := 762) C (hd_A_7) dL_law_762 ?_
              refine xw_if_eq_N (pc := 763) (tgt := 768) C dL_law_763 (by decide) (by omega) (fun c_9 => ?_) (fun c_9 => (by omega))
              refine xw_lv (lv' := [(0, .ref sc), (1, .ref h), (2, .ref o), (3, nV i), (4, .int x), (5, .long d0), (7, nV n), (11, nV ma), (14, nV pd)]) [0, 1, 2, 3, 4, 5, 6, 7, 9] rfl ?_
              exact kk _ hS_A_8 hd_A_8 hpd_A_8
            ·
              refine xw_aload_n (pc := 682) C 1 dL_law_682 rfl ?_
              refine xw_iload (pc := 683) C 7 dL_law_683 rfl ?_
              refine xw_iload (pc := 685) C 11 dL_law_685 rfl ?_
              refine xw_VF (pc := 687) (q0 := 0) (na := 2) (rest := []) (wc := WX cI h a n p (ly A (tn p n A ma (rt n p) 1) ma n)) (wr := wS cI cQ o n p (rt n p) rr g A ++ [(q_1, .inl (cI, n, .inl (fN (mk (fun _ => 0) (tn p n A ma (rt n p) 1) n))))]) C [7, 8] [0, 1, 2, 3, 4, 5, 6] [0] (m_X0_at hn ma (by omega) q (by omega)) gL_law_X0_at rfl rfl rfl rfl (by decide +kernel) ⟨(Nat.le_of_ble_eq_true rfl), (Nat.le_of_ble_eq_true rfl)⟩ rfl rfl rfl ⟨rfl, rfl⟩ (by decide) rfl rfl rfl rfl (Nat.le_of_ble_eq_true rfl) dL_law_687 ⟨by show k + 1 + 0 ≤ 759041; omega, by show nn + 16 + 0 ≤ 6824346; omega⟩ (fun v1 w1 hp1 => ?_)
              obtain ⟨rfl, rfl⟩ := hp1
              refine xw_st (st' := [nV ((ly A (tn p n A ma (rt n p) 1) ma n) (16 * ma + q))]) rfl ?_
              refine xw_wo (w' := LW cI cQ o rr n p (rt n p) g A [(q_1, .inl (cI, n, .inl (fN (mk (fun _ => 0) (tn p n A ma (rt n p) 1) n))))] (WX cI h a n p (ly A (tn p n A ma (rt n p) 1) ma n))) rfl ?_
              refine xw_aload (pc := 690) C 10 dL_law_690 rfl ?_
              refine xw_iload (pc := 692) C 11 dL_law_692 rfl ?_
              refine xw_iald (pc := 694) C 6 0 q rfl rfl rfl (by omega) (by omega) dL_law_694 ?_
              refine xw_st (st' := [nV ((mk (fun _ => 0) (tn p n A ma (rt n p) 1) n) q), nV ((ly A (tn p n A ma (rt n p) 1) ma n) (16 * ma + q))]) rfl ?_
              refine xw_eq_same (pc := 695) (tgt := 700) C (congrArg (fun z : Nat => iI (z : Int)) (show (ly A (tn p n A ma (rt n p) 1) ma n) (16 * ma + q) = (mk (fun _ => 0) (tn p n A ma (rt n p) 1) n) q from by rw [mk_in (by omega)]; exact ly_in (by omega))) dL_law_695 (by decide) ?_
              refine xw_iinc_N (pc := 700) (b := q + 1) (lv' := [(0, .ref sc), (1, .ref h), (2, .ref o), (3, nV i), (4, .int x), (5, .long d0), (7, nV n), (11, nV ma), (13, nV (sm A ma n % p)), (14, nV pd), (15, .ref q_1), (16, nV (q + 1))]) C 11 [1, 2, 3, 4, 5, 6, 7, 8, 9, 10, 11, 0] dL_law_700 rfl (by decide) rfl rfl ?_
              refine xw_goto (pc := 703) (tgt := 675) C dL_law_703 (by decide) ?_
              exact ih675 (q + 1) (by omega) (by omega)
        exact L675 (n + 1) 0 (by omega) (by omega)
      ·
        refine xw_aload (pc := 617) C 9 dL_law_617 rfl ?_
        refine xw_iload (pc := 619) C 10 dL_law_619 rfl ?_
        refine xw_aload_n (pc := 621) C 1 dL_law_621 rfl ?_
        refine xw_iload (pc := 622) C 7 dL_law_622 rfl ?_
        refine xw_aload_n (pc := 624) C 1 dL_law_624 rfl ?_
        refine xw_iload (pc := 625) C 10 dL_law_625 rfl ?_
        refine xw_VF (pc := 627) (q0 := 0) (na := 1) (rest := [nV ma, .ref h, nV q, .ref q_1]) (wc := WX cI h a n p A) (wr := wS cI cQ o n p (rt n p) rr g A ++ [(q_1, .inl (cI, n, .inl (fN (mk (fun _ => 0) (tn p n A ma (rt n p) 1) q))))]) C [7, 8] [0, 1, 2, 3, 4, 5, 6] [0] (m_X0_root hp1 hp5 (by omega) q (by omega)) gL_law_X0_root rfl rfl rfl rfl (by decide +kernel) ⟨(Nat.le_of_ble_eq_true rfl), (Nat.le_of_ble_eq_true rfl)⟩ rfl rfl rfl ⟨rfl, rfl⟩ (by decide) rfl rfl rfl rfl (Nat.le_of_ble_eq_true rfl) dL_law_627 ⟨by show k + 1 + 0 ≤ 759041; omega, by show nn + 16 + 0 ≤ 6824346; omega⟩ (fun v1 w1 hp1 => ?_)
        obtain ⟨rfl, rfl⟩ := hp1
        refine xw_st (st' := [nV (rt n p ^ q % p), nV ma, .ref h, nV q, .ref q_1]) rfl ?_
        refine xw_wo (w' := LW cI cQ o rr n p (rt n p) g A [(q_1, .inl (cI, n, .inl (fN (mk (fun _ => 0) (tn p n A ma (rt n p) 1) q))))] (WX cI h a n p A)) rfl ?_
        refine xw_VF (pc := 630) (q0 := 0) (na := 2) (rest := [nV q, .ref q_1]) (wc := WX cI h a n p A) (wr := wS cI cQ o n p (rt n p) rr g A ++ [(q_1, .inl (cI, n, .inl (fN (mk (fun _ => 0) (tn p n A ma (rt n p) 1) q))))]) C [7, 8] [0, 1, 2, 3, 4, 5, 6] [0] (m_X0_point hp0 hp5 hn hA ma (by omega) (rt n p ^ q % p) (Nat.mod_lt _ hp0)) gL_law_X0_point rfl rfl rfl rfl (by decide +kernel) ⟨(Nat.le_of_ble_eq_true rfl), (Nat.le_of_ble_eq_true rfl)⟩ rfl rfl rfl ⟨rfl, rfl⟩ (by decide) rfl rfl rfl rfl (Nat.le_of_ble_eq_true rfl) dL_law_630 ⟨by show k + 1 + 0 ≤ 759041; omega, by show nn + 16 + 0 ≤ 6824346; omega⟩ (fun v1 w1 hp1 => ?_)
        obtain ⟨rfl, rfl⟩ := hp1
        refine xw_st (st' := [nV (pv p n A ma (rt n p ^ q % p)), nV q, .ref q_1]) rfl ?_
        refine xw_wo (w' := LW cI cQ o rr n p (rt n p) g A [(q_1, .inl (cI, n, .inl (fN (mk (fun _ => 0) (tn p n A ma (rt n p) 1) q))))] (WX cI h a n p A)) rfl ?_
        refine xw_iast (pc := 633) (w' := LW cI cQ o rr n p (rt n p) g A [(q_1, .inl (cI, n, .inl (fN (va_up (mk (fun _ => 0) (tn p n A ma (rt n p) 1) q) q (pv p n A ma (rt n p ^ q % p))))))] (WX cI h a n p A)) C 6 0 q (pv p n A ma (rt n p ^ q % p)) rfl rfl rfl rfl (by omega) (by omega) rfl dL_law_633 ?_
        refine xw_iinc_N (pc := 634) (b := q + 1) (lv' := [(0, .ref sc), (1, .ref h), (2, .ref o), (3, nV i), (4, .int x), (5, .long d0), (7, nV n), (11, nV ma), (14, nV pd), (15, .ref q_1), (16, nV (q + 1))]) C 10 [1, 2, 3, 4, 5, 6, 7, 8, 9, 10, 0] dL_law_634 rfl (by decide) rfl rfl ?_
        refine xw_goto (pc := 637) (tgt := 610) C dL_law_637 (by decide) ?_
        refine xw_wo (w' := LW cI cQ o rr n p (rt n p) g A [(q_1, .inl (cI, n, .inl (fN (mk (fun _ => 0) (tn p n A ma (rt n p) 1) (q + 1)))))] (WX cI h a n p A)) (by rw [mk_s (pv_tn hp1)]) ?_
        exact ih610 (q + 1) (by omega) (by omega)
  refine xw_wo (w' := LW cI cQ o rr n p (rt n p) g A [(q_1, .inl (cI, n, .inl (fN (mk (fun _ => 0) (tn p n A ma (rt n p) 1) 0))))] (WX cI h a n p A)) (by rw [mk_0]) ?_
  exact L610 (n + 1) 0 (by omega) (by omega)

set_option maxHeartbeats 4000000 in
set_option maxRecDepth 100000 in
theorem law_E {φ : Fx} {l : Launch} {D : va_G} {cI cQ : ClassId} {sc h a o rr n p : Nat} {g A : Nat → Nat} (C : xc φ l room_1 D vwCl [(cI, .int), (cQ, .array .int)] 19 cL_law RL wsL_law) (Y : xyc sc φ) (hS : SI n p A) (k nn : Nat) (hk : k ≤ 3000) (hnn : nn ≤ 30000) {i : Nat} {x : Int32} (hi : i < 14) {d0 : Int64} {ma pd : Nat} (hd : DG n p A = d0) (hpd : pe n A ma = pd) (hma : ma < 4)
    (kk : ∀ (g1 A1 : Nat → Nat) (oo : Nat), SI n p A1 → oo < 4 → oo ≠ ma → xw φ (k + 1 + 1) (nn + 16 + 16) (LV cI cQ h a o rr n p g1 A1) 938 [(0, .ref sc), (1, .ref h), (2, .ref o), (3, nV i), (4, .int x), (11, nV ma), (18, nV oo)] []) : xw φ k nn (LV cI cQ h a o rr n p g A) 768 [(0, .ref sc), (1, .ref h), (2, .ref o), (3, nV i), (4, .int x), (5, .long d0), (7, nV n), (11, nV ma), (14, nV pd)] [] := by
  have hin : ∀ w ∈ wsX10, w ∈ wsL_law := inlX1
  obtain ⟨hrg, hA, hAp⟩ := id hS
  obtain ⟨hn, hp4, hp5, hp1, hp0, hn16, hnp, hr1, hrl, hfer⟩ := rgs_o hrg
  have hn3 := lt3 hn
  have hmad := hma
  refine xw_iload (pc := 768) C 4 dL_law_768 rfl ?_
  refine xw_bipush_N (pc := 770) C 7 dL_law_770 (by decide) ?_
  obtain ⟨x_1, hx_1⟩ : ∃ x_1 : Int32, x >>> (iI ((7 : Nat) : Int) &&& 31) = x_1 := ⟨_, rfl⟩
  refine xw_ishr (pc := 772) C dL_law_772 hx_1 ?_
  refine xw_iload (pc := 773) C 6 dL_law_773 rfl ?_
  refine xw_S (pc := 775) (na := 2) (rest := []) C (m_L_below x_1 n (by omega) (by omega)) gL_law_L_below rfl rfl rfl rfl (by decide +kernel) ⟨(Nat.le_of_ble_eq_true rfl), (Nat.le_of_ble_eq_true rfl)⟩ rfl (Nat.le_of_ble_eq_true rfl) dL_law_775 ⟨by show k + 0 ≤ 759041; omega, by show nn + 0 ≤ 6824346; omega⟩ (fun v1 w1 hp1 => ?_)
  obtain ⟨m_2, hm_2, rfl, rfl⟩ := hp1
  refine xw_st (st' := [nV m_2]) rfl ?_
  refine xw_istore (pc := 778) (lv' := [(0, .ref sc), (1, .ref h), (2, .ref o), (3, nV i), (4, .int x), (5, .long d0), (7, nV n), (11, nV ma), (14, nV pd), (17, nV m_2)]) C [1, 2, 3, 4, 5, 6, 7, 8, 9, 0] dL_law_778 (by decide) rfl ?_
  have hqn : m_2 < n := hm_2
  have hmq : ∀ j, (j + n - m_2) % n < n := fun j => Nat.mod_lt _ (by omega)
  have hmq2 : ∀ j, (j + n - (n - m_2) % n) % n < n := fun j => Nat.mod_lt _ (by omega)
  have hnq : (n - m_2) % n < n := Nat.mod_lt _ (by omega)
  refine xw_iload (pc := 780) C 7 dL_law_780 rfl ?_
  refine xw_iconst_N (pc := 782) C 1 dL_law_782 rfl ?_
  refine xw_iadd_N (pc := 783) C dL_law_783 ?_
  refine xw_iload (pc := 784) C 4 dL_law_784 rfl ?_
  refine xw_iconst_N (pc := 786) C 5 dL_law_786 rfl ?_
  obtain ⟨x_3, hx_3⟩ : ∃ x_3 : Int32, x >>> (iI ((5 : Nat) : Int) &&& 31) = x_3 := ⟨_, rfl⟩
  refine xw_ishr (pc := 787) C dL_law_787 hx_3 ?_
  refine xw_iconst_N (pc := 788) C 3 dL_law_788 rfl ?_
  refine xw_S (pc := 789) (na := 2) (rest := [nV (ma + 1)]) C (m_L_below x_3 3 (by omega) (by omega)) gL_law_L_below rfl rfl rfl rfl (by decide +kernel) ⟨(Nat.le_of_ble_eq_true rfl), (Nat.le_of_ble_eq_true rfl)⟩ rfl (Nat.le_of_ble_eq_true rfl) dL_law_789 ⟨by show k + 0 ≤ 759041; omega, by show nn + 0 ≤ 6824346; omega⟩ (fun v1 w1 hp1 => ?_)
  obtain ⟨m_4, hm_4, rfl, rfl⟩ := hp1
  refine xw_st (st' := [nV m_4, nV (ma + 1)]) rfl ?_
  refine xw_iadd_N (pc := 792) C dL_law_792 ?_
  refine xw_iconst_N (pc := 793) C 4 dL_law_793 rfl ?_
  refine xw_irem_N (pc := 794) C dL_law_794 (by omega) (by omega) ?_
  obtain ⟨oo, hoo⟩ : ∃ oo, ((ma + 1) + m_4) % 4 = oo := ⟨_, rfl⟩
  refine xw_st (st' := [nV oo]) (by rw [hoo]) ?_
  have ho4 : oo < 4 := by omega
  have hne : oo ≠ ma := by omega
  refine xw_istore (pc := 795) (lv' := [(0, .ref sc), (1, .ref h), (2, .ref o), (3, nV i), (4, .int x), (5, .long d0), (7, nV n), (11, nV ma), (14, nV pd), (17, nV m_2), (18, nV oo)]) C [1, 2, 3, 4, 5, 6, 7, 8, 9, 10, 0] dL_law_795 (by decide) rfl ?_
  refine xw_aload_n (pc := 797) C 1 dL_law_797 rfl ?_
  refine xw_iload (pc := 798) C 7 dL_law_798 rfl ?_
  refine xw_iload (pc := 800) C 9 dL_law_800 rfl ?_
  refine xw_VF (pc := 802) (q0 := 0) (na := 2) (rest := []) (wc := WX cI h a n p A) (wr := wS cI cQ o n p (rt n p) rr g A ++ []) C [6, 7] [0, 1, 2, 3, 4, 5] [0] (m_X0_move hn hA ma (by omega) m_2 (by omega)) gL_law_X0_move rfl rfl rfl rfl (by decide +kernel) ⟨(Nat.le_of_ble_eq_true rfl), (Nat.le_of_ble_eq_true rfl)⟩ rfl rfl rfl ⟨rfl, rfl⟩ (by decide) rfl rfl rfl rfl (Nat.le_of_ble_eq_true rfl) dL_law_802 ⟨by show k + 0 ≤ 759041; omega, by show nn + 0 ≤ 6824346; omega⟩ (fun v1 w1 hp1 => ?_)
  obtain ⟨rfl, rfl⟩ := hp1
  refine xw_st (st' := [nV ((fun m => A (16 * ma + (m + n - m_2) % n)) 0)]) rfl ?_
  refine xw_wo (w' := LW cI cQ o rr n p (rt n p) g A [] (WX cI h a n p (ly A (fun m => A (16 * ma + (m + n - m_2) % n)) ma n))) rfl ?_
  refine xw_pop (pc := 805) C dL_law_805 rfl ?_
  refine xw_aload_n (pc := 806) C 1 dL_law_806 rfl ?_
  refine xw_iload (pc := 807) C 7 dL_law_807 rfl ?_
  refine xw_iload (pc := 809) C 6 dL_law_809 rfl ?_
  refine xw_iload (pc := 811) C 9 dL_law_811 rfl ?_
  refine xw_isub_N (pc := 813) C dL_law_813 (by omega) ?_
  refine xw_iload (pc := 814) C 6 dL_law_814 rfl ?_
  refine xw_irem_N (pc := 816) C dL_law_816 (by omega) (by omega) ?_
  refine xw_VF (pc := 817) (q0 := 0) (na := 2) (rest := []) (wc := WX cI h a n p (ly A (fun m => A (16 * ma + (m + n - m_2) % n)) ma n)) (wr := wS cI cQ o n p (rt n p) rr g A ++ []) C [6, 7] [0, 1, 2, 3, 4, 5] [0] (m_X0_move hn (ly_lt hA (fun j _ => hA _)) ma (by omega) ((n - m_2) % n) (by omega)) gL_law_X0_move rfl rfl rfl rfl (by decide +kernel) ⟨(Nat.le_of_ble_eq_true rfl), (Nat.le_of_ble_eq_true rfl)⟩ rfl rfl rfl ⟨rfl, rfl⟩ (by decide) rfl rfl rfl rfl (Nat.le_of_ble_eq_true rfl) dL_law_817 ⟨by show k + 0 ≤ 759041; omega, by show nn + 0 ≤ 6824346; omega⟩ (fun v1 w1 hp1 => ?_)
  obtain ⟨rfl, rfl⟩ := hp1
  refine xw_st (st' := [nV ((fun m => (ly A (fun m => A (16 * ma + (m + n - m_2) % n)) ma n) (16 * ma + (m + n - ((n - m_2) % n)) % n)) 0)]) rfl ?_
  refine xw_wo (w' := LW cI cQ o rr n p (rt n p) g A [] (WX cI h a n p (ly (ly A (fun m => A (16 * ma + (m + n - m_2) % n)) ma n) (fun m => (ly A (fun m => A (16 * ma + (m + n - m_2) % n)) ma n) (16 * ma + (m + n - ((n - m_2) % n)) % n)) ma n))) rfl ?_
  refine xw_pop (pc := 820) C dL_law_820 rfl ?_
  have ls_A_5 : LiS n A (ly (ly A (fun m => A (16 * ma + (m + n - m_2) % n)) ma n) (fun m => (ly A (fun m => A (16 * ma + (m + n - m_2) % n)) ma n) (16 * ma + (m + n - ((n - m_2) % n)) % n)) ma n) := LiS.sy (LiS_ly2 hn16 (fun j hj => mv_2 hqn hj))
  have hS_A_5 : SI n p (ly (ly A (fun m => A (16 * ma + (m + n - m_2) % n)) ma n) (fun m => (ly A (fun m => A (16 * ma + (m + n - m_2) % n)) ma n) (16 * ma + (m + n - ((n - m_2) % n)) % n)) ma n) := SI_mv (SI_mv hS hn16 hma hmq) hn16 hma hmq2
  refine xw_sB (ly (ly A (fun m => A (16 * ma + (m + n - m_2) % n)) ma n) (fun m => (ly A (fun m => A (16 * ma + (m + n - m_2) % n)) ma n) (16 * ma + (m + n - ((n - m_2) % n)) % n)) ma n) ls_A_5 ?_
  have hd_A_5 : DG n p (ly (ly A (fun m => A (16 * ma + (m + n - m_2) % n)) ma n) (fun m => (ly A (fun m => A (16 * ma + (m + n - m_2) % n)) ma n) (16 * ma + (m + n - ((n - m_2) % n)) % n)) ma n) = d0 := (DG_l (by omega) ls_A_5).symm.trans hd
  have hpd_A_5 : pe n (ly (ly A (fun m => A (16 * ma + (m + n - m_2) % n)) ma n) (fun m => (ly A (fun m => A (16 * ma + (m + n - m_2) % n)) ma n) (16 * ma + (m + n - ((n - m_2) % n)) % n)) ma n) ma = pd := (pe_cg (by omega) (fun k hk => ls_A_5 ma hma k hk)).symm.trans hpd
  clear ls_A_5
  generalize ly (ly A (fun m => A (16 * ma + (m + n - m_2) % n)) ma n) (fun m => (ly A (fun m => A (16 * ma + (m + n - m_2) % n)) ma n) (16 * ma + (m + n - ((n - m_2) % n)) % n)) ma n = A_5 at hS_A_5 hd_A_5 hpd_A_5 ⊢
  have hA_A_5 := hS_A_5.2.1
  have hAp_A_5 := hS_A_5.2.2
  refine xw_aload_n (pc := 821) C 1 dL_law_821 rfl ?_
  refine xw_VF (pc := 822) (q0 := 0) (na := 0) (rest := []) (wc := WX cI h a n p A_5) (wr := wS cI cQ o n p (rt n p) rr g A_5 ++ []) C [6, 7] [0, 1, 2, 3, 4, 5] [0] (m_X0_digest hp0 hp5 hn hA_A_5 (by omega)) gL_law_X0_digest rfl rfl rfl rfl (by decide +kernel) ⟨(Nat.le_of_ble_eq_true rfl), (Nat.le_of_ble_eq_true rfl)⟩ rfl rfl rfl ⟨rfl, rfl⟩ (by decide) rfl rfl rfl rfl (Nat.le_of_ble_eq_true rfl) dL_law_822 ⟨by show k + 0 ≤ 759041; omega, by show nn + 0 ≤ 6824346; omega⟩ (fun v1 w1 hp1 => ?_)
  obtain ⟨A_6, e_A_6, l_A_6, rfl, rfl⟩ := hp1
  refine xw_st (st' := [.long (DG n p A_5)]) rfl ?_
  refine xw_wo (w' := LW cI cQ o rr n p (rt n p) g A_5 [] (WX cI h a n p A_6)) rfl ?_
  have hS_A_6 : SI n p A_6 := ⟨hrg, l_A_6, fun j hj => by rw [e_A_6 j hj]; exact hAp_A_5 j hj⟩
  have hAp_A_6 := hS_A_6.2.2
  have ls_A_6 : LiS n A_5 A_6 := fun i hi k hk => (e_A_6 _ (by omega)).symm
  have hd_A_6 : DG n p A_6 = d0 := (DG_l (by omega) ls_A_6).symm.trans hd_A_5
  have hpd_A_6 : pe n A_6 ma = pd := (pe_cg (by omega) (fun k hk => ls_A_6 ma hma k hk)).symm.trans hpd_A_5
  refine xw_sB A_6 (ls_A_6) ?_
  refine xw_lload (pc := 825) C 5 dL_law_825 rfl ?_
  refine xw_lcmp (pc := 827) C (hd_A_5) dL_law_827 ?_
  refine xw_if_eq_N (pc := 828) (tgt := 833) C dL_law_828 (by decide) (by omega) (fun c_7 => ?_) (fun c_7 => (by omega))
  refine xw_aload_n (pc := 833) C 1 dL_law_833 rfl ?_
  refine xw_iload (pc := 834) C 7 dL_law_834 rfl ?_
  refine xw_iload (pc := 836) C 10 dL_law_836 rfl ?_
  refine xw_VF (pc := 838) (q0 := 0) (na := 2) (rest := []) (wc := WX cI h a n p A_6) (wr := wS cI cQ o n p (rt n p) rr g A_6 ++ []) C [6, 7] [0, 1, 2, 3, 4, 5] [0] (m_X0_copy hn l_A_6 ma oo (by omega) (by omega)) gL_law_X0_copy rfl rfl rfl rfl (by decide +kernel) ⟨(Nat.le_of_ble_eq_true rfl), (Nat.le_of_ble_eq_true rfl)⟩ rfl rfl rfl ⟨rfl, rfl⟩ (by decide) rfl rfl rfl rfl (Nat.le_of_ble_eq_true rfl) dL_law_838 ⟨by show k + 0 ≤ 759041; omega, by show nn + 0 ≤ 6824346; omega⟩ (fun v1 w1 hp1 => ?_)
  obtain ⟨rfl, rfl⟩ := hp1
  refine xw_st (st' := [nV (cc (fun j => decide (A_6 (16 * oo + j) ≠ A_6 (16 * ma + j))) n)]) rfl ?_
  refine xw_wo (w' := LW cI cQ o rr n p (rt n p) g A_6 [] (WX cI h a n p (cp A_6 ma oo n))) rfl ?_
  refine xw_pop (pc := 841) C dL_law_841 rfl ?_
  refine xw_aload_n (pc := 842) C 2 dL_law_842 rfl ?_
  refine xw_get (pc := 843) (T := TX1) (N := 4) (ref := "ToneButterfliesLaw$Sim") C hin 0 3 LW_o rfl (by decide) (by decide +kernel) rfl rfl dL_law_843 ?_
  refine xw_iload (pc := 846) C 10 dL_law_846 rfl ?_
  refine xw_aload_n (pc := 848) C 2 dL_law_848 rfl ?_
  refine xw_get (pc := 849) (T := TX1) (N := 4) (ref := "ToneButterfliesLaw$Sim") C hin 0 3 LW_o rfl (by decide) (by decide +kernel) rfl rfl dL_law_849 ?_
  refine xw_iload (pc := 852) C 7 dL_law_852 rfl ?_
  refine xw_aald (pc := 854) (r := g ma) C 1 1 ma LW_q rfl (by omega) (by decide) (if_pos (by omega)) dL_law_854 ?_
  refine xw_clone (pc := 855) C Y (2 + ma) 0 (LW_r (by omega)) rfl (by decide +kernel) (by decide +kernel) (by decide +kernel) (by decide +kernel) (by decide +kernel) (Nat.le_of_ble_eq_true rfl) (Nat.le_of_ble_eq_true rfl) (by show k + 1 ≤ 759041; omega) (by show nn + n ≤ 6824346; omega) dL_law_855 (fun q_8 => ?_)
  refine xw_wd (k' := k + 1) (n' := nn + 16) (by omega) (by omega) ?_
  refine xw_wo (w' := LW cI cQ o rr n p (rt n p) g A_6 [] (WX cI h a n p (cp A_6 ma oo n)) ++ [(q_8, .inl (cI, n, .inl (fN (fun k => A_6 (16 * ma + k)))))]) rfl ?_
  refine xw_castA (pc := 858) C (LW cI cQ o rr n p (rt n p) g A_6 [] (WX cI h a n p (cp A_6 ma oo n))).length 0 gl_new rfl (by decide +kernel) dL_law_858 ?_
  refine xw_srow (pc := 861) C Y oo q_8 (by omega) hn16 dL_law_861 ?_
  refine xw_sB (cp A_6 ma oo n) (fun _ _ _ _ => rfl) ?_
  refine xw_aload_n (pc := 862) C 1 dL_law_862 rfl ?_
  refine xw_iload (pc := 863) C 10 dL_law_863 rfl ?_
  refine xw_iload (pc := 865) C 9 dL_law_865 rfl ?_
  refine xw_VF (pc := 867) (q0 := 0) (na := 2) (rest := []) (wc := WX cI h a n p (cp A_6 ma oo n)) (wr := wS cI cQ o n p (rt n p) rr (va_up g oo q_8) (cp A_6 ma oo n) ++ []) C [6, 7] [0, 1, 2, 3, 4, 5] [0] (m_X0_move hn (cp_lt l_A_6) oo (by omega) m_2 (by omega)) gL_law_X0_move rfl rfl rfl rfl (by decide +kernel) ⟨(Nat.le_of_ble_eq_true rfl), (Nat.le_of_ble_eq_true rfl)⟩ rfl rfl rfl ⟨rfl, rfl⟩ (by decide) rfl rfl rfl rfl (Nat.le_of_ble_eq_true rfl) dL_law_867 ⟨by show k + 1 + 0 ≤ 759041; omega, by show nn + 16 + 0 ≤ 6824346; omega⟩ (fun v1 w1 hp1 => ?_)
  obtain ⟨rfl, rfl⟩ := hp1
  refine xw_st (st' := [nV ((fun m => (cp A_6 ma oo n) (16 * oo + (m + n - m_2) % n)) 0)]) rfl ?_
  refine xw_wo (w' := LW cI cQ o rr n p (rt n p) (va_up g oo q_8) (cp A_6 ma oo n) [] (WX cI h a n p (ly (cp A_6 ma oo n) (fun m => (cp A_6 ma oo n) (16 * oo + (m + n - m_2) % n)) oo n))) rfl ?_
  refine xw_pop (pc := 870) C dL_law_870 rfl ?_
  refine xw_aload_n (pc := 871) C 2 dL_law_871 rfl ?_
  refine xw_get (pc := 872) (T := TX1) (N := 4) (ref := "ToneButterfliesLaw$Sim") C hin 0 3 LW_o rfl (by decide) (by decide +kernel) rfl rfl dL_law_872 ?_
  refine xw_iload (pc := 875) C 10 dL_law_875 rfl ?_
  refine xw_aload_n (pc := 877) C 2 dL_law_877 rfl ?_
  refine xw_aload_n (pc := 878) C 2 dL_law_878 rfl ?_
  refine xw_get (pc := 879) (T := TX1) (N := 4) (ref := "ToneButterfliesLaw$Sim") C hin 0 3 LW_o rfl (by decide) (by decide +kernel) rfl rfl dL_law_879 ?_
  refine xw_iload (pc := 882) C 10 dL_law_882 rfl ?_
  refine xw_aald (pc := 884) (r := (va_up g oo q_8) oo) C 1 1 oo LW_q rfl (by omega) (by decide) (if_pos (by omega)) dL_law_884 ?_
  refine xw_iload (pc := 885) C 9 dL_law_885 rfl ?_
  refine xw_V (pc := 887) (q0 := 0) (na := 2) (rest := [nV oo, .ref rr]) C (m_X1_moved LW_o hp1 hp5 hn (LW_r (by omega)) m_2 (by omega)) gL_law_X1_moved rfl rfl rfl rfl (by decide +kernel) ⟨(Nat.le_of_ble_eq_true rfl), (Nat.le_of_ble_eq_true rfl)⟩ LW_o rfl rfl (Nat.le_of_ble_eq_true rfl) dL_law_887 ⟨by show k + 1 + 1 ≤ 759041; omega, by show nn + 16 + 16 ≤ 6824346; omega⟩ (fun v1 w1 hp1 => ?_)
  obtain ⟨q_9, rfl, rfl⟩ := hp1
  refine xw_st (st' := [.ref q_9, nV oo, .ref rr]) rfl ?_
  refine xw_wd (k' := k + 1 + 1) (n' := nn + 16 + 16) (by omega) (by omega) ?_
  refine xw_srow (pc := 890) C Y oo q_9 (by omega) hn16 dL_law_890 ?_
  refine xw_sB (ly (cp A_6 ma oo n) (fun m => (cp A_6 ma oo n) (16 * oo + (m + n - m_2) % n)) oo n) (ag_ly hn16 (fun k hk => rfl)) ?_
  have hrow := cm_row (A := A_6) (q := m_2) hn16 hma hne (fun k _ => hmq k)
  have hS8 : SI n p (ly (cp A_6 ma oo n) (fun m => (cp A_6 ma oo n) (16 * oo + (m + n - m_2) % n)) oo n) := SI_ly (SI_cp hS_A_6 hma ho4 hn16) hn16 ho4 (fun k _ => (SI_cp hS_A_6 hma ho4 hn16).2.2 _ (by have := hmq k; omega))
  have hpd8 : pe n (ly (cp A_6 ma oo n) (fun m => (cp A_6 ma oo n) (16 * oo + (m + n - m_2) % n)) oo n) ma = pd := (pe_cg (by omega) (fun k hk => hrow.2 k hk)).trans hpd_A_6
  have hmv := hrow.1
  clear hrow
  generalize ly (cp A_6 ma oo n) (fun m => (cp A_6 ma oo n) (16 * oo + (m + n - m_2) % n)) oo n = A8 at hS8 hpd8 hmv ⊢
  have hA8 := hS8.2.1
  have hpi := pe_is (A := A8) (a := ma) (show 0 < n by omega)
  rw [hpd8] at hpi
  refine xw_aload_n (pc := 891) C 1 dL_law_891 rfl ?_
  refine xw_iload (pc := 892) C 7 dL_law_892 rfl ?_
  refine xw_iload (pc := 894) C 10 dL_law_894 rfl ?_
  refine xw_VF (pc := 896) (q0 := 0) (na := 2) (rest := []) (wc := WX cI h a n p A8) (wr := wS cI cQ o n p (rt n p) rr (va_up (va_up g oo q_8) oo q_9) A8 ++ []) C [6, 7] [0, 1, 2, 3, 4, 5] [0] (m_X0_comes hn hA8 ma oo (by omega) (by omega)) gL_law_X0_comes rfl rfl rfl rfl (by decide +kernel) ⟨(Nat.le_of_ble_eq_true rfl), (Nat.le_of_ble_eq_true rfl)⟩ rfl rfl rfl ⟨rfl, rfl⟩ (by decide) rfl rfl rfl rfl (Nat.le_of_ble_eq_true rfl) dL_law_896 ⟨by show k + 1 + 1 + 0 ≤ 759041; omega, by show nn + 16 + 16 + 0 ≤ 6824346; omega⟩ (fun v1 w1 hp1 => ?_)
  obtain ⟨rfl, rfl⟩ := hp1
  refine xw_st (st' := [iV (cm n A8 ma oo)]) rfl ?_
  refine xw_wo (w' := LW cI cQ o rr n p (rt n p) (va_up (va_up g oo q_8) oo q_9) A8 [] (WX cI h a n p A8)) rfl ?_
  refine xw_iload (pc := 899) C 9 dL_law_899 rfl ?_
  refine xw_iload (pc := 901) C 8 dL_law_901 rfl ?_
  refine xw_irem_N (pc := 903) C dL_law_903 (by omega) (by omega) ?_
  refine xw_ne_same (pc := 904) (tgt := 936) C (congrArg iI (show cm n A8 ma oo = ((m_2 % pd : Nat) : Int) from by rw [cm_mv hqn hmv, hpd8])) dL_law_904 (by decide) ?_
  refine xw_aload_n (pc := 907) C 1 dL_law_907 rfl ?_
  refine xw_iload (pc := 908) C 10 dL_law_908 rfl ?_
  refine xw_iconst_N (pc := 910) C 3 dL_law_910 rfl ?_
  refine xw_VF (pc := 911) (q0 := 0) (na := 2) (rest := []) (wc := WX cI h a n p A8) (wr := wS cI cQ o n p (rt n p) rr (va_up (va_up g oo q_8) oo q_9) A8 ++ []) C [6, 7] [0, 1, 2, 3, 4, 5] [0] (m_X0_about hp0 hp5 hn hA8 oo (by omega) 3 (by omega)) gL_law_X0_about rfl rfl rfl rfl (by decide +kernel) ⟨(Nat.le_of_ble_eq_true rfl), (Nat.le_of_ble_eq_true rfl)⟩ rfl rfl rfl ⟨rfl, rfl⟩ (by decide) rfl rfl rfl rfl (Nat.le_of_ble_eq_true rfl) dL_law_911 ⟨by show k + 1 + 1 + 0 ≤ 759041; omega, by show nn + 16 + 16 + 0 ≤ 6824346; omega⟩ (fun v1 w1 hp1 => ?_)
  obtain ⟨rfl, rfl⟩ := hp1
  refine xw_st (st' := [nV (pe n A8 oo)]) rfl ?_
  refine xw_wo (w' := LW cI cQ o rr n p (rt n p) (va_up (va_up g oo q_8) oo q_9) A8 [] (WX cI h a n p A8)) rfl ?_
  refine xw_iload (pc := 914) C 8 dL_law_914 rfl ?_
  refine xw_ne_same (pc := 916) (tgt := 936) C (congrArg (fun z : Nat => iI (z : Int)) (show pe n A8 oo = pd from (pe_mv hqn hmv).trans hpd8)) dL_law_916 (by decide) ?_
  refine xw_aload_n (pc := 919) C 1 dL_law_919 rfl ?_
  refine xw_iload (pc := 920) C 10 dL_law_920 rfl ?_
  refine xw_iconst_N (pc := 922) C 0 dL_law_922 rfl ?_
  refine xw_VF (pc := 923) (q0 := 0) (na := 2) (rest := []) (wc := WX cI h a n p A8) (wr := wS cI cQ o n p (rt n p) rr (va_up (va_up g oo q_8) oo q_9) A8 ++ []) C [6, 7] [0, 1, 2, 3, 4, 5] [0] (m_X0_about hp0 hp5 hn hA8 oo (by omega) 0 (by omega)) gL_law_X0_about rfl rfl rfl rfl (by decide +kernel) ⟨(Nat.le_of_ble_eq_true rfl), (Nat.le_of_ble_eq_true rfl)⟩ rfl rfl rfl ⟨rfl, rfl⟩ (by decide) rfl rfl rfl rfl (Nat.le_of_ble_eq_true rfl) dL_law_923 ⟨by show k + 1 + 1 + 0 ≤ 759041; omega, by show nn + 16 + 16 + 0 ≤ 6824346; omega⟩ (fun v1 w1 hp1 => ?_)
  obtain ⟨rfl, rfl⟩ := hp1
  refine xw_st (st' := [nV (sm A8 oo n % p)]) rfl ?_
  refine xw_wo (w' := LW cI cQ o rr n p (rt n p) (va_up (va_up g oo q_8) oo q_9) A8 [] (WX cI h a n p A8)) rfl ?_
  refine xw_aload_n (pc := 926) C 1 dL_law_926 rfl ?_
  refine xw_iload (pc := 927) C 7 dL_law_927 rfl ?_
  refine xw_iconst_N (pc := 929) C 0 dL_law_929 rfl ?_
  refine xw_VF (pc := 930) (q0 := 0) (na := 2) (rest := [nV (sm A8 oo n % p)]) (wc := WX cI h a n p A8) (wr := wS cI cQ o n p (rt n p) rr (va_up (va_up g oo q_8) oo q_9) A8 ++ []) C [6, 7] [0, 1, 2, 3, 4, 5] [0] (m_X0_about hp0 hp5 hn hA8 ma (by omega) 0 (by omega)) gL_law_X0_about rfl rfl rfl rfl (by decide +kernel) ⟨(Nat.le_of_ble_eq_true rfl), (Nat.le_of_ble_eq_true rfl)⟩ rfl rfl rfl ⟨rfl, rfl⟩ (by decide) rfl rfl rfl rfl (Nat.le_of_ble_eq_true rfl) dL_law_930 ⟨by show k + 1 + 1 + 0 ≤ 759041; omega, by show nn + 16 + 16 + 0 ≤ 6824346; omega⟩ (fun v1 w1 hp1 => ?_)
  obtain ⟨rfl, rfl⟩ := hp1
  refine xw_st (st' := [nV (sm A8 ma n % p), nV (sm A8 oo n % p)]) rfl ?_
  refine xw_wo (w' := LW cI cQ o rr n p (rt n p) (va_up (va_up g oo q_8) oo q_9) A8 [] (WX cI h a n p A8)) rfl ?_
  refine xw_eq_same (pc := 933) (tgt := 938) C (congrArg (fun z : Nat => iI (z : Int)) (show sm A8 oo n % p = sm A8 ma n % p from by rw [sm_mv hqn hmv])) dL_law_933 (by decide) ?_
  refine xw_lv (lv' := [(0, .ref sc), (1, .ref h), (2, .ref o), (3, nV i), (4, .int x), (11, nV ma), (18, nV oo)]) [0, 1, 2, 3, 4, 7, 10] rfl ?_
  exact kk _ _ oo hS8 ho4 hne

set_option maxHeartbeats 4000000 in
set_option maxRecDepth 100000 in
theorem law_F {φ : Fx} {l : Launch} {D : va_G} {cI cQ : ClassId} {sc h a o rr n p : Nat} {g A : Nat → Nat} (C : xc φ l room_1 D vwCl [(cI, .int), (cQ, .array .int)] 19 cL_law RL wsL_law) (Y : xyc sc φ) (hS : SI n p A) (k nn : Nat) (hk : k ≤ 3000) (hnn : nn ≤ 30000) {i : Nat} {x : Int32} (hi : i < 14) {ma oo : Nat} (hma : ma < 4) (ho4 : oo < 4) (hne : oo ≠ ma)
    (kk : ∀ (g1 A1 : Nat → Nat), SI n p A1 → xw φ (k + 1) (nn + 16) (LV cI cQ h a o rr n p g1 A1) 998 [(0, .ref sc), (1, .ref h), (2, .ref o), (3, nV i)] []) : xw φ k nn (LV cI cQ h a o rr n p g A) 938 [(0, .ref sc), (1, .ref h), (2, .ref o), (3, nV i), (4, .int x), (11, nV ma), (18, nV oo)] [] := by
  have hin : ∀ w ∈ wsX10, w ∈ wsL_law := inlX1
  obtain ⟨hrg, hA, hAp⟩ := id hS
  obtain ⟨hn, hp4, hp5, hp1, hp0, hn16, hnp, hr1, hrl, hfer⟩ := rgs_o hrg
  have hn3 := lt3 hn
  refine xw_iload (pc := 938) C 4 dL_law_938 rfl ?_
  refine xw_bipush_N (pc := 940) C 6 dL_law_940 (by decide) ?_
  obtain ⟨x_1, hx_1⟩ : ∃ x_1 : Int32, x >>> (iI ((6 : Nat) : Int) &&& 31) = x_1 := ⟨_, rfl⟩
  refine xw_ishr (pc := 942) C dL_law_942 hx_1 ?_
  refine xw_iconst_N (pc := 943) C 2 dL_law_943 rfl ?_
  refine xw_S (pc := 944) (na := 2) (rest := []) C (m_L_below x_1 2 (by omega) (by omega)) gL_law_L_below rfl rfl rfl rfl (by decide +kernel) ⟨(Nat.le_of_ble_eq_true rfl), (Nat.le_of_ble_eq_true rfl)⟩ rfl (Nat.le_of_ble_eq_true rfl) dL_law_944 ⟨by show k + 0 ≤ 759041; omega, by show nn + 0 ≤ 6824346; omega⟩ (fun v1 w1 hp1 => ?_)
  obtain ⟨m_2, hm_2, rfl, rfl⟩ := hp1
  refine xw_st (st' := [nV m_2]) rfl ?_
  refine xw_if_ne_N (pc := 947) (tgt := 998) C dL_law_947 (by decide) (by omega) (fun c_3 => ?_) (fun c_3 => ?_)
  ·
    refine xw_wd (k' := k + 1) (n' := nn + 16) (by omega) (by omega) ?_
    refine xw_lv (lv' := [(0, .ref sc), (1, .ref h), (2, .ref o), (3, nV i)]) [0, 1, 2, 3] rfl ?_
    exact kk _ _ hS
  ·
    refine xw_aload_n (pc := 950) C 1 dL_law_950 rfl ?_
    refine xw_iload (pc := 951) C 5 dL_law_951 rfl ?_
    refine xw_iload (pc := 953) C 6 dL_law_953 rfl ?_
    refine xw_VF (pc := 955) (q0 := 0) (na := 2) (rest := []) (wc := WX cI h a n p A) (wr := wS cI cQ o n p (rt n p) rr g A ++ []) C [6, 7] [0, 1, 2, 3, 4, 5] [0] (m_X0_copy hn hA ma oo (by omega) (by omega)) gL_law_X0_copy rfl rfl rfl rfl (by decide +kernel) ⟨(Nat.le_of_ble_eq_true rfl), (Nat.le_of_ble_eq_true rfl)⟩ rfl rfl rfl ⟨rfl, rfl⟩ (by decide) rfl rfl rfl rfl (Nat.le_of_ble_eq_true rfl) dL_law_955 ⟨by show k + 0 ≤ 759041; omega, by show nn + 0 ≤ 6824346; omega⟩ (fun v1 w1 hp1 => ?_)
    obtain ⟨rfl, rfl⟩ := hp1
    refine xw_st (st' := [nV (cc (fun j => decide (A (16 * oo + j) ≠ A (16 * ma + j))) n)]) rfl ?_
    refine xw_wo (w' := LW cI cQ o rr n p (rt n p) g A [] (WX cI h a n p (cp A ma oo n))) rfl ?_
    refine xw_pop (pc := 958) C dL_law_958 rfl ?_
    refine xw_aload_n (pc := 959) C 1 dL_law_959 rfl ?_
    refine xw_iload (pc := 960) C 6 dL_law_960 rfl ?_
    refine xw_iconst_N (pc := 962) C 0 dL_law_962 rfl ?_
    refine xw_VF (pc := 963) (q0 := 0) (na := 2) (rest := []) (wc := WX cI h a n p (cp A ma oo n)) (wr := wS cI cQ o n p (rt n p) rr g A ++ []) C [6, 7] [0, 1, 2, 3, 4, 5] [0] (m_X0_turn_false hp0 hp5 hn (cp_lt hA) (by omega) (ml hp0 hp5) (ml hp0 hp5) oo (by omega)) gL_law_X0_turn rfl rfl rfl rfl (by decide +kernel) ⟨(Nat.le_of_ble_eq_true rfl), (Nat.le_of_ble_eq_true rfl)⟩ rfl rfl rfl ⟨rfl, rfl⟩ (by decide) rfl rfl rfl rfl (Nat.le_of_ble_eq_true rfl) dL_law_963 ⟨by show k + 0 ≤ 759041; omega, by show nn + 0 ≤ 6824346; omega⟩ (fun v1 w1 hp1 => ?_)
    obtain ⟨rfl, rfl⟩ := hp1
    refine xw_st (st' := [nV (tn p n (cp A ma oo n) oo (rt n p) 1 0)]) rfl ?_
    refine xw_wo (w' := LW cI cQ o rr n p (rt n p) g A [] (WX cI h a n p (ly (cp A ma oo n) (tn p n (cp A ma oo n) oo (rt n p) 1) oo n))) rfl ?_
    refine xw_pop (pc := 966) C dL_law_966 rfl ?_
    refine xw_aload_n (pc := 967) C 2 dL_law_967 rfl ?_
    refine xw_get (pc := 968) (T := TX1) (N := 4) (ref := "ToneButterfliesLaw$Sim") C hin 0 3 LW_o rfl (by decide) (by decide +kernel) rfl rfl dL_law_968 ?_
    refine xw_iload (pc := 971) C 6 dL_law_971 rfl ?_
    refine xw_aload_n (pc := 973) C 2 dL_law_973 rfl ?_
    refine xw_aload_n (pc := 974) C 2 dL_law_974 rfl ?_
    refine xw_get (pc := 975) (T := TX1) (N := 4) (ref := "ToneButterfliesLaw$Sim") C hin 0 3 LW_o rfl (by decide) (by decide +kernel) rfl rfl dL_law_975 ?_
    refine xw_iload (pc := 978) C 5 dL_law_978 rfl ?_
    refine xw_aald (pc := 980) (r := g ma) C 1 1 ma LW_q rfl (by omega) (by decide) (if_pos (by omega)) dL_law_980 ?_
    refine xw_V (pc := 981) (q0 := 0) (na := 1) (rest := [nV oo, .ref rr]) C (m_X1_tones LW_o hp1 hp5 hn (by omega) (fun j => hA _) (LW_r (by omega))) gL_law_X1_tones rfl rfl rfl rfl (by decide +kernel) ⟨(Nat.le_of_ble_eq_true rfl), (Nat.le_of_ble_eq_true rfl)⟩ LW_o rfl rfl (Nat.le_of_ble_eq_true rfl) dL_law_981 ⟨by show k + 1 ≤ 759041; omega, by show nn + 16 ≤ 6824346; omega⟩ (fun v1 w1 hp1 => ?_)
    obtain ⟨q_4, rfl, rfl⟩ := hp1
    refine xw_st (st' := [.ref q_4, nV oo, .ref rr]) rfl ?_
    refine xw_wd (k' := k + 1) (n' := nn + 16) (by omega) (by omega) ?_
    refine xw_srow (pc := 984) C Y oo q_4 (by omega) hn16 dL_law_984 ?_
    refine xw_sB (ly (cp A ma oo n) (tn p n (cp A ma oo n) oo (rt n p) 1) oo n) (ag_tones hrg hne) ?_
    refine xw_aload_n (pc := 985) C 1 dL_law_985 rfl ?_
    refine xw_iload (pc := 986) C 5 dL_law_986 rfl ?_
    refine xw_iload (pc := 988) C 6 dL_law_988 rfl ?_
    refine xw_VF (pc := 990) (q0 := 0) (na := 2) (rest := []) (wc := WX cI h a n p (ly (cp A ma oo n) (tn p n (cp A ma oo n) oo (rt n p) 1) oo n)) (wr := wS cI cQ o n p (rt n p) rr (va_up g oo q_4) (ly (cp A ma oo n) (tn p n (cp A ma oo n) oo (rt n p) 1) oo n) ++ []) C [6, 7] [0, 1, 2, 3, 4, 5] [0] (m_X0_tones hp0 hp5 hn (ly_lt (cp_lt hA) (fun j _ => ml hp0 hp5)) (by omega) ma oo (by omega) (by omega)) gL_law_X0_tones rfl rfl rfl rfl (by decide +kernel) ⟨(Nat.le_of_ble_eq_true rfl), (Nat.le_of_ble_eq_true rfl)⟩ rfl rfl rfl ⟨rfl, rfl⟩ (by decide) rfl rfl rfl rfl (Nat.le_of_ble_eq_true rfl) dL_law_990 ⟨by show k + 1 + 0 ≤ 759041; omega, by show nn + 16 + 0 ≤ 6824346; omega⟩ (fun v1 w1 hp1 => ?_)
    obtain ⟨rfl, rfl⟩ := hp1
    refine xw_st (st' := [bV (im n (sv (ly (cp A ma oo n) (tn p n (cp A ma oo n) oo (rt n p) 1) oo n) (tn p n (ly (cp A ma oo n) (tn p n (cp A ma oo n) oo (rt n p) 1) oo n) ma (rt n p) 1) n) 4 oo 0)]) rfl ?_
    refine xw_wo (w' := LW cI cQ o rr n p (rt n p) (va_up g oo q_4) (ly (cp A ma oo n) (tn p n (cp A ma oo n) oo (rt n p) 1) oo n) [] (WX cI h a n p (sv (ly (cp A ma oo n) (tn p n (cp A ma oo n) oo (rt n p) 1) oo n) (tn p n (ly (cp A ma oo n) (tn p n (cp A ma oo n) oo (rt n p) 1) oo n) ma (rt n p) 1) n))) rfl ?_
    refine xw_if_ne_B (pc := 993) (tgt := 998) C dL_law_993 (by decide)  (fun c_5 => ?_) (fun c_5 => (by rw [im_tones hrg hma ho4 hne] at c_5; cases c_5))
    have hS11 : SI n p (sv (ly (cp A ma oo n) (tn p n (cp A ma oo n) oo (rt n p) 1) oo n) (tn p n (ly (cp A ma oo n) (tn p n (cp A ma oo n) oo (rt n p) 1) oo n) ma (rt n p) 1) n) := SI_sv (SI_ly (SI_cp hS hma ho4 hn16) hn16 ho4 (fun _ _ => Nat.mod_lt _ hp0)) (fun _ _ => Nat.mod_lt _ hp0)
    refine xw_sB (sv (ly (cp A ma oo n) (tn p n (cp A ma oo n) oo (rt n p) 1) oo n) (tn p n (ly (cp A ma oo n) (tn p n (cp A ma oo n) oo (rt n p) 1) oo n) ma (rt n p) 1) n) (fun i hi j hj => (sv_lo (by omega)).symm) ?_
    refine xw_wd (k' := k + 1) (n' := nn + 16) (by omega) (by omega) ?_
    refine xw_lv (lv' := [(0, .ref sc), (1, .ref h), (2, .ref o), (3, nV i)]) [0, 1, 2, 3] rfl ?_
    exact kk _ _ hS11

set_option maxHeartbeats 4000000 in
set_option maxRecDepth 100000 in
theorem law_G {φ : Fx} {l : Launch} {D : va_G} {cI cQ : ClassId} {sc h a o rr n p : Nat} {g A : Nat → Nat} (C : xc φ l room_1 D vwCl [(cI, .int), (cQ, .array .int)] 19 cL_law RL wsL_law) (Y : xyc sc φ) (hS : SI n p A) (k nn : Nat) (hk : k ≤ 3000) (hnn : nn ≤ 30000) {i : Nat} (hi : i < 14)
    (kk : xw φ (k + 73) (nn + 1054) (LV cI cQ h a o rr n p g A) 22 [(0, .ref sc), (1, .ref h), (2, .ref o), (3, nV (i + 1))] []) : xw φ k nn (LV cI cQ h a o rr n p g A) 998 [(0, .ref sc), (1, .ref h), (2, .ref o), (3, nV i)] [] := by
  obtain ⟨hrg, hA, hAp⟩ := id hS
  obtain ⟨hn, hp4, hp5, hp1, hp0, hn16, hnp, hr1, hrl, hfer⟩ := rgs_o hrg
  have hn3 := lt3 hn
  refine xw_aload_n (pc := 998) C 2 dL_law_998 rfl ?_
  refine xw_aload_n (pc := 999) C 1 dL_law_999 rfl ?_
  refine xw_V (pc := 1000) (q0 := 0) (na := 1) (rest := []) C (m_X1_isSame hS) gL_law_X1_isSame rfl rfl rfl rfl (by decide +kernel) ⟨(Nat.le_of_ble_eq_true rfl), (Nat.le_of_ble_eq_true rfl)⟩ LW_o rfl rfl (Nat.le_of_ble_eq_true rfl) dL_law_1000 ⟨by show k + 73 ≤ 759041; omega, by show nn + 1054 ≤ 6824346; omega⟩ (fun v1 w1 hp1 => ?_)
  obtain ⟨rfl, rfl⟩ := hp1
  refine xw_st (st' := [bV true]) rfl ?_
  refine xw_if_ne_B (pc := 1003) (tgt := 1008) C dL_law_1003 (by decide)  (fun c_1 => ?_) (fun c_1 => (by cases c_1))
  refine xw_iinc_N (pc := 1008) (b := i + 1) (lv' := [(0, .ref sc), (1, .ref h), (2, .ref o), (3, nV (i + 1))]) C 3 [1, 2, 3, 0] dL_law_1008 rfl (by decide) rfl rfl ?_
  refine xw_goto (pc := 1011) (tgt := 22) C dL_law_1011 (by decide) ?_
  exact kk

set_option maxHeartbeats 4000000 in
set_option maxRecDepth 100000 in
theorem law_A {φ : Fx} {l : Launch} {D : va_G} {cI cQ : ClassId} {sc h a o rr n p : Nat} {g A : Nat → Nat} (C : xc φ l room_1 D vwCl [(cI, .int), (cQ, .array .int)] 19 cL_law RL wsL_law) (Y : xyc sc φ) (hS : SI n p A) (k nn : Nat) (hk : k ≤ 3000) (hnn : nn ≤ 30000) {i : Nat} (hi : i < 14)
    (kk : ∀ (x : Int32) (n p rr : Nat) (g A : Nat → Nat), SI n p A → xw φ (k + 6 + 6) (nn + 100 + 100) (LV cI cQ h a o rr n p g A) 80 [(0, .ref sc), (1, .ref h), (2, .ref o), (3, nV i), (4, .int x)] []) : xw φ k nn (LV cI cQ h a o rr n p g A) 22 [(0, .ref sc), (1, .ref h), (2, .ref o), (3, nV i)] [] := by
  obtain ⟨hrg, hA, hAp⟩ := id hS
  obtain ⟨hn, hp4, hp5, hp1, hp0, hn16, hnp, hr1, hrl, hfer⟩ := rgs_o hrg
  have hn3 := lt3 hn
  refine xw_iload_n (pc := 22) C 3 dL_law_22 rfl ?_
  refine xw_bipush_N (pc := 23) C 14 dL_law_23 (by decide) ?_
  refine xw_icmp_ge_N (pc := 25) (tgt := 1014) C dL_law_25 (by decide) (by omega) (by omega) (fun c_1 => (by omega)) (fun c_1 => ?_)
  refine xw_aload_n (pc := 28) C 0 dL_law_28 rfl ?_
  refine xw_iload_n (pc := 29) C 3 dL_law_29 rfl ?_
  refine xw_YSF (pc := 30) (na := 2) (rest := []) (wc := []) (wr := LW cI cQ o rr n p (rt n p) g A [] (WX cI h a n p A)) C Y [] [0, 1, 2, 3, 4, 5, 6, 7] [0, 1] (m_L_cell i (by omega)) gL_law_L_cell rfl rfl rfl rfl (by decide +kernel) ⟨(Nat.le_of_ble_eq_true rfl), (Nat.le_of_ble_eq_true rfl)⟩ rfl rfl rfl ⟨rfl, rfl⟩ (by decide) rfl rfl (Nat.le_of_ble_eq_true rfl) dL_law_30 ⟨by show k + 0 ≤ 759041; omega, by show nn + 0 ≤ 6824346; omega⟩ (fun v1 w1 hp1 => ?_)
  obtain ⟨x_2, rfl, rfl⟩ := hp1
  refine xw_st (st' := [.int x_2]) rfl ?_
  refine xw_wo (w' := LW cI cQ o rr n p (rt n p) g A [] (WX cI h a n p A)) rfl ?_
  refine xw_iconst_N (pc := 33) C 2 dL_law_33 rfl ?_
  obtain ⟨x_3, hx_3⟩ : ∃ x_3 : Int32, x_2 >>> (iI ((2 : Nat) : Int) &&& 31) = x_3 := ⟨_, rfl⟩
  refine xw_ishr (pc := 34) C dL_law_34 hx_3 ?_
  refine xw_bipush_N (pc := 35) C 53 dL_law_35 (by decide) ?_
  refine xw_iload_n (pc := 37) C 3 dL_law_37 rfl ?_
  refine xw_imul_N (pc := 38) C dL_law_38 ?_
  refine xw_st (st' := [iV (((53 * i : Nat) : Int)), iV (x_3.toInt)]) (by simp only [iV, nV, ← iI_of]) ?_
  refine xw_iadd (pc := 39) C dL_law_39 ?_
  obtain ⟨x_4, hx_4⟩ : ∃ x_4 : Int32, iI (x_3.toInt + (((53 * i : Nat) : Int))) = x_4 := ⟨_, rfl⟩
  refine xw_st (st' := [.int x_4]) (by rw [← hx_4]) ?_
  refine xw_istore (pc := 40) (lv' := [(0, .ref sc), (1, .ref h), (2, .ref o), (3, nV i), (4, .int x_4)]) C [1, 2, 3, 4, 0] dL_law_40 (by decide) rfl ?_
  refine xw_iconst_N (pc := 42) C 0 dL_law_42 rfl ?_
  refine xw_istore (pc := 43) (lv' := [(0, .ref sc), (1, .ref h), (2, .ref o), (3, nV i), (4, .int x_4), (5, nV 0)]) C [1, 2, 3, 4, 5, 0] dL_law_43 (by decide) rfl ?_
  refine xw_iload (pc := 45) C 5 dL_law_45 rfl ?_
  refine xw_iconst_N (pc := 47) C 2 dL_law_47 rfl ?_
  refine xw_icmp_ge_N (pc := 48) (tgt := 80) C dL_law_48 (by decide) (by omega) (by omega) (fun c_5 => (by omega)) (fun c_5 => ?_)
  refine xw_aload_n (pc := 51) C 1 dL_law_51 rfl ?_
  refine xw_aload_n (pc := 52) C 2 dL_law_52 rfl ?_
  refine xw_iload (pc := 53) C 4 dL_law_53 rfl ?_
  refine xw_iconst_N (pc := 55) C 3 dL_law_55 rfl ?_
  refine xw_iload (pc := 56) C 5 dL_law_56 rfl ?_
  refine xw_imul_N (pc := 58) C dL_law_58 ?_
  obtain ⟨x_6, hx_6⟩ : ∃ x_6 : Int32, x_4 >>> (iI ((3 * 0 : Nat) : Int) &&& 31) = x_6 := ⟨_, rfl⟩
  refine xw_ishr (pc := 59) C dL_law_59 hx_6 ?_
  refine xw_bipush_N (pc := 60) C 29 dL_law_60 (by decide) ?_
  refine xw_iload (pc := 62) C 5 dL_law_62 rfl ?_
  refine xw_imul_N (pc := 64) C dL_law_64 ?_
  refine xw_st (st' := [iV (((29 * 0 : Nat) : Int)), iV (x_6.toInt), .ref o, .ref h]) (by simp only [iV, nV, ← iI_of]) ?_
  refine xw_iadd (pc := 65) C dL_law_65 ?_
  obtain ⟨x_7, hx_7⟩ : ∃ x_7 : Int32, iI (x_6.toInt + (((29 * 0 : Nat) : Int))) = x_7 := ⟨_, rfl⟩
  refine xw_st (st' := [.int x_7, .ref o, .ref h]) (by rw [← hx_7]) ?_
  refine xw_YSF (pc := 66) (na := 3) (rest := []) (wc := LW cI cQ o rr n p (rt n p) g A [] (WX cI h a n p A)) (wr := []) C Y [0, 1, 2, 3, 4, 5, 6, 7] [] [0, 1] (m_L_act hS x_7) gL_law_L_act rfl rfl rfl rfl (by decide +kernel) ⟨(Nat.le_of_ble_eq_true rfl), (Nat.le_of_ble_eq_true rfl)⟩ rfl rfl rfl ⟨rfl, rfl⟩ (by decide) rfl rfl (Nat.le_of_ble_eq_true rfl) dL_law_66 ⟨by show k + 6 ≤ 759041; omega, by show nn + 100 ≤ 6824346; omega⟩ (fun v1 w1 hp1 => ?_)
  obtain ⟨rfl, n_9, p_10, rr_11, g_12, A_8, hS_A_8, rfl⟩ := hp1
  refine xw_st (st' := [bV true]) rfl ?_
  refine xw_wo (w' := LW cI cQ o rr_11 n_9 p_10 (rt n_9 p_10) g_12 A_8 [] (WX cI h a n_9 p_10 A_8)) rfl ?_
  refine xw_if_ne_B (pc := 69) (tgt := 74) C dL_law_69 (by decide)  (fun c_13 => ?_) (fun c_13 => (by cases c_13))
  refine xw_iinc_N (pc := 74) (b := 0 + 1) (lv' := [(0, .ref sc), (1, .ref h), (2, .ref o), (3, nV i), (4, .int x_4), (5, nV (0 + 1))]) C 5 [1, 2, 3, 4, 5, 0] dL_law_74 rfl (by decide) rfl rfl ?_
  refine xw_goto (pc := 77) (tgt := 45) C dL_law_77 (by decide) ?_
  refine xw_iload (pc := 45) C 5 dL_law_45 rfl ?_
  refine xw_iconst_N (pc := 47) C 2 dL_law_47 rfl ?_
  refine xw_icmp_ge_N (pc := 48) (tgt := 80) C dL_law_48 (by decide) (by omega) (by omega) (fun c_14 => (by omega)) (fun c_14 => ?_)
  refine xw_aload_n (pc := 51) C 1 dL_law_51 rfl ?_
  refine xw_aload_n (pc := 52) C 2 dL_law_52 rfl ?_
  refine xw_iload (pc := 53) C 4 dL_law_53 rfl ?_
  refine xw_iconst_N (pc := 55) C 3 dL_law_55 rfl ?_
  refine xw_iload (pc := 56) C 5 dL_law_56 rfl ?_
  refine xw_imul_N (pc := 58) C dL_law_58 ?_
  obtain ⟨x_15, hx_15⟩ : ∃ x_15 : Int32, x_4 >>> (iI ((3 * (0 + 1) : Nat) : Int) &&& 31) = x_15 := ⟨_, rfl⟩
  refine xw_ishr (pc := 59) C dL_law_59 hx_15 ?_
  refine xw_bipush_N (pc := 60) C 29 dL_law_60 (by decide) ?_
  refine xw_iload (pc := 62) C 5 dL_law_62 rfl ?_
  refine xw_imul_N (pc := 64) C dL_law_64 ?_
  refine xw_st (st' := [iV (((29 * (0 + 1) : Nat) : Int)), iV (x_15.toInt), .ref o, .ref h]) (by simp only [iV, nV, ← iI_of]) ?_
  refine xw_iadd (pc := 65) C dL_law_65 ?_
  obtain ⟨x_16, hx_16⟩ : ∃ x_16 : Int32, iI (x_15.toInt + (((29 * (0 + 1) : Nat) : Int))) = x_16 := ⟨_, rfl⟩
  refine xw_st (st' := [.int x_16, .ref o, .ref h]) (by rw [← hx_16]) ?_
  refine xw_YSF (pc := 66) (na := 3) (rest := []) (wc := LW cI cQ o rr_11 n_9 p_10 (rt n_9 p_10) g_12 A_8 [] (WX cI h a n_9 p_10 A_8)) (wr := []) C Y [0, 1, 2, 3, 4, 5, 6, 7] [] [0, 1] (m_L_act hS_A_8 x_16) gL_law_L_act rfl rfl rfl rfl (by decide +kernel) ⟨(Nat.le_of_ble_eq_true rfl), (Nat.le_of_ble_eq_true rfl)⟩ rfl rfl rfl ⟨rfl, rfl⟩ (by decide) rfl rfl (Nat.le_of_ble_eq_true rfl) dL_law_66 ⟨by show k + 6 + 6 ≤ 759041; omega, by show nn + 100 + 100 ≤ 6824346; omega⟩ (fun v1 w1 hp1 => ?_)
  obtain ⟨rfl, n_18, p_19, rr_20, g_21, A_17, hS_A_17, rfl⟩ := hp1
  refine xw_st (st' := [bV true]) rfl ?_
  refine xw_wo (w' := LW cI cQ o rr_20 n_18 p_19 (rt n_18 p_19) g_21 A_17 [] (WX cI h a n_18 p_19 A_17)) rfl ?_
  refine xw_if_ne_B (pc := 69) (tgt := 74) C dL_law_69 (by decide)  (fun c_22 => ?_) (fun c_22 => (by cases c_22))
  refine xw_iinc_N (pc := 74) (b := (0 + 1) + 1) (lv' := [(0, .ref sc), (1, .ref h), (2, .ref o), (3, nV i), (4, .int x_4), (5, nV ((0 + 1) + 1))]) C 5 [1, 2, 3, 4, 5, 0] dL_law_74 rfl (by decide) rfl rfl ?_
  refine xw_goto (pc := 77) (tgt := 45) C dL_law_77 (by decide) ?_
  refine xw_iload (pc := 45) C 5 dL_law_45 rfl ?_
  refine xw_iconst_N (pc := 47) C 2 dL_law_47 rfl ?_
  refine xw_icmp_ge_N (pc := 48) (tgt := 80) C dL_law_48 (by decide) (by omega) (by omega) (fun c_23 => ?_) (fun c_23 => (by omega))
  refine xw_lv (lv' := [(0, .ref sc), (1, .ref h), (2, .ref o), (3, nV i), (4, .int x_4)]) [0, 1, 2, 3, 4] rfl ?_
  exact kk _ _ _ _ _ _ hS_A_17
