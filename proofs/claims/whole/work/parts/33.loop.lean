set_option maxHeartbeats 4000000 in
set_option maxRecDepth 100000 in
theorem law_loop {φ : Fx} {l : Launch} {D : va_G} {cI cJ cD : ClassId} {b L hx hm r d o od a : Nat} {xs : Nat → Int32} (C : xc φ l room_1 D vwCl [(cI, .int), (cJ, .long), (cD, .double)] 9 cL_law RL wsL_law) (Zc : xzc φ) (X : xsx φ b L xs) (hL : L ≤ 2048) (hl : l.stackTraces = false) (fin : ∀ (k nn : Nat) (w : va_W) (lv : List (Nat × Value)), k ≤ 1042 → nn ≤ 8434 → xw φ k nn w 1676 lv []) :
    ∀ (t i k nn n p th : Nat) (A B M : Nat → Nat) (f : Nat → Int64) (g : Nat → UInt64), LI n p A B M → L < i + 4 * t → k + t ≤ 1042 → nn + 6 * t ≤ 8434 → i ≤ 4096 → xw φ k nn (wL cI cJ cD hx a hm r d o od n p th A B M f g) 28 [(0, .ref b), (1, .ref hx), (2, .ref hm), (3, .ref o), (4, .ref od), (5, nV i)] []
  | t, i, k, nn, n, p, th, A, B, M, f, g => by
    intro I hm1 hk hnn hi
    refine xw_iload (pc := 28) C 5 dL_law_28 rfl ?_
    refine xw_aload_n (pc := 30) C 0 dL_law_30 rfl ?_
    refine xw_slen (pc := 31) C X dL_law_31 ?_
    refine xw_iconst_N (pc := 32) C 4 dL_law_32 rfl ?_
    refine xw_isub (pc := 33) C dL_law_33 ?_
    refine xw_icmp_gt (pc := 34) (tgt := 1676) C dL_law_34 (by decide) (by omega) (by omega) (fun _ => fin k nn _ _ (by omega) (by omega)) (fun c0 => ?_)
    have h3 : i + 3 < L := by omega
    obtain ⟨t, rfl⟩ : ∃ t', t = t' + 1 := ⟨t - 1, by omega⟩
    have hk1 : k + 1 ≤ 1042 := by omega
    have hn6 : nn + 6 ≤ 8434 := by omega
    have kk : ∀ (n p th : Nat) (A B M : Nat → Nat) (f : Nat → Int64) (g : Nat → UInt64), LI n p A B M → xw φ (k + 1) (nn + 6) (wL cI cJ cD hx a hm r d o od n p th A B M f g) 1670 [(0, .ref b), (1, .ref hx), (2, .ref hm), (3, .ref o), (4, .ref od), (5, nV i)] [] := fun n p th A B M f g I9 => by
      refine xw_iinc_N (pc := 1670) (a := i) (b := i + 4) (lv' := [(0, .ref b), (1, .ref hx), (2, .ref hm), (3, .ref o), (4, .ref od), (5, nV (i + 4))]) C 5 [1, 2, 3, 4, 5, 0] dL_law_1670 rfl (by decide) (by omega) rfl ?_
      refine xw_goto (pc := 1673) (tgt := 28) C dL_law_1673 (by decide) ?_
      exact law_loop C Zc X hL hl fin t (i + 4) (k + 1) (nn + 6) n p th A B M f g I9 (by omega) (by omega) (by omega) (by omega)
    refine xw_aload_n (pc := 37) C 0 dL_law_37 rfl ?_
    refine xw_iload (pc := 38) C 5 dL_law_38 rfl ?_
    refine xw_sld (pc := 40) C X i rfl (by omega) (by omega) dL_law_40 ?_
    refine xw_bipush_N (pc := 41) C 31 dL_law_41 (by decide) ?_
    refine xw_iand (pc := 43) C dL_law_43 (and_31 _) ?_
    have hv : ((xs i).toInt % 32).toNat < 32 := by omega
    generalize ((xs i).toInt % 32).toNat = v at hv ⊢
    by_cases v0 : v = 0
    · subst v0
      exact xw_tabN (pc := 44) (off := 108) (tgt := 152) C dL_law_44 (by decide) (by decide) (by decide) (by decide) (by decide) (c_ring C Zc X hL h3 hk1 hn6 hl I kk)
    by_cases v1 : v = 1
    · subst v1
      exact xw_tabN (pc := 44) (off := 176) (tgt := 220) C dL_law_44 (by decide) (by decide) (by decide) (by decide) (by decide) (c_order C Zc X hL h3 hk1 hn6 hl I kk)
    by_cases v2 : v = 2
    · subst v2
      exact xw_tabN (pc := 44) (off := 232) (tgt := 276) C dL_law_44 (by decide) (by decide) (by decide) (by decide) (by decide) (c_inverse C Zc X hL h3 hk1 hn6 hl I kk)
    by_cases v3 : v = 3
    · subst v3
      exact xw_tabN (pc := 44) (off := 288) (tgt := 332) C dL_law_44 (by decide) (by decide) (by decide) (by decide) (by decide) (c_root C Zc X hL h3 hk1 hn6 hl I kk)
    by_cases v4 : v = 4
    · subst v4
      exact xw_tabN (pc := 44) (off := 344) (tgt := 388) C dL_law_44 (by decide) (by decide) (by decide) (by decide) (by decide) (c_set C Zc X hL h3 hk1 hn6 hl I kk)
    by_cases v5 : v = 5
    · subst v5
      exact xw_tabN (pc := 44) (off := 424) (tgt := 468) C dL_law_44 (by decide) (by decide) (by decide) (by decide) (by decide) (c_copy C Zc X hL h3 hk1 hn6 hl I kk)
    by_cases v6 : v = 6
    · subst v6
      exact xw_tabN (pc := 44) (off := 492) (tgt := 536) C dL_law_44 (by decide) (by decide) (by decide) (by decide) (by decide) (c_turn C Zc X hL h3 hk1 hn6 hl I kk)
    by_cases v7 : v = 7
    · subst v7
      exact xw_tabN (pc := 44) (off := 576) (tgt := 620) C dL_law_44 (by decide) (by decide) (by decide) (by decide) (by decide) (c_mirror C Zc X hL h3 hk1 hn6 hl I kk)
    by_cases v8 : v = 8
    · subst v8
      exact xw_tabN (pc := 44) (off := 632) (tgt := 676) C dL_law_44 (by decide) (by decide) (by decide) (by decide) (by decide) (c_stage C Zc X hL h3 hk1 hn6 hl I kk)
    by_cases v9 : v = 9
    · subst v9
      exact xw_tabN (pc := 44) (off := 700) (tgt := 744) C dL_law_44 (by decide) (by decide) (by decide) (by decide) (by decide) (c_fold C Zc X hL h3 hk1 hn6 hl I kk)
    by_cases v10 : v = 10
    · subst v10
      exact xw_tabN (pc := 44) (off := 768) (tgt := 812) C dL_law_44 (by decide) (by decide) (by decide) (by decide) (by decide) (c_join C Zc X hL h3 hk1 hn6 hl I kk)
    by_cases v11 : v = 11
    · subst v11
      exact xw_tabN (pc := 44) (off := 848) (tgt := 892) C dL_law_44 (by decide) (by decide) (by decide) (by decide) (by decide) (c_move C Zc X hL h3 hk1 hn6 hl I kk)
    by_cases v12 : v = 12
    · subst v12
      exact xw_tabN (pc := 44) (off := 916) (tgt := 960) C dL_law_44 (by decide) (by decide) (by decide) (by decide) (by decide) (c_times C Zc X hL h3 hk1 hn6 hl I kk)
    by_cases v13 : v = 13
    · subst v13
      exact xw_tabN (pc := 44) (off := 984) (tgt := 1028) C dL_law_44 (by decide) (by decide) (by decide) (by decide) (by decide) (c_at C Zc X hL h3 hk1 hn6 hl I kk)
    by_cases v14 : v = 14
    · subst v14
      exact xw_tabN (pc := 44) (off := 1052) (tgt := 1096) C dL_law_44 (by decide) (by decide) (by decide) (by decide) (by decide) (c_point C Zc X hL h3 hk1 hn6 hl I kk)
    by_cases v15 : v = 15
    · subst v15
      exact xw_tabN (pc := 44) (off := 1120) (tgt := 1164) C dL_law_44 (by decide) (by decide) (by decide) (by decide) (by decide) (c_about C Zc X hL h3 hk1 hn6 hl I kk)
    by_cases v16 : v = 16
    · subst v16
      exact xw_tabN (pc := 44) (off := 1188) (tgt := 1232) C dL_law_44 (by decide) (by decide) (by decide) (by decide) (by decide) (c_count C Zc X hL h3 hk1 hn6 hl I kk)
    by_cases v17 : v = 17
    · subst v17
      exact xw_tabN (pc := 44) (off := 1244) (tgt := 1288) C dL_law_44 (by decide) (by decide) (by decide) (by decide) (by decide) (c_would C Zc X hL h3 hk1 hn6 hl I kk)
    by_cases v18 : v = 18
    · subst v18
      exact xw_tabN (pc := 44) (off := 1324) (tgt := 1368) C dL_law_44 (by decide) (by decide) (by decide) (by decide) (by decide) (c_comes C Zc X hL h3 hk1 hn6 hl I kk)
    by_cases v19 : v = 19
    · subst v19
      exact xw_tabN (pc := 44) (off := 1392) (tgt := 1436) C dL_law_44 (by decide) (by decide) (by decide) (by decide) (by decide) (c_advise C Zc X hL h3 hk1 hn6 hl I kk)
    by_cases v20 : v = 20
    · subst v20
      exact xw_tabN (pc := 44) (off := 1460) (tgt := 1504) C dL_law_44 (by decide) (by decide) (by decide) (by decide) (by decide) (c_tones C Zc X hL h3 hk1 hn6 hl I kk)
    by_cases v21 : v = 21
    · subst v21
      exact xw_tabN (pc := 44) (off := 1535) (tgt := 1579) C dL_law_44 (by decide) (by decide) (by decide) (by decide) (by decide) (c_mean C Zc X hL h3 hk1 hn6 hl I kk)
    by_cases v22 : v = 22
    · subst v22
      exact xw_tabN (pc := 44) (off := 1612) (tgt := 1656) C dL_law_44 (by decide) (by decide) (by decide) (by decide) (by decide) (c_digest C Zc X hL h3 hk1 hn6 I kk)
    exact xw_tabO (pc := 44) (tgt := 1670) C dL_law_44 (by omega) (Or.inr (by omega)) (by decide) (xw_wd (Nat.le_add_right k 1) (Nat.le_add_right nn 6) (kk _ _ _ _ _ _ _ _ I))
