set_option maxHeartbeats 4000000 in
set_option maxRecDepth 100000 in
theorem m_L_act {l : Launch} {D : va_G} {cI cQ : ClassId} {sc h a o rr n p : Nat} {g A : Nat → Nat} (hS : SI n p A) (x : Int32) : CY l yL_act wsL_act { frames := 8, cells := 6, slots := 100, locals := 250 } D vwCl [(cI, .int), (cQ, .array .int)] sc [.ref h, .ref o, .int x] (LV cI cQ h a o rr n p g A) (PA cI cQ h a o) 6 100 := by
  refine cy_ofI (plainFor_of_name (by decide)) rfl (Nat.le_of_ble_eq_true rfl) (fun φ C rX I Y => ?_)
  have hin : ∀ w ∈ wsX10, w ∈ wsL_act := fun w hw => wsX10_act w hw
  refine xw_le (lv' := [(0, .ref h), (1, .ref o), (2, .int x)]) rfl ?_
  obtain ⟨hrg, hA, hAp⟩ := id hS
  obtain ⟨hn, hp4, hp5, hp1, hp0, hn16, hnp, hr1, hrl, hfer⟩ := rgs_o hrg
  have hn3 := lt3 hn
  refine xw_iload_n (pc := 0) C 2 dL_act_0 rfl ?_
  refine xw_iconst_N (pc := 1) C 4 dL_act_1 rfl ?_
  obtain ⟨x_1, hx_1⟩ : ∃ x_1 : Int32, x >>> (iI ((4 : Nat) : Int) &&& 31) = x_1 := ⟨_, rfl⟩
  refine xw_ishr (pc := 2) C dL_act_2 hx_1 ?_
  refine xw_iconst_N (pc := 3) C 4 dL_act_3 rfl ?_
  refine xw_S (pc := 4) (na := 2) (rest := []) C (m_L_below x_1 4 (by omega) (by omega)) gL_act_L_below rfl rfl rfl rfl (by decide +kernel) ⟨(Nat.le_of_ble_eq_true rfl), (Nat.le_of_ble_eq_true rfl)⟩ rfl (Nat.le_of_ble_eq_true rfl) dL_act_4 ⟨(Nat.le_of_ble_eq_true rfl), (Nat.le_of_ble_eq_true rfl)⟩ (fun v1 w1 hp1 => ?_)
  obtain ⟨m_2, hm_2, rfl, rfl⟩ := hp1
  refine xw_st (st' := [nV m_2]) rfl ?_
  refine xw_istore_n (pc := 7) (lv' := [(0, .ref h), (1, .ref o), (2, .int x), (3, nV m_2)]) C [1, 2, 3, 0] dL_act_7 rfl (by decide) rfl ?_
  refine xw_iload_n (pc := 8) C 2 dL_act_8 rfl ?_
  refine xw_bipush_N (pc := 9) C 6 dL_act_9 (by decide) ?_
  obtain ⟨x_3, hx_3⟩ : ∃ x_3 : Int32, x >>> (iI ((6 : Nat) : Int) &&& 31) = x_3 := ⟨_, rfl⟩
  refine xw_ishr (pc := 11) C dL_act_11 hx_3 ?_
  refine xw_iconst_N (pc := 12) C 4 dL_act_12 rfl ?_
  refine xw_S (pc := 13) (na := 2) (rest := []) C (m_L_below x_3 4 (by omega) (by omega)) gL_act_L_below rfl rfl rfl rfl (by decide +kernel) ⟨(Nat.le_of_ble_eq_true rfl), (Nat.le_of_ble_eq_true rfl)⟩ rfl (Nat.le_of_ble_eq_true rfl) dL_act_13 ⟨(Nat.le_of_ble_eq_true rfl), (Nat.le_of_ble_eq_true rfl)⟩ (fun v1 w1 hp1 => ?_)
  obtain ⟨m_4, hm_4, rfl, rfl⟩ := hp1
  refine xw_st (st' := [nV m_4]) rfl ?_
  refine xw_istore (pc := 16) (lv' := [(0, .ref h), (1, .ref o), (2, .int x), (3, nV m_2), (4, nV m_4)]) C [1, 2, 3, 4, 0] dL_act_16 (by decide) rfl ?_
  refine xw_aload_n (pc := 18) C 1 dL_act_18 rfl ?_
  refine xw_get (pc := 19) (T := TX1) (N := 4) (ref := "ToneButterfliesLaw$Sim") C hin 0 0 LW_o rfl (by decide) (by decide +kernel) rfl rfl dL_act_19 ?_
  refine xw_istore (pc := 22) (lv' := [(0, .ref h), (1, .ref o), (2, .int x), (3, nV m_2), (4, nV m_4), (5, nV n)]) C [1, 2, 3, 4, 5, 0] dL_act_22 (by decide) rfl ?_
  refine xw_iload_n (pc := 24) C 2 dL_act_24 rfl ?_
  refine xw_bipush_N (pc := 25) C 16 dL_act_25 (by decide) ?_
  refine xw_S (pc := 27) (na := 2) (rest := []) C (m_L_below x 16 (by omega) (by omega)) gL_act_L_below rfl rfl rfl rfl (by decide +kernel) ⟨(Nat.le_of_ble_eq_true rfl), (Nat.le_of_ble_eq_true rfl)⟩ rfl (Nat.le_of_ble_eq_true rfl) dL_act_27 ⟨(Nat.le_of_ble_eq_true rfl), (Nat.le_of_ble_eq_true rfl)⟩ (fun v1 w1 hp1 => ?_)
  obtain ⟨m_5, hm_5, rfl, rfl⟩ := hp1
  refine xw_st (st' := [nV m_5]) rfl ?_
  by_cases v0 : m_5 = 0
  · subst v0
    exact xw_tabN (pc := 30) (off := 58) (tgt := 88) C dL_act_30 (by decide) (by decide) (by decide) (by decide) (by decide) (act_0 C rX Y hS x m_2 m_4 (by omega) (by omega))
  by_cases v1 : m_5 = 1
  · subst v1
    exact xw_tabN (pc := 30) (off := 132) (tgt := 162) C dL_act_30 (by decide) (by decide) (by decide) (by decide) (by decide) (act_1 C rX Y hS x m_2 m_4 (by omega) (by omega))
  by_cases v2 : m_5 = 2
  · subst v2
    exact xw_tabN (pc := 30) (off := 187) (tgt := 217) C dL_act_30 (by decide) (by decide) (by decide) (by decide) (by decide) (act_2 C rX Y hS x m_2 m_4 (by omega) (by omega))
  by_cases v3 : m_5 = 3
  · subst v3
    exact xw_tabN (pc := 30) (off := 187) (tgt := 217) C dL_act_30 (by decide) (by decide) (by decide) (by decide) (by decide) (act_2 C rX Y hS x m_2 m_4 (by omega) (by omega))
  by_cases v4 : m_5 = 4
  · subst v4
    exact xw_tabN (pc := 30) (off := 263) (tgt := 293) C dL_act_30 (by decide) (by decide) (by decide) (by decide) (by decide) (act_4 C rX Y hS x m_2 m_4 (by omega) (by omega))
  by_cases v5 : m_5 = 5
  · subst v5
    exact xw_tabN (pc := 30) (off := 312) (tgt := 342) C dL_act_30 (by decide) (by decide) (by decide) (by decide) (by decide) (act_5 C rX Y hS x m_2 m_4 (by omega) (by omega))
  by_cases v6 : m_5 = 6
  · subst v6
    exact xw_tabN (pc := 30) (off := 385) (tgt := 415) C dL_act_30 (by decide) (by decide) (by decide) (by decide) (by decide) (act_6 C rX Y hS x m_2 m_4 (by omega) (by omega))
  by_cases v7 : m_5 = 7
  · subst v7
    exact xw_tabN (pc := 30) (off := 432) (tgt := 462) C dL_act_30 (by decide) (by decide) (by decide) (by decide) (by decide) (act_7 C rX Y hS x m_2 m_4 (by omega) (by omega))
  by_cases v8 : m_5 = 8
  · subst v8
    exact xw_tabN (pc := 30) (off := 432) (tgt := 462) C dL_act_30 (by decide) (by decide) (by decide) (by decide) (by decide) (act_7 C rX Y hS x m_2 m_4 (by omega) (by omega))
  by_cases v9 : m_5 = 9
  · subst v9
    exact xw_tabN (pc := 30) (off := 565) (tgt := 595) C dL_act_30 (by decide) (by decide) (by decide) (by decide) (by decide) (act_9 C rX Y hS x m_2 m_4 (by omega) (by omega))
  by_cases v10 : m_5 = 10
  · subst v10
    exact xw_tabN (pc := 30) (off := 618) (tgt := 648) C dL_act_30 (by decide) (by decide) (by decide) (by decide) (by decide) (act_10 C rX Y hS x m_2 m_4 (by omega) (by omega))
  exact xw_tabO (pc := 30) (tgt := 728) C dL_act_30 (by omega) (by omega) (by decide) (act_11 C rX Y hS x m_2 m_4 (by omega) (by omega))
