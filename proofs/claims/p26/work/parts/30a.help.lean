/-! ===== the law's two helpers: a number below another, a cell of the script ===== -/
set_option maxHeartbeats 4000000 in
set_option maxRecDepth 100000 in
theorem m_L_below {l : Launch} {D : va_G} {tys : List (ClassId × FieldType)} {w0 : va_W} (v : Int32) (n : Nat) (hn : 0 < n) (hn2 : n < 2147483648) : CT l yL_below wsL_below (rmN 0 0) D vwCl tys [.int v, nV n] w0 (fun r w1 => ∃ m : Nat, m < n ∧ r = some (nV m) ∧ w1 = w0) 0 0 := by
  refine ct_of (plainFor_of_name (by decide)) rfl (Nat.le_of_ble_eq_true rfl) (fun φ C rX => ?_)
  refine xw_le (lv' := [(0, .int v), (1, nV n)]) rfl ?_
  have hm : v.toBitVec.toNat % 2 ^ 31 < 2 ^ 31 := Nat.mod_lt _ (by decide)
  refine xw_iload_n (pc := 0) C 0 dL_below_0 rfl ?_
  refine xw_ldc (pc := 1) (v := 2147483647) C (by decide +kernel) dL_below_1 ?_
  refine xw_iand (pc := 3) (r := iI ((v.toBitVec.toNat % 2 ^ 31 : Nat) : Int)) C dL_below_3 (by rw [iI_nI]; exact pk_and v (m := 2147483647) 31 (by decide)) ?_
  refine xw_iload_n (pc := 4) C 1 dL_below_4 rfl ?_
  refine xw_irem_N (pc := 5) C dL_below_5 (by omega) (by omega) ?_
  exact xw_iret (pc := 6) C rX (Nat.le_refl _) (Nat.le_refl _) dL_below_6 ⟨_, Nat.mod_lt _ hn, rfl, rfl⟩
set_option maxHeartbeats 4000000 in
set_option maxRecDepth 100000 in
theorem m_L_cell {l : Launch} {D : va_G} {tys : List (ClassId × FieldType)} {w0 : va_W} {sc : Nat} (k : Nat) (hk : k < 2147483648) : CY l yL_cell wsL_cell (rmN 0 0) D vwCl tys sc [.ref sc, nV k] w0 (fun r w1 => ∃ x : Int32, r = some (.int x) ∧ w1 = w0) 0 0 := by
  refine cy_ofI (plainFor_of_name (by decide)) rfl (Nat.le_of_ble_eq_true rfl) (fun φ C rX I Y => ?_)
  obtain ⟨L, xs, X⟩ := xyc_s Y
  have hL : L < 2147483648 := by
    obtain ⟨p, l, e, R, s, m, args, below, meth, c, Q, D, cl, tys, A, nL⟩ := φ
    exact X.1
  refine xw_le (lv' := [(0, .ref sc), (1, nV k)]) rfl ?_
  refine xw_iload_n (pc := 0) C 1 dL_cell_0 rfl ?_
  refine xw_aload_n (pc := 1) C 0 dL_cell_1 rfl ?_
  refine xw_slen5 (pc := 2) C X dL_cell_2 ?_
  refine xw_icmp_ge_N (pc := 3) (tgt := 12) C dL_cell_3 (by decide) (by omega) (by omega) (fun c_1 => ?_) (fun c_1 => ?_)
  · refine xw_ldc (pc := 12) (v := 790386105) C (by decide +kernel) dL_cell_12 ?_
    refine xw_iload_n (pc := 14) C 1 dL_cell_14 rfl ?_
    refine xw_iconst_N (pc := 15) C 3 dL_cell_15 rfl ?_
    refine xw_iadd_N (pc := 16) C dL_cell_16 ?_
    refine xw_st (st' := [iV ((k + 3 : Nat) : Int), iV (790386105 : Int)]) (by rfl) ?_
    refine xw_imul (pc := 17) C dL_cell_17 ?_
    exact xw_iret (pc := 18) C rX (Nat.le_refl _) (Nat.le_refl _) dL_cell_18 ⟨_, rfl, rfl⟩
  · refine xw_aload_n (pc := 6) C 0 dL_cell_6 rfl ?_
    refine xw_iload_n (pc := 7) C 1 dL_cell_7 rfl ?_
    refine xw_sald5 (pc := 8) C X (by omega) dL_cell_8 ?_
    refine xw_goto (pc := 9) (tgt := 18) C dL_cell_9 (by decide) ?_
    exact xw_iret (pc := 18) C rX (Nat.le_refl _) (Nat.le_refl _) dL_cell_18 ⟨_, rfl, rfl⟩
