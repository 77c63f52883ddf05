abbrev rmX (f lo : Nat) : Room := { frames := f, cells := 1, slots := 6, locals := lo }

set_option maxHeartbeats 4000000 in
set_option maxRecDepth 100000 in
theorem m_X0_requireRow_x {l : Launch} {D : va_G} {cI : ClassId} {h a n p b w wi ni : Nat} {A : Nat → Nat} (hl : l.stackTraces = false) (z : Int) (hz : (-2147483648 ≤ z ∧ z < 2147483648)) (hb : ¬ (0 ≤ z ∧ z < 4)) : CX l yX0_requireRow wsX0_requireRow (rmX 6 82) D vwCl [(cI, .int)] [.ref h, iV z] (wX cI h a n p b w wi ni A) nIOB 1 6 := by
  refine ct_ofX (by decide) rfl (Nat.le_of_ble_eq_true rfl) (fun φ C Zc X => ?_)
  have hthr : ∀ w ∈ (vx_atS RX0 97 nIOB nUp).filter goodWord, w ∈ wsX0_requireRow := by decide +kernel
  refine xw_le (lv' := [(0, .ref h), (1, iV z)]) rfl ?_
  refine xw_iload_n (pc := 0) C 1 dX0_requireRow_0 rfl ?_
  refine xw_if_lt (pc := 1) (tgt := 9) C dX0_requireRow_1 (by decide) (by omega) (fun c_1 => ?_) (fun c_1 => ?_)
  ·
    exact xt_throw (pc := 9) (ik := 93) (is := 150) (ic := 97) (text := "no such row") C Zc X hl (by decide +kernel) (by decide +kernel) (by decide +kernel) (fun w hw => hthr w hw) (fun w hw => List.mem_append_right _ hw) (by decide +kernel) (by decide) dX0_requireRow_9 dX0_requireRow_12 dX0_requireRow_13 dX0_requireRow_15 dX0_requireRow_18 (Nat.le_of_ble_eq_true rfl) (Nat.le_of_ble_eq_true rfl) (Nat.le_of_ble_eq_true rfl) (Nat.le_of_ble_eq_true rfl) (Nat.le_of_ble_eq_true rfl) (Nat.le_of_ble_eq_true rfl)
  ·
    refine xw_iload_n (pc := 4) C 1 dX0_requireRow_4 rfl ?_
    refine xw_iconst_N (pc := 5) C 4 dX0_requireRow_5 rfl ?_
    refine xw_icmp_lt (pc := 6) (tgt := 19) C dX0_requireRow_6 (by decide) (by omega) (by omega) (fun c_2 => (by exfalso; omega)) (fun c_2 => ?_)
    exact xt_throw (pc := 9) (ik := 93) (is := 150) (ic := 97) (text := "no such row") C Zc X hl (by decide +kernel) (by decide +kernel) (by decide +kernel) (fun w hw => hthr w hw) (fun w hw => List.mem_append_right _ hw) (by decide +kernel) (by decide) dX0_requireRow_9 dX0_requireRow_12 dX0_requireRow_13 dX0_requireRow_15 dX0_requireRow_18 (Nat.le_of_ble_eq_true rfl) (Nat.le_of_ble_eq_true rfl) (Nat.le_of_ble_eq_true rfl) (Nat.le_of_ble_eq_true rfl) (Nat.le_of_ble_eq_true rfl) (Nat.le_of_ble_eq_true rfl)

set_option maxHeartbeats 4000000 in
set_option maxRecDepth 100000 in
theorem m_X0_requirePlace_x {l : Launch} {D : va_G} {cI : ClassId} {h a n p b w wi ni : Nat} {A : Nat → Nat} (hl : l.stackTraces = false) (hn : n < 2147483648) (z : Int) (hz : (-2147483648 ≤ z ∧ z < 2147483648)) (hb : ¬ (0 ≤ z ∧ z < (n : Int))) : CX l yX0_requirePlace wsX0_requirePlace (rmX 6 82) D vwCl [(cI, .int)] [.ref h, iV z] (wX cI h a n p b w wi ni A) nIOB 1 6 := by
  refine ct_ofX (by decide) rfl (Nat.le_of_ble_eq_true rfl) (fun φ C Zc X => ?_)
  have hin : ∀ w ∈ wsX00, w ∈ wsX0_requirePlace := by decide +kernel
  have hthr : ∀ w ∈ (vx_atS RX0 97 nIOB nUp).filter goodWord, w ∈ wsX0_requirePlace := by decide +kernel
  refine xw_le (lv' := [(0, .ref h), (1, iV z)]) rfl ?_
  refine xw_iload_n (pc := 0) C 1 dX0_requirePlace_0 rfl ?_
  refine xw_if_lt (pc := 1) (tgt := 12) C dX0_requirePlace_1 (by decide) (by omega) (fun c_1 => ?_) (fun c_1 => ?_)
  ·
    exact xt_throw (pc := 12) (ik := 93) (is := 152) (ic := 97) (text := "no such place") C Zc X hl (by decide +kernel) (by decide +kernel) (by decide +kernel) (fun w hw => hthr w hw) (fun w hw => List.mem_append_right _ hw) (by decide +kernel) (by decide) dX0_requirePlace_12 dX0_requirePlace_15 dX0_requirePlace_16 dX0_requirePlace_18 dX0_requirePlace_21 (Nat.le_of_ble_eq_true rfl) (Nat.le_of_ble_eq_true rfl) (Nat.le_of_ble_eq_true rfl) (Nat.le_of_ble_eq_true rfl) (Nat.le_of_ble_eq_true rfl) (Nat.le_of_ble_eq_true rfl)
  ·
    refine xw_iload_n (pc := 4) C 1 dX0_requirePlace_4 rfl ?_
    refine xw_aload_n (pc := 5) C 0 dX0_requirePlace_5 rfl ?_
    refine xw_get (pc := 6) (T := TX0) (N := 7) (ref := "ToneButterflies") C hin 0 1 rfl rfl (by decide) (by decide +kernel) rfl rfl dX0_requirePlace_6 ?_
    refine xw_icmp_lt (pc := 9) (tgt := 22) C dX0_requirePlace_9 (by decide) (by omega) (by omega) (fun c_2 => (by exfalso; omega)) (fun c_2 => ?_)
    exact xt_throw (pc := 12) (ik := 93) (is := 152) (ic := 97) (text := "no such place") C Zc X hl (by decide +kernel) (by decide +kernel) (by decide +kernel) (fun w hw => hthr w hw) (fun w hw => List.mem_append_right _ hw) (by decide +kernel) (by decide) dX0_requirePlace_12 dX0_requirePlace_15 dX0_requirePlace_16 dX0_requirePlace_18 dX0_requirePlace_21 (Nat.le_of_ble_eq_true rfl) (Nat.le_of_ble_eq_true rfl) (Nat.le_of_ble_eq_true rfl) (Nat.le_of_ble_eq_true rfl) (Nat.le_of_ble_eq_true rfl) (Nat.le_of_ble_eq_true rfl)

set_option maxHeartbeats 4000000 in
set_option maxRecDepth 100000 in
theorem m_X0_requireNumber_x {l : Launch} {D : va_G} {cI : ClassId} {h a n p b w wi ni : Nat} {A : Nat → Nat} (hl : l.stackTraces = false) (hp5 : p < 500) (z : Int) (hz : (-2147483648 ≤ z ∧ z < 2147483648)) (hb : ¬ (0 ≤ z ∧ z < (p : Int))) : CX l yX0_requireNumber wsX0_requireNumber (rmX 6 82) D vwCl [(cI, .int)] [.ref h, iV z] (wX cI h a n p b w wi ni A) nIAE 1 6 := by
  refine ct_ofX (by decide) rfl (Nat.le_of_ble_eq_true rfl) (fun φ C Zc X => ?_)
  have hin : ∀ w ∈ wsX00, w ∈ wsX0_requireNumber := by decide +kernel
  have hthr : ∀ w ∈ (vx_atS RX0 32 nIAE nUp).filter goodWord, w ∈ wsX0_requireNumber := by decide +kernel
  refine xw_le (lv' := [(0, .ref h), (1, iV z)]) rfl ?_
  refine xw_iload_n (pc := 0) C 1 dX0_requireNumber_0 rfl ?_
  refine xw_if_lt (pc := 1) (tgt := 12) C dX0_requireNumber_1 (by decide) (by omega) (fun c_1 => ?_) (fun c_1 => ?_)
  ·
    exact xt_throw (pc := 12) (ik := 28) (is := 154) (ic := 32) (text := "no number of the ring") C Zc X hl (by decide +kernel) (by decide +kernel) (by decide +kernel) (fun w hw => hthr w hw) (fun w hw => List.mem_append_left _ hw) (by decide +kernel) (by decide) dX0_requireNumber_12 dX0_requireNumber_15 dX0_requireNumber_16 dX0_requireNumber_18 dX0_requireNumber_21 (Nat.le_of_ble_eq_true rfl) (Nat.le_of_ble_eq_true rfl) (Nat.le_of_ble_eq_true rfl) (Nat.le_of_ble_eq_true rfl) (Nat.le_of_ble_eq_true rfl) (Nat.le_of_ble_eq_true rfl)
  ·
    refine xw_iload_n (pc := 4) C 1 dX0_requireNumber_4 rfl ?_
    refine xw_aload_n (pc := 5) C 0 dX0_requireNumber_5 rfl ?_
    refine xw_get (pc := 6) (T := TX0) (N := 7) (ref := "ToneButterflies") C hin 0 2 rfl rfl (by decide) (by decide +kernel) rfl rfl dX0_requireNumber_6 ?_
    refine xw_icmp_lt (pc := 9) (tgt := 22) C dX0_requireNumber_9 (by decide) (by omega) (by omega) (fun c_2 => (by exfalso; omega)) (fun c_2 => ?_)
    exact xt_throw (pc := 12) (ik := 28) (is := 154) (ic := 32) (text := "no number of the ring") C Zc X hl (by decide +kernel) (by decide +kernel) (by decide +kernel) (fun w hw => hthr w hw) (fun w hw => List.mem_append_left _ hw) (by decide +kernel) (by decide) dX0_requireNumber_12 dX0_requireNumber_15 dX0_requireNumber_16 dX0_requireNumber_18 dX0_requireNumber_21 (Nat.le_of_ble_eq_true rfl) (Nat.le_of_ble_eq_true rfl) (Nat.le_of_ble_eq_true rfl) (Nat.le_of_ble_eq_true rfl) (Nat.le_of_ble_eq_true rfl) (Nat.le_of_ble_eq_true rfl)

set_option maxHeartbeats 4000000 in
set_option maxRecDepth 100000 in
theorem m_X0_requireInvertible_x {l : Launch} {D : va_G} {cI : ClassId} {h a n p b w wi ni : Nat} {A : Nat → Nat} (hl : l.stackTraces = false) (hp5 : p < 500) (z : Int) (hz : (-2147483648 ≤ z ∧ z < 2147483648)) (hb : ¬ (1 ≤ z ∧ z < (p : Int))) : CX l yX0_requireInvertible wsX0_requireInvertible (rmX 6 82) D vwCl [(cI, .int)] [.ref h, iV z] (wX cI h a n p b w wi ni A) nIAE 1 6 := by
  refine ct_ofX (by decide) rfl (Nat.le_of_ble_eq_true rfl) (fun φ C Zc X => ?_)
  have hin : ∀ w ∈ wsX00, w ∈ wsX0_requireInvertible := by decide +kernel
  have hthr : ∀ w ∈ (vx_atS RX0 32 nIAE nUp).filter goodWord, w ∈ wsX0_requireInvertible := by decide +kernel
  refine xw_le (lv' := [(0, .ref h), (1, iV z)]) rfl ?_
  refine xw_iload_n (pc := 0) C 1 dX0_requireInvertible_0 rfl ?_
  refine xw_iconst_N (pc := 1) C 1 dX0_requireInvertible_1 rfl ?_
  refine xw_icmp_lt (pc := 2) (tgt := 13) C dX0_requireInvertible_2 (by decide) (by omega) (by omega) (fun c_1 => ?_) (fun c_1 => ?_)
  ·
    exact xt_throw (pc := 13) (ik := 28) (is := 156) (ic := 32) (text := "no number of the ring other than 0") C Zc X hl (by decide +kernel) (by decide +kernel) (by decide +kernel) (fun w hw => hthr w hw) (fun w hw => List.mem_append_left _ hw) (by decide +kernel) (by decide) dX0_requireInvertible_13 dX0_requireInvertible_16 dX0_requireInvertible_17 dX0_requireInvertible_19 dX0_requireInvertible_22 (Nat.le_of_ble_eq_true rfl) (Nat.le_of_ble_eq_true rfl) (Nat.le_of_ble_eq_true rfl) (Nat.le_of_ble_eq_true rfl) (Nat.le_of_ble_eq_true rfl) (Nat.le_of_ble_eq_true rfl)
  ·
    refine xw_iload_n (pc := 5) C 1 dX0_requireInvertible_5 rfl ?_
    refine xw_aload_n (pc := 6) C 0 dX0_requireInvertible_6 rfl ?_
    refine xw_get (pc := 7) (T := TX0) (N := 7) (ref := "ToneButterflies") C hin 0 2 rfl rfl (by decide) (by decide +kernel) rfl rfl dX0_requireInvertible_7 ?_
    refine xw_icmp_lt (pc := 10) (tgt := 23) C dX0_requireInvertible_10 (by decide) (by omega) (by omega) (fun c_2 => (by exfalso; omega)) (fun c_2 => ?_)
    exact xt_throw (pc := 13) (ik := 28) (is := 156) (ic := 32) (text := "no number of the ring other than 0") C Zc X hl (by decide +kernel) (by decide +kernel) (by decide +kernel) (fun w hw => hthr w hw) (fun w hw => List.mem_append_left _ hw) (by decide +kernel) (by decide) dX0_requireInvertible_13 dX0_requireInvertible_16 dX0_requireInvertible_17 dX0_requireInvertible_19 dX0_requireInvertible_22 (Nat.le_of_ble_eq_true rfl) (Nat.le_of_ble_eq_true rfl) (Nat.le_of_ble_eq_true rfl) (Nat.le_of_ble_eq_true rfl) (Nat.le_of_ble_eq_true rfl) (Nat.le_of_ble_eq_true rfl)

set_option maxHeartbeats 4000000 in
set_option maxRecDepth 100000 in
theorem m_X0_order_x1 {l : Launch} {D : va_G} {cI : ClassId} {h a n p b w wi ni : Nat} {A : Nat → Nat} (hl : l.stackTraces = false) (hn : n = 4 ∨ n = 8 ∨ n = 16) (hp5 : p < 500) (hb5 : b < 5) (v : Int) (hr_v : (-2147483648 ≤ v ∧ v < 2147483648)) (hbad : ¬ (1 ≤ v ∧ v < (p : Int))) : CX l yX0_order wsX0_order (rmX 7 103) D vwCl [(cI, .int)] [.ref h, iV v] (wX cI h a n p b w wi ni A) nIAE 1 6 := by
  refine ct_ofX (by decide) rfl (Nat.le_of_ble_eq_true rfl) (fun φ C Zc X => ?_)
  refine xw_le (lv' := [(0, .ref h), (1, iV v)]) rfl ?_
  have hn3 := lt3 hn
  refine xw_aload_n (pc := 0) C 0 dX0_order_0 rfl ?_
  refine xw_iload_n (pc := 1) C 1 dX0_order_1 rfl ?_
  exact xt_V (pc := 2) (q0 := 0) (na := 1) (rest := []) C Zc X (m_X0_requireInvertible_x hl hp5 v hr_v hbad) gX0_order_X0_requireInvertible rfl rfl rfl rfl (by decide +kernel) ⟨Nat.le_of_ble_eq_true rfl, Nat.le_of_ble_eq_true rfl⟩ rfl rfl rfl (Nat.le_of_ble_eq_true rfl) dX0_order_2 ⟨Nat.le_of_ble_eq_true rfl, Nat.le_of_ble_eq_true rfl⟩ ⟨Nat.le_of_ble_eq_true rfl, Nat.le_of_ble_eq_true rfl⟩

theorem m_X0_order_nIAE {l : Launch} {D : va_G} {cI : ClassId} {h a n p b w wi ni : Nat} {A : Nat → Nat} (hl : l.stackTraces = false) (hn : n = 4 ∨ n = 8 ∨ n = 16) (hp5 : p < 500) (hb5 : b < 5) (v : Int) (hr_v : (-2147483648 ≤ v ∧ v < 2147483648)) (hbad : ¬ ((1 ≤ v ∧ v < (p : Int)))) : CX l yX0_order wsX0_order (rmX 7 103) D vwCl [(cI, .int)] [.ref h, iV v] (wX cI h a n p b w wi ni A) nIAE 1 6 := by
  exact m_X0_order_x1 hl hn hp5 hb5 v hr_v (fun hz9 => hbad hz9)

set_option maxHeartbeats 4000000 in
set_option maxRecDepth 100000 in
theorem m_X0_inverse_x1 {l : Launch} {D : va_G} {cI : ClassId} {h a n p b w wi ni : Nat} {A : Nat → Nat} (hl : l.stackTraces = false) (hn : n = 4 ∨ n = 8 ∨ n = 16) (hp5 : p < 500) (hb5 : b < 5) (v : Int) (hr_v : (-2147483648 ≤ v ∧ v < 2147483648)) (hbad : ¬ (1 ≤ v ∧ v < (p : Int))) : CX l yX0_inverse wsX0_inverse (rmX 7 103) D vwCl [(cI, .int)] [.ref h, iV v] (wX cI h a n p b w wi ni A) nIAE 1 6 := by
  refine ct_ofX (by decide) rfl (Nat.le_of_ble_eq_true rfl) (fun φ C Zc X => ?_)
  refine xw_le (lv' := [(0, .ref h), (1, iV v)]) rfl ?_
  have hn3 := lt3 hn
  refine xw_aload_n (pc := 0) C 0 dX0_inverse_0 rfl ?_
  refine xw_iload_n (pc := 1) C 1 dX0_inverse_1 rfl ?_
  exact xt_V (pc := 2) (q0 := 0) (na := 1) (rest := []) C Zc X (m_X0_requireInvertible_x hl hp5 v hr_v hbad) gX0_inverse_X0_requireInvertible rfl rfl rfl rfl (by decide +kernel) ⟨Nat.le_of_ble_eq_true rfl, Nat.le_of_ble_eq_true rfl⟩ rfl rfl rfl (Nat.le_of_ble_eq_true rfl) dX0_inverse_2 ⟨Nat.le_of_ble_eq_true rfl, Nat.le_of_ble_eq_true rfl⟩ ⟨Nat.le_of_ble_eq_true rfl, Nat.le_of_ble_eq_true rfl⟩

theorem m_X0_inverse_nIAE {l : Launch} {D : va_G} {cI : ClassId} {h a n p b w wi ni : Nat} {A : Nat → Nat} (hl : l.stackTraces = false) (hn : n = 4 ∨ n = 8 ∨ n = 16) (hp5 : p < 500) (hb5 : b < 5) (v : Int) (hr_v : (-2147483648 ≤ v ∧ v < 2147483648)) (hbad : ¬ ((1 ≤ v ∧ v < (p : Int)))) : CX l yX0_inverse wsX0_inverse (rmX 7 103) D vwCl [(cI, .int)] [.ref h, iV v] (wX cI h a n p b w wi ni A) nIAE 1 6 := by
  exact m_X0_inverse_x1 hl hn hp5 hb5 v hr_v (fun hz9 => hbad hz9)

set_option maxHeartbeats 4000000 in
set_option maxRecDepth 100000 in
theorem m_X0_set_x1 {l : Launch} {D : va_G} {cI : ClassId} {h a n p b w wi ni : Nat} {A : Nat → Nat} (hl : l.stackTraces = false) (hn : n = 4 ∨ n = 8 ∨ n = 16) (hp5 : p < 500) (hb5 : b < 5) (r : Int) (hr_r : (-2147483648 ≤ r ∧ r < 2147483648)) (q : Int) (hr_q : (-2147483648 ≤ q ∧ q < 2147483648)) (v : Int) (hr_v : (-2147483648 ≤ v ∧ v < 2147483648)) (hbad : ¬ (0 ≤ r ∧ r < 4)) : CX l yX0_set wsX0_set (rmX 7 103) D vwCl [(cI, .int)] [.ref h, iV r, iV q, iV v] (wX cI h a n p b w wi ni A) nIOB 1 6 := by
  refine ct_ofX (by decide) rfl (Nat.le_of_ble_eq_true rfl) (fun φ C Zc X => ?_)
  refine xw_le (lv' := [(0, .ref h), (1, iV r), (2, iV q), (3, iV v)]) rfl ?_
  have hn3 := lt3 hn
  refine xw_aload_n (pc := 0) C 0 dX0_set_0 rfl ?_
  refine xw_iload_n (pc := 1) C 1 dX0_set_1 rfl ?_
  exact xt_V (pc := 2) (q0 := 0) (na := 1) (rest := []) C Zc X (m_X0_requireRow_x hl r hr_r hbad) gX0_set_X0_requireRow rfl rfl rfl rfl (by decide +kernel) ⟨Nat.le_of_ble_eq_true rfl, Nat.le_of_ble_eq_true rfl⟩ rfl rfl rfl (Nat.le_of_ble_eq_true rfl) dX0_set_2 ⟨Nat.le_of_ble_eq_true rfl, Nat.le_of_ble_eq_true rfl⟩ ⟨Nat.le_of_ble_eq_true rfl, Nat.le_of_ble_eq_true rfl⟩

set_option maxHeartbeats 4000000 in
set_option maxRecDepth 100000 in
theorem m_X0_set_x2 {l : Launch} {D : va_G} {cI : ClassId} {h a n p b w wi ni : Nat} {A : Nat → Nat} (hl : l.stackTraces = false) (hn : n = 4 ∨ n = 8 ∨ n = 16) (hp5 : p < 500) (hb5 : b < 5) (r : Nat) (hg_r : (r < 4)) (q : Int) (hr_q : (-2147483648 ≤ q ∧ q < 2147483648)) (v : Int) (hr_v : (-2147483648 ≤ v ∧ v < 2147483648)) (hbad : ¬ (0 ≤ q ∧ q < (n : Int))) : CX l yX0_set wsX0_set (rmX 7 103) D vwCl [(cI, .int)] [.ref h, nV r, iV q, iV v] (wX cI h a n p b w wi ni A) nIOB 1 6 := by
  refine ct_ofX (by decide) rfl (Nat.le_of_ble_eq_true rfl) (fun φ C Zc X => ?_)
  refine xw_le (lv' := [(0, .ref h), (1, nV r), (2, iV q), (3, iV v)]) rfl ?_
  have hn3 := lt3 hn
  refine xw_aload_n (pc := 0) C 0 dX0_set_0 rfl ?_
  refine xw_iload_n (pc := 1) C 1 dX0_set_1 rfl ?_
  refine xw_Vd (pc := 2) (q0 := 0) (na := 1) (rest := []) (st' := []) C (m_X0_requireRow r (by omega)) gX0_set_X0_requireRow rfl rfl rfl rfl (by decide +kernel) ⟨Nat.le_of_ble_eq_true rfl, Nat.le_of_ble_eq_true rfl⟩ rfl rfl rfl (Nat.le_of_ble_eq_true rfl) dX0_set_2 ⟨Nat.le_of_ble_eq_true rfl, Nat.le_of_ble_eq_true rfl⟩ rfl ?_
  refine xw_aload_n (pc := 5) C 0 dX0_set_5 rfl ?_
  refine xw_iload_n (pc := 6) C 2 dX0_set_6 rfl ?_
  exact xt_V (pc := 7) (q0 := 0) (na := 1) (rest := []) C Zc X (m_X0_requirePlace_x hl (by omega) q hr_q hbad) gX0_set_X0_requirePlace rfl rfl rfl rfl (by decide +kernel) ⟨Nat.le_of_ble_eq_true rfl, Nat.le_of_ble_eq_true rfl⟩ rfl rfl rfl (Nat.le_of_ble_eq_true rfl) dX0_set_7 ⟨Nat.le_of_ble_eq_true rfl, Nat.le_of_ble_eq_true rfl⟩ ⟨Nat.le_of_ble_eq_true rfl, Nat.le_of_ble_eq_true rfl⟩

set_option maxHeartbeats 4000000 in
set_option maxRecDepth 100000 in
theorem m_X0_set_x3 {l : Launch} {D : va_G} {cI : ClassId} {h a n p b w wi ni : Nat} {A : Nat → Nat} (hl : l.stackTraces = false) (hn : n = 4 ∨ n = 8 ∨ n = 16) (hp5 : p < 500) (hb5 : b < 5) (r : Nat) (hg_r : (r < 4)) (q : Nat) (hg_q : (q < n)) (v : Int) (hr_v : (-2147483648 ≤ v ∧ v < 2147483648)) (hbad : ¬ (0 ≤ v ∧ v < (p : Int))) : CX l yX0_set wsX0_set (rmX 7 103) D vwCl [(cI, .int)] [.ref h, nV r, nV q, iV v] (wX cI h a n p b w wi ni A) nIAE 1 6 := by
  refine ct_ofX (by decide) rfl (Nat.le_of_ble_eq_true rfl) (fun φ C Zc X => ?_)
  refine xw_le (lv' := [(0, .ref h), (1, nV r), (2, nV q), (3, iV v)]) rfl ?_
  have hn3 := lt3 hn
  refine xw_aload_n (pc := 0) C 0 dX0_set_0 rfl ?_
  refine xw_iload_n (pc := 1) C 1 dX0_set_1 rfl ?_
  refine xw_Vd (pc := 2) (q0 := 0) (na := 1) (rest := []) (st' := []) C (m_X0_requireRow r (by omega)) gX0_set_X0_requireRow rfl rfl rfl rfl (by decide +kernel) ⟨Nat.le_of_ble_eq_true rfl, Nat.le_of_ble_eq_true rfl⟩ rfl rfl rfl (Nat.le_of_ble_eq_true rfl) dX0_set_2 ⟨Nat.le_of_ble_eq_true rfl, Nat.le_of_ble_eq_true rfl⟩ rfl ?_
  refine xw_aload_n (pc := 5) C 0 dX0_set_5 rfl ?_
  refine xw_iload_n (pc := 6) C 2 dX0_set_6 rfl ?_
  refine xw_Vd (pc := 7) (q0 := 0) (na := 1) (rest := []) (st' := []) C (m_X0_requirePlace (by omega) q (by omega)) gX0_set_X0_requirePlace rfl rfl rfl rfl (by decide +kernel) ⟨Nat.le_of_ble_eq_true rfl, Nat.le_of_ble_eq_true rfl⟩ rfl rfl rfl (Nat.le_of_ble_eq_true rfl) dX0_set_7 ⟨Nat.le_of_ble_eq_true rfl, Nat.le_of_ble_eq_true rfl⟩ rfl ?_
  refine xw_aload_n (pc := 10) C 0 dX0_set_10 rfl ?_
  refine xw_iload_n (pc := 11) C 3 dX0_set_11 rfl ?_
  exact xt_V (pc := 12) (q0 := 0) (na := 1) (rest := []) C Zc X (m_X0_requireNumber_x hl hp5 v hr_v hbad) gX0_set_X0_requireNumber rfl rfl rfl rfl (by decide +kernel) ⟨Nat.le_of_ble_eq_true rfl, Nat.le_of_ble_eq_true rfl⟩ rfl rfl rfl (Nat.le_of_ble_eq_true rfl) dX0_set_12 ⟨Nat.le_of_ble_eq_true rfl, Nat.le_of_ble_eq_true rfl⟩ ⟨Nat.le_of_ble_eq_true rfl, Nat.le_of_ble_eq_true rfl⟩

theorem m_X0_set_nIOB {l : Launch} {D : va_G} {cI : ClassId} {h a n p b w wi ni : Nat} {A : Nat → Nat} (hl : l.stackTraces = false) (hn : n = 4 ∨ n = 8 ∨ n = 16) (hp5 : p < 500) (hb5 : b < 5) (r : Int) (hr_r : (-2147483648 ≤ r ∧ r < 2147483648)) (q : Int) (hr_q : (-2147483648 ≤ q ∧ q < 2147483648)) (v : Int) (hr_v : (-2147483648 ≤ v ∧ v < 2147483648)) (hbad : ¬ ((0 ≤ r ∧ r < 4) ∧ (0 ≤ q ∧ q < (n : Int)))) : CX l yX0_set wsX0_set (rmX 7 103) D vwCl [(cI, .int)] [.ref h, iV r, iV q, iV v] (wX cI h a n p b w wi ni A) nIOB 1 6 := by
  by_cases hc0 : (0 ≤ r ∧ r < 4)
  case neg => exact m_X0_set_x1 hl hn hp5 hb5 r hr_r q hr_q v hr_v hc0
  obtain ⟨n_r, rfl⟩ : ∃ n_r : Nat, r = (n_r : Int) := ⟨r.toNat, by omega⟩
  exact m_X0_set_x2 hl hn hp5 hb5 n_r (by omega) q hr_q v hr_v (fun hz9 => hbad ⟨hc0, hz9⟩)

theorem m_X0_set_nIAE {l : Launch} {D : va_G} {cI : ClassId} {h a n p b w wi ni : Nat} {A : Nat → Nat} (hl : l.stackTraces = false) (hn : n = 4 ∨ n = 8 ∨ n = 16) (hp5 : p < 500) (hb5 : b < 5) (r : Int) (hr_r : (-2147483648 ≤ r ∧ r < 2147483648)) (q : Int) (hr_q : (-2147483648 ≤ q ∧ q < 2147483648)) (v : Int) (hr_v : (-2147483648 ≤ v ∧ v < 2147483648)) (hok_r : (0 ≤ r ∧ r < 4)) (hok_q : (0 ≤ q ∧ q < (n : Int))) (hbad : ¬ ((0 ≤ v ∧ v < (p : Int)))) : CX l yX0_set wsX0_set (rmX 7 103) D vwCl [(cI, .int)] [.ref h, iV r, iV q, iV v] (wX cI h a n p b w wi ni A) nIAE 1 6 := by
  obtain ⟨n_r, rfl⟩ : ∃ n_r : Nat, r = (n_r : Int) := ⟨r.toNat, by omega⟩
  obtain ⟨n_q, rfl⟩ : ∃ n_q : Nat, q = (n_q : Int) := ⟨q.toNat, by omega⟩
  exact m_X0_set_x3 hl hn hp5 hb5 n_r (by omega) n_q (by omega) v hr_v (fun hz9 => hbad hz9)

set_option maxHeartbeats 4000000 in
set_option maxRecDepth 100000 in
theorem m_X0_copy_x1 {l : Launch} {D : va_G} {cI : ClassId} {h a n p b w wi ni : Nat} {A : Nat → Nat} (hl : l.stackTraces = false) (hn : n = 4 ∨ n = 8 ∨ n = 16) (hp5 : p < 500) (hb5 : b < 5) (a1 : Int) (hr_a1 : (-2147483648 ≤ a1 ∧ a1 < 2147483648)) (b1 : Int) (hr_b1 : (-2147483648 ≤ b1 ∧ b1 < 2147483648)) (hbad : ¬ (0 ≤ a1 ∧ a1 < 4)) : CX l yX0_copy wsX0_copy (rmX 7 103) D vwCl [(cI, .int)] [.ref h, iV a1, iV b1] (wX cI h a n p b w wi ni A) nIOB 1 6 := by
  refine ct_ofX (by decide) rfl (Nat.le_of_ble_eq_true rfl) (fun φ C Zc X => ?_)
  refine xw_le (lv' := [(0, .ref h), (1, iV a1), (2, iV b1)]) rfl ?_
  have hn3 := lt3 hn
  refine xw_aload_n (pc := 0) C 0 dX0_copy_0 rfl ?_
  refine xw_iload_n (pc := 1) C 1 dX0_copy_1 rfl ?_
  exact xt_V (pc := 2) (q0 := 0) (na := 1) (rest := []) C Zc X (m_X0_requireRow_x hl a1 hr_a1 hbad) gX0_copy_X0_requireRow rfl rfl rfl rfl (by decide +kernel) ⟨Nat.le_of_ble_eq_true rfl, Nat.le_of_ble_eq_true rfl⟩ rfl rfl rfl (Nat.le_of_ble_eq_true rfl) dX0_copy_2 ⟨Nat.le_of_ble_eq_true rfl, Nat.le_of_ble_eq_true rfl⟩ ⟨Nat.le_of_ble_eq_true rfl, Nat.le_of_ble_eq_true rfl⟩

set_option maxHeartbeats 4000000 in
set_option maxRecDepth 100000 in
theorem m_X0_copy_x2 {l : Launch} {D : va_G} {cI : ClassId} {h a n p b w wi ni : Nat} {A : Nat → Nat} (hl : l.stackTraces = false) (hn : n = 4 ∨ n = 8 ∨ n = 16) (hp5 : p < 500) (hb5 : b < 5) (a1 : Nat) (hg_a1 : (a1 < 4)) (b1 : Int) (hr_b1 : (-2147483648 ≤ b1 ∧ b1 < 2147483648)) (hbad : ¬ (0 ≤ b1 ∧ b1 < 4)) : CX l yX0_copy wsX0_copy (rmX 7 103) D vwCl [(cI, .int)] [.ref h, nV a1, iV b1] (wX cI h a n p b w wi ni A) nIOB 1 6 := by
  refine ct_ofX (by decide) rfl (Nat.le_of_ble_eq_true rfl) (fun φ C Zc X => ?_)
  refine xw_le (lv' := [(0, .ref h), (1, nV a1), (2, iV b1)]) rfl ?_
  have hn3 := lt3 hn
  refine xw_aload_n (pc := 0) C 0 dX0_copy_0 rfl ?_
  refine xw_iload_n (pc := 1) C 1 dX0_copy_1 rfl ?_
  refine xw_Vd (pc := 2) (q0 := 0) (na := 1) (rest := []) (st' := []) C (m_X0_requireRow a1 (by omega)) gX0_copy_X0_requireRow rfl rfl rfl rfl (by decide +kernel) ⟨Nat.le_of_ble_eq_true rfl, Nat.le_of_ble_eq_true rfl⟩ rfl rfl rfl (Nat.le_of_ble_eq_true rfl) dX0_copy_2 ⟨Nat.le_of_ble_eq_true rfl, Nat.le_of_ble_eq_true rfl⟩ rfl ?_
  refine xw_aload_n (pc := 5) C 0 dX0_copy_5 rfl ?_
  refine xw_iload_n (pc := 6) C 2 dX0_copy_6 rfl ?_
  exact xt_V (pc := 7) (q0 := 0) (na := 1) (rest := []) C Zc X (m_X0_requireRow_x hl b1 hr_b1 hbad) gX0_copy_X0_requireRow rfl rfl rfl rfl (by decide +kernel) ⟨Nat.le_of_ble_eq_true rfl, Nat.le_of_ble_eq_true rfl⟩ rfl rfl rfl (Nat.le_of_ble_eq_true rfl) dX0_copy_7 ⟨Nat.le_of_ble_eq_true rfl, Nat.le_of_ble_eq_true rfl⟩ ⟨Nat.le_of_ble_eq_true rfl, Nat.le_of_ble_eq_true rfl⟩

theorem m_X0_copy_nIOB {l : Launch} {D : va_G} {cI : ClassId} {h a n p b w wi ni : Nat} {A : Nat → Nat} (hl : l.stackTraces = false) (hn : n = 4 ∨ n = 8 ∨ n = 16) (hp5 : p < 500) (hb5 : b < 5) (a1 : Int) (hr_a1 : (-2147483648 ≤ a1 ∧ a1 < 2147483648)) (b1 : Int) (hr_b1 : (-2147483648 ≤ b1 ∧ b1 < 2147483648)) (hbad : ¬ ((0 ≤ a1 ∧ a1 < 4) ∧ (0 ≤ b1 ∧ b1 < 4))) : CX l yX0_copy wsX0_copy (rmX 7 103) D vwCl [(cI, .int)] [.ref h, iV a1, iV b1] (wX cI h a n p b w wi ni A) nIOB 1 6 := by
  by_cases hc0 : (0 ≤ a1 ∧ a1 < 4)
  case neg => exact m_X0_copy_x1 hl hn hp5 hb5 a1 hr_a1 b1 hr_b1 hc0
  obtain ⟨n_a1, rfl⟩ : ∃ n_a1 : Nat, a1 = (n_a1 : Int) := ⟨a1.toNat, by omega⟩
  exact m_X0_copy_x2 hl hn hp5 hb5 n_a1 (by omega) b1 hr_b1 (fun hz9 => hbad ⟨hc0, hz9⟩)

set_option maxHeartbeats 4000000 in
set_option maxRecDepth 100000 in
theorem m_X0_turn_x1 {l : Launch} {D : va_G} {cI : ClassId} {h a n p b w wi ni : Nat} {A : Nat → Nat} (hl : l.stackTraces = false) (hn : n = 4 ∨ n = 8 ∨ n = 16) (hp5 : p < 500) (hb5 : b < 5) (r : Int) (hr_r : (-2147483648 ≤ r ∧ r < 2147483648)) (bk : Bool) (hbad : ¬ (0 ≤ r ∧ r < 4)) : CX l yX0_turn wsX0_turn (rmX 7 103) D vwCl [(cI, .int)] [.ref h, iV r, bV bk] (wX cI h a n p b w wi ni A) nIOB 1 6 := by
  refine ct_ofX (by decide) rfl (Nat.le_of_ble_eq_true rfl) (fun φ C Zc X => ?_)
  refine xw_le (lv' := [(0, .ref h), (1, iV r), (2, bV bk)]) rfl ?_
  have hn3 := lt3 hn
  refine xw_aload_n (pc := 0) C 0 dX0_turn_0 rfl ?_
  refine xw_iload_n (pc := 1) C 1 dX0_turn_1 rfl ?_
  exact xt_V (pc := 2) (q0 := 0) (na := 1) (rest := []) C Zc X (m_X0_requireRow_x hl r hr_r hbad) gX0_turn_X0_requireRow rfl rfl rfl rfl (by decide +kernel) ⟨Nat.le_of_ble_eq_true rfl, Nat.le_of_ble_eq_true rfl⟩ rfl rfl rfl (Nat.le_of_ble_eq_true rfl) dX0_turn_2 ⟨Nat.le_of_ble_eq_true rfl, Nat.le_of_ble_eq_true rfl⟩ ⟨Nat.le_of_ble_eq_true rfl, Nat.le_of_ble_eq_true rfl⟩

theorem m_X0_turn_nIOB {l : Launch} {D : va_G} {cI : ClassId} {h a n p b w wi ni : Nat} {A : Nat → Nat} (hl : l.stackTraces = false) (hn : n = 4 ∨ n = 8 ∨ n = 16) (hp5 : p < 500) (hb5 : b < 5) (r : Int) (hr_r : (-2147483648 ≤ r ∧ r < 2147483648)) (bk : Bool) (hbad : ¬ ((0 ≤ r ∧ r < 4))) : CX l yX0_turn wsX0_turn (rmX 7 103) D vwCl [(cI, .int)] [.ref h, iV r, bV bk] (wX cI h a n p b w wi ni A) nIOB 1 6 := by
  exact m_X0_turn_x1 hl hn hp5 hb5 r hr_r bk (fun hz9 => hbad hz9)

set_option maxHeartbeats 4000000 in
set_option maxRecDepth 100000 in
theorem m_X0_mirror_x1 {l : Launch} {D : va_G} {cI : ClassId} {h a n p b w wi ni : Nat} {A : Nat → Nat} (hl : l.stackTraces = false) (hn : n = 4 ∨ n = 8 ∨ n = 16) (hp5 : p < 500) (hb5 : b < 5) (r : Int) (hr_r : (-2147483648 ≤ r ∧ r < 2147483648)) (hbad : ¬ (0 ≤ r ∧ r < 4)) : CX l yX0_mirror wsX0_mirror (rmX 7 103) D vwCl [(cI, .int)] [.ref h, iV r] (wX cI h a n p b w wi ni A) nIOB 1 6 := by
  refine ct_ofX (by decide) rfl (Nat.le_of_ble_eq_true rfl) (fun φ C Zc X => ?_)
  refine xw_le (lv' := [(0, .ref h), (1, iV r)]) rfl ?_
  have hn3 := lt3 hn
  refine xw_aload_n (pc := 0) C 0 dX0_mirror_0 rfl ?_
  refine xw_iload_n (pc := 1) C 1 dX0_mirror_1 rfl ?_
  exact xt_V (pc := 2) (q0 := 0) (na := 1) (rest := []) C Zc X (m_X0_requireRow_x hl r hr_r hbad) gX0_mirror_X0_requireRow rfl rfl rfl rfl (by decide +kernel) ⟨Nat.le_of_ble_eq_true rfl, Nat.le_of_ble_eq_true rfl⟩ rfl rfl rfl (Nat.le_of_ble_eq_true rfl) dX0_mirror_2 ⟨Nat.le_of_ble_eq_true rfl, Nat.le_of_ble_eq_true rfl⟩ ⟨Nat.le_of_ble_eq_true rfl, Nat.le_of_ble_eq_true rfl⟩

theorem m_X0_mirror_nIOB {l : Launch} {D : va_G} {cI : ClassId} {h a n p b w wi ni : Nat} {A : Nat → Nat} (hl : l.stackTraces = false) (hn : n = 4 ∨ n = 8 ∨ n = 16) (hp5 : p < 500) (hb5 : b < 5) (r : Int) (hr_r : (-2147483648 ≤ r ∧ r < 2147483648)) (hbad : ¬ ((0 ≤ r ∧ r < 4))) : CX l yX0_mirror wsX0_mirror (rmX 7 103) D vwCl [(cI, .int)] [.ref h, iV r] (wX cI h a n p b w wi ni A) nIOB 1 6 := by
  exact m_X0_mirror_x1 hl hn hp5 hb5 r hr_r (fun hz9 => hbad hz9)

set_option maxHeartbeats 4000000 in
set_option maxRecDepth 100000 in
theorem m_X0_stage_x1 {l : Launch} {D : va_G} {cI : ClassId} {h a n p b w wi ni : Nat} {A : Nat → Nat} (hl : l.stackTraces = false) (hn : n = 4 ∨ n = 8 ∨ n = 16) (hp5 : p < 500) (hb5 : b < 5) (r : Int) (hr_r : (-2147483648 ≤ r ∧ r < 2147483648)) (s : Int) (hr_s : (-2147483648 ≤ s ∧ s < 2147483648)) (hbad : ¬ (0 ≤ r ∧ r < 4)) : CX l yX0_stage wsX0_stage (rmX 7 103) D vwCl [(cI, .int)] [.ref h, iV r, iV s] (wX cI h a n p b w wi ni A) nIOB 1 6 := by
  refine ct_ofX (by decide) rfl (Nat.le_of_ble_eq_true rfl) (fun φ C Zc X => ?_)
  refine xw_le (lv' := [(0, .ref h), (1, iV r), (2, iV s)]) rfl ?_
  have hn3 := lt3 hn
  refine xw_aload_n (pc := 0) C 0 dX0_stage_0 rfl ?_
  refine xw_iload_n (pc := 1) C 1 dX0_stage_1 rfl ?_
  exact xt_V (pc := 2) (q0 := 0) (na := 1) (rest := []) C Zc X (m_X0_requireRow_x hl r hr_r hbad) gX0_stage_X0_requireRow rfl rfl rfl rfl (by decide +kernel) ⟨Nat.le_of_ble_eq_true rfl, Nat.le_of_ble_eq_true rfl⟩ rfl rfl rfl (Nat.le_of_ble_eq_true rfl) dX0_stage_2 ⟨Nat.le_of_ble_eq_true rfl, Nat.le_of_ble_eq_true rfl⟩ ⟨Nat.le_of_ble_eq_true rfl, Nat.le_of_ble_eq_true rfl⟩

set_option maxHeartbeats 4000000 in
set_option maxRecDepth 100000 in
theorem m_X0_stage_x2 {l : Launch} {D : va_G} {cI : ClassId} {h a n p b w wi ni : Nat} {A : Nat → Nat} (hl : l.stackTraces = false) (hn : n = 4 ∨ n = 8 ∨ n = 16) (hp5 : p < 500) (hb5 : b < 5) (r : Nat) (hg_r : (r < 4)) (s : Int) (hr_s : (-2147483648 ≤ s ∧ s < 2147483648)) (hbad : ¬ (0 ≤ s ∧ s < (b : Int))) : CX l yX0_stage wsX0_stage (rmX 7 103) D vwCl [(cI, .int)] [.ref h, nV r, iV s] (wX cI h a n p b w wi ni A) nIOB 1 6 := by
  refine ct_ofX (by decide) rfl (Nat.le_of_ble_eq_true rfl) (fun φ C Zc X => ?_)
  have hin : ∀ w ∈ wsX00, w ∈ wsX0_stage := by decide +kernel
  have hthr : ∀ w ∈ (vx_atS RX0 97 nIOB nUp).filter goodWord, w ∈ wsX0_stage := by decide +kernel
  refine xw_le (lv' := [(0, .ref h), (1, nV r), (2, iV s)]) rfl ?_
  have hn3 := lt3 hn
  refine xw_aload_n (pc := 0) C 0 dX0_stage_0 rfl ?_
  refine xw_iload_n (pc := 1) C 1 dX0_stage_1 rfl ?_
  refine xw_Vd (pc := 2) (q0 := 0) (na := 1) (rest := []) (st' := []) C (m_X0_requireRow r (by omega)) gX0_stage_X0_requireRow rfl rfl rfl rfl (by decide +kernel) ⟨Nat.le_of_ble_eq_true rfl, Nat.le_of_ble_eq_true rfl⟩ rfl rfl rfl (Nat.le_of_ble_eq_true rfl) dX0_stage_2 ⟨Nat.le_of_ble_eq_true rfl, Nat.le_of_ble_eq_true rfl⟩ rfl ?_
  refine xw_iload_n (pc := 5) C 2 dX0_stage_5 rfl ?_
  refine xw_if_lt (pc := 6) (tgt := 17) C dX0_stage_6 (by decide) (by omega) (fun c_1 => ?_) (fun c_1 => ?_)
  ·
    exact xt_throw (pc := 17) (ik := 93) (is := 95) (ic := 97) (text := "no such stage") C Zc X hl (by decide +kernel) (by decide +kernel) (by decide +kernel) (fun w hw => hthr w hw) (fun w hw => List.mem_append_right _ hw) (by decide +kernel) (by decide) dX0_stage_17 dX0_stage_20 dX0_stage_21 dX0_stage_23 dX0_stage_26 (Nat.le_of_ble_eq_true rfl) (Nat.le_of_ble_eq_true rfl) (Nat.le_of_ble_eq_true rfl) (Nat.le_of_ble_eq_true rfl) (Nat.le_of_ble_eq_true rfl) (Nat.le_of_ble_eq_true rfl)
  ·
    refine xw_iload_n (pc := 9) C 2 dX0_stage_9 rfl ?_
    refine xw_aload_n (pc := 10) C 0 dX0_stage_10 rfl ?_
    refine xw_get (pc := 11) (T := TX0) (N := 7) (ref := "ToneButterflies") C hin 0 3 rfl rfl (by decide) (by decide +kernel) rfl rfl dX0_stage_11 ?_
    refine xw_icmp_lt (pc := 14) (tgt := 27) C dX0_stage_14 (by decide) (by omega) (by omega) (fun c_2 => (by exfalso; omega)) (fun c_2 => ?_)
    exact xt_throw (pc := 17) (ik := 93) (is := 95) (ic := 97) (text := "no such stage") C Zc X hl (by decide +kernel) (by decide +kernel) (by decide +kernel) (fun w hw => hthr w hw) (fun w hw => List.mem_append_right _ hw) (by decide +kernel) (by decide) dX0_stage_17 dX0_stage_20 dX0_stage_21 dX0_stage_23 dX0_stage_26 (Nat.le_of_ble_eq_true rfl) (Nat.le_of_ble_eq_true rfl) (Nat.le_of_ble_eq_true rfl) (Nat.le_of_ble_eq_true rfl) (Nat.le_of_ble_eq_true rfl) (Nat.le_of_ble_eq_true rfl)

theorem m_X0_stage_nIOB {l : Launch} {D : va_G} {cI : ClassId} {h a n p b w wi ni : Nat} {A : Nat → Nat} (hl : l.stackTraces = false) (hn : n = 4 ∨ n = 8 ∨ n = 16) (hp5 : p < 500) (hb5 : b < 5) (r : Int) (hr_r : (-2147483648 ≤ r ∧ r < 2147483648)) (s : Int) (hr_s : (-2147483648 ≤ s ∧ s < 2147483648)) (hbad : ¬ ((0 ≤ r ∧ r < 4) ∧ (0 ≤ s ∧ s < (b : Int)))) : CX l yX0_stage wsX0_stage (rmX 7 103) D vwCl [(cI, .int)] [.ref h, iV r, iV s] (wX cI h a n p b w wi ni A) nIOB 1 6 := by
  by_cases hc0 : (0 ≤ r ∧ r < 4)
  case neg => exact m_X0_stage_x1 hl hn hp5 hb5 r hr_r s hr_s hc0
  obtain ⟨n_r, rfl⟩ : ∃ n_r : Nat, r = (n_r : Int) := ⟨r.toNat, by omega⟩
  exact m_X0_stage_x2 hl hn hp5 hb5 n_r (by omega) s hr_s (fun hz9 => hbad ⟨hc0, hz9⟩)

set_option maxHeartbeats 4000000 in
set_option maxRecDepth 100000 in
theorem m_X0_fold_x1 {l : Launch} {D : va_G} {cI : ClassId} {h a n p b w wi ni : Nat} {A : Nat → Nat} (hl : l.stackTraces = false) (hn : n = 4 ∨ n = 8 ∨ n = 16) (hp5 : p < 500) (hb5 : b < 5) (a1 : Int) (hr_a1 : (-2147483648 ≤ a1 ∧ a1 < 2147483648)) (b1 : Int) (hr_b1 : (-2147483648 ≤ b1 ∧ b1 < 2147483648)) (hbad : ¬ (0 ≤ a1 ∧ a1 < 4)) : CX l yX0_fold wsX0_fold (rmX 7 103) D vwCl [(cI, .int)] [.ref h, iV a1, iV b1] (wX cI h a n p b w wi ni A) nIOB 1 6 := by
  refine ct_ofX (by decide) rfl (Nat.le_of_ble_eq_true rfl) (fun φ C Zc X => ?_)
  refine xw_le (lv' := [(0, .ref h), (1, iV a1), (2, iV b1)]) rfl ?_
  have hn3 := lt3 hn
  refine xw_aload_n (pc := 0) C 0 dX0_fold_0 rfl ?_
  refine xw_iload_n (pc := 1) C 1 dX0_fold_1 rfl ?_
  exact xt_V (pc := 2) (q0 := 0) (na := 1) (rest := []) C Zc X (m_X0_requireRow_x hl a1 hr_a1 hbad) gX0_fold_X0_requireRow rfl rfl rfl rfl (by decide +kernel) ⟨Nat.le_of_ble_eq_true rfl, Nat.le_of_ble_eq_true rfl⟩ rfl rfl rfl (Nat.le_of_ble_eq_true rfl) dX0_fold_2 ⟨Nat.le_of_ble_eq_true rfl, Nat.le_of_ble_eq_true rfl⟩ ⟨Nat.le_of_ble_eq_true rfl, Nat.le_of_ble_eq_true rfl⟩

set_option maxHeartbeats 4000000 in
set_option maxRecDepth 100000 in
theorem m_X0_fold_x2 {l : Launch} {D : va_G} {cI : ClassId} {h a n p b w wi ni : Nat} {A : Nat → Nat} (hl : l.stackTraces = false) (hn : n = 4 ∨ n = 8 ∨ n = 16) (hp5 : p < 500) (hb5 : b < 5) (a1 : Nat) (hg_a1 : (a1 < 4)) (b1 : Int) (hr_b1 : (-2147483648 ≤ b1 ∧ b1 < 2147483648)) (hbad : ¬ (0 ≤ b1 ∧ b1 < 4)) : CX l yX0_fold wsX0_fold (rmX 7 103) D vwCl [(cI, .int)] [.ref h, nV a1, iV b1] (wX cI h a n p b w wi ni A) nIOB 1 6 := by
  refine ct_ofX (by decide) rfl (Nat.le_of_ble_eq_true rfl) (fun φ C Zc X => ?_)
  refine xw_le (lv' := [(0, .ref h), (1, nV a1), (2, iV b1)]) rfl ?_
  have hn3 := lt3 hn
  refine xw_aload_n (pc := 0) C 0 dX0_fold_0 rfl ?_
  refine xw_iload_n (pc := 1) C 1 dX0_fold_1 rfl ?_
  refine xw_Vd (pc := 2) (q0 := 0) (na := 1) (rest := []) (st' := []) C (m_X0_requireRow a1 (by omega)) gX0_fold_X0_requireRow rfl rfl rfl rfl (by decide +kernel) ⟨Nat.le_of_ble_eq_true rfl, Nat.le_of_ble_eq_true rfl⟩ rfl rfl rfl (Nat.le_of_ble_eq_true rfl) dX0_fold_2 ⟨Nat.le_of_ble_eq_true rfl, Nat.le_of_ble_eq_true rfl⟩ rfl ?_
  refine xw_aload_n (pc := 5) C 0 dX0_fold_5 rfl ?_
  refine xw_iload_n (pc := 6) C 2 dX0_fold_6 rfl ?_
  exact xt_V (pc := 7) (q0 := 0) (na := 1) (rest := []) C Zc X (m_X0_requireRow_x hl b1 hr_b1 hbad) gX0_fold_X0_requireRow rfl rfl rfl rfl (by decide +kernel) ⟨Nat.le_of_ble_eq_true rfl, Nat.le_of_ble_eq_true rfl⟩ rfl rfl rfl (Nat.le_of_ble_eq_true rfl) dX0_fold_7 ⟨Nat.le_of_ble_eq_true rfl, Nat.le_of_ble_eq_true rfl⟩ ⟨Nat.le_of_ble_eq_true rfl, Nat.le_of_ble_eq_true rfl⟩

theorem m_X0_fold_nIOB {l : Launch} {D : va_G} {cI : ClassId} {h a n p b w wi ni : Nat} {A : Nat → Nat} (hl : l.stackTraces = false) (hn : n = 4 ∨ n = 8 ∨ n = 16) (hp5 : p < 500) (hb5 : b < 5) (a1 : Int) (hr_a1 : (-2147483648 ≤ a1 ∧ a1 < 2147483648)) (b1 : Int) (hr_b1 : (-2147483648 ≤ b1 ∧ b1 < 2147483648)) (hbad : ¬ ((0 ≤ a1 ∧ a1 < 4) ∧ (0 ≤ b1 ∧ b1 < 4))) : CX l yX0_fold wsX0_fold (rmX 7 103) D vwCl [(cI, .int)] [.ref h, iV a1, iV b1] (wX cI h a n p b w wi ni A) nIOB 1 6 := by
  by_cases hc0 : (0 ≤ a1 ∧ a1 < 4)
  case neg => exact m_X0_fold_x1 hl hn hp5 hb5 a1 hr_a1 b1 hr_b1 hc0
  obtain ⟨n_a1, rfl⟩ : ∃ n_a1 : Nat, a1 = (n_a1 : Int) := ⟨a1.toNat, by omega⟩
  exact m_X0_fold_x2 hl hn hp5 hb5 n_a1 (by omega) b1 hr_b1 (fun hz9 => hbad ⟨hc0, hz9⟩)

set_option maxHeartbeats 4000000 in
set_option maxRecDepth 100000 in
theorem m_X0_join_x1 {l : Launch} {D : va_G} {cI : ClassId} {h a n p b w wi ni : Nat} {A : Nat → Nat} (hl : l.stackTraces = false) (hn : n = 4 ∨ n = 8 ∨ n = 16) (hp5 : p < 500) (hb5 : b < 5) (a1 : Int) (hr_a1 : (-2147483648 ≤ a1 ∧ a1 < 2147483648)) (b1 : Int) (hr_b1 : (-2147483648 ≤ b1 ∧ b1 < 2147483648)) (u : Int) (hr_u : (-2147483648 ≤ u ∧ u < 2147483648)) (hbad : ¬ (0 ≤ a1 ∧ a1 < 4)) : CX l yX0_join wsX0_join (rmX 7 103) D vwCl [(cI, .int)] [.ref h, iV a1, iV b1, iV u] (wX cI h a n p b w wi ni A) nIOB 1 6 := by
  refine ct_ofX (by decide) rfl (Nat.le_of_ble_eq_true rfl) (fun φ C Zc X => ?_)
  refine xw_le (lv' := [(0, .ref h), (1, iV a1), (2, iV b1), (3, iV u)]) rfl ?_
  have hn3 := lt3 hn
  refine xw_aload_n (pc := 0) C 0 dX0_join_0 rfl ?_
  refine xw_iload_n (pc := 1) C 1 dX0_join_1 rfl ?_
  exact xt_V (pc := 2) (q0 := 0) (na := 1) (rest := []) C Zc X (m_X0_requireRow_x hl a1 hr_a1 hbad) gX0_join_X0_requireRow rfl rfl rfl rfl (by decide +kernel) ⟨Nat.le_of_ble_eq_true rfl, Nat.le_of_ble_eq_true rfl⟩ rfl rfl rfl (Nat.le_of_ble_eq_true rfl) dX0_join_2 ⟨Nat.le_of_ble_eq_true rfl, Nat.le_of_ble_eq_true rfl⟩ ⟨Nat.le_of_ble_eq_true rfl, Nat.le_of_ble_eq_true rfl⟩

set_option maxHeartbeats 4000000 in
set_option maxRecDepth 100000 in
theorem m_X0_join_x2 {l : Launch} {D : va_G} {cI : ClassId} {h a n p b w wi ni : Nat} {A : Nat → Nat} (hl : l.stackTraces = false) (hn : n = 4 ∨ n = 8 ∨ n = 16) (hp5 : p < 500) (hb5 : b < 5) (a1 : Nat) (hg_a1 : (a1 < 4)) (b1 : Int) (hr_b1 : (-2147483648 ≤ b1 ∧ b1 < 2147483648)) (u : Int) (hr_u : (-2147483648 ≤ u ∧ u < 2147483648)) (hbad : ¬ (0 ≤ b1 ∧ b1 < 4)) : CX l yX0_join wsX0_join (rmX 7 103) D vwCl [(cI, .int)] [.ref h, nV a1, iV b1, iV u] (wX cI h a n p b w wi ni A) nIOB 1 6 := by
  refine ct_ofX (by decide) rfl (Nat.le_of_ble_eq_true rfl) (fun φ C Zc X => ?_)
  refine xw_le (lv' := [(0, .ref h), (1, nV a1), (2, iV b1), (3, iV u)]) rfl ?_
  have hn3 := lt3 hn
  refine xw_aload_n (pc := 0) C 0 dX0_join_0 rfl ?_
  refine xw_iload_n (pc := 1) C 1 dX0_join_1 rfl ?_
  refine xw_Vd (pc := 2) (q0 := 0) (na := 1) (rest := []) (st' := []) C (m_X0_requireRow a1 (by omega)) gX0_join_X0_requireRow rfl rfl rfl rfl (by decide +kernel) ⟨Nat.le_of_ble_eq_true rfl, Nat.le_of_ble_eq_true rfl⟩ rfl rfl rfl (Nat.le_of_ble_eq_true rfl) dX0_join_2 ⟨Nat.le_of_ble_eq_true rfl, Nat.le_of_ble_eq_true rfl⟩ rfl ?_
  refine xw_aload_n (pc := 5) C 0 dX0_join_5 rfl ?_
  refine xw_iload_n (pc := 6) C 2 dX0_join_6 rfl ?_
  exact xt_V (pc := 7) (q0 := 0) (na := 1) (rest := []) C Zc X (m_X0_requireRow_x hl b1 hr_b1 hbad) gX0_join_X0_requireRow rfl rfl rfl rfl (by decide +kernel) ⟨Nat.le_of_ble_eq_true rfl, Nat.le_of_ble_eq_true rfl⟩ rfl rfl rfl (Nat.le_of_ble_eq_true rfl) dX0_join_7 ⟨Nat.le_of_ble_eq_true rfl, Nat.le_of_ble_eq_true rfl⟩ ⟨Nat.le_of_ble_eq_true rfl, Nat.le_of_ble_eq_true rfl⟩

set_option maxHeartbeats 4000000 in
set_option maxRecDepth 100000 in
theorem m_X0_join_x3 {l : Launch} {D : va_G} {cI : ClassId} {h a n p b w wi ni : Nat} {A : Nat → Nat} (hl : l.stackTraces = false) (hn : n = 4 ∨ n = 8 ∨ n = 16) (hp5 : p < 500) (hb5 : b < 5) (a1 : Nat) (hg_a1 : (a1 < 4)) (b1 : Nat) (hg_b1 : (b1 < 4)) (u : Int) (hr_u : (-2147483648 ≤ u ∧ u < 2147483648)) (hbad : ¬ (0 ≤ u ∧ u < 3)) : CX l yX0_join wsX0_join (rmX 7 103) D vwCl [(cI, .int)] [.ref h, nV a1, nV b1, iV u] (wX cI h a n p b w wi ni A) nIOB 1 6 := by
  refine ct_ofX (by decide) rfl (Nat.le_of_ble_eq_true rfl) (fun φ C Zc X => ?_)
  have hthr : ∀ w ∈ (vx_atS RX0 97 nIOB nUp).filter goodWord, w ∈ wsX0_join := by decide +kernel
  refine xw_le (lv' := [(0, .ref h), (1, nV a1), (2, nV b1), (3, iV u)]) rfl ?_
  have hn3 := lt3 hn
  refine xw_aload_n (pc := 0) C 0 dX0_join_0 rfl ?_
  refine xw_iload_n (pc := 1) C 1 dX0_join_1 rfl ?_
  refine xw_Vd (pc := 2) (q0 := 0) (na := 1) (rest := []) (st' := []) C (m_X0_requireRow a1 (by omega)) gX0_join_X0_requireRow rfl rfl rfl rfl (by decide +kernel) ⟨Nat.le_of_ble_eq_true rfl, Nat.le_of_ble_eq_true rfl⟩ rfl rfl rfl (Nat.le_of_ble_eq_true rfl) dX0_join_2 ⟨Nat.le_of_ble_eq_true rfl, Nat.le_of_ble_eq_true rfl⟩ rfl ?_
  refine xw_aload_n (pc := 5) C 0 dX0_join_5 rfl ?_
  refine xw_iload_n (pc := 6) C 2 dX0_join_6 rfl ?_
  refine xw_Vd (pc := 7) (q0 := 0) (na := 1) (rest := []) (st' := []) C (m_X0_requireRow b1 (by omega)) gX0_join_X0_requireRow rfl rfl rfl rfl (by decide +kernel) ⟨Nat.le_of_ble_eq_true rfl, Nat.le_of_ble_eq_true rfl⟩ rfl rfl rfl (Nat.le_of_ble_eq_true rfl) dX0_join_7 ⟨Nat.le_of_ble_eq_true rfl, Nat.le_of_ble_eq_true rfl⟩ rfl ?_
  refine xw_iload_n (pc := 10) C 3 dX0_join_10 rfl ?_
  refine xw_if_lt (pc := 11) (tgt := 19) C dX0_join_11 (by decide) (by omega) (fun c_1 => ?_) (fun c_1 => ?_)
  ·
    exact xt_throw (pc := 19) (ik := 93) (is := 106) (ic := 97) (text := "no such way to join") C Zc X hl (by decide +kernel) (by decide +kernel) (by decide +kernel) (fun w hw => hthr w hw) (fun w hw => List.mem_append_right _ hw) (by decide +kernel) (by decide) dX0_join_19 dX0_join_22 dX0_join_23 dX0_join_25 dX0_join_28 (Nat.le_of_ble_eq_true rfl) (Nat.le_of_ble_eq_true rfl) (Nat.le_of_ble_eq_true rfl) (Nat.le_of_ble_eq_true rfl) (Nat.le_of_ble_eq_true rfl) (Nat.le_of_ble_eq_true rfl)
  ·
    refine xw_iload_n (pc := 14) C 3 dX0_join_14 rfl ?_
    refine xw_iconst_N (pc := 15) C 3 dX0_join_15 rfl ?_
    refine xw_icmp_lt (pc := 16) (tgt := 29) C dX0_join_16 (by decide) (by omega) (by omega) (fun c_2 => (by exfalso; omega)) (fun c_2 => ?_)
    exact xt_throw (pc := 19) (ik := 93) (is := 106) (ic := 97) (text := "no such way to join") C Zc X hl (by decide +kernel) (by decide +kernel) (by decide +kernel) (fun w hw => hthr w hw) (fun w hw => List.mem_append_right _ hw) (by decide +kernel) (by decide) dX0_join_19 dX0_join_22 dX0_join_23 dX0_join_25 dX0_join_28 (Nat.le_of_ble_eq_true rfl) (Nat.le_of_ble_eq_true rfl) (Nat.le_of_ble_eq_true rfl) (Nat.le_of_ble_eq_true rfl) (Nat.le_of_ble_eq_true rfl) (Nat.le_of_ble_eq_true rfl)

theorem m_X0_join_nIOB {l : Launch} {D : va_G} {cI : ClassId} {h a n p b w wi ni : Nat} {A : Nat → Nat} (hl : l.stackTraces = false) (hn : n = 4 ∨ n = 8 ∨ n = 16) (hp5 : p < 500) (hb5 : b < 5) (a1 : Int) (hr_a1 : (-2147483648 ≤ a1 ∧ a1 < 2147483648)) (b1 : Int) (hr_b1 : (-2147483648 ≤ b1 ∧ b1 < 2147483648)) (u : Int) (hr_u : (-2147483648 ≤ u ∧ u < 2147483648)) (hbad : ¬ ((0 ≤ a1 ∧ a1 < 4) ∧ (0 ≤ b1 ∧ b1 < 4) ∧ (0 ≤ u ∧ u < 3))) : CX l yX0_join wsX0_join (rmX 7 103) D vwCl [(cI, .int)] [.ref h, iV a1, iV b1, iV u] (wX cI h a n p b w wi ni A) nIOB 1 6 := by
  by_cases hc0 : (0 ≤ a1 ∧ a1 < 4)
  case neg => exact m_X0_join_x1 hl hn hp5 hb5 a1 hr_a1 b1 hr_b1 u hr_u hc0
  obtain ⟨n_a1, rfl⟩ : ∃ n_a1 : Nat, a1 = (n_a1 : Int) := ⟨a1.toNat, by omega⟩
  by_cases hc1 : (0 ≤ b1 ∧ b1 < 4)
  case neg => exact m_X0_join_x2 hl hn hp5 hb5 n_a1 (by omega) b1 hr_b1 u hr_u hc1
  obtain ⟨n_b1, rfl⟩ : ∃ n_b1 : Nat, b1 = (n_b1 : Int) := ⟨b1.toNat, by omega⟩
  exact m_X0_join_x3 hl hn hp5 hb5 n_a1 (by omega) n_b1 (by omega) u hr_u (fun hz9 => hbad ⟨hc0, hc1, hz9⟩)

set_option maxHeartbeats 4000000 in
set_option maxRecDepth 100000 in
theorem m_X0_move_x1 {l : Launch} {D : va_G} {cI : ClassId} {h a n p b w wi ni : Nat} {A : Nat → Nat} (hl : l.stackTraces = false) (hn : n = 4 ∨ n = 8 ∨ n = 16) (hp5 : p < 500) (hb5 : b < 5) (r : Int) (hr_r : (-2147483648 ≤ r ∧ r < 2147483648)) (q : Int) (hr_q : (-2147483648 ≤ q ∧ q < 2147483648)) (hbad : ¬ (0 ≤ r ∧ r < 4)) : CX l yX0_move wsX0_move (rmX 7 103) D vwCl [(cI, .int)] [.ref h, iV r, iV q] (wX cI h a n p b w wi ni A) nIOB 1 6 := by
  refine ct_ofX (by decide) rfl (Nat.le_of_ble_eq_true rfl) (fun φ C Zc X => ?_)
  refine xw_le (lv' := [(0, .ref h), (1, iV r), (2, iV q)]) rfl ?_
  have hn3 := lt3 hn
  refine xw_aload_n (pc := 0) C 0 dX0_move_0 rfl ?_
  refine xw_iload_n (pc := 1) C 1 dX0_move_1 rfl ?_
  exact xt_V (pc := 2) (q0 := 0) (na := 1) (rest := []) C Zc X (m_X0_requireRow_x hl r hr_r hbad) gX0_move_X0_requireRow rfl rfl rfl rfl (by decide +kernel) ⟨Nat.le_of_ble_eq_true rfl, Nat.le_of_ble_eq_true rfl⟩ rfl rfl rfl (Nat.le_of_ble_eq_true rfl) dX0_move_2 ⟨Nat.le_of_ble_eq_true rfl, Nat.le_of_ble_eq_true rfl⟩ ⟨Nat.le_of_ble_eq_true rfl, Nat.le_of_ble_eq_true rfl⟩

set_option maxHeartbeats 4000000 in
set_option maxRecDepth 100000 in
theorem m_X0_move_x2 {l : Launch} {D : va_G} {cI : ClassId} {h a n p b w wi ni : Nat} {A : Nat → Nat} (hl : l.stackTraces = false) (hn : n = 4 ∨ n = 8 ∨ n = 16) (hp5 : p < 500) (hb5 : b < 5) (r : Nat) (hg_r : (r < 4)) (q : Int) (hr_q : (-2147483648 ≤ q ∧ q < 2147483648)) (hbad : ¬ (0 ≤ q ∧ q < (n : Int))) : CX l yX0_move wsX0_move (rmX 7 103) D vwCl [(cI, .int)] [.ref h, nV r, iV q] (wX cI h a n p b w wi ni A) nIAE 1 6 := by
  refine ct_ofX (by decide) rfl (Nat.le_of_ble_eq_true rfl) (fun φ C Zc X => ?_)
  have hin : ∀ w ∈ wsX00, w ∈ wsX0_move := by decide +kernel
  have hthr : ∀ w ∈ (vx_atS RX0 32 nIAE nUp).filter goodWord, w ∈ wsX0_move := by decide +kernel
  refine xw_le (lv' := [(0, .ref h), (1, nV r), (2, iV q)]) rfl ?_
  have hn3 := lt3 hn
  refine xw_aload_n (pc := 0) C 0 dX0_move_0 rfl ?_
  refine xw_iload_n (pc := 1) C 1 dX0_move_1 rfl ?_
  refine xw_Vd (pc := 2) (q0 := 0) (na := 1) (rest := []) (st' := []) C (m_X0_requireRow r (by omega)) gX0_move_X0_requireRow rfl rfl rfl rfl (by decide +kernel) ⟨Nat.le_of_ble_eq_true rfl, Nat.le_of_ble_eq_true rfl⟩ rfl rfl rfl (Nat.le_of_ble_eq_true rfl) dX0_move_2 ⟨Nat.le_of_ble_eq_true rfl, Nat.le_of_ble_eq_true rfl⟩ rfl ?_
  refine xw_iload_n (pc := 5) C 2 dX0_move_5 rfl ?_
  refine xw_if_lt (pc := 6) (tgt := 17) C dX0_move_6 (by decide) (by omega) (fun c_1 => ?_) (fun c_1 => ?_)
  ·
    exact xt_throw (pc := 17) (ik := 28) (is := 114) (ic := 32) (text := "no such number of places") C Zc X hl (by decide +kernel) (by decide +kernel) (by decide +kernel) (fun w hw => hthr w hw) (fun w hw => List.mem_append_left _ hw) (by decide +kernel) (by decide) dX0_move_17 dX0_move_20 dX0_move_21 dX0_move_23 dX0_move_26 (Nat.le_of_ble_eq_true rfl) (Nat.le_of_ble_eq_true rfl) (Nat.le_of_ble_eq_true rfl) (Nat.le_of_ble_eq_true rfl) (Nat.le_of_ble_eq_true rfl) (Nat.le_of_ble_eq_true rfl)
  ·
    refine xw_iload_n (pc := 9) C 2 dX0_move_9 rfl ?_
    refine xw_aload_n (pc := 10) C 0 dX0_move_10 rfl ?_
    refine xw_get (pc := 11) (T := TX0) (N := 7) (ref := "ToneButterflies") C hin 0 1 rfl rfl (by decide) (by decide +kernel) rfl rfl dX0_move_11 ?_
    refine xw_icmp_lt (pc := 14) (tgt := 27) C dX0_move_14 (by decide) (by omega) (by omega) (fun c_2 => (by exfalso; omega)) (fun c_2 => ?_)
    exact xt_throw (pc := 17) (ik := 28) (is := 114) (ic := 32) (text := "no such number of places") C Zc X hl (by decide +kernel) (by decide +kernel) (by decide +kernel) (fun w hw => hthr w hw) (fun w hw => List.mem_append_left _ hw) (by decide +kernel) (by decide) dX0_move_17 dX0_move_20 dX0_move_21 dX0_move_23 dX0_move_26 (Nat.le_of_ble_eq_true rfl) (Nat.le_of_ble_eq_true rfl) (Nat.le_of_ble_eq_true rfl) (Nat.le_of_ble_eq_true rfl) (Nat.le_of_ble_eq_true rfl) (Nat.le_of_ble_eq_true rfl)

theorem m_X0_move_nIOB {l : Launch} {D : va_G} {cI : ClassId} {h a n p b w wi ni : Nat} {A : Nat → Nat} (hl : l.stackTraces = false) (hn : n = 4 ∨ n = 8 ∨ n = 16) (hp5 : p < 500) (hb5 : b < 5) (r : Int) (hr_r : (-2147483648 ≤ r ∧ r < 2147483648)) (q : Int) (hr_q : (-2147483648 ≤ q ∧ q < 2147483648)) (hbad : ¬ ((0 ≤ r ∧ r < 4))) : CX l yX0_move wsX0_move (rmX 7 103) D vwCl [(cI, .int)] [.ref h, iV r, iV q] (wX cI h a n p b w wi ni A) nIOB 1 6 := by
  exact m_X0_move_x1 hl hn hp5 hb5 r hr_r q hr_q (fun hz9 => hbad hz9)

theorem m_X0_move_nIAE {l : Launch} {D : va_G} {cI : ClassId} {h a n p b w wi ni : Nat} {A : Nat → Nat} (hl : l.stackTraces = false) (hn : n = 4 ∨ n = 8 ∨ n = 16) (hp5 : p < 500) (hb5 : b < 5) (r : Int) (hr_r : (-2147483648 ≤ r ∧ r < 2147483648)) (q : Int) (hr_q : (-2147483648 ≤ q ∧ q < 2147483648)) (hok_r : (0 ≤ r ∧ r < 4)) (hbad : ¬ ((0 ≤ q ∧ q < (n : Int)))) : CX l yX0_move wsX0_move (rmX 7 103) D vwCl [(cI, .int)] [.ref h, iV r, iV q] (wX cI h a n p b w wi ni A) nIAE 1 6 := by
  obtain ⟨n_r, rfl⟩ : ∃ n_r : Nat, r = (n_r : Int) := ⟨r.toNat, by omega⟩
  exact m_X0_move_x2 hl hn hp5 hb5 n_r (by omega) q hr_q (fun hz9 => hbad hz9)

set_option maxHeartbeats 4000000 in
set_option maxRecDepth 100000 in
theorem m_X0_times_x1 {l : Launch} {D : va_G} {cI : ClassId} {h a n p b w wi ni : Nat} {A : Nat → Nat} (hl : l.stackTraces = false) (hn : n = 4 ∨ n = 8 ∨ n = 16) (hp5 : p < 500) (hb5 : b < 5) (r : Int) (hr_r : (-2147483648 ≤ r ∧ r < 2147483648)) (v : Int) (hr_v : (-2147483648 ≤ v ∧ v < 2147483648)) (hbad : ¬ (0 ≤ r ∧ r < 4)) : CX l yX0_times wsX0_times (rmX 7 103) D vwCl [(cI, .int)] [.ref h, iV r, iV v] (wX cI h a n p b w wi ni A) nIOB 1 6 := by
  refine ct_ofX (by decide) rfl (Nat.le_of_ble_eq_true rfl) (fun φ C Zc X => ?_)
  refine xw_le (lv' := [(0, .ref h), (1, iV r), (2, iV v)]) rfl ?_
  have hn3 := lt3 hn
  refine xw_aload_n (pc := 0) C 0 dX0_times_0 rfl ?_
  refine xw_iload_n (pc := 1) C 1 dX0_times_1 rfl ?_
  exact xt_V (pc := 2) (q0 := 0) (na := 1) (rest := []) C Zc X (m_X0_requireRow_x hl r hr_r hbad) gX0_times_X0_requireRow rfl rfl rfl rfl (by decide +kernel) ⟨Nat.le_of_ble_eq_true rfl, Nat.le_of_ble_eq_true rfl⟩ rfl rfl rfl (Nat.le_of_ble_eq_true rfl) dX0_times_2 ⟨Nat.le_of_ble_eq_true rfl, Nat.le_of_ble_eq_true rfl⟩ ⟨Nat.le_of_ble_eq_true rfl, Nat.le_of_ble_eq_true rfl⟩

set_option maxHeartbeats 4000000 in
set_option maxRecDepth 100000 in
theorem m_X0_times_x2 {l : Launch} {D : va_G} {cI : ClassId} {h a n p b w wi ni : Nat} {A : Nat → Nat} (hl : l.stackTraces = false) (hn : n = 4 ∨ n = 8 ∨ n = 16) (hp5 : p < 500) (hb5 : b < 5) (r : Nat) (hg_r : (r < 4)) (v : Int) (hr_v : (-2147483648 ≤ v ∧ v < 2147483648)) (hbad : ¬ (0 ≤ v ∧ v < (p : Int))) : CX l yX0_times wsX0_times (rmX 7 103) D vwCl [(cI, .int)] [.ref h, nV r, iV v] (wX cI h a n p b w wi ni A) nIAE 1 6 := by
  refine ct_ofX (by decide) rfl (Nat.le_of_ble_eq_true rfl) (fun φ C Zc X => ?_)
  refine xw_le (lv' := [(0, .ref h), (1, nV r), (2, iV v)]) rfl ?_
  have hn3 := lt3 hn
  refine xw_aload_n (pc := 0) C 0 dX0_times_0 rfl ?_
  refine xw_iload_n (pc := 1) C 1 dX0_times_1 rfl ?_
  refine xw_Vd (pc := 2) (q0 := 0) (na := 1) (rest := []) (st' := []) C (m_X0_requireRow r (by omega)) gX0_times_X0_requireRow rfl rfl rfl rfl (by decide +kernel) ⟨Nat.le_of_ble_eq_true rfl, Nat.le_of_ble_eq_true rfl⟩ rfl rfl rfl (Nat.le_of_ble_eq_true rfl) dX0_times_2 ⟨Nat.le_of_ble_eq_true rfl, Nat.le_of_ble_eq_true rfl⟩ rfl ?_
  refine xw_aload_n (pc := 5) C 0 dX0_times_5 rfl ?_
  refine xw_iload_n (pc := 6) C 2 dX0_times_6 rfl ?_
  exact xt_V (pc := 7) (q0 := 0) (na := 1) (rest := []) C Zc X (m_X0_requireNumber_x hl hp5 v hr_v hbad) gX0_times_X0_requireNumber rfl rfl rfl rfl (by decide +kernel) ⟨Nat.le_of_ble_eq_true rfl, Nat.le_of_ble_eq_true rfl⟩ rfl rfl rfl (Nat.le_of_ble_eq_true rfl) dX0_times_7 ⟨Nat.le_of_ble_eq_true rfl, Nat.le_of_ble_eq_true rfl⟩ ⟨Nat.le_of_ble_eq_true rfl, Nat.le_of_ble_eq_true rfl⟩

theorem m_X0_times_nIOB {l : Launch} {D : va_G} {cI : ClassId} {h a n p b w wi ni : Nat} {A : Nat → Nat} (hl : l.stackTraces = false) (hn : n = 4 ∨ n = 8 ∨ n = 16) (hp5 : p < 500) (hb5 : b < 5) (r : Int) (hr_r : (-2147483648 ≤ r ∧ r < 2147483648)) (v : Int) (hr_v : (-2147483648 ≤ v ∧ v < 2147483648)) (hbad : ¬ ((0 ≤ r ∧ r < 4))) : CX l yX0_times wsX0_times (rmX 7 103) D vwCl [(cI, .int)] [.ref h, iV r, iV v] (wX cI h a n p b w wi ni A) nIOB 1 6 := by
  exact m_X0_times_x1 hl hn hp5 hb5 r hr_r v hr_v (fun hz9 => hbad hz9)

theorem m_X0_times_nIAE {l : Launch} {D : va_G} {cI : ClassId} {h a n p b w wi ni : Nat} {A : Nat → Nat} (hl : l.stackTraces = false) (hn : n = 4 ∨ n = 8 ∨ n = 16) (hp5 : p < 500) (hb5 : b < 5) (r : Int) (hr_r : (-2147483648 ≤ r ∧ r < 2147483648)) (v : Int) (hr_v : (-2147483648 ≤ v ∧ v < 2147483648)) (hok_r : (0 ≤ r ∧ r < 4)) (hbad : ¬ ((0 ≤ v ∧ v < (p : Int)))) : CX l yX0_times wsX0_times (rmX 7 103) D vwCl [(cI, .int)] [.ref h, iV r, iV v] (wX cI h a n p b w wi ni A) nIAE 1 6 := by
  obtain ⟨n_r, rfl⟩ : ∃ n_r : Nat, r = (n_r : Int) := ⟨r.toNat, by omega⟩
  exact m_X0_times_x2 hl hn hp5 hb5 n_r (by omega) v hr_v (fun hz9 => hbad hz9)

set_option maxHeartbeats 4000000 in
set_option maxRecDepth 100000 in
theorem m_X0_at_x1 {l : Launch} {D : va_G} {cI : ClassId} {h a n p b w wi ni : Nat} {A : Nat → Nat} (hl : l.stackTraces = false) (hn : n = 4 ∨ n = 8 ∨ n = 16) (hp5 : p < 500) (hb5 : b < 5) (r : Int) (hr_r : (-2147483648 ≤ r ∧ r < 2147483648)) (q : Int) (hr_q : (-2147483648 ≤ q ∧ q < 2147483648)) (hbad : ¬ (0 ≤ r ∧ r < 4)) : CX l yX0_at wsX0_at (rmX 7 103) D vwCl [(cI, .int)] [.ref h, iV r, iV q] (wX cI h a n p b w wi ni A) nIOB 1 6 := by
  refine ct_ofX (by decide) rfl (Nat.le_of_ble_eq_true rfl) (fun φ C Zc X => ?_)
  refine xw_le (lv' := [(0, .ref h), (1, iV r), (2, iV q)]) rfl ?_
  have hn3 := lt3 hn
  refine xw_aload_n (pc := 0) C 0 dX0_at_0 rfl ?_
  refine xw_iload_n (pc := 1) C 1 dX0_at_1 rfl ?_
  exact xt_V (pc := 2) (q0 := 0) (na := 1) (rest := []) C Zc X (m_X0_requireRow_x hl r hr_r hbad) gX0_at_X0_requireRow rfl rfl rfl rfl (by decide +kernel) ⟨Nat.le_of_ble_eq_true rfl, Nat.le_of_ble_eq_true rfl⟩ rfl rfl rfl (Nat.le_of_ble_eq_true rfl) dX0_at_2 ⟨Nat.le_of_ble_eq_true rfl, Nat.le_of_ble_eq_true rfl⟩ ⟨Nat.le_of_ble_eq_true rfl, Nat.le_of_ble_eq_true rfl⟩

set_option maxHeartbeats 4000000 in
set_option maxRecDepth 100000 in
theorem m_X0_at_x2 {l : Launch} {D : va_G} {cI : ClassId} {h a n p b w wi ni : Nat} {A : Nat → Nat} (hl : l.stackTraces = false) (hn : n = 4 ∨ n = 8 ∨ n = 16) (hp5 : p < 500) (hb5 : b < 5) (r : Nat) (hg_r : (r < 4)) (q : Int) (hr_q : (-2147483648 ≤ q ∧ q < 2147483648)) (hbad : ¬ (0 ≤ q ∧ q < (n : Int))) : CX l yX0_at wsX0_at (rmX 7 103) D vwCl [(cI, .int)] [.ref h, nV r, iV q] (wX cI h a n p b w wi ni A) nIOB 1 6 := by
  refine ct_ofX (by decide) rfl (Nat.le_of_ble_eq_true rfl) (fun φ C Zc X => ?_)
  refine xw_le (lv' := [(0, .ref h), (1, nV r), (2, iV q)]) rfl ?_
  have hn3 := lt3 hn
  refine xw_aload_n (pc := 0) C 0 dX0_at_0 rfl ?_
  refine xw_iload_n (pc := 1) C 1 dX0_at_1 rfl ?_
  refine xw_Vd (pc := 2) (q0 := 0) (na := 1) (rest := []) (st' := []) C (m_X0_requireRow r (by omega)) gX0_at_X0_requireRow rfl rfl rfl rfl (by decide +kernel) ⟨Nat.le_of_ble_eq_true rfl, Nat.le_of_ble_eq_true rfl⟩ rfl rfl rfl (Nat.le_of_ble_eq_true rfl) dX0_at_2 ⟨Nat.le_of_ble_eq_true rfl, Nat.le_of_ble_eq_true rfl⟩ rfl ?_
  refine xw_aload_n (pc := 5) C 0 dX0_at_5 rfl ?_
  refine xw_iload_n (pc := 6) C 2 dX0_at_6 rfl ?_
  exact xt_V (pc := 7) (q0 := 0) (na := 1) (rest := []) C Zc X (m_X0_requirePlace_x hl (by omega) q hr_q hbad) gX0_at_X0_requirePlace rfl rfl rfl rfl (by decide +kernel) ⟨Nat.le_of_ble_eq_true rfl, Nat.le_of_ble_eq_true rfl⟩ rfl rfl rfl (Nat.le_of_ble_eq_true rfl) dX0_at_7 ⟨Nat.le_of_ble_eq_true rfl, Nat.le_of_ble_eq_true rfl⟩ ⟨Nat.le_of_ble_eq_true rfl, Nat.le_of_ble_eq_true rfl⟩

theorem m_X0_at_nIOB {l : Launch} {D : va_G} {cI : ClassId} {h a n p b w wi ni : Nat} {A : Nat → Nat} (hl : l.stackTraces = false) (hn : n = 4 ∨ n = 8 ∨ n = 16) (hp5 : p < 500) (hb5 : b < 5) (r : Int) (hr_r : (-2147483648 ≤ r ∧ r < 2147483648)) (q : Int) (hr_q : (-2147483648 ≤ q ∧ q < 2147483648)) (hbad : ¬ ((0 ≤ r ∧ r < 4) ∧ (0 ≤ q ∧ q < (n : Int)))) : CX l yX0_at wsX0_at (rmX 7 103) D vwCl [(cI, .int)] [.ref h, iV r, iV q] (wX cI h a n p b w wi ni A) nIOB 1 6 := by
  by_cases hc0 : (0 ≤ r ∧ r < 4)
  case neg => exact m_X0_at_x1 hl hn hp5 hb5 r hr_r q hr_q hc0
  obtain ⟨n_r, rfl⟩ : ∃ n_r : Nat, r = (n_r : Int) := ⟨r.toNat, by omega⟩
  exact m_X0_at_x2 hl hn hp5 hb5 n_r (by omega) q hr_q (fun hz9 => hbad ⟨hc0, hz9⟩)

set_option maxHeartbeats 4000000 in
set_option maxRecDepth 100000 in
theorem m_X0_point_x1 {l : Launch} {D : va_G} {cI : ClassId} {h a n p b w wi ni : Nat} {A : Nat → Nat} (hl : l.stackTraces = false) (hn : n = 4 ∨ n = 8 ∨ n = 16) (hp5 : p < 500) (hb5 : b < 5) (r : Int) (hr_r : (-2147483648 ≤ r ∧ r < 2147483648)) (v : Int) (hr_v : (-2147483648 ≤ v ∧ v < 2147483648)) (hbad : ¬ (0 ≤ r ∧ r < 4)) : CX l yX0_point wsX0_point (rmX 7 103) D vwCl [(cI, .int)] [.ref h, iV r, iV v] (wX cI h a n p b w wi ni A) nIOB 1 6 := by
  refine ct_ofX (by decide) rfl (Nat.le_of_ble_eq_true rfl) (fun φ C Zc X => ?_)
  refine xw_le (lv' := [(0, .ref h), (1, iV r), (2, iV v)]) rfl ?_
  have hn3 := lt3 hn
  refine xw_aload_n (pc := 0) C 0 dX0_point_0 rfl ?_
  refine xw_iload_n (pc := 1) C 1 dX0_point_1 rfl ?_
  exact xt_V (pc := 2) (q0 := 0) (na := 1) (rest := []) C Zc X (m_X0_requireRow_x hl r hr_r hbad) gX0_point_X0_requireRow rfl rfl rfl rfl (by decide +kernel) ⟨Nat.le_of_ble_eq_true rfl, Nat.le_of_ble_eq_true rfl⟩ rfl rfl rfl (Nat.le_of_ble_eq_true rfl) dX0_point_2 ⟨Nat.le_of_ble_eq_true rfl, Nat.le_of_ble_eq_true rfl⟩ ⟨Nat.le_of_ble_eq_true rfl, Nat.le_of_ble_eq_true rfl⟩

set_option maxHeartbeats 4000000 in
set_option maxRecDepth 100000 in
theorem m_X0_point_x2 {l : Launch} {D : va_G} {cI : ClassId} {h a n p b w wi ni : Nat} {A : Nat → Nat} (hl : l.stackTraces = false) (hn : n = 4 ∨ n = 8 ∨ n = 16) (hp5 : p < 500) (hb5 : b < 5) (r : Nat) (hg_r : (r < 4)) (v : Int) (hr_v : (-2147483648 ≤ v ∧ v < 2147483648)) (hbad : ¬ (0 ≤ v ∧ v < (p : Int))) : CX l yX0_point wsX0_point (rmX 7 103) D vwCl [(cI, .int)] [.ref h, nV r, iV v] (wX cI h a n p b w wi ni A) nIAE 1 6 := by
  refine ct_ofX (by decide) rfl (Nat.le_of_ble_eq_true rfl) (fun φ C Zc X => ?_)
  refine xw_le (lv' := [(0, .ref h), (1, nV r), (2, iV v)]) rfl ?_
  have hn3 := lt3 hn
  refine xw_aload_n (pc := 0) C 0 dX0_point_0 rfl ?_
  refine xw_iload_n (pc := 1) C 1 dX0_point_1 rfl ?_
  refine xw_Vd (pc := 2) (q0 := 0) (na := 1) (rest := []) (st' := []) C (m_X0_requireRow r (by omega)) gX0_point_X0_requireRow rfl rfl rfl rfl (by decide +kernel) ⟨Nat.le_of_ble_eq_true rfl, Nat.le_of_ble_eq_true rfl⟩ rfl rfl rfl (Nat.le_of_ble_eq_true rfl) dX0_point_2 ⟨Nat.le_of_ble_eq_true rfl, Nat.le_of_ble_eq_true rfl⟩ rfl ?_
  refine xw_aload_n (pc := 5) C 0 dX0_point_5 rfl ?_
  refine xw_iload_n (pc := 6) C 2 dX0_point_6 rfl ?_
  exact xt_V (pc := 7) (q0 := 0) (na := 1) (rest := []) C Zc X (m_X0_requireNumber_x hl hp5 v hr_v hbad) gX0_point_X0_requireNumber rfl rfl rfl rfl (by decide +kernel) ⟨Nat.le_of_ble_eq_true rfl, Nat.le_of_ble_eq_true rfl⟩ rfl rfl rfl (Nat.le_of_ble_eq_true rfl) dX0_point_7 ⟨Nat.le_of_ble_eq_true rfl, Nat.le_of_ble_eq_true rfl⟩ ⟨Nat.le_of_ble_eq_true rfl, Nat.le_of_ble_eq_true rfl⟩

theorem m_X0_point_nIOB {l : Launch} {D : va_G} {cI : ClassId} {h a n p b w wi ni : Nat} {A : Nat → Nat} (hl : l.stackTraces = false) (hn : n = 4 ∨ n = 8 ∨ n = 16) (hp5 : p < 500) (hb5 : b < 5) (r : Int) (hr_r : (-2147483648 ≤ r ∧ r < 2147483648)) (v : Int) (hr_v : (-2147483648 ≤ v ∧ v < 2147483648)) (hbad : ¬ ((0 ≤ r ∧ r < 4))) : CX l yX0_point wsX0_point (rmX 7 103) D vwCl [(cI, .int)] [.ref h, iV r, iV v] (wX cI h a n p b w wi ni A) nIOB 1 6 := by
  exact m_X0_point_x1 hl hn hp5 hb5 r hr_r v hr_v (fun hz9 => hbad hz9)

theorem m_X0_point_nIAE {l : Launch} {D : va_G} {cI : ClassId} {h a n p b w wi ni : Nat} {A : Nat → Nat} (hl : l.stackTraces = false) (hn : n = 4 ∨ n = 8 ∨ n = 16) (hp5 : p < 500) (hb5 : b < 5) (r : Int) (hr_r : (-2147483648 ≤ r ∧ r < 2147483648)) (v : Int) (hr_v : (-2147483648 ≤ v ∧ v < 2147483648)) (hok_r : (0 ≤ r ∧ r < 4)) (hbad : ¬ ((0 ≤ v ∧ v < (p : Int)))) : CX l yX0_point wsX0_point (rmX 7 103) D vwCl [(cI, .int)] [.ref h, iV r, iV v] (wX cI h a n p b w wi ni A) nIAE 1 6 := by
  obtain ⟨n_r, rfl⟩ : ∃ n_r : Nat, r = (n_r : Int) := ⟨r.toNat, by omega⟩
  exact m_X0_point_x2 hl hn hp5 hb5 n_r (by omega) v hr_v (fun hz9 => hbad hz9)

set_option maxHeartbeats 4000000 in
set_option maxRecDepth 100000 in
theorem m_X0_about_x1 {l : Launch} {D : va_G} {cI : ClassId} {h a n p b w wi ni : Nat} {A : Nat → Nat} (hl : l.stackTraces = false) (hn : n = 4 ∨ n = 8 ∨ n = 16) (hp5 : p < 500) (hb5 : b < 5) (r : Int) (hr_r : (-2147483648 ≤ r ∧ r < 2147483648)) (u : Int) (hr_u : (-2147483648 ≤ u ∧ u < 2147483648)) (hbad : ¬ (0 ≤ r ∧ r < 4)) : CX l yX0_about wsX0_about (rmX 7 103) D vwCl [(cI, .int)] [.ref h, iV r, iV u] (wX cI h a n p b w wi ni A) nIOB 1 6 := by
  refine ct_ofX (by decide) rfl (Nat.le_of_ble_eq_true rfl) (fun φ C Zc X => ?_)
  refine xw_le (lv' := [(0, .ref h), (1, iV r), (2, iV u)]) rfl ?_
  have hn3 := lt3 hn
  refine xw_aload_n (pc := 0) C 0 dX0_about_0 rfl ?_
  refine xw_iload_n (pc := 1) C 1 dX0_about_1 rfl ?_
  exact xt_V (pc := 2) (q0 := 0) (na := 1) (rest := []) C Zc X (m_X0_requireRow_x hl r hr_r hbad) gX0_about_X0_requireRow rfl rfl rfl rfl (by decide +kernel) ⟨Nat.le_of_ble_eq_true rfl, Nat.le_of_ble_eq_true rfl⟩ rfl rfl rfl (Nat.le_of_ble_eq_true rfl) dX0_about_2 ⟨Nat.le_of_ble_eq_true rfl, Nat.le_of_ble_eq_true rfl⟩ ⟨Nat.le_of_ble_eq_true rfl, Nat.le_of_ble_eq_true rfl⟩

set_option maxHeartbeats 4000000 in
set_option maxRecDepth 100000 in
theorem m_X0_about_x2 {l : Launch} {D : va_G} {cI : ClassId} {h a n p b w wi ni : Nat} {A : Nat → Nat} (hl : l.stackTraces = false) (hn : n = 4 ∨ n = 8 ∨ n = 16) (hp5 : p < 500) (hb5 : b < 5) (r : Nat) (hg_r : (r < 4)) (u : Int) (hr_u : (-2147483648 ≤ u ∧ u < 2147483648)) (hbad : ¬ (0 ≤ u ∧ u < 5)) : CX l yX0_about wsX0_about (rmX 7 103) D vwCl [(cI, .int)] [.ref h, nV r, iV u] (wX cI h a n p b w wi ni A) nIOB 1 6 := by
  refine ct_ofX (by decide) rfl (Nat.le_of_ble_eq_true rfl) (fun φ C Zc X => ?_)
  have hthr : ∀ w ∈ (vx_atS RX0 97 nIOB nUp).filter goodWord, w ∈ wsX0_about := by decide +kernel
  refine xw_le (lv' := [(0, .ref h), (1, nV r), (2, iV u)]) rfl ?_
  have hn3 := lt3 hn
  refine xw_aload_n (pc := 0) C 0 dX0_about_0 rfl ?_
  refine xw_iload_n (pc := 1) C 1 dX0_about_1 rfl ?_
  refine xw_Vd (pc := 2) (q0 := 0) (na := 1) (rest := []) (st' := []) C (m_X0_requireRow r (by omega)) gX0_about_X0_requireRow rfl rfl rfl rfl (by decide +kernel) ⟨Nat.le_of_ble_eq_true rfl, Nat.le_of_ble_eq_true rfl⟩ rfl rfl rfl (Nat.le_of_ble_eq_true rfl) dX0_about_2 ⟨Nat.le_of_ble_eq_true rfl, Nat.le_of_ble_eq_true rfl⟩ rfl ?_
  refine xw_iload_n (pc := 5) C 2 dX0_about_5 rfl ?_
  refine xw_if_lt (pc := 6) (tgt := 14) C dX0_about_6 (by decide) (by omega) (fun c_1 => ?_) (fun c_1 => ?_)
  ·
    exact xt_throw (pc := 14) (ik := 93) (is := 122) (ic := 97) (text := "no such thing to tell about a row") C Zc X hl (by decide +kernel) (by decide +kernel) (by decide +kernel) (fun w hw => hthr w hw) (fun w hw => List.mem_append_right _ hw) (by decide +kernel) (by decide) dX0_about_14 dX0_about_17 dX0_about_18 dX0_about_20 dX0_about_23 (Nat.le_of_ble_eq_true rfl) (Nat.le_of_ble_eq_true rfl) (Nat.le_of_ble_eq_true rfl) (Nat.le_of_ble_eq_true rfl) (Nat.le_of_ble_eq_true rfl) (Nat.le_of_ble_eq_true rfl)
  ·
    refine xw_iload_n (pc := 9) C 2 dX0_about_9 rfl ?_
    refine xw_iconst_N (pc := 10) C 5 dX0_about_10 rfl ?_
    refine xw_icmp_lt (pc := 11) (tgt := 24) C dX0_about_11 (by decide) (by omega) (by omega) (fun c_2 => (by exfalso; omega)) (fun c_2 => ?_)
    exact xt_throw (pc := 14) (ik := 93) (is := 122) (ic := 97) (text := "no such thing to tell about a row") C Zc X hl (by decide +kernel) (by decide +kernel) (by decide +kernel) (fun w hw => hthr w hw) (fun w hw => List.mem_append_right _ hw) (by decide +kernel) (by decide) dX0_about_14 dX0_about_17 dX0_about_18 dX0_about_20 dX0_about_23 (Nat.le_of_ble_eq_true rfl) (Nat.le_of_ble_eq_true rfl) (Nat.le_of_ble_eq_true rfl) (Nat.le_of_ble_eq_true rfl) (Nat.le_of_ble_eq_true rfl) (Nat.le_of_ble_eq_true rfl)

theorem m_X0_about_nIOB {l : Launch} {D : va_G} {cI : ClassId} {h a n p b w wi ni : Nat} {A : Nat → Nat} (hl : l.stackTraces = false) (hn : n = 4 ∨ n = 8 ∨ n = 16) (hp5 : p < 500) (hb5 : b < 5) (r : Int) (hr_r : (-2147483648 ≤ r ∧ r < 2147483648)) (u : Int) (hr_u : (-2147483648 ≤ u ∧ u < 2147483648)) (hbad : ¬ ((0 ≤ r ∧ r < 4) ∧ (0 ≤ u ∧ u < 5))) : CX l yX0_about wsX0_about (rmX 7 103) D vwCl [(cI, .int)] [.ref h, iV r, iV u] (wX cI h a n p b w wi ni A) nIOB 1 6 := by
  by_cases hc0 : (0 ≤ r ∧ r < 4)
  case neg => exact m_X0_about_x1 hl hn hp5 hb5 r hr_r u hr_u hc0
  obtain ⟨n_r, rfl⟩ : ∃ n_r : Nat, r = (n_r : Int) := ⟨r.toNat, by omega⟩
  exact m_X0_about_x2 hl hn hp5 hb5 n_r (by omega) u hr_u (fun hz9 => hbad ⟨hc0, hz9⟩)

set_option maxHeartbeats 4000000 in
set_option maxRecDepth 100000 in
theorem m_X0_count_x1 {l : Launch} {D : va_G} {cI : ClassId} {h a n p b w wi ni : Nat} {A : Nat → Nat} (hl : l.stackTraces = false) (hn : n = 4 ∨ n = 8 ∨ n = 16) (hp5 : p < 500) (hb5 : b < 5) (u : Int) (hr_u : (-2147483648 ≤ u ∧ u < 2147483648)) (hbad : ¬ (0 ≤ u ∧ u < 6)) : CX l yX0_count wsX0_count (rmX 6 82) D vwCl [(cI, .int)] [.ref h, iV u] (wX cI h a n p b w wi ni A) nIOB 1 6 := by
  refine ct_ofX (by decide) rfl (Nat.le_of_ble_eq_true rfl) (fun φ C Zc X => ?_)
  have hthr : ∀ w ∈ (vx_atS RX0 97 nIOB nUp).filter goodWord, w ∈ wsX0_count := by decide +kernel
  refine xw_le (lv' := [(0, .ref h), (1, iV u)]) rfl ?_
  have hn3 := lt3 hn
  refine xw_iload_n (pc := 0) C 1 dX0_count_0 rfl ?_
  refine xw_if_lt (pc := 1) (tgt := 10) C dX0_count_1 (by decide) (by omega) (fun c_1 => ?_) (fun c_1 => ?_)
  ·
    exact xt_throw (pc := 10) (ik := 93) (is := 127) (ic := 97) (text := "no such thing to count") C Zc X hl (by decide +kernel) (by decide +kernel) (by decide +kernel) (fun w hw => hthr w hw) (fun w hw => List.mem_append_right _ hw) (by decide +kernel) (by decide) dX0_count_10 dX0_count_13 dX0_count_14 dX0_count_16 dX0_count_19 (Nat.le_of_ble_eq_true rfl) (Nat.le_of_ble_eq_true rfl) (Nat.le_of_ble_eq_true rfl) (Nat.le_of_ble_eq_true rfl) (Nat.le_of_ble_eq_true rfl) (Nat.le_of_ble_eq_true rfl)
  ·
    refine xw_iload_n (pc := 4) C 1 dX0_count_4 rfl ?_
    refine xw_bipush_N (pc := 5) C 6 dX0_count_5 (by decide) ?_
    refine xw_icmp_lt (pc := 7) (tgt := 20) C dX0_count_7 (by decide) (by omega) (by omega) (fun c_2 => (by exfalso; omega)) (fun c_2 => ?_)
    exact xt_throw (pc := 10) (ik := 93) (is := 127) (ic := 97) (text := "no such thing to count") C Zc X hl (by decide +kernel) (by decide +kernel) (by decide +kernel) (fun w hw => hthr w hw) (fun w hw => List.mem_append_right _ hw) (by decide +kernel) (by decide) dX0_count_10 dX0_count_13 dX0_count_14 dX0_count_16 dX0_count_19 (Nat.le_of_ble_eq_true rfl) (Nat.le_of_ble_eq_true rfl) (Nat.le_of_ble_eq_true rfl) (Nat.le_of_ble_eq_true rfl) (Nat.le_of_ble_eq_true rfl) (Nat.le_of_ble_eq_true rfl)

theorem m_X0_count_nIOB {l : Launch} {D : va_G} {cI : ClassId} {h a n p b w wi ni : Nat} {A : Nat → Nat} (hl : l.stackTraces = false) (hn : n = 4 ∨ n = 8 ∨ n = 16) (hp5 : p < 500) (hb5 : b < 5) (u : Int) (hr_u : (-2147483648 ≤ u ∧ u < 2147483648)) (hbad : ¬ ((0 ≤ u ∧ u < 6))) : CX l yX0_count wsX0_count (rmX 6 82) D vwCl [(cI, .int)] [.ref h, iV u] (wX cI h a n p b w wi ni A) nIOB 1 6 := by
  exact m_X0_count_x1 hl hn hp5 hb5 u hr_u (fun hz9 => hbad hz9)

set_option maxHeartbeats 4000000 in
set_option maxRecDepth 100000 in
theorem m_X0_root_x1 {l : Launch} {D : va_G} {cI : ClassId} {h a n p b w wi ni : Nat} {A : Nat → Nat} (hl : l.stackTraces = false) (hn : n = 4 ∨ n = 8 ∨ n = 16) (hp5 : p < 500) (hb5 : b < 5) (u : Int) (hr_u : (-2147483648 ≤ u ∧ u < 2147483648)) (hbad : ¬ (0 ≤ u ∧ u ≤ 9999)) : CX l yX0_root wsX0_root (rmX 6 82) D vwCl [(cI, .int)] [.ref h, iV u] (wX cI h a n p b w wi ni A) nIAE 1 6 := by
  refine ct_ofX (by decide) rfl (Nat.le_of_ble_eq_true rfl) (fun φ C Zc X => ?_)
  have hthr : ∀ w ∈ (vx_atS RX0 32 nIAE nUp).filter goodWord, w ∈ wsX0_root := by decide +kernel
  refine xw_le (lv' := [(0, .ref h), (1, iV u)]) rfl ?_
  have hn3 := lt3 hn
  refine xw_iload_n (pc := 0) C 1 dX0_root_0 rfl ?_
  refine xw_if_lt (pc := 1) (tgt := 11) C dX0_root_1 (by decide) (by omega) (fun c_1 => ?_) (fun c_1 => ?_)
  ·
    exact xt_throw (pc := 11) (ik := 28) (is := 53) (ic := 32) (text := "no such power") C Zc X hl (by decide +kernel) (by decide +kernel) (by decide +kernel) (fun w hw => hthr w hw) (fun w hw => List.mem_append_left _ hw) (by decide +kernel) (by decide) dX0_root_11 dX0_root_14 dX0_root_15 dX0_root_17 dX0_root_20 (Nat.le_of_ble_eq_true rfl) (Nat.le_of_ble_eq_true rfl) (Nat.le_of_ble_eq_true rfl) (Nat.le_of_ble_eq_true rfl) (Nat.le_of_ble_eq_true rfl) (Nat.le_of_ble_eq_true rfl)
  ·
    refine xw_iload_n (pc := 4) C 1 dX0_root_4 rfl ?_
    refine xw_sipush_N (pc := 5) C 9999 dX0_root_5 (by decide) ?_
    refine xw_icmp_le (pc := 8) (tgt := 21) C dX0_root_8 (by decide) (by omega) (by omega) (fun c_2 => (by exfalso; omega)) (fun c_2 => ?_)
    exact xt_throw (pc := 11) (ik := 28) (is := 53) (ic := 32) (text := "no such power") C Zc X hl (by decide +kernel) (by decide +kernel) (by decide +kernel) (fun w hw => hthr w hw) (fun w hw => List.mem_append_left _ hw) (by decide +kernel) (by decide) dX0_root_11 dX0_root_14 dX0_root_15 dX0_root_17 dX0_root_20 (Nat.le_of_ble_eq_true rfl) (Nat.le_of_ble_eq_true rfl) (Nat.le_of_ble_eq_true rfl) (Nat.le_of_ble_eq_true rfl) (Nat.le_of_ble_eq_true rfl) (Nat.le_of_ble_eq_true rfl)

theorem m_X0_root_nIAE {l : Launch} {D : va_G} {cI : ClassId} {h a n p b w wi ni : Nat} {A : Nat → Nat} (hl : l.stackTraces = false) (hn : n = 4 ∨ n = 8 ∨ n = 16) (hp5 : p < 500) (hb5 : b < 5) (u : Int) (hr_u : (-2147483648 ≤ u ∧ u < 2147483648)) (hbad : ¬ ((0 ≤ u ∧ u ≤ 9999))) : CX l yX0_root wsX0_root (rmX 6 82) D vwCl [(cI, .int)] [.ref h, iV u] (wX cI h a n p b w wi ni A) nIAE 1 6 := by
  exact m_X0_root_x1 hl hn hp5 hb5 u hr_u (fun hz9 => hbad hz9)

set_option maxHeartbeats 4000000 in
set_option maxRecDepth 100000 in
theorem m_X0_would_x1 {l : Launch} {D : va_G} {cI : ClassId} {h a n p b w wi ni : Nat} {A : Nat → Nat} (hl : l.stackTraces = false) (hn : n = 4 ∨ n = 8 ∨ n = 16) (hp5 : p < 500) (hb5 : b < 5) (a1 : Int) (hr_a1 : (-2147483648 ≤ a1 ∧ a1 < 2147483648)) (b1 : Int) (hr_b1 : (-2147483648 ≤ b1 ∧ b1 < 2147483648)) (q : Int) (hr_q : (-2147483648 ≤ q ∧ q < 2147483648)) (hbad : ¬ (0 ≤ a1 ∧ a1 < 4)) : CX l yX0_would wsX0_would (rmX 7 103) D vwCl [(cI, .int)] [.ref h, iV a1, iV b1, iV q] (wX cI h a n p b w wi ni A) nIOB 1 6 := by
  refine ct_ofX (by decide) rfl (Nat.le_of_ble_eq_true rfl) (fun φ C Zc X => ?_)
  refine xw_le (lv' := [(0, .ref h), (1, iV a1), (2, iV b1), (3, iV q)]) rfl ?_
  have hn3 := lt3 hn
  refine xw_aload_n (pc := 0) C 0 dX0_would_0 rfl ?_
  refine xw_iload_n (pc := 1) C 1 dX0_would_1 rfl ?_
  exact xt_V (pc := 2) (q0 := 0) (na := 1) (rest := []) C Zc X (m_X0_requireRow_x hl a1 hr_a1 hbad) gX0_would_X0_requireRow rfl rfl rfl rfl (by decide +kernel) ⟨Nat.le_of_ble_eq_true rfl, Nat.le_of_ble_eq_true rfl⟩ rfl rfl rfl (Nat.le_of_ble_eq_true rfl) dX0_would_2 ⟨Nat.le_of_ble_eq_true rfl, Nat.le_of_ble_eq_true rfl⟩ ⟨Nat.le_of_ble_eq_true rfl, Nat.le_of_ble_eq_true rfl⟩

set_option maxHeartbeats 4000000 in
set_option maxRecDepth 100000 in
theorem m_X0_would_x2 {l : Launch} {D : va_G} {cI : ClassId} {h a n p b w wi ni : Nat} {A : Nat → Nat} (hl : l.stackTraces = false) (hn : n = 4 ∨ n = 8 ∨ n = 16) (hp5 : p < 500) (hb5 : b < 5) (a1 : Nat) (hg_a1 : (a1 < 4)) (b1 : Int) (hr_b1 : (-2147483648 ≤ b1 ∧ b1 < 2147483648)) (q : Int) (hr_q : (-2147483648 ≤ q ∧ q < 2147483648)) (hbad : ¬ (0 ≤ b1 ∧ b1 < 4)) : CX l yX0_would wsX0_would (rmX 7 103) D vwCl [(cI, .int)] [.ref h, nV a1, iV b1, iV q] (wX cI h a n p b w wi ni A) nIOB 1 6 := by
  refine ct_ofX (by decide) rfl (Nat.le_of_ble_eq_true rfl) (fun φ C Zc X => ?_)
  refine xw_le (lv' := [(0, .ref h), (1, nV a1), (2, iV b1), (3, iV q)]) rfl ?_
  have hn3 := lt3 hn
  refine xw_aload_n (pc := 0) C 0 dX0_would_0 rfl ?_
  refine xw_iload_n (pc := 1) C 1 dX0_would_1 rfl ?_
  refine xw_Vd (pc := 2) (q0 := 0) (na := 1) (rest := []) (st' := []) C (m_X0_requireRow a1 (by omega)) gX0_would_X0_requireRow rfl rfl rfl rfl (by decide +kernel) ⟨Nat.le_of_ble_eq_true rfl, Nat.le_of_ble_eq_true rfl⟩ rfl rfl rfl (Nat.le_of_ble_eq_true rfl) dX0_would_2 ⟨Nat.le_of_ble_eq_true rfl, Nat.le_of_ble_eq_true rfl⟩ rfl ?_
  refine xw_aload_n (pc := 5) C 0 dX0_would_5 rfl ?_
  refine xw_iload_n (pc := 6) C 2 dX0_would_6 rfl ?_
  exact xt_V (pc := 7) (q0 := 0) (na := 1) (rest := []) C Zc X (m_X0_requireRow_x hl b1 hr_b1 hbad) gX0_would_X0_requireRow rfl rfl rfl rfl (by decide +kernel) ⟨Nat.le_of_ble_eq_true rfl, Nat.le_of_ble_eq_true rfl⟩ rfl rfl rfl (Nat.le_of_ble_eq_true rfl) dX0_would_7 ⟨Nat.le_of_ble_eq_true rfl, Nat.le_of_ble_eq_true rfl⟩ ⟨Nat.le_of_ble_eq_true rfl, Nat.le_of_ble_eq_true rfl⟩

set_option maxHeartbeats 4000000 in
set_option maxRecDepth 100000 in
theorem m_X0_would_x3 {l : Launch} {D : va_G} {cI : ClassId} {h a n p b w wi ni : Nat} {A : Nat → Nat} (hl : l.stackTraces = false) (hn : n = 4 ∨ n = 8 ∨ n = 16) (hp5 : p < 500) (hb5 : b < 5) (a1 : Nat) (hg_a1 : (a1 < 4)) (b1 : Nat) (hg_b1 : (b1 < 4)) (q : Int) (hr_q : (-2147483648 ≤ q ∧ q < 2147483648)) (hbad : ¬ (0 ≤ q ∧ q < (n : Int))) : CX l yX0_would wsX0_would (rmX 7 103) D vwCl [(cI, .int)] [.ref h, nV a1, nV b1, iV q] (wX cI h a n p b w wi ni A) nIOB 1 6 := by
  refine ct_ofX (by decide) rfl (Nat.le_of_ble_eq_true rfl) (fun φ C Zc X => ?_)
  refine xw_le (lv' := [(0, .ref h), (1, nV a1), (2, nV b1), (3, iV q)]) rfl ?_
  have hn3 := lt3 hn
  refine xw_aload_n (pc := 0) C 0 dX0_would_0 rfl ?_
  refine xw_iload_n (pc := 1) C 1 dX0_would_1 rfl ?_
  refine xw_Vd (pc := 2) (q0 := 0) (na := 1) (rest := []) (st' := []) C (m_X0_requireRow a1 (by omega)) gX0_would_X0_requireRow rfl rfl rfl rfl (by decide +kernel) ⟨Nat.le_of_ble_eq_true rfl, Nat.le_of_ble_eq_true rfl⟩ rfl rfl rfl (Nat.le_of_ble_eq_true rfl) dX0_would_2 ⟨Nat.le_of_ble_eq_true rfl, Nat.le_of_ble_eq_true rfl⟩ rfl ?_
  refine xw_aload_n (pc := 5) C 0 dX0_would_5 rfl ?_
  refine xw_iload_n (pc := 6) C 2 dX0_would_6 rfl ?_
  refine xw_Vd (pc := 7) (q0 := 0) (na := 1) (rest := []) (st' := []) C (m_X0_requireRow b1 (by omega)) gX0_would_X0_requireRow rfl rfl rfl rfl (by decide +kernel) ⟨Nat.le_of_ble_eq_true rfl, Nat.le_of_ble_eq_true rfl⟩ rfl rfl rfl (Nat.le_of_ble_eq_true rfl) dX0_would_7 ⟨Nat.le_of_ble_eq_true rfl, Nat.le_of_ble_eq_true rfl⟩ rfl ?_
  refine xw_aload_n (pc := 10) C 0 dX0_would_10 rfl ?_
  refine xw_iload_n (pc := 11) C 3 dX0_would_11 rfl ?_
  exact xt_V (pc := 12) (q0 := 0) (na := 1) (rest := []) C Zc X (m_X0_requirePlace_x hl (by omega) q hr_q hbad) gX0_would_X0_requirePlace rfl rfl rfl rfl (by decide +kernel) ⟨Nat.le_of_ble_eq_true rfl, Nat.le_of_ble_eq_true rfl⟩ rfl rfl rfl (Nat.le_of_ble_eq_true rfl) dX0_would_12 ⟨Nat.le_of_ble_eq_true rfl, Nat.le_of_ble_eq_true rfl⟩ ⟨Nat.le_of_ble_eq_true rfl, Nat.le_of_ble_eq_true rfl⟩

theorem m_X0_would_nIOB {l : Launch} {D : va_G} {cI : ClassId} {h a n p b w wi ni : Nat} {A : Nat → Nat} (hl : l.stackTraces = false) (hn : n = 4 ∨ n = 8 ∨ n = 16) (hp5 : p < 500) (hb5 : b < 5) (a1 : Int) (hr_a1 : (-2147483648 ≤ a1 ∧ a1 < 2147483648)) (b1 : Int) (hr_b1 : (-2147483648 ≤ b1 ∧ b1 < 2147483648)) (q : Int) (hr_q : (-2147483648 ≤ q ∧ q < 2147483648)) (hbad : ¬ ((0 ≤ a1 ∧ a1 < 4) ∧ (0 ≤ b1 ∧ b1 < 4) ∧ (0 ≤ q ∧ q < (n : Int)))) : CX l yX0_would wsX0_would (rmX 7 103) D vwCl [(cI, .int)] [.ref h, iV a1, iV b1, iV q] (wX cI h a n p b w wi ni A) nIOB 1 6 := by
  by_cases hc0 : (0 ≤ a1 ∧ a1 < 4)
  case neg => exact m_X0_would_x1 hl hn hp5 hb5 a1 hr_a1 b1 hr_b1 q hr_q hc0
  obtain ⟨n_a1, rfl⟩ : ∃ n_a1 : Nat, a1 = (n_a1 : Int) := ⟨a1.toNat, by omega⟩
  by_cases hc1 : (0 ≤ b1 ∧ b1 < 4)
  case neg => exact m_X0_would_x2 hl hn hp5 hb5 n_a1 (by omega) b1 hr_b1 q hr_q hc1
  obtain ⟨n_b1, rfl⟩ : ∃ n_b1 : Nat, b1 = (n_b1 : Int) := ⟨b1.toNat, by omega⟩
  exact m_X0_would_x3 hl hn hp5 hb5 n_a1 (by omega) n_b1 (by omega) q hr_q (fun hz9 => hbad ⟨hc0, hc1, hz9⟩)

set_option maxHeartbeats 4000000 in
set_option maxRecDepth 100000 in
theorem m_X0_comes_x1 {l : Launch} {D : va_G} {cI : ClassId} {h a n p b w wi ni : Nat} {A : Nat → Nat} (hl : l.stackTraces = false) (hn : n = 4 ∨ n = 8 ∨ n = 16) (hp5 : p < 500) (hb5 : b < 5) (a1 : Int) (hr_a1 : (-2147483648 ≤ a1 ∧ a1 < 2147483648)) (b1 : Int) (hr_b1 : (-2147483648 ≤ b1 ∧ b1 < 2147483648)) (hbad : ¬ (0 ≤ a1 ∧ a1 < 4)) : CX l yX0_comes wsX0_comes (rmX 7 103) D vwCl [(cI, .int)] [.ref h, iV a1, iV b1] (wX cI h a n p b w wi ni A) nIOB 1 6 := by
  refine ct_ofX (by decide) rfl (Nat.le_of_ble_eq_true rfl) (fun φ C Zc X => ?_)
  refine xw_le (lv' := [(0, .ref h), (1, iV a1), (2, iV b1)]) rfl ?_
  have hn3 := lt3 hn
  refine xw_aload_n (pc := 0) C 0 dX0_comes_0 rfl ?_
  refine xw_iload_n (pc := 1) C 1 dX0_comes_1 rfl ?_
  exact xt_V (pc := 2) (q0 := 0) (na := 1) (rest := []) C Zc X (m_X0_requireRow_x hl a1 hr_a1 hbad) gX0_comes_X0_requireRow rfl rfl rfl rfl (by decide +kernel) ⟨Nat.le_of_ble_eq_true rfl, Nat.le_of_ble_eq_true rfl⟩ rfl rfl rfl (Nat.le_of_ble_eq_true rfl) dX0_comes_2 ⟨Nat.le_of_ble_eq_true rfl, Nat.le_of_ble_eq_true rfl⟩ ⟨Nat.le_of_ble_eq_true rfl, Nat.le_of_ble_eq_true rfl⟩

set_option maxHeartbeats 4000000 in
set_option maxRecDepth 100000 in
theorem m_X0_comes_x2 {l : Launch} {D : va_G} {cI : ClassId} {h a n p b w wi ni : Nat} {A : Nat → Nat} (hl : l.stackTraces = false) (hn : n = 4 ∨ n = 8 ∨ n = 16) (hp5 : p < 500) (hb5 : b < 5) (a1 : Nat) (hg_a1 : (a1 < 4)) (b1 : Int) (hr_b1 : (-2147483648 ≤ b1 ∧ b1 < 2147483648)) (hbad : ¬ (0 ≤ b1 ∧ b1 < 4)) : CX l yX0_comes wsX0_comes (rmX 7 103) D vwCl [(cI, .int)] [.ref h, nV a1, iV b1] (wX cI h a n p b w wi ni A) nIOB 1 6 := by
  refine ct_ofX (by decide) rfl (Nat.le_of_ble_eq_true rfl) (fun φ C Zc X => ?_)
  refine xw_le (lv' := [(0, .ref h), (1, nV a1), (2, iV b1)]) rfl ?_
  have hn3 := lt3 hn
  refine xw_aload_n (pc := 0) C 0 dX0_comes_0 rfl ?_
  refine xw_iload_n (pc := 1) C 1 dX0_comes_1 rfl ?_
  refine xw_Vd (pc := 2) (q0 := 0) (na := 1) (rest := []) (st' := []) C (m_X0_requireRow a1 (by omega)) gX0_comes_X0_requireRow rfl rfl rfl rfl (by decide +kernel) ⟨Nat.le_of_ble_eq_true rfl, Nat.le_of_ble_eq_true rfl⟩ rfl rfl rfl (Nat.le_of_ble_eq_true rfl) dX0_comes_2 ⟨Nat.le_of_ble_eq_true rfl, Nat.le_of_ble_eq_true rfl⟩ rfl ?_
  refine xw_aload_n (pc := 5) C 0 dX0_comes_5 rfl ?_
  refine xw_iload_n (pc := 6) C 2 dX0_comes_6 rfl ?_
  exact xt_V (pc := 7) (q0 := 0) (na := 1) (rest := []) C Zc X (m_X0_requireRow_x hl b1 hr_b1 hbad) gX0_comes_X0_requireRow rfl rfl rfl rfl (by decide +kernel) ⟨Nat.le_of_ble_eq_true rfl, Nat.le_of_ble_eq_true rfl⟩ rfl rfl rfl (Nat.le_of_ble_eq_true rfl) dX0_comes_7 ⟨Nat.le_of_ble_eq_true rfl, Nat.le_of_ble_eq_true rfl⟩ ⟨Nat.le_of_ble_eq_true rfl, Nat.le_of_ble_eq_true rfl⟩

theorem m_X0_comes_nIOB {l : Launch} {D : va_G} {cI : ClassId} {h a n p b w wi ni : Nat} {A : Nat → Nat} (hl : l.stackTraces = false) (hn : n = 4 ∨ n = 8 ∨ n = 16) (hp5 : p < 500) (hb5 : b < 5) (a1 : Int) (hr_a1 : (-2147483648 ≤ a1 ∧ a1 < 2147483648)) (b1 : Int) (hr_b1 : (-2147483648 ≤ b1 ∧ b1 < 2147483648)) (hbad : ¬ ((0 ≤ a1 ∧ a1 < 4) ∧ (0 ≤ b1 ∧ b1 < 4))) : CX l yX0_comes wsX0_comes (rmX 7 103) D vwCl [(cI, .int)] [.ref h, iV a1, iV b1] (wX cI h a n p b w wi ni A) nIOB 1 6 := by
  by_cases hc0 : (0 ≤ a1 ∧ a1 < 4)
  case neg => exact m_X0_comes_x1 hl hn hp5 hb5 a1 hr_a1 b1 hr_b1 hc0
  obtain ⟨n_a1, rfl⟩ : ∃ n_a1 : Nat, a1 = (n_a1 : Int) := ⟨a1.toNat, by omega⟩
  exact m_X0_comes_x2 hl hn hp5 hb5 n_a1 (by omega) b1 hr_b1 (fun hz9 => hbad ⟨hc0, hz9⟩)

set_option maxHeartbeats 4000000 in
set_option maxRecDepth 100000 in
theorem m_X0_advise_x1 {l : Launch} {D : va_G} {cI : ClassId} {h a n p b w wi ni : Nat} {A : Nat → Nat} (hl : l.stackTraces = false) (hn : n = 4 ∨ n = 8 ∨ n = 16) (hp5 : p < 500) (hb5 : b < 5) (a1 : Int) (hr_a1 : (-2147483648 ≤ a1 ∧ a1 < 2147483648)) (b1 : Int) (hr_b1 : (-2147483648 ≤ b1 ∧ b1 < 2147483648)) (hbad : ¬ (0 ≤ a1 ∧ a1 < 4)) : CX l yX0_advise wsX0_advise (rmX 7 103) D vwCl [(cI, .int)] [.ref h, iV a1, iV b1] (wX cI h a n p b w wi ni A) nIOB 1 6 := by
  refine ct_ofX (by decide) rfl (Nat.le_of_ble_eq_true rfl) (fun φ C Zc X => ?_)
  refine xw_le (lv' := [(0, .ref h), (1, iV a1), (2, iV b1)]) rfl ?_
  have hn3 := lt3 hn
  refine xw_aload_n (pc := 0) C 0 dX0_advise_0 rfl ?_
  refine xw_iload_n (pc := 1) C 1 dX0_advise_1 rfl ?_
  exact xt_V (pc := 2) (q0 := 0) (na := 1) (rest := []) C Zc X (m_X0_requireRow_x hl a1 hr_a1 hbad) gX0_advise_X0_requireRow rfl rfl rfl rfl (by decide +kernel) ⟨Nat.le_of_ble_eq_true rfl, Nat.le_of_ble_eq_true rfl⟩ rfl rfl rfl (Nat.le_of_ble_eq_true rfl) dX0_advise_2 ⟨Nat.le_of_ble_eq_true rfl, Nat.le_of_ble_eq_true rfl⟩ ⟨Nat.le_of_ble_eq_true rfl, Nat.le_of_ble_eq_true rfl⟩

set_option maxHeartbeats 4000000 in
set_option maxRecDepth 100000 in
theorem m_X0_advise_x2 {l : Launch} {D : va_G} {cI : ClassId} {h a n p b w wi ni : Nat} {A : Nat → Nat} (hl : l.stackTraces = false) (hn : n = 4 ∨ n = 8 ∨ n = 16) (hp5 : p < 500) (hb5 : b < 5) (a1 : Nat) (hg_a1 : (a1 < 4)) (b1 : Int) (hr_b1 : (-2147483648 ≤ b1 ∧ b1 < 2147483648)) (hbad : ¬ (0 ≤ b1 ∧ b1 < 4)) : CX l yX0_advise wsX0_advise (rmX 7 103) D vwCl [(cI, .int)] [.ref h, nV a1, iV b1] (wX cI h a n p b w wi ni A) nIOB 1 6 := by
  refine ct_ofX (by decide) rfl (Nat.le_of_ble_eq_true rfl) (fun φ C Zc X => ?_)
  refine xw_le (lv' := [(0, .ref h), (1, nV a1), (2, iV b1)]) rfl ?_
  have hn3 := lt3 hn
  refine xw_aload_n (pc := 0) C 0 dX0_advise_0 rfl ?_
  refine xw_iload_n (pc := 1) C 1 dX0_advise_1 rfl ?_
  refine xw_Vd (pc := 2) (q0 := 0) (na := 1) (rest := []) (st' := []) C (m_X0_requireRow a1 (by omega)) gX0_advise_X0_requireRow rfl rfl rfl rfl (by decide +kernel) ⟨Nat.le_of_ble_eq_true rfl, Nat.le_of_ble_eq_true rfl⟩ rfl rfl rfl (Nat.le_of_ble_eq_true rfl) dX0_advise_2 ⟨Nat.le_of_ble_eq_true rfl, Nat.le_of_ble_eq_true rfl⟩ rfl ?_
  refine xw_aload_n (pc := 5) C 0 dX0_advise_5 rfl ?_
  refine xw_iload_n (pc := 6) C 2 dX0_advise_6 rfl ?_
  exact xt_V (pc := 7) (q0 := 0) (na := 1) (rest := []) C Zc X (m_X0_requireRow_x hl b1 hr_b1 hbad) gX0_advise_X0_requireRow rfl rfl rfl rfl (by decide +kernel) ⟨Nat.le_of_ble_eq_true rfl, Nat.le_of_ble_eq_true rfl⟩ rfl rfl rfl (Nat.le_of_ble_eq_true rfl) dX0_advise_7 ⟨Nat.le_of_ble_eq_true rfl, Nat.le_of_ble_eq_true rfl⟩ ⟨Nat.le_of_ble_eq_true rfl, Nat.le_of_ble_eq_true rfl⟩

theorem m_X0_advise_nIOB {l : Launch} {D : va_G} {cI : ClassId} {h a n p b w wi ni : Nat} {A : Nat → Nat} (hl : l.stackTraces = false) (hn : n = 4 ∨ n = 8 ∨ n = 16) (hp5 : p < 500) (hb5 : b < 5) (a1 : Int) (hr_a1 : (-2147483648 ≤ a1 ∧ a1 < 2147483648)) (b1 : Int) (hr_b1 : (-2147483648 ≤ b1 ∧ b1 < 2147483648)) (hbad : ¬ ((0 ≤ a1 ∧ a1 < 4) ∧ (0 ≤ b1 ∧ b1 < 4))) : CX l yX0_advise wsX0_advise (rmX 7 103) D vwCl [(cI, .int)] [.ref h, iV a1, iV b1] (wX cI h a n p b w wi ni A) nIOB 1 6 := by
  by_cases hc0 : (0 ≤ a1 ∧ a1 < 4)
  case neg => exact m_X0_advise_x1 hl hn hp5 hb5 a1 hr_a1 b1 hr_b1 hc0
  obtain ⟨n_a1, rfl⟩ : ∃ n_a1 : Nat, a1 = (n_a1 : Int) := ⟨a1.toNat, by omega⟩
  exact m_X0_advise_x2 hl hn hp5 hb5 n_a1 (by omega) b1 hr_b1 (fun hz9 => hbad ⟨hc0, hz9⟩)

set_option maxHeartbeats 4000000 in
set_option maxRecDepth 100000 in
theorem m_X0_tones_x1 {l : Launch} {D : va_G} {cI : ClassId} {h a n p b w wi ni : Nat} {A : Nat → Nat} (hl : l.stackTraces = false) (hn : n = 4 ∨ n = 8 ∨ n = 16) (hp5 : p < 500) (hb5 : b < 5) (a1 : Int) (hr_a1 : (-2147483648 ≤ a1 ∧ a1 < 2147483648)) (b1 : Int) (hr_b1 : (-2147483648 ≤ b1 ∧ b1 < 2147483648)) (hbad : ¬ (0 ≤ a1 ∧ a1 < 4)) : CX l yX0_tones wsX0_tones (rmX 7 103) D vwCl [(cI, .int)] [.ref h, iV a1, iV b1] (wX cI h a n p b w wi ni A) nIOB 1 6 := by
  refine ct_ofX (by decide) rfl (Nat.le_of_ble_eq_true rfl) (fun φ C Zc X => ?_)
  refine xw_le (lv' := [(0, .ref h), (1, iV a1), (2, iV b1)]) rfl ?_
  have hn3 := lt3 hn
  refine xw_aload_n (pc := 0) C 0 dX0_tones_0 rfl ?_
  refine xw_iload_n (pc := 1) C 1 dX0_tones_1 rfl ?_
  exact xt_V (pc := 2) (q0 := 0) (na := 1) (rest := []) C Zc X (m_X0_requireRow_x hl a1 hr_a1 hbad) gX0_tones_X0_requireRow rfl rfl rfl rfl (by decide +kernel) ⟨Nat.le_of_ble_eq_true rfl, Nat.le_of_ble_eq_true rfl⟩ rfl rfl rfl (Nat.le_of_ble_eq_true rfl) dX0_tones_2 ⟨Nat.le_of_ble_eq_true rfl, Nat.le_of_ble_eq_true rfl⟩ ⟨Nat.le_of_ble_eq_true rfl, Nat.le_of_ble_eq_true rfl⟩

set_option maxHeartbeats 4000000 in
set_option maxRecDepth 100000 in
theorem m_X0_tones_x2 {l : Launch} {D : va_G} {cI : ClassId} {h a n p b w wi ni : Nat} {A : Nat → Nat} (hl : l.stackTraces = false) (hn : n = 4 ∨ n = 8 ∨ n = 16) (hp5 : p < 500) (hb5 : b < 5) (a1 : Nat) (hg_a1 : (a1 < 4)) (b1 : Int) (hr_b1 : (-2147483648 ≤ b1 ∧ b1 < 2147483648)) (hbad : ¬ (0 ≤ b1 ∧ b1 < 4)) : CX l yX0_tones wsX0_tones (rmX 7 103) D vwCl [(cI, .int)] [.ref h, nV a1, iV b1] (wX cI h a n p b w wi ni A) nIOB 1 6 := by
  refine ct_ofX (by decide) rfl (Nat.le_of_ble_eq_true rfl) (fun φ C Zc X => ?_)
  refine xw_le (lv' := [(0, .ref h), (1, nV a1), (2, iV b1)]) rfl ?_
  have hn3 := lt3 hn
  refine xw_aload_n (pc := 0) C 0 dX0_tones_0 rfl ?_
  refine xw_iload_n (pc := 1) C 1 dX0_tones_1 rfl ?_
  refine xw_Vd (pc := 2) (q0 := 0) (na := 1) (rest := []) (st' := []) C (m_X0_requireRow a1 (by omega)) gX0_tones_X0_requireRow rfl rfl rfl rfl (by decide +kernel) ⟨Nat.le_of_ble_eq_true rfl, Nat.le_of_ble_eq_true rfl⟩ rfl rfl rfl (Nat.le_of_ble_eq_true rfl) dX0_tones_2 ⟨Nat.le_of_ble_eq_true rfl, Nat.le_of_ble_eq_true rfl⟩ rfl ?_
  refine xw_aload_n (pc := 5) C 0 dX0_tones_5 rfl ?_
  refine xw_iload_n (pc := 6) C 2 dX0_tones_6 rfl ?_
  exact xt_V (pc := 7) (q0 := 0) (na := 1) (rest := []) C Zc X (m_X0_requireRow_x hl b1 hr_b1 hbad) gX0_tones_X0_requireRow rfl rfl rfl rfl (by decide +kernel) ⟨Nat.le_of_ble_eq_true rfl, Nat.le_of_ble_eq_true rfl⟩ rfl rfl rfl (Nat.le_of_ble_eq_true rfl) dX0_tones_7 ⟨Nat.le_of_ble_eq_true rfl, Nat.le_of_ble_eq_true rfl⟩ ⟨Nat.le_of_ble_eq_true rfl, Nat.le_of_ble_eq_true rfl⟩

theorem m_X0_tones_nIOB {l : Launch} {D : va_G} {cI : ClassId} {h a n p b w wi ni : Nat} {A : Nat → Nat} (hl : l.stackTraces = false) (hn : n = 4 ∨ n = 8 ∨ n = 16) (hp5 : p < 500) (hb5 : b < 5) (a1 : Int) (hr_a1 : (-2147483648 ≤ a1 ∧ a1 < 2147483648)) (b1 : Int) (hr_b1 : (-2147483648 ≤ b1 ∧ b1 < 2147483648)) (hbad : ¬ ((0 ≤ a1 ∧ a1 < 4) ∧ (0 ≤ b1 ∧ b1 < 4))) : CX l yX0_tones wsX0_tones (rmX 7 103) D vwCl [(cI, .int)] [.ref h, iV a1, iV b1] (wX cI h a n p b w wi ni A) nIOB 1 6 := by
  by_cases hc0 : (0 ≤ a1 ∧ a1 < 4)
  case neg => exact m_X0_tones_x1 hl hn hp5 hb5 a1 hr_a1 b1 hr_b1 hc0
  obtain ⟨n_a1, rfl⟩ : ∃ n_a1 : Nat, a1 = (n_a1 : Int) := ⟨a1.toNat, by omega⟩
  exact m_X0_tones_x2 hl hn hp5 hb5 n_a1 (by omega) b1 hr_b1 (fun hz9 => hbad ⟨hc0, hz9⟩)

set_option maxHeartbeats 4000000 in
set_option maxRecDepth 100000 in
theorem m_X0_mean_x1 {l : Launch} {D : va_G} {cI : ClassId} {h a n p b w wi ni : Nat} {A : Nat → Nat} (hl : l.stackTraces = false) (hn : n = 4 ∨ n = 8 ∨ n = 16) (hp5 : p < 500) (hb5 : b < 5) (r : Int) (hr_r : (-2147483648 ≤ r ∧ r < 2147483648)) (hbad : ¬ (0 ≤ r ∧ r < 4)) : CX l yX0_mean wsX0_mean (rmX 7 103) D vwCl [(cI, .int)] [.ref h, iV r] (wX cI h a n p b w wi ni A) nIOB 1 6 := by
  refine ct_ofX (by decide) rfl (Nat.le_of_ble_eq_true rfl) (fun φ C Zc X => ?_)
  refine xw_le (lv' := [(0, .ref h), (1, iV r)]) rfl ?_
  have hn3 := lt3 hn
  refine xw_aload_n (pc := 0) C 0 dX0_mean_0 rfl ?_
  refine xw_iload_n (pc := 1) C 1 dX0_mean_1 rfl ?_
  exact xt_V (pc := 2) (q0 := 0) (na := 1) (rest := []) C Zc X (m_X0_requireRow_x hl r hr_r hbad) gX0_mean_X0_requireRow rfl rfl rfl rfl (by decide +kernel) ⟨Nat.le_of_ble_eq_true rfl, Nat.le_of_ble_eq_true rfl⟩ rfl rfl rfl (Nat.le_of_ble_eq_true rfl) dX0_mean_2 ⟨Nat.le_of_ble_eq_true rfl, Nat.le_of_ble_eq_true rfl⟩ ⟨Nat.le_of_ble_eq_true rfl, Nat.le_of_ble_eq_true rfl⟩

theorem m_X0_mean_nIOB {l : Launch} {D : va_G} {cI : ClassId} {h a n p b w wi ni : Nat} {A : Nat → Nat} (hl : l.stackTraces = false) (hn : n = 4 ∨ n = 8 ∨ n = 16) (hp5 : p < 500) (hb5 : b < 5) (r : Int) (hr_r : (-2147483648 ≤ r ∧ r < 2147483648)) (hbad : ¬ ((0 ≤ r ∧ r < 4))) : CX l yX0_mean wsX0_mean (rmX 7 103) D vwCl [(cI, .int)] [.ref h, iV r] (wX cI h a n p b w wi ni A) nIOB 1 6 := by
  exact m_X0_mean_x1 hl hn hp5 hb5 r hr_r (fun hz9 => hbad hz9)

theorem rgP {n1 p1 : Nat} (h : 1 ≤ p1) (h2 : (p1 - 1) % n1 = 0) : ((p1 : Int) - 1) % (n1 : Int) = 0 := by
  rw [show ((p1 : Int) - 1) = ((p1 - 1 : Nat) : Int) by omega, ← Int.natCast_emod, h2]; rfl
set_option maxHeartbeats 4000000 in
set_option maxRecDepth 100000 in
theorem m_X0_ring_nIAE {l : Launch} {D : va_G} {cI : ClassId} {h a n p b w wi ni : Nat} {A : Nat → Nat} (hl : l.stackTraces = false) (z1 z2 : Int) (h1 : (-2147483648 ≤ z1 ∧ z1 < 2147483648)) (h2 : (-2147483648 ≤ z2 ∧ z2 < 2147483648)) (hbad : ¬ ((z1 = 4 ∨ z1 = 8 ∨ z1 = 16) ∧ (5 ≤ z2 ∧ z2 ≤ 499) ∧ prm z2.toNat = true ∧ (z2 - 1) % z1 = 0)) : CX l yX0_ring wsX0_ring (rmX 6 82) D vwCl [(cI, .int)] [.ref h, iV z1, iV z2] (wX cI h a n p b w wi ni A) nIAE 1 6 := by
  refine ct_ofX (by decide) rfl (Nat.le_of_ble_eq_true rfl) (fun φ C Zc X => ?_)
  have hthr : ∀ w ∈ (vx_atS RX0 32 nIAE nUp).filter goodWord, w ∈ wsX0_ring := by decide +kernel
  refine xw_le (lv' := [(0, .ref h), (1, iV z1), (2, iV z2)]) rfl ?_
  refine xw_iload_n (pc := 0) C 1 dX0_ring_0 rfl ?_
  refine xw_Sd (pc := 1) (na := 1) (rest := []) (st' := [bV (decide (z1 = 4 ∨ z1 = 8 ∨ z1 = 16))]) C (m_X0_isLength (z1) (by omega)) gX0_ring_X0_isLength rfl rfl rfl rfl (by decide +kernel) ⟨Nat.le_of_ble_eq_true rfl, Nat.le_of_ble_eq_true rfl⟩ rfl (Nat.le_of_ble_eq_true rfl) dX0_ring_1 ⟨Nat.le_of_ble_eq_true rfl, Nat.le_of_ble_eq_true rfl⟩ rfl ?_
  refine xw_if_eq_B (pc := 4) (tgt := 24) C dX0_ring_4 (by decide)  (fun c_1 => ?_) (fun c_1 => ?_)
  ·
    exact xt_throw (pc := 24) (ik := 28) (is := 30) (ic := 32) (text := "no such ring") C Zc X hl (by decide +kernel) (by decide +kernel) (by decide +kernel) (fun w hw => hthr w hw) (fun w hw => List.mem_append_left _ hw) (by decide +kernel) (by decide) dX0_ring_24 dX0_ring_27 dX0_ring_28 dX0_ring_30 dX0_ring_33 (Nat.le_of_ble_eq_true rfl) (Nat.le_of_ble_eq_true rfl) (Nat.le_of_ble_eq_true rfl) (Nat.le_of_ble_eq_true rfl) (Nat.le_of_ble_eq_true rfl) (Nat.le_of_ble_eq_true rfl)
  ·
    refine xw_iload_n (pc := 7) C 2 dX0_ring_7 rfl ?_
    refine xw_Sd (pc := 8) (na := 1) (rest := []) (st' := [bV (decide (5 ≤ z2 ∧ z2 ≤ 499) && prm z2.toNat)]) C (m_X0_isPrimeOfRing (z2) (by omega)) gX0_ring_X0_isPrimeOfRing rfl rfl rfl rfl (by decide +kernel) ⟨Nat.le_of_ble_eq_true rfl, Nat.le_of_ble_eq_true rfl⟩ rfl (Nat.le_of_ble_eq_true rfl) dX0_ring_8 ⟨Nat.le_of_ble_eq_true rfl, Nat.le_of_ble_eq_true rfl⟩ rfl ?_
    refine xw_if_eq_B (pc := 11) (tgt := 24) C dX0_ring_11 (by decide)  (fun c_2 => ?_) (fun c_2 => ?_)
    ·
      exact xt_throw (pc := 24) (ik := 28) (is := 30) (ic := 32) (text := "no such ring") C Zc X hl (by decide +kernel) (by decide +kernel) (by decide +kernel) (fun w hw => hthr w hw) (fun w hw => List.mem_append_left _ hw) (by decide +kernel) (by decide) dX0_ring_24 dX0_ring_27 dX0_ring_28 dX0_ring_30 dX0_ring_33 (Nat.le_of_ble_eq_true rfl) (Nat.le_of_ble_eq_true rfl) (Nat.le_of_ble_eq_true rfl) (Nat.le_of_ble_eq_true rfl) (Nat.le_of_ble_eq_true rfl) (Nat.le_of_ble_eq_true rfl)
    ·
      have hz1 := of_decide_eq_true c_1
      have hz2 := c_2
      rw [Bool.and_eq_true, decide_eq_true_iff] at hz2
      obtain ⟨n1, rfl⟩ : ∃ n1 : Nat, z1 = (n1 : Int) := ⟨z1.toNat, by omega⟩
      obtain ⟨p1, rfl⟩ : ∃ p1 : Nat, z2 = (p1 : Int) := ⟨z2.toNat, by omega⟩
      refine xw_iload_n (pc := 14) C 1 dX0_ring_14 rfl ?_
      refine xw_iload_n (pc := 15) C 2 dX0_ring_15 rfl ?_
      refine xw_iconst_N (pc := 16) C 1 dX0_ring_16 rfl ?_
      refine xw_isub_N (pc := 17) C dX0_ring_17 (by omega) ?_
      refine xw_Sd (pc := 18) (na := 2) (rest := []) (st' := [bV (decide ((p1 - 1) % n1 = 0))]) C (m_X0_divides n1 (p1 - 1) (by omega) (by omega) (by omega)) gX0_ring_X0_divides rfl rfl rfl rfl (by decide +kernel) ⟨Nat.le_of_ble_eq_true rfl, Nat.le_of_ble_eq_true rfl⟩ rfl (Nat.le_of_ble_eq_true rfl) dX0_ring_18 ⟨Nat.le_of_ble_eq_true rfl, Nat.le_of_ble_eq_true rfl⟩ rfl ?_
      refine xw_if_ne_B (pc := 21) (tgt := 34) C dX0_ring_21 (by decide)  (fun c_3 => (by exact absurd ⟨hz1, hz2.1, hz2.2, rgP (by omega) (of_decide_eq_true c_3)⟩ hbad)) (fun c_3 => ?_)
      exact xt_throw (pc := 24) (ik := 28) (is := 30) (ic := 32) (text := "no such ring") C Zc X hl (by decide +kernel) (by decide +kernel) (by decide +kernel) (fun w hw => hthr w hw) (fun w hw => List.mem_append_left _ hw) (by decide +kernel) (by decide) dX0_ring_24 dX0_ring_27 dX0_ring_28 dX0_ring_30 dX0_ring_33 (Nat.le_of_ble_eq_true rfl) (Nat.le_of_ble_eq_true rfl) (Nat.le_of_ble_eq_true rfl) (Nat.le_of_ble_eq_true rfl) (Nat.le_of_ble_eq_true rfl) (Nat.le_of_ble_eq_true rfl)
