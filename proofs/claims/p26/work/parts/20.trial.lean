/-! ===== the model's numbers; what only trial shows of primes below 500 ===== -/
def eu : Nat → Nat → Nat → Int → Int → Int
  | 0, _, _, oa, _ => oa
  | f + 1, a, b, oa, ob => if b = 0 then oa else eu f b (a - a / b * b) ob (oa - ((a / b : Nat) : Int) * ob)
def eub : Nat → Nat → Nat → Int → Int → Bool
  | 0, _, _, _, _ => false
  | f + 1, a, b, oa, ob => decide (a < 500 ∧ b < 500 ∧ -500 ≤ oa ∧ oa ≤ 500) && (decide (b = 0) || eub f b (a - a / b * b) ob (oa - ((a / b : Nat) : Int) * ob))
def ck (p v : Nat) : Bool := eub 16 p v 0 1 && decide (Int.tmod (Int.tmod (eu 16 p v 0 1) (p : Int) + (p : Int)) (p : Int) = ((v ^ (p - 2) % p : Nat) : Int)) && decide (v ^ (p - 1) % p = 1)
def ckp (p : Nat) : Bool := !(decide (5 ≤ p) && prm p) || (List.range p).all (fun v => decide (v = 0) || ck p v)
def rck (n p : Nat) : Bool := (List.range (rt n p)).all (fun c => decide (c = 0) || decide (od p c ≠ n)) && decide (od p (rt n p) = n) && decide (rt n p < p) && decide (1 ≤ rt n p)
def rcp (n p : Nat) : Bool := !(decide (5 ≤ p) && prm p && decide ((p - 1) % n = 0)) || rck n p
set_option maxRecDepth 100000 in
theorem cks_0 : (List.range 10).all (fun q => ckp (q + 0)) = true := by decide +kernel
set_option maxRecDepth 100000 in
theorem cks_1 : (List.range 10).all (fun q => ckp (q + 10)) = true := by decide +kernel
set_option maxRecDepth 100000 in
theorem cks_2 : (List.range 10).all (fun q => ckp (q + 20)) = true := by decide +kernel
set_option maxRecDepth 100000 in
theorem cks_3 : (List.range 10).all (fun q => ckp (q + 30)) = true := by decide +kernel
set_option maxRecDepth 100000 in
theorem cks_4 : (List.range 10).all (fun q => ckp (q + 40)) = true := by decide +kernel
set_option maxRecDepth 100000 in
theorem cks_5 : (List.range 10).all (fun q => ckp (q + 50)) = true := by decide +kernel
set_option maxRecDepth 100000 in
theorem cks_6 : (List.range 10).all (fun q => ckp (q + 60)) = true := by decide +kernel
set_option maxRecDepth 100000 in
theorem cks_7 : (List.range 10).all (fun q => ckp (q + 70)) = true := by decide +kernel
set_option maxRecDepth 100000 in
theorem cks_8 : (List.range 10).all (fun q => ckp (q + 80)) = true := by decide +kernel
set_option maxRecDepth 100000 in
theorem cks_9 : (List.range 10).all (fun q => ckp (q + 90)) = true := by decide +kernel
set_option maxRecDepth 100000 in
theorem cks_10 : (List.range 10).all (fun q => ckp (q + 100)) = true := by decide +kernel
set_option maxRecDepth 100000 in
theorem cks_11 : (List.range 10).all (fun q => ckp (q + 110)) = true := by decide +kernel
set_option maxRecDepth 100000 in
theorem cks_12 : (List.range 10).all (fun q => ckp (q + 120)) = true := by decide +kernel
set_option maxRecDepth 100000 in
theorem cks_13 : (List.range 10).all (fun q => ckp (q + 130)) = true := by decide +kernel
set_option maxRecDepth 100000 in
theorem cks_14 : (List.range 10).all (fun q => ckp (q + 140)) = true := by decide +kernel
set_option maxRecDepth 100000 in
theorem cks_15 : (List.range 10).all (fun q => ckp (q + 150)) = true := by decide +kernel
set_option maxRecDepth 100000 in
theorem cks_16 : (List.range 10).all (fun q => ckp (q + 160)) = true := by decide +kernel
set_option maxRecDepth 100000 in
theorem cks_17 : (List.range 10).all (fun q => ckp (q + 170)) = true := by decide +kernel
set_option maxRecDepth 100000 in
theorem cks_18 : (List.range 10).all (fun q => ckp (q + 180)) = true := by decide +kernel
set_option maxRecDepth 100000 in
theorem cks_19 : (List.range 10).all (fun q => ckp (q + 190)) = true := by decide +kernel
set_option maxRecDepth 100000 in
theorem cks_20 : (List.range 10).all (fun q => ckp (q + 200)) = true := by decide +kernel
set_option maxRecDepth 100000 in
theorem cks_21 : (List.range 10).all (fun q => ckp (q + 210)) = true := by decide +kernel
set_option maxRecDepth 100000 in
theorem cks_22 : (List.range 10).all (fun q => ckp (q + 220)) = true := by decide +kernel
set_option maxRecDepth 100000 in
theorem cks_23 : (List.range 10).all (fun q => ckp (q + 230)) = true := by decide +kernel
set_option maxRecDepth 100000 in
theorem cks_24 : (List.range 10).all (fun q => ckp (q + 240)) = true := by decide +kernel
set_option maxRecDepth 100000 in
theorem cks_25 : (List.range 10).all (fun q => ckp (q + 250)) = true := by decide +kernel
set_option maxRecDepth 100000 in
theorem cks_26 : (List.range 10).all (fun q => ckp (q + 260)) = true := by decide +kernel
set_option maxRecDepth 100000 in
theorem cks_27 : (List.range 10).all (fun q => ckp (q + 270)) = true := by decide +kernel
set_option maxRecDepth 100000 in
theorem cks_28 : (List.range 10).all (fun q => ckp (q + 280)) = true := by decide +kernel
set_option maxRecDepth 100000 in
theorem cks_29 : (List.range 10).all (fun q => ckp (q + 290)) = true := by decide +kernel
set_option maxRecDepth 100000 in
theorem cks_30 : (List.range 10).all (fun q => ckp (q + 300)) = true := by decide +kernel
set_option maxRecDepth 100000 in
theorem cks_31 : (List.range 10).all (fun q => ckp (q + 310)) = true := by decide +kernel
set_option maxRecDepth 100000 in
theorem cks_32 : (List.range 10).all (fun q => ckp (q + 320)) = true := by decide +kernel
set_option maxRecDepth 100000 in
theorem cks_33 : (List.range 10).all (fun q => ckp (q + 330)) = true := by decide +kernel
set_option maxRecDepth 100000 in
theorem cks_34 : (List.range 10).all (fun q => ckp (q + 340)) = true := by decide +kernel
set_option maxRecDepth 100000 in
theorem cks_35 : (List.range 10).all (fun q => ckp (q + 350)) = true := by decide +kernel
set_option maxRecDepth 100000 in
theorem cks_36 : (List.range 10).all (fun q => ckp (q + 360)) = true := by decide +kernel
set_option maxRecDepth 100000 in
theorem cks_37 : (List.range 10).all (fun q => ckp (q + 370)) = true := by decide +kernel
set_option maxRecDepth 100000 in
theorem cks_38 : (List.range 10).all (fun q => ckp (q + 380)) = true := by decide +kernel
set_option maxRecDepth 100000 in
theorem cks_39 : (List.range 10).all (fun q => ckp (q + 390)) = true := by decide +kernel
set_option maxRecDepth 100000 in
theorem cks_40 : (List.range 10).all (fun q => ckp (q + 400)) = true := by decide +kernel
set_option maxRecDepth 100000 in
theorem cks_41 : (List.range 10).all (fun q => ckp (q + 410)) = true := by decide +kernel
set_option maxRecDepth 100000 in
theorem cks_42 : (List.range 10).all (fun q => ckp (q + 420)) = true := by decide +kernel
set_option maxRecDepth 100000 in
theorem cks_43 : (List.range 10).all (fun q => ckp (q + 430)) = true := by decide +kernel
set_option maxRecDepth 100000 in
theorem cks_44 : (List.range 10).all (fun q => ckp (q + 440)) = true := by decide +kernel
set_option maxRecDepth 100000 in
theorem cks_45 : (List.range 10).all (fun q => ckp (q + 450)) = true := by decide +kernel
set_option maxRecDepth 100000 in
theorem cks_46 : (List.range 10).all (fun q => ckp (q + 460)) = true := by decide +kernel
set_option maxRecDepth 100000 in
theorem cks_47 : (List.range 10).all (fun q => ckp (q + 470)) = true := by decide +kernel
set_option maxRecDepth 100000 in
theorem cks_48 : (List.range 10).all (fun q => ckp (q + 480)) = true := by decide +kernel
set_option maxRecDepth 100000 in
theorem cks_49 : (List.range 10).all (fun q => ckp (q + 490)) = true := by decide +kernel
set_option maxRecDepth 100000 in
theorem rcs_4_0 : (List.range 50).all (fun q => rcp 4 (q + 0)) = true := by decide +kernel
set_option maxRecDepth 100000 in
theorem rcs_4_1 : (List.range 50).all (fun q => rcp 4 (q + 50)) = true := by decide +kernel
set_option maxRecDepth 100000 in
theorem rcs_4_2 : (List.range 50).all (fun q => rcp 4 (q + 100)) = true := by decide +kernel
set_option maxRecDepth 100000 in
theorem rcs_4_3 : (List.range 50).all (fun q => rcp 4 (q + 150)) = true := by decide +kernel
set_option maxRecDepth 100000 in
theorem rcs_4_4 : (List.range 50).all (fun q => rcp 4 (q + 200)) = true := by decide +kernel
set_option maxRecDepth 100000 in
theorem rcs_4_5 : (List.range 50).all (fun q => rcp 4 (q + 250)) = true := by decide +kernel
set_option maxRecDepth 100000 in
theorem rcs_4_6 : (List.range 50).all (fun q => rcp 4 (q + 300)) = true := by decide +kernel
set_option maxRecDepth 100000 in
theorem rcs_4_7 : (List.range 50).all (fun q => rcp 4 (q + 350)) = true := by decide +kernel
set_option maxRecDepth 100000 in
theorem rcs_4_8 : (List.range 50).all (fun q => rcp 4 (q + 400)) = true := by decide +kernel
set_option maxRecDepth 100000 in
theorem rcs_4_9 : (List.range 50).all (fun q => rcp 4 (q + 450)) = true := by decide +kernel
set_option maxRecDepth 100000 in
theorem rcs_8_0 : (List.range 50).all (fun q => rcp 8 (q + 0)) = true := by decide +kernel
set_option maxRecDepth 100000 in
theorem rcs_8_1 : (List.range 50).all (fun q => rcp 8 (q + 50)) = true := by decide +kernel
set_option maxRecDepth 100000 in
theorem rcs_8_2 : (List.range 50).all (fun q => rcp 8 (q + 100)) = true := by decide +kernel
set_option maxRecDepth 100000 in
theorem rcs_8_3 : (List.range 50).all (fun q => rcp 8 (q + 150)) = true := by decide +kernel
set_option maxRecDepth 100000 in
theorem rcs_8_4 : (List.range 50).all (fun q => rcp 8 (q + 200)) = true := by decide +kernel
set_option maxRecDepth 100000 in
theorem rcs_8_5 : (List.range 50).all (fun q => rcp 8 (q + 250)) = true := by decide +kernel
set_option maxRecDepth 100000 in
theorem rcs_8_6 : (List.range 50).all (fun q => rcp 8 (q + 300)) = true := by decide +kernel
set_option maxRecDepth 100000 in
theorem rcs_8_7 : (List.range 50).all (fun q => rcp 8 (q + 350)) = true := by decide +kernel
set_option maxRecDepth 100000 in
theorem rcs_8_8 : (List.range 50).all (fun q => rcp 8 (q + 400)) = true := by decide +kernel
set_option maxRecDepth 100000 in
theorem rcs_8_9 : (List.range 50).all (fun q => rcp 8 (q + 450)) = true := by decide +kernel
set_option maxRecDepth 100000 in
theorem rcs_16_0 : (List.range 50).all (fun q => rcp 16 (q + 0)) = true := by decide +kernel
set_option maxRecDepth 100000 in
theorem rcs_16_1 : (List.range 50).all (fun q => rcp 16 (q + 50)) = true := by decide +kernel
set_option maxRecDepth 100000 in
theorem rcs_16_2 : (List.range 50).all (fun q => rcp 16 (q + 100)) = true := by decide +kernel
set_option maxRecDepth 100000 in
theorem rcs_16_3 : (List.range 50).all (fun q => rcp 16 (q + 150)) = true := by decide +kernel
set_option maxRecDepth 100000 in
theorem rcs_16_4 : (List.range 50).all (fun q => rcp 16 (q + 200)) = true := by decide +kernel
set_option maxRecDepth 100000 in
theorem rcs_16_5 : (List.range 50).all (fun q => rcp 16 (q + 250)) = true := by decide +kernel
set_option maxRecDepth 100000 in
theorem rcs_16_6 : (List.range 50).all (fun q => rcp 16 (q + 300)) = true := by decide +kernel
set_option maxRecDepth 100000 in
theorem rcs_16_7 : (List.range 50).all (fun q => rcp 16 (q + 350)) = true := by decide +kernel
set_option maxRecDepth 100000 in
theorem rcs_16_8 : (List.range 50).all (fun q => rcp 16 (q + 400)) = true := by decide +kernel
set_option maxRecDepth 100000 in
theorem rcs_16_9 : (List.range 50).all (fun q => rcp 16 (q + 450)) = true := by decide +kernel
