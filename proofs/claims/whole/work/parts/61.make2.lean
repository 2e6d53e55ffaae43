theorem wd_ai : Cond.arrayClass .int ∈ BG := bg_of 118 (by decide +kernel) rfl
theorem wd_az : Cond.arrayClass .boolean ∈ BG := bg_of 688 (by decide +kernel) rfl
def blX0 : List Value := [.null, .null, .null, .null, .int 0, .int 0]
theorem blX0_ok : ∀ j, j < 6 → defaultValue (tyX0 j) = vp_V blX0 j := by
  intro j hj
  rcases (show j = 0 ∨ j = 1 ∨ j = 2 ∨ j = 3 ∨ j = 4 ∨ j = 5 by omega) with rfl | rfl | rfl | rfl | rfl | rfl <;> rfl
theorem wn_X0 : Cond.instantiable RX0 6 ∈ BG := bg_of 157 (by decide +kernel) rfl
theorem wi_X0 : Cond.initialized RX0 ∈ BG := bg_of 53 (by decide +kernel) rfl
theorem wm_X0 : Cond.instanceMethod yX0_init ∈ BG := bg_of 159 (by decide +kernel) rfl
theorem wc_X0 : Cond.code yX0_init cX0_init 1 none ∈ BG := bg_of 160 (by decide +kernel) rfl
theorem wo_X0 : Cond.methodLink RX0 3 objectInit ∈ BG := bg_of 161 (by decide +kernel) rfl
def blX1 : List Value := [.int 0, .int 0, .null, .null, .null, .null, .null, .null]
theorem blX1_ok : ∀ j, j < 8 → defaultValue (tyX1 j) = vp_V blX1 j := by
  intro j hj
  rcases (show j = 0 ∨ j = 1 ∨ j = 2 ∨ j = 3 ∨ j = 4 ∨ j = 5 ∨ j = 6 ∨ j = 7 by omega) with rfl | rfl | rfl | rfl | rfl | rfl | rfl | rfl <;> rfl
theorem wn_X1 : Cond.instantiable RX1 8 ∈ BG := bg_of 78 (by decide +kernel) rfl
theorem wi_X1 : Cond.initialized RX1 ∈ BG := bg_of 51 (by decide +kernel) rfl
theorem wm_X1 : Cond.instanceMethod yX1_init ∈ BG := bg_of 80 (by decide +kernel) rfl
theorem wc_X1 : Cond.code yX1_init cX1_init 1 none ∈ BG := bg_of 81 (by decide +kernel) rfl
theorem wo_X1 : Cond.methodLink RX1 3 objectInit ∈ BG := bg_of 82 (by decide +kernel) rfl
def blX2 : List Value := [.null]
theorem blX2_ok : ∀ j, j < 1 → defaultValue (tyX2 j) = vp_V blX2 j := by
  intro j hj
  rcases (show j = 0 by omega) with rfl <;> rfl
theorem wn_X2 : Cond.instantiable RX2 1 ∈ BG := bg_of 71 (by decide +kernel) rfl
theorem wi_X2 : Cond.initialized RX2 ∈ BG := bg_of 50 (by decide +kernel) rfl
theorem wm_X2 : Cond.instanceMethod yX2_init ∈ BG := bg_of 73 (by decide +kernel) rfl
theorem wc_X2 : Cond.code yX2_init cX2_init 2 none ∈ BG := bg_of 74 (by decide +kernel) rfl
theorem wo_X2 : Cond.methodLink RX2 3 objectInit ∈ BG := bg_of 75 (by decide +kernel) rfl
def blX3 : List Value := [.int 0, .null, .null, .null, .int 0, .int 0, .int 0]
theorem blX3_ok : ∀ j, j < 7 → defaultValue (tyX3 j) = vp_V blX3 j := by
  intro j hj
  rcases (show j = 0 ∨ j = 1 ∨ j = 2 ∨ j = 3 ∨ j = 4 ∨ j = 5 ∨ j = 6 by omega) with rfl | rfl | rfl | rfl | rfl | rfl | rfl <;> rfl
theorem wn_X3 : Cond.instantiable RX3 7 ∈ BG := bg_of 126 (by decide +kernel) rfl
theorem wi_X3 : Cond.initialized RX3 ∈ BG := bg_of 52 (by decide +kernel) rfl
theorem wm_X3 : Cond.instanceMethod yX3_init ∈ BG := bg_of 128 (by decide +kernel) rfl
theorem wc_X3 : Cond.code yX3_init cX3_init 1 none ∈ BG := bg_of 129 (by decide +kernel) rfl
theorem wo_X3 : Cond.methodLink RX3 3 objectInit ∈ BG := bg_of 130 (by decide +kernel) rfl
def blX4 : List Value := [.null, .null, .int 0, .null, .int 0, .null, .null]
theorem blX4_ok : ∀ j, j < 7 → defaultValue (tyX4 j) = vp_V blX4 j := by
  intro j hj
  rcases (show j = 0 ∨ j = 1 ∨ j = 2 ∨ j = 3 ∨ j = 4 ∨ j = 5 ∨ j = 6 by omega) with rfl | rfl | rfl | rfl | rfl | rfl | rfl <;> rfl
theorem wn_X4 : Cond.instantiable RX4 7 ∈ BG := bg_of 63 (by decide +kernel) rfl
theorem wi_X4 : Cond.initialized RX4 ∈ BG := bg_of 49 (by decide +kernel) rfl
theorem wm_X4 : Cond.instanceMethod yX4_init ∈ BG := bg_of 65 (by decide +kernel) rfl
theorem wc_X4 : Cond.code yX4_init cX4_init 2 none ∈ BG := bg_of 66 (by decide +kernel) rfl
theorem wo_X4 : Cond.methodLink RX4 1 objectInit ∈ BG := bg_of 67 (by decide +kernel) rfl
def blX5 : List Value := [.null, .null, .null, .null, .null, .int 0, .int 0, .int 0, .null, .null, .null, .null, .null, .null, .int 0, .int 0, .int 0, .null, .null, .null, .null, .null, .int 0, .null, .null]
theorem blX5_ok : ∀ j, j < 25 → defaultValue (tyX5 j) = vp_V blX5 j := by
  intro j hj
  rcases (show j = 0 ∨ j = 1 ∨ j = 2 ∨ j = 3 ∨ j = 4 ∨ j = 5 ∨ j = 6 ∨ j = 7 ∨ j = 8 ∨ j = 9 ∨ j = 10 ∨ j = 11 ∨ j = 12 ∨ j = 13 ∨ j = 14 ∨ j = 15 ∨ j = 16 ∨ j = 17 ∨ j = 18 ∨ j = 19 ∨ j = 20 ∨ j = 21 ∨ j = 22 ∨ j = 23 ∨ j = 24 by omega) with rfl | rfl | rfl | rfl | rfl | rfl | rfl | rfl | rfl | rfl | rfl | rfl | rfl | rfl | rfl | rfl | rfl | rfl | rfl | rfl | rfl | rfl | rfl | rfl | rfl <;> rfl
theorem wn_X5 : Cond.instantiable RX5 25 ∈ BG := bg_of 607 (by decide +kernel) rfl
theorem wi_X5 : Cond.initialized RX5 ∈ BG := bg_of 54 (by decide +kernel) rfl
theorem wm_X5 : Cond.instanceMethod yX5_init ∈ BG := bg_of 609 (by decide +kernel) rfl
theorem wc_X5 : Cond.code yX5_init cX5_init 1 none ∈ BG := bg_of 610 (by decide +kernel) rfl
theorem wo_X5 : Cond.methodLink RX5 1 objectInit ∈ BG := bg_of 611 (by decide +kernel) rfl
theorem wl_L_7 : Cond.classLink "StrictSentencesLaw" 7 RX4 ∈ BG := bg_of 62 (by decide +kernel) rfl
theorem wl_X4_7 : Cond.classLink RX4 7 RX2 ∈ BG := bg_of 70 (by decide +kernel) rfl
theorem wl_X2_9 : Cond.classLink RX2 9 RX1 ∈ BG := bg_of 76 (by decide +kernel) rfl
theorem wl_X4_24 : Cond.classLink RX4 24 RX3 ∈ BG := bg_of 125 (by decide +kernel) rfl
theorem wl_X4_34 : Cond.classLink RX4 34 RX1 ∈ BG := bg_of 154 (by decide +kernel) rfl
theorem wl_X4_41 : Cond.classLink RX4 41 RX0 ∈ BG := bg_of 156 (by decide +kernel) rfl
theorem wl_X0_9 : Cond.classLink RX0 9 RX1 ∈ BG := bg_of 162 (by decide +kernel) rfl
theorem wl_L_10 : Cond.classLink "StrictSentencesLaw" 10 RX5 ∈ BG := bg_of 606 (by decide +kernel) rfl
theorem ff_X1_19 : FF RX1 19 1 2 (tyX1 2) := ⟨RX1, TX1, 8, tyX1, rfl, inX1, tyX1_ok, nmX1, by decide, bg_of 89 (by decide +kernel) rfl, rfl, rfl, tyX1_ok 2 (by decide)⟩
theorem ff_X1_23 : FF RX1 23 1 3 (tyX1 3) := ⟨RX1, TX1, 8, tyX1, rfl, inX1, tyX1_ok, nmX1, by decide, bg_of 92 (by decide +kernel) rfl, rfl, rfl, tyX1_ok 3 (by decide)⟩
theorem ff_X1_26 : FF RX1 26 1 4 (tyX1 4) := ⟨RX1, TX1, 8, tyX1, rfl, inX1, tyX1_ok, nmX1, by decide, bg_of 95 (by decide +kernel) rfl, rfl, rfl, tyX1_ok 4 (by decide)⟩
theorem ff_X1_29 : FF RX1 29 1 5 (tyX1 5) := ⟨RX1, TX1, 8, tyX1, rfl, inX1, tyX1_ok, nmX1, by decide, bg_of 98 (by decide +kernel) rfl, rfl, rfl, tyX1_ok 5 (by decide)⟩
theorem ff_X1_32 : FF RX1 32 1 6 (tyX1 6) := ⟨RX1, TX1, 8, tyX1, rfl, inX1, tyX1_ok, nmX1, by decide, bg_of 99 (by decide +kernel) rfl, rfl, rfl, tyX1_ok 6 (by decide)⟩
theorem ff_X1_35 : FF RX1 35 1 7 (tyX1 7) := ⟨RX1, TX1, 8, tyX1, rfl, inX1, tyX1_ok, nmX1, by decide, bg_of 100 (by decide +kernel) rfl, rfl, rfl, tyX1_ok 7 (by decide)⟩
theorem ff_X2_11 : FF RX2 11 2 0 (tyX2 0) := ⟨RX2, TX2, 1, tyX2, rfl, inX2, tyX2_ok, nmX2, by decide, bg_of 119 (by decide +kernel) rfl, rfl, rfl, tyX2_ok 0 (by decide)⟩
theorem ff_X3_15 : FF RX3 15 3 1 (tyX3 1) := ⟨RX3, TX3, 7, tyX3, rfl, inX3, tyX3_ok, nmX3, by decide, bg_of 133 (by decide +kernel) rfl, rfl, rfl, tyX3_ok 1 (by decide)⟩
theorem ff_X3_19 : FF RX3 19 3 2 (tyX3 2) := ⟨RX3, TX3, 7, tyX3, rfl, inX3, tyX3_ok, nmX3, by decide, bg_of 134 (by decide +kernel) rfl, rfl, rfl, tyX3_ok 2 (by decide)⟩
theorem ff_X3_22 : FF RX3 22 3 3 (tyX3 3) := ⟨RX3, TX3, 7, tyX3, rfl, inX3, tyX3_ok, nmX3, by decide, bg_of 135 (by decide +kernel) rfl, rfl, rfl, tyX3_ok 3 (by decide)⟩
theorem ff_X0_12 : FF RX0 12 0 0 (tyX0 0) := ⟨RX0, TX0, 6, tyX0, rfl, inX0, tyX0_ok, nmX0, by decide, bg_of 164 (by decide +kernel) rfl, rfl, rfl, tyX0_ok 0 (by decide)⟩
theorem ff_X0_18 : FF RX0 18 0 1 (tyX0 1) := ⟨RX0, TX0, 6, tyX0, rfl, inX0, tyX0_ok, nmX0, by decide, bg_of 165 (by decide +kernel) rfl, rfl, rfl, tyX0_ok 1 (by decide)⟩
theorem ff_X0_22 : FF RX0 22 0 2 (tyX0 2) := ⟨RX0, TX0, 6, tyX0, rfl, inX0, tyX0_ok, nmX0, by decide, bg_of 166 (by decide +kernel) rfl, rfl, rfl, tyX0_ok 2 (by decide)⟩
theorem ff_X0_25 : FF RX0 25 0 3 (tyX0 3) := ⟨RX0, TX0, 6, tyX0, rfl, inX0, tyX0_ok, nmX0, by decide, bg_of 167 (by decide +kernel) rfl, rfl, rfl, tyX0_ok 3 (by decide)⟩
theorem ff_X4_10 : FF RX4 10 4 0 (tyX4 0) := ⟨RX4, TX4, 7, tyX4, rfl, inX4, tyX4_ok, nmX4, by decide, bg_of 183 (by decide +kernel) rfl, rfl, rfl, tyX4_ok 0 (by decide)⟩
theorem ff_X4_16 : FF RX4 16 4 1 (tyX4 1) := ⟨RX4, TX4, 7, tyX4, rfl, inX4, tyX4_ok, nmX4, by decide, bg_of 184 (by decide +kernel) rfl, rfl, rfl, tyX4_ok 1 (by decide)⟩
theorem ff_X4_27 : FF RX4 27 4 3 (tyX4 3) := ⟨RX4, TX4, 7, tyX4, rfl, inX4, tyX4_ok, nmX4, by decide, bg_of 186 (by decide +kernel) rfl, rfl, rfl, tyX4_ok 3 (by decide)⟩
theorem ff_X4_37 : FF RX4 37 4 5 (tyX4 5) := ⟨RX4, TX4, 7, tyX4, rfl, inX4, tyX4_ok, nmX4, by decide, bg_of 188 (by decide +kernel) rfl, rfl, rfl, tyX4_ok 5 (by decide)⟩
theorem ff_X4_44 : FF RX4 44 4 6 (tyX4 6) := ⟨RX4, TX4, 7, tyX4, rfl, inX4, tyX4_ok, nmX4, by decide, bg_of 189 (by decide +kernel) rfl, rfl, rfl, tyX4_ok 6 (by decide)⟩
theorem ff_X5_7 : FF RX5 7 5 0 (tyX5 0) := ⟨RX5, TX5, 25, tyX5, rfl, inX5, tyX5_ok, nmX5, by decide, bg_of 612 (by decide +kernel) rfl, rfl, rfl, tyX5_ok 0 (by decide)⟩
theorem ff_X5_13 : FF RX5 13 5 1 (tyX5 1) := ⟨RX5, TX5, 25, tyX5, rfl, inX5, tyX5_ok, nmX5, by decide, bg_of 613 (by decide +kernel) rfl, rfl, rfl, tyX5_ok 1 (by decide)⟩
theorem ff_X5_16 : FF RX5 16 5 2 (tyX5 2) := ⟨RX5, TX5, 25, tyX5, rfl, inX5, tyX5_ok, nmX5, by decide, bg_of 614 (by decide +kernel) rfl, rfl, rfl, tyX5_ok 2 (by decide)⟩
theorem ff_X5_19 : FF RX5 19 5 3 (tyX5 3) := ⟨RX5, TX5, 25, tyX5, rfl, inX5, tyX5_ok, nmX5, by decide, bg_of 615 (by decide +kernel) rfl, rfl, rfl, tyX5_ok 3 (by decide)⟩
theorem ff_X5_22 : FF RX5 22 5 4 (tyX5 4) := ⟨RX5, TX5, 25, tyX5, rfl, inX5, tyX5_ok, nmX5, by decide, bg_of 616 (by decide +kernel) rfl, rfl, rfl, tyX5_ok 4 (by decide)⟩
theorem ff_X5_29 : FF RX5 29 5 8 (tyX5 8) := ⟨RX5, TX5, 25, tyX5, rfl, inX5, tyX5_ok, nmX5, by decide, bg_of 620 (by decide +kernel) rfl, rfl, rfl, tyX5_ok 8 (by decide)⟩
theorem ff_X5_32 : FF RX5 32 5 9 (tyX5 9) := ⟨RX5, TX5, 25, tyX5, rfl, inX5, tyX5_ok, nmX5, by decide, bg_of 621 (by decide +kernel) rfl, rfl, rfl, tyX5_ok 9 (by decide)⟩
theorem ff_X5_35 : FF RX5 35 5 10 (tyX5 10) := ⟨RX5, TX5, 25, tyX5, rfl, inX5, tyX5_ok, nmX5, by decide, bg_of 622 (by decide +kernel) rfl, rfl, rfl, tyX5_ok 10 (by decide)⟩
theorem ff_X5_38 : FF RX5 38 5 11 (tyX5 11) := ⟨RX5, TX5, 25, tyX5, rfl, inX5, tyX5_ok, nmX5, by decide, bg_of 623 (by decide +kernel) rfl, rfl, rfl, tyX5_ok 11 (by decide)⟩
theorem ff_X5_41 : FF RX5 41 5 12 (tyX5 12) := ⟨RX5, TX5, 25, tyX5, rfl, inX5, tyX5_ok, nmX5, by decide, bg_of 624 (by decide +kernel) rfl, rfl, rfl, tyX5_ok 12 (by decide)⟩
theorem ff_X5_44 : FF RX5 44 5 13 (tyX5 13) := ⟨RX5, TX5, 25, tyX5, rfl, inX5, tyX5_ok, nmX5, by decide, bg_of 625 (by decide +kernel) rfl, rfl, rfl, tyX5_ok 13 (by decide)⟩
theorem ff_X5_47 : FF RX5 47 5 17 (tyX5 17) := ⟨RX5, TX5, 25, tyX5, rfl, inX5, tyX5_ok, nmX5, by decide, bg_of 629 (by decide +kernel) rfl, rfl, rfl, tyX5_ok 17 (by decide)⟩
theorem ff_X5_50 : FF RX5 50 5 18 (tyX5 18) := ⟨RX5, TX5, 25, tyX5, rfl, inX5, tyX5_ok, nmX5, by decide, bg_of 630 (by decide +kernel) rfl, rfl, rfl, tyX5_ok 18 (by decide)⟩
theorem ff_X5_53 : FF RX5 53 5 19 (tyX5 19) := ⟨RX5, TX5, 25, tyX5, rfl, inX5, tyX5_ok, nmX5, by decide, bg_of 631 (by decide +kernel) rfl, rfl, rfl, tyX5_ok 19 (by decide)⟩
theorem ff_X5_56 : FF RX5 56 5 20 (tyX5 20) := ⟨RX5, TX5, 25, tyX5, rfl, inX5, tyX5_ok, nmX5, by decide, bg_of 632 (by decide +kernel) rfl, rfl, rfl, tyX5_ok 20 (by decide)⟩
theorem ff_X5_59 : FF RX5 59 5 21 (tyX5 21) := ⟨RX5, TX5, 25, tyX5, rfl, inX5, tyX5_ok, nmX5, by decide, bg_of 633 (by decide +kernel) rfl, rfl, rfl, tyX5_ok 21 (by decide)⟩
theorem ff_X5_63 : FF RX5 63 5 23 (tyX5 23) := ⟨RX5, TX5, 25, tyX5, rfl, inX5, tyX5_ok, nmX5, by decide, bg_of 635 (by decide +kernel) rfl, rfl, rfl, tyX5_ok 23 (by decide)⟩
theorem ff_X5_66 : FF RX5 66 5 24 (tyX5 24) := ⟨RX5, TX5, 25, tyX5, rfl, inX5, tyX5_ok, nmX5, by decide, bg_of 636 (by decide +kernel) rfl, rfl, rfl, tyX5_ok 24 (by decide)⟩
theorem u_nrm {G : GT} {b0 : Nat} {Z : ZT} {n n2 : Nat} {E : Nat → va_E} {cs sl cs2 sl2 pc : Nat} {lo : List (Option Value)} {st : List Value} (hn : n = n2) (h1 : cs = cs2) (h2 : sl = sl2) (kk : U G b0 Z n2 E cs2 sl2 pc lo st) : U G b0 Z n E cs sl pc lo st := by
  subst hn h1 h2; exact kk
def senO (b0 n : Nat) : va_E := .inr (1, [.int 0, .int 0, .ref (b0 + (n + 1)), .ref (b0 + (n + 2)), .ref (b0 + (n + 3)), .ref (b0 + (n + 4)), .ref (b0 + (n + 5)), .ref (b0 + (n + 6))])
def arI (G : GT) (k : Nat) : va_E := .inl (G.2.1 0, k, .inl (fun _ => 0))
def arZ (G : GT) (k : Nat) : va_E := .inl (G.2.1 1, k, .inl (fun _ => 0))
def senE (G : GT) (b0 : Nat) (E : Nat → va_E) (n : Nat) : Nat → va_E := fun k => if k = n then senO b0 n else if n < k ∧ k < n + 7 then arI G 11 else E k
theorem senE_0 {G : GT} {b0 : Nat} {E : Nat → va_E} {n : Nat} : senE G b0 E n n = senO b0 n := if_pos rfl
theorem senE_ar {G : GT} {b0 : Nat} {E : Nat → va_E} {n k : Nat} (h1 : n < k) (h2 : k < n + 7) : senE G b0 E n k = arI G 11 := by rw [senE, if_neg (by omega), if_pos ⟨h1, h2⟩]
theorem senE_off {G : GT} {b0 : Nat} {E : Nat → va_E} {n k : Nat} (h : k < n ∨ n + 7 ≤ k) : senE G b0 E n k = E k := by rw [senE, if_neg (by omega), if_neg (by omega)]
def txE (G : GT) (b0 : Nat) (E : Nat → va_E) (n : Nat) : Nat → va_E := fun k => if k = n then .inr (3, [.int 0, .ref (b0 + (n + 1)), .ref (b0 + (n + 2)), .ref (b0 + (n + 3)), .int 0, .int 1, .int 0]) else if n < k ∧ k < n + 4 then arI G 40 else E k
theorem txE_off {G : GT} {b0 : Nat} {E : Nat → va_E} {n k : Nat} (h : k < n ∨ n + 4 ≤ k) : txE G b0 E n k = E k := by rw [txE, if_neg (by omega), if_neg (by omega)]
theorem txE_ar {G : GT} {b0 : Nat} {E : Nat → va_E} {n k : Nat} (h1 : n < k) (h2 : k < n + 4) : txE G b0 E n k = arI G 40 := by rw [txE, if_neg (by omega), if_pos ⟨h1, h2⟩]
def frE (G : GT) (b0 : Nat) (E : Nat → va_E) (n : Nat) : Nat → va_E := fun k => if k = n then .inr (0, [.ref (b0 + (n + 1)), .ref (b0 + (n + 8)), .ref (b0 + (n + 9)), .ref (b0 + (n + 10)), .int 0, .int 0]) else if n + 8 ≤ k ∧ k < n + 11 then arI G 2048 else senE G b0 E (n + 1) k
theorem frE_off {G : GT} {b0 : Nat} {E : Nat → va_E} {n k : Nat} (h : k < n ∨ n + 11 ≤ k) : frE G b0 E n k = E k := by rw [frE, if_neg (by omega), if_neg (by omega), senE_off (by omega)]
theorem frE_ar {G : GT} {b0 : Nat} {E : Nat → va_E} {n k : Nat} (h1 : n + 8 ≤ k) (h2 : k < n + 11) : frE G b0 E n k = arI G 2048 := by rw [frE, if_neg (by omega), if_pos ⟨h1, h2⟩]
theorem frE_sen {G : GT} {b0 : Nat} {E : Nat → va_E} {n k : Nat} (h1 : n + 1 ≤ k) (h2 : k < n + 8) : frE G b0 E n k = senE G b0 E (n + 1) k := by rw [frE, if_neg (by omega), if_neg (by omega)]
def hf (b0 n i : Nat) : Nat → Option Nat := fun j => if j < i then some (b0 + (n + 2 + 7 * j)) else none
def shI (G : GT) (b0 : Nat) (E : Nat → va_E) (n i : Nat) : Nat → va_E := fun k => if k = n then .inr (2, [.ref (b0 + (n + 1))]) else if k = n + 1 then .inl (G.2.1 2, 6, .inr (.inr (.inr (.inr (hf b0 n i))))) else if n + 2 ≤ k ∧ k < n + 2 + 7 * i then (if (k - (n + 2)) % 7 = 0 then senO b0 k else arI G 11) else E k
def shE (G : GT) (b0 : Nat) (E : Nat → va_E) (n : Nat) : Nat → va_E := shI G b0 E n 6
theorem shI_off {G : GT} {b0 : Nat} {E : Nat → va_E} {n i k : Nat} (h : k < n ∨ (n + 2 ≤ k ∧ n + 2 + 7 * i ≤ k)) : shI G b0 E n i k = E k := by rw [shI, if_neg (by omega), if_neg (by omega), if_neg (by omega)]
theorem shI_in {G : GT} {b0 : Nat} {E : Nat → va_E} {n i k : Nat} (h1 : n + 2 ≤ k) (h2 : k < n + 2 + 7 * i) : shI G b0 E n i k = if (k - (n + 2)) % 7 = 0 then senO b0 k else arI G 11 := by rw [shI, if_neg (by omega), if_neg (by omega), if_pos ⟨h1, h2⟩]
theorem shE_off {G : GT} {b0 : Nat} {E : Nat → va_E} {n k : Nat} (h : k < n ∨ n + 44 ≤ k) : shE G b0 E n k = E k := shI_off (by omega)
theorem shE_c {G : GT} {b0 : Nat} {E F : Nat → va_E} {n k : Nat} (h : k ≠ n → E k = F k) : shE G b0 E n k = shE G b0 F n k := by
  show shI G b0 E n 6 k = shI G b0 F n 6 k
  unfold shI
  by_cases z : k = n
  · rw [if_pos z, if_pos z]
  · rw [h z]
theorem frE_c {G : GT} {b0 : Nat} {E F : Nat → va_E} {n k : Nat} (h : k ≠ n → E k = F k) : frE G b0 E n k = frE G b0 F n k := by
  unfold frE senE
  by_cases z : k = n
  · rw [if_pos z, if_pos z]
  · rw [h z]
theorem senE_c {G : GT} {b0 : Nat} {E F : Nat → va_E} {n k : Nat} (h : k ≠ n → E k = F k) : senE G b0 E n k = senE G b0 F n k := by
  unfold senE
  by_cases z : k = n
  · rw [if_pos z, if_pos z]
  · rw [h z]
theorem txE_c {G : GT} {b0 : Nat} {E F : Nat → va_E} {n k : Nat} (h : k ≠ n → E k = F k) : txE G b0 E n k = txE G b0 F n k := by
  unfold txE
  by_cases z : k = n
  · rw [if_pos z, if_pos z]
  · rw [h z]
theorem wk_L_9 : Cond.methodLink "StrictSentencesLaw" 9 yX4_init ∈ BG := bg_of 64 (by decide +kernel) rfl
theorem wk_X4_9 : Cond.methodLink RX4 9 yX2_init ∈ BG := bg_of 72 (by decide +kernel) rfl
theorem wk_L_12 : Cond.methodLink "StrictSentencesLaw" 12 yX5_init ∈ BG := bg_of 608 (by decide +kernel) rfl
set_option maxHeartbeats 4000000 in
set_option maxRecDepth 100000 in
theorem k_X1 (G : GT) (b0 : Nat) {n : Nat} {E : Nat → va_E} (hE : E n = .inr (1, blX1)) : MI G b0 yX1_init cX1_init 1 1 6 66 n E (n + 7) (senE G b0 E n) := by
  refine MI_of (by decide) rfl (by decide) ?_
  intro Z X hI hR
  show U G b0 Z (n + 1) E 0 0 0 [some (.ref (b0 + n))] []
  refine u_aload_n X dX1_init_0 rfl ?_
  refine u_objInit X wo_X1 (by decide) dX1_init_1 ?_
  refine u_aload_n X dX1_init_4 rfl ?_
  refine u_iconst (v := nI 0) X dX1_init_5 (by decide) ?_
  refine u_put (q := n) (fs := [.int 0, .int 0, .null, .null, .null, .null, .null, .null]) X fw_X1_9 (by omega) (by (repeat (first | rw [eU_at] | rw [eU_ne (by omega)] | rw [senE_off (by omega)] | rw [shE_off (by omega)] | rw [txE_off (by omega)] | rw [frE_off (by omega)])) <;> first | rfl | assumption) (Nat.le_of_ble_eq_true rfl) rfl rfl dX1_init_6 ?_
  refine u_aload_n X dX1_init_9 rfl ?_
  refine u_iconst (v := nI 0) X dX1_init_10 (by decide) ?_
  refine u_put (q := n) (fs := [.int (nI 0), .int 0, .null, .null, .null, .null, .null, .null]) X fw_X1_15 (by omega) (by (repeat (first | rw [eU_at] | rw [eU_ne (by omega)] | rw [senE_off (by omega)] | rw [shE_off (by omega)] | rw [txE_off (by omega)] | rw [frE_off (by omega)])) <;> first | rfl | assumption) (Nat.le_of_ble_eq_true rfl) rfl rfl dX1_init_11 ?_
  refine u_aload_n X dX1_init_14 rfl ?_
  refine u_bipush (v := nI 11) X dX1_init_15 (by decide) ?_
  refine u_newi (N := 11) X wd_ai rfl (by decide) (Nat.le_of_ble_eq_true rfl) (Nat.le_of_ble_eq_true rfl) dX1_init_17 ?_
  refine u_nrm (n2 := (n + 2)) (cs2 := 1) (sl2 := 11) rfl rfl rfl ?_
  refine u_putr (q := n) (a := b0 + (n + 1)) (fs := [.int (nI 0), .int (nI 0), .null, .null, .null, .null, .null, .null]) X hI ff_X1_19 (by omega) (by (repeat (first | rw [eU_at] | rw [eU_ne (by omega)] | rw [senE_off (by omega)] | rw [shE_off (by omega)] | rw [txE_off (by omega)] | rw [frE_off (by omega)])) <;> first | rfl | assumption) (Nat.le_of_ble_eq_true rfl) rfl rfl dX1_init_19 ?_
  refine u_aload_n X dX1_init_22 rfl ?_
  refine u_bipush (v := nI 11) X dX1_init_23 (by decide) ?_
  refine u_newi (N := 11) X wd_ai rfl (by decide) (Nat.le_of_ble_eq_true rfl) (Nat.le_of_ble_eq_true rfl) dX1_init_25 ?_
  refine u_nrm (n2 := (n + 3)) (cs2 := 2) (sl2 := 22) rfl rfl rfl ?_
  refine u_putr (q := n) (a := b0 + (n + 2)) (fs := [.int (nI 0), .int (nI 0), .ref (b0 + (n + 1)), .null, .null, .null, .null, .null]) X hI ff_X1_23 (by omega) (by (repeat (first | rw [eU_at] | rw [eU_ne (by omega)] | rw [senE_off (by omega)] | rw [shE_off (by omega)] | rw [txE_off (by omega)] | rw [frE_off (by omega)])) <;> first | rfl | assumption) (Nat.le_of_ble_eq_true rfl) rfl rfl dX1_init_27 ?_
  refine u_aload_n X dX1_init_30 rfl ?_
  refine u_bipush (v := nI 11) X dX1_init_31 (by decide) ?_
  refine u_newi (N := 11) X wd_ai rfl (by decide) (Nat.le_of_ble_eq_true rfl) (Nat.le_of_ble_eq_true rfl) dX1_init_33 ?_
  refine u_nrm (n2 := (n + 4)) (cs2 := 3) (sl2 := 33) rfl rfl rfl ?_
  refine u_putr (q := n) (a := b0 + (n + 3)) (fs := [.int (nI 0), .int (nI 0), .ref (b0 + (n + 1)), .ref (b0 + (n + 2)), .null, .null, .null, .null]) X hI ff_X1_26 (by omega) (by (repeat (first | rw [eU_at] | rw [eU_ne (by omega)] | rw [senE_off (by omega)] | rw [shE_off (by omega)] | rw [txE_off (by omega)] | rw [frE_off (by omega)])) <;> first | rfl | assumption) (Nat.le_of_ble_eq_true rfl) rfl rfl dX1_init_35 ?_
  refine u_aload_n X dX1_init_38 rfl ?_
  refine u_bipush (v := nI 11) X dX1_init_39 (by decide) ?_
  refine u_newi (N := 11) X wd_ai rfl (by decide) (Nat.le_of_ble_eq_true rfl) (Nat.le_of_ble_eq_true rfl) dX1_init_41 ?_
  refine u_nrm (n2 := (n + 5)) (cs2 := 4) (sl2 := 44) rfl rfl rfl ?_
  refine u_putr (q := n) (a := b0 + (n + 4)) (fs := [.int (nI 0), .int (nI 0), .ref (b0 + (n + 1)), .ref (b0 + (n + 2)), .ref (b0 + (n + 3)), .null, .null, .null]) X hI ff_X1_29 (by omega) (by (repeat (first | rw [eU_at] | rw [eU_ne (by omega)] | rw [senE_off (by omega)] | rw [shE_off (by omega)] | rw [txE_off (by omega)] | rw [frE_off (by omega)])) <;> first | rfl | assumption) (Nat.le_of_ble_eq_true rfl) rfl rfl dX1_init_43 ?_
  refine u_aload_n X dX1_init_46 rfl ?_
  refine u_bipush (v := nI 11) X dX1_init_47 (by decide) ?_
  refine u_newi (N := 11) X wd_ai rfl (by decide) (Nat.le_of_ble_eq_true rfl) (Nat.le_of_ble_eq_true rfl) dX1_init_49 ?_
  refine u_nrm (n2 := (n + 6)) (cs2 := 5) (sl2 := 55) rfl rfl rfl ?_
  refine u_putr (q := n) (a := b0 + (n + 5)) (fs := [.int (nI 0), .int (nI 0), .ref (b0 + (n + 1)), .ref (b0 + (n + 2)), .ref (b0 + (n + 3)), .ref (b0 + (n + 4)), .null, .null]) X hI ff_X1_32 (by omega) (by (repeat (first | rw [eU_at] | rw [eU_ne (by omega)] | rw [senE_off (by omega)] | rw [shE_off (by omega)] | rw [txE_off (by omega)] | rw [frE_off (by omega)])) <;> first | rfl | assumption) (Nat.le_of_ble_eq_true rfl) rfl rfl dX1_init_51 ?_
  refine u_aload_n X dX1_init_54 rfl ?_
  refine u_bipush (v := nI 11) X dX1_init_55 (by decide) ?_
  refine u_newi (N := 11) X wd_ai rfl (by decide) (Nat.le_of_ble_eq_true rfl) (Nat.le_of_ble_eq_true rfl) dX1_init_57 ?_
  refine u_nrm (n2 := (n + 7)) (cs2 := 6) (sl2 := 66) rfl rfl rfl ?_
  refine u_putr (q := n) (a := b0 + (n + 6)) (fs := [.int (nI 0), .int (nI 0), .ref (b0 + (n + 1)), .ref (b0 + (n + 2)), .ref (b0 + (n + 3)), .ref (b0 + (n + 4)), .ref (b0 + (n + 5)), .null]) X hI ff_X1_35 (by omega) (by (repeat (first | rw [eU_at] | rw [eU_ne (by omega)] | rw [senE_off (by omega)] | rw [shE_off (by omega)] | rw [txE_off (by omega)] | rw [frE_off (by omega)])) <;> first | rfl | assumption) (Nat.le_of_ble_eq_true rfl) rfl rfl dX1_init_59 ?_
  refine u_vret X hR dX1_init_62 rfl (fun k hk => ?_) rfl rfl
  rcases (show k < n ∨ k = n ∨ (n < k ∧ k < n + 7) by omega) with z | rfl | ⟨z1, z2⟩
  · rw [senE_off (Or.inl z)]
    repeat rw [eU_ne (by omega)]
  · rw [senE_0]
    (repeat (first | rw [eU_at] | rw [eU_ne (by omega)])) <;> rfl
  · rw [senE_ar z1 z2]
    rcases (show k = n + 1 ∨ k = n + 2 ∨ k = n + 3 ∨ k = n + 4 ∨ k = n + 5 ∨ k = n + 6 by omega) with rfl | rfl | rfl | rfl | rfl | rfl <;> ((repeat (first | rw [eU_at] | rw [eU_ne (by omega)])) <;> rfl)
set_option maxHeartbeats 4000000 in
set_option maxRecDepth 100000 in
theorem k_X3 (G : GT) (b0 : Nat) {n : Nat} {E : Nat → va_E} (hE : E n = .inr (3, blX3)) : MI G b0 yX3_init cX3_init 1 1 3 120 n E (n + 4) (txE G b0 E n) := by
  refine MI_of (by decide) rfl (by decide) ?_
  intro Z X hI hR
  show U G b0 Z (n + 1) E 0 0 0 [some (.ref (b0 + n))] []
  refine u_aload_n X dX3_init_0 rfl ?_
  refine u_objInit X wo_X3 (by decide) dX3_init_1 ?_
  refine u_aload_n X dX3_init_4 rfl ?_
  refine u_iconst (v := nI 0) X dX3_init_5 (by decide) ?_
  refine u_put (q := n) (fs := [.int 0, .null, .null, .null, .int 0, .int 0, .int 0]) X fw_X3_9 (by omega) (by (repeat (first | rw [eU_at] | rw [eU_ne (by omega)] | rw [senE_off (by omega)] | rw [shE_off (by omega)] | rw [txE_off (by omega)] | rw [frE_off (by omega)])) <;> first | rfl | assumption) (Nat.le_of_ble_eq_true rfl) rfl rfl dX3_init_6 ?_
  refine u_aload_n X dX3_init_9 rfl ?_
  refine u_bipush (v := nI 40) X dX3_init_10 (by decide) ?_
  refine u_newi (N := 40) X wd_ai rfl (by decide) (Nat.le_of_ble_eq_true rfl) (Nat.le_of_ble_eq_true rfl) dX3_init_12 ?_
  refine u_nrm (n2 := (n + 2)) (cs2 := 1) (sl2 := 40) rfl rfl rfl ?_
  refine u_putr (q := n) (a := b0 + (n + 1)) (fs := [.int (nI 0), .null, .null, .null, .int 0, .int 0, .int 0]) X hI ff_X3_15 (by omega) (by (repeat (first | rw [eU_at] | rw [eU_ne (by omega)] | rw [senE_off (by omega)] | rw [shE_off (by omega)] | rw [txE_off (by omega)] | rw [frE_off (by omega)])) <;> first | rfl | assumption) (Nat.le_of_ble_eq_true rfl) rfl rfl dX3_init_14 ?_
  refine u_aload_n X dX3_init_17 rfl ?_
  refine u_bipush (v := nI 40) X dX3_init_18 (by decide) ?_
  refine u_newi (N := 40) X wd_ai rfl (by decide) (Nat.le_of_ble_eq_true rfl) (Nat.le_of_ble_eq_true rfl) dX3_init_20 ?_
  refine u_nrm (n2 := (n + 3)) (cs2 := 2) (sl2 := 80) rfl rfl rfl ?_
  refine u_putr (q := n) (a := b0 + (n + 2)) (fs := [.int (nI 0), .ref (b0 + (n + 1)), .null, .null, .int 0, .int 0, .int 0]) X hI ff_X3_19 (by omega) (by (repeat (first | rw [eU_at] | rw [eU_ne (by omega)] | rw [senE_off (by omega)] | rw [shE_off (by omega)] | rw [txE_off (by omega)] | rw [frE_off (by omega)])) <;> first | rfl | assumption) (Nat.le_of_ble_eq_true rfl) rfl rfl dX3_init_22 ?_
  refine u_aload_n X dX3_init_25 rfl ?_
  refine u_bipush (v := nI 40) X dX3_init_26 (by decide) ?_
  refine u_newi (N := 40) X wd_ai rfl (by decide) (Nat.le_of_ble_eq_true rfl) (Nat.le_of_ble_eq_true rfl) dX3_init_28 ?_
  refine u_nrm (n2 := (n + 4)) (cs2 := 3) (sl2 := 120) rfl rfl rfl ?_
  refine u_putr (q := n) (a := b0 + (n + 3)) (fs := [.int (nI 0), .ref (b0 + (n + 1)), .ref (b0 + (n + 2)), .null, .int 0, .int 0, .int 0]) X hI ff_X3_22 (by omega) (by (repeat (first | rw [eU_at] | rw [eU_ne (by omega)] | rw [senE_off (by omega)] | rw [shE_off (by omega)] | rw [txE_off (by omega)] | rw [frE_off (by omega)])) <;> first | rfl | assumption) (Nat.le_of_ble_eq_true rfl) rfl rfl dX3_init_30 ?_
  refine u_aload_n X dX3_init_33 rfl ?_
  refine u_iconst (v := nI 0) X dX3_init_34 (by decide) ?_
  refine u_put (q := n) (fs := [.int (nI 0), .ref (b0 + (n + 1)), .ref (b0 + (n + 2)), .ref (b0 + (n + 3)), .int 0, .int 0, .int 0]) X fw_X3_25 (by omega) (by (repeat (first | rw [eU_at] | rw [eU_ne (by omega)] | rw [senE_off (by omega)] | rw [shE_off (by omega)] | rw [txE_off (by omega)] | rw [frE_off (by omega)])) <;> first | rfl | assumption) (Nat.le_of_ble_eq_true rfl) rfl rfl dX3_init_35 ?_
  refine u_aload_n X dX3_init_38 rfl ?_
  refine u_iconst (v := nI 1) X dX3_init_39 (by decide) ?_
  refine u_put (q := n) (fs := [.int (nI 0), .ref (b0 + (n + 1)), .ref (b0 + (n + 2)), .ref (b0 + (n + 3)), .int (nI 0), .int 0, .int 0]) X fw_X3_28 (by omega) (by (repeat (first | rw [eU_at] | rw [eU_ne (by omega)] | rw [senE_off (by omega)] | rw [shE_off (by omega)] | rw [txE_off (by omega)] | rw [frE_off (by omega)])) <;> first | rfl | assumption) (Nat.le_of_ble_eq_true rfl) rfl rfl dX3_init_40 ?_
  refine u_aload_n X dX3_init_43 rfl ?_
  refine u_iconst (v := nI 0) X dX3_init_44 (by decide) ?_
  refine u_put (q := n) (fs := [.int (nI 0), .ref (b0 + (n + 1)), .ref (b0 + (n + 2)), .ref (b0 + (n + 3)), .int (nI 0), .int (nI 1), .int 0]) X fw_X3_32 (by omega) (by (repeat (first | rw [eU_at] | rw [eU_ne (by omega)] | rw [senE_off (by omega)] | rw [shE_off (by omega)] | rw [txE_off (by omega)] | rw [frE_off (by omega)])) <;> first | rfl | assumption) (Nat.le_of_ble_eq_true rfl) rfl rfl dX3_init_45 ?_
  refine u_vret X hR dX3_init_48 rfl (fun k hk => ?_) rfl rfl
  rcases (show k < n ∨ k = n ∨ (n < k ∧ k < n + 4) by omega) with z | rfl | ⟨z1, z2⟩
  · rw [txE_off (Or.inl z)]
    repeat rw [eU_ne (by omega)]
  · rw [txE, if_pos rfl]
    (repeat (first | rw [eU_at] | rw [eU_ne (by omega)])) <;> rfl
  · rw [txE_ar z1 z2]
    rcases (show k = n + 1 ∨ k = n + 2 ∨ k = n + 3 by omega) with rfl | rfl | rfl <;> ((repeat (first | rw [eU_at] | rw [eU_ne (by omega)])) <;> rfl)
set_option maxHeartbeats 4000000 in
set_option maxRecDepth 100000 in
theorem k_X0 (G : GT) (b0 : Nat) {n : Nat} {E : Nat → va_E} (hE : E n = .inr (0, blX0)) : MI G b0 yX0_init cX0_init 1 2 10 6218 n E (n + 11) (frE G b0 E n) := by
  refine MI_of (by decide) rfl (by decide) ?_
  intro Z X hI hR
  show U G b0 Z (n + 1) E 0 0 0 [some (.ref (b0 + n))] []
  refine u_aload_n X dX0_init_0 rfl ?_
  refine u_objInit X wo_X0 (by decide) dX0_init_1 ?_
  refine u_aload_n X dX0_init_4 rfl ?_
  refine u_new (C := RX1) (T := TX1) (N := 8) (ci := 1) (fs := blX1) X tyX1 tyX1_ok inX1 rfl wl_X0_9 wn_X1 wi_X1 blX1_ok (Nat.le_of_ble_eq_true rfl) (Nat.le_of_ble_eq_true rfl) dX0_init_5 ?_
  refine u_nrm (n2 := (n + 2)) (cs2 := 1) (sl2 := 8) rfl rfl rfl ?_
  refine u_dup X dX0_init_8 rfl ?_
  refine u_calN (n := (n + 1)) X (k_X1 G b0 (eU_at _ _ _)) (fun _ h => h.2.2.2.2.2.2) wm_X1 wi_X1 wc_X1 rfl ⟨by decide +kernel, by decide +kernel, by decide +kernel⟩ (by decide) (by decide) (Nat.le_of_ble_eq_true rfl) (Nat.le_of_ble_eq_true rfl) (Nat.le_of_ble_eq_true rfl) dX0_init_9 ?_
  refine u_nrm (n2 := (n + 8)) (cs2 := 7) (sl2 := 74) rfl rfl rfl ?_
  refine u_putr (q := n) (a := b0 + (n + 1)) (fs := [.null, .null, .null, .null, .int 0, .int 0]) X hI ff_X0_12 (by omega) (by (repeat (first | rw [eU_at] | rw [eU_ne (by omega)] | rw [senE_off (by omega)] | rw [shE_off (by omega)] | rw [txE_off (by omega)] | rw [frE_off (by omega)])) <;> first | rfl | assumption) (Nat.le_of_ble_eq_true rfl) rfl rfl dX0_init_12 ?_
  refine u_aload_n X dX0_init_15 rfl ?_
  refine u_sipush (v := nI 2048) X dX0_init_16 (by decide) ?_
  refine u_newi (N := 2048) X wd_ai rfl (by decide) (Nat.le_of_ble_eq_true rfl) (Nat.le_of_ble_eq_true rfl) dX0_init_19 ?_
  refine u_nrm (n2 := (n + 9)) (cs2 := 8) (sl2 := 2122) rfl rfl rfl ?_
  refine u_putr (q := n) (a := b0 + (n + 8)) (fs := [.ref (b0 + (n + 1)), .null, .null, .null, .int 0, .int 0]) X hI ff_X0_18 (by omega) (by (repeat (first | rw [eU_at] | rw [eU_ne (by omega)] | rw [senE_off (by omega)] | rw [shE_off (by omega)] | rw [txE_off (by omega)] | rw [frE_off (by omega)])) <;> first | rfl | assumption) (Nat.le_of_ble_eq_true rfl) rfl rfl dX0_init_21 ?_
  refine u_aload_n X dX0_init_24 rfl ?_
  refine u_sipush (v := nI 2048) X dX0_init_25 (by decide) ?_
  refine u_newi (N := 2048) X wd_ai rfl (by decide) (Nat.le_of_ble_eq_true rfl) (Nat.le_of_ble_eq_true rfl) dX0_init_28 ?_
  refine u_nrm (n2 := (n + 10)) (cs2 := 9) (sl2 := 4170) rfl rfl rfl ?_
  refine u_putr (q := n) (a := b0 + (n + 9)) (fs := [.ref (b0 + (n + 1)), .ref (b0 + (n + 8)), .null, .null, .int 0, .int 0]) X hI ff_X0_22 (by omega) (by (repeat (first | rw [eU_at] | rw [eU_ne (by omega)] | rw [senE_off (by omega)] | rw [shE_off (by omega)] | rw [txE_off (by omega)] | rw [frE_off (by omega)])) <;> first | rfl | assumption) (Nat.le_of_ble_eq_true rfl) rfl rfl dX0_init_30 ?_
  refine u_aload_n X dX0_init_33 rfl ?_
  refine u_sipush (v := nI 2048) X dX0_init_34 (by decide) ?_
  refine u_newi (N := 2048) X wd_ai rfl (by decide) (Nat.le_of_ble_eq_true rfl) (Nat.le_of_ble_eq_true rfl) dX0_init_37 ?_
  refine u_nrm (n2 := (n + 11)) (cs2 := 10) (sl2 := 6218) rfl rfl rfl ?_
  refine u_putr (q := n) (a := b0 + (n + 10)) (fs := [.ref (b0 + (n + 1)), .ref (b0 + (n + 8)), .ref (b0 + (n + 9)), .null, .int 0, .int 0]) X hI ff_X0_25 (by omega) (by (repeat (first | rw [eU_at] | rw [eU_ne (by omega)] | rw [senE_off (by omega)] | rw [shE_off (by omega)] | rw [txE_off (by omega)] | rw [frE_off (by omega)])) <;> first | rfl | assumption) (Nat.le_of_ble_eq_true rfl) rfl rfl dX0_init_39 ?_
  refine u_aload_n X dX0_init_42 rfl ?_
  refine u_iconst (v := nI 0) X dX0_init_43 (by decide) ?_
  refine u_put (q := n) (fs := [.ref (b0 + (n + 1)), .ref (b0 + (n + 8)), .ref (b0 + (n + 9)), .ref (b0 + (n + 10)), .int 0, .int 0]) X fw_X0_28 (by omega) (by (repeat (first | rw [eU_at] | rw [eU_ne (by omega)] | rw [senE_off (by omega)] | rw [shE_off (by omega)] | rw [txE_off (by omega)] | rw [frE_off (by omega)])) <;> first | rfl | assumption) (Nat.le_of_ble_eq_true rfl) rfl rfl dX0_init_44 ?_
  refine u_aload_n X dX0_init_47 rfl ?_
  refine u_iconst (v := nI 0) X dX0_init_48 (by decide) ?_
  refine u_put (q := n) (fs := [.ref (b0 + (n + 1)), .ref (b0 + (n + 8)), .ref (b0 + (n + 9)), .ref (b0 + (n + 10)), .int (nI 0), .int 0]) X fw_X0_32 (by omega) (by (repeat (first | rw [eU_at] | rw [eU_ne (by omega)] | rw [senE_off (by omega)] | rw [shE_off (by omega)] | rw [txE_off (by omega)] | rw [frE_off (by omega)])) <;> first | rfl | assumption) (Nat.le_of_ble_eq_true rfl) rfl rfl dX0_init_49 ?_
  refine u_vret X hR dX0_init_52 rfl (fun k hk => ?_) rfl rfl
  rcases (show k < n ∨ k = n ∨ (n + 1 ≤ k ∧ k < n + 8) ∨ (n + 8 ≤ k ∧ k < n + 11) by omega) with z | rfl | ⟨z1, z2⟩ | ⟨z1, z2⟩
  · rw [frE_off (Or.inl z)]
    (repeat (first | rw [eU_ne (by omega)] | rw [senE_off (by omega)]))
  · rw [frE, if_pos rfl]
    (repeat (first | rw [eU_at] | rw [eU_ne (by omega)] | rw [senE_off (by omega)])) <;> rfl
  · rw [frE_sen z1 z2]
    repeat rw [eU_ne (by omega)]
    rcases (show k = n + 1 ∨ n + 1 < k by omega) with rfl | z3
    · rw [senE_0, senE_0]
    · rw [senE_ar z3 (by omega), senE_ar z3 (by omega)]
  · rw [frE_ar z1 z2]
    rcases (show k = n + 8 ∨ k = n + 9 ∨ k = n + 10 by omega) with rfl | rfl | rfl <;> ((repeat (first | rw [eU_at] | rw [eU_ne (by omega)])) <;> rfl)
set_option maxHeartbeats 4000000 in
set_option maxRecDepth 100000 in
theorem k_X2 (G : GT) (b0 : Nat) {n : Nat} {E : Nat → va_E} (hE : E n = .inr (2, blX2)) : MI G b0 yX2_init cX2_init 2 2 43 450 n E (n + 44) (shE G b0 E n) := by
  refine MI_of (by decide) rfl (by decide) ?_
  intro Z X hI hR
  show U G b0 Z (n + 1) E 0 0 0 [some (.ref (b0 + n)), none] []
  have loop : ∀ (m i : Nat), 6 - i < m → i ≤ 6 → U G b0 Z (n + 2 + 7 * i) (shI G b0 E n i) (1 + 7 * i) (6 + 74 * i) 15 [some (.ref (b0 + n)), some (.int (nI i))] [] := by
    intro m
    induction m with
    | zero => intro i h; omega
    | succ m ih =>
      intro i hm hi
      refine u_iload_n X dX2_init_15 rfl ?_
      refine u_bipush (v := nI 6) X dX2_init_16 (by decide) ?_
      refine u_icmp_ge (tgt := 40) X dX2_init_18 (by decide) (fun h18 => ?_) (fun h18 => ?_)
      · have h6 := nI_lem (a := 6) (by decide) (by omega) h18
        have h6 : i = 6 := by omega
        subst h6
        exact u_vret X hR dX2_init_40 rfl (fun k hk => rfl) rfl rfl
      · have h6 := nI_len (a := 6) (by decide) (by omega) h18
        refine u_aload_n X dX2_init_21 rfl ?_
        refine u_get (q := n) (fs := [.ref (b0 + (n + 1))]) (v := .ref (b0 + (n + 1))) X fl_X2_11 (by omega) (if_pos rfl) rfl dX2_init_22 ?_
        refine u_iload_n X dX2_init_25 rfl ?_
        refine u_new (C := RX1) (T := TX1) (N := 8) (ci := 1) (fs := blX1) X tyX1 tyX1_ok inX1 rfl wl_X2_9 wn_X1 wi_X1 blX1_ok (by omega) (by omega) dX2_init_26 ?_
        refine u_dup X dX2_init_29 rfl ?_
        refine u_calN (n := n + 2 + 7 * i) X (k_X1 G b0 (eU_at _ _ _)) (fun _ h => h.2.2.1) wm_X1 wi_X1 wc_X1 rfl ⟨by decide +kernel, by decide +kernel, by decide +kernel⟩ (by decide) (by decide) (by omega) (by omega) (Nat.le_of_ble_eq_true rfl) dX2_init_30 ?_
        refine u_aast (t0 := 2) (qa := n + 1) (qv := n + 2 + 7 * i) (ci := 1) (r := (RX1, TX1, 8)) (f := hf b0 n i) (N := 6) (i := i) X rfl (by omega) (by omega) (by rw [senE_off (by omega), eU_ne (by omega), shI, if_neg (by omega), if_pos rfl]) senE_0 rfl rfl h6 (by decide) dX2_init_33 ?_
        refine u_iinc X dX2_init_34 rfl (nI_inc i) ?_
        show U G b0 Z _ _ _ _ 37 [_, _] _
        refine u_goto (tgt := 15) X dX2_init_37 (by decide) ?_
        refine u_cells (by omega) (fun k hk => ?_) (by omega) (by omega) (ih (i + 1) (by omega) (by omega))
        rcases (show k < n ∨ k = n ∨ k = n + 1 ∨ (n + 2 ≤ k ∧ k < n + 2 + 7 * i) ∨ k = n + 2 + 7 * i ∨ (n + 2 + 7 * i < k ∧ k < n + 2 + 7 * i + 7) by omega) with z | z | z | ⟨z1, z2⟩ | z | ⟨z1, z2⟩
        · rw [eU_ne (by omega), senE_off (by omega), eU_ne (by omega), shI_off (by omega), shI_off (by omega)]
        · rw [eU_ne (by omega), senE_off (by omega), eU_ne (by omega), shI, shI, if_pos z, if_pos z]
        · subst z
          rw [eU_at, shI, if_neg (by omega), if_pos rfl]
          have hfe : va_up (hf b0 n i) i (some (b0 + (n + 2 + 7 * i))) = hf b0 n (i + 1) := by
            funext j
            show (if j = i then some (b0 + (n + 2 + 7 * i)) else (if j < i then some (b0 + (n + 2 + 7 * j)) else none)) = (if j < i + 1 then some (b0 + (n + 2 + 7 * j)) else none)
            by_cases q : j = i
            · rw [if_pos q, if_pos (by omega), q]
            · rw [if_neg q]
              by_cases q2 : j < i
              · rw [if_pos q2, if_pos (by omega)]
              · rw [if_neg q2, if_neg (by omega)]
          rw [hfe]
        · rw [eU_ne (by omega), senE_off (by omega), eU_ne (by omega), shI_in z1 z2, shI_in z1 (by omega)]
        · subst z
          rw [eU_ne (by omega), senE_0, shI, if_neg (by omega), if_neg (by omega), if_pos (by omega), if_pos (by rw [Nat.add_sub_cancel_left]; omega)]
        · rw [eU_ne (by omega), senE_ar z1 z2, shI, if_neg (by omega), if_neg (by omega), if_pos (by omega), if_neg (by omega)]
  refine u_aload_n X dX2_init_0 rfl ?_
  refine u_objInit X wo_X2 (by decide) dX2_init_1 ?_
  refine u_aload_n X dX2_init_4 rfl ?_
  refine u_bipush (v := nI 6) X dX2_init_5 (by decide) ?_
  refine u_newq (C := RX1) (t0 := 2) (N := 6) X rfl (fun _ h => h.1) wl_X2_9 rfl (by decide) (Nat.le_of_ble_eq_true rfl) (Nat.le_of_ble_eq_true rfl) dX2_init_7 ?_
  refine u_nrm (n2 := (n + 2)) (cs2 := 1) (sl2 := 6) rfl rfl rfl ?_
  refine u_putr (q := n) (a := b0 + (n + 1)) (fs := [.null]) X hI ff_X2_11 (by omega) (by (repeat (first | rw [eU_at] | rw [eU_ne (by omega)] | rw [senE_off (by omega)] | rw [shE_off (by omega)] | rw [txE_off (by omega)] | rw [frE_off (by omega)])) <;> first | rfl | assumption) (Nat.le_of_ble_eq_true rfl) rfl rfl dX2_init_10 ?_
  refine u_iconst (v := nI 0) X dX2_init_13 (by decide) ?_
  refine u_istore_n X dX2_init_14 (Nat.le_of_ble_eq_true rfl) ?_
  show U G b0 Z _ _ _ _ 15 [_, _] _
  refine u_cells (n2 := n + 2 + 7 * 0) (F := shI G b0 E n 0) (cs2 := 1 + 7 * 0) (sl2 := 6 + 74 * 0) rfl (fun k hk => ?_) rfl rfl (loop 7 0 (by omega) (by omega))
  rcases (show k < n ∨ k = n ∨ k = n + 1 by omega) with z | rfl | rfl
  · rw [shI_off (by omega)]
    repeat rw [eU_ne (by omega)]
  · rw [shI, if_pos rfl, eU_at]; rfl
  · rw [shI, if_neg (by omega), if_pos rfl, eU_ne (by omega), eU_at]; rfl
