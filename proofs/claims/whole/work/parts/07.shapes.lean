theorem Tf_sen {j : Nat} (hj : j < 20) : Tf (7 * j) = .inr (.inr (1, [none, none, some (7 * j + 1), some (7 * j + 2), some (7 * j + 3), some (7 * j + 4), some (7 * j + 5), some (7 * j + 6)])) := by
  unfold Tf; rw [if_pos (by omega), if_pos (by omega)]
theorem Tf_arr {j q : Nat} (hj : j < 20) (h1 : 1 ≤ q) (h2 : q < 7) : Tf (7 * j + q) = .inl (0, 11) := by
  unfold Tf; rw [if_pos (by omega), if_neg (by omega)]
theorem Tf_she {j : Nat} (hj : j < 3) : Tf (j + 140) = .inr (.inr (2, [some (j + 143)])) := by
  unfold Tf; rw [if_neg (by omega), if_pos (by omega)]
theorem Tf_hel {j : Nat} (hj : j < 3) : Tf (j + 143) = .inr (.inl (2, 6, fun k => 7 * (6 * j + k))) := by
  unfold Tf; rw [if_neg (by omega), if_neg (by omega), if_pos (by omega)]
  simp only [Nat.add_sub_cancel]
theorem obX1 {j : Nat} (hj : j < 20) : oC (7 * j) 1 := ⟨by show _ < 175; omega, _, Tf_sen hj⟩
theorem obX2 {j : Nat} (hj : j < 3) : oC (j + 140) 2 := ⟨by show _ < 175; omega, _, Tf_she hj⟩
theorem obX0 : oC 151 0 := ⟨by decide, _, rfl⟩
theorem obX3 : oC 147 3 := ⟨by decide, _, rfl⟩
theorem obX4 : oC 155 4 := ⟨by decide, _, rfl⟩
theorem obX5 : oC 156 5 := ⟨by decide, _, rfl⟩
theorem shX1_0 {j : Nat} (hj : j < 20) : fI (7 * j) 1 0 := ⟨by show _ < 175; omega, _, Tf_sen hj, rfl⟩
theorem shX1_1 {j : Nat} (hj : j < 20) : fI (7 * j) 1 1 := ⟨by show _ < 175; omega, _, Tf_sen hj, rfl⟩
theorem shX1_2 {j : Nat} (hj : j < 20) : fR (7 * j) 1 2 (7 * j + 1) := ⟨by show _ < 175; omega, _, Tf_sen hj, rfl⟩
theorem arX1_2 {j : Nat} (hj : j < 20) : aI (7 * j + 1) 11 := ⟨by show _ < 175; omega, Tf_arr hj (by decide) (by decide)⟩
theorem shX1_3 {j : Nat} (hj : j < 20) : fR (7 * j) 1 3 (7 * j + 2) := ⟨by show _ < 175; omega, _, Tf_sen hj, rfl⟩
theorem arX1_3 {j : Nat} (hj : j < 20) : aI (7 * j + 2) 11 := ⟨by show _ < 175; omega, Tf_arr hj (by decide) (by decide)⟩
theorem shX1_4 {j : Nat} (hj : j < 20) : fR (7 * j) 1 4 (7 * j + 3) := ⟨by show _ < 175; omega, _, Tf_sen hj, rfl⟩
theorem arX1_4 {j : Nat} (hj : j < 20) : aI (7 * j + 3) 11 := ⟨by show _ < 175; omega, Tf_arr hj (by decide) (by decide)⟩
theorem shX1_5 {j : Nat} (hj : j < 20) : fR (7 * j) 1 5 (7 * j + 4) := ⟨by show _ < 175; omega, _, Tf_sen hj, rfl⟩
theorem arX1_5 {j : Nat} (hj : j < 20) : aI (7 * j + 4) 11 := ⟨by show _ < 175; omega, Tf_arr hj (by decide) (by decide)⟩
theorem shX1_6 {j : Nat} (hj : j < 20) : fR (7 * j) 1 6 (7 * j + 5) := ⟨by show _ < 175; omega, _, Tf_sen hj, rfl⟩
theorem arX1_6 {j : Nat} (hj : j < 20) : aI (7 * j + 5) 11 := ⟨by show _ < 175; omega, Tf_arr hj (by decide) (by decide)⟩
theorem shX1_7 {j : Nat} (hj : j < 20) : fR (7 * j) 1 7 (7 * j + 6) := ⟨by show _ < 175; omega, _, Tf_sen hj, rfl⟩
theorem arX1_7 {j : Nat} (hj : j < 20) : aI (7 * j + 6) 11 := ⟨by show _ < 175; omega, Tf_arr hj (by decide) (by decide)⟩
theorem shX2_0 {j : Nat} (hj : j < 3) : fR (j + 140) 2 0 (j + 143) := ⟨by show _ < 175; omega, _, Tf_she hj, rfl⟩
theorem arX2_0 {j : Nat} (hj : j < 3) : aR (j + 143) 2 6 (fun k => 7 * (6 * j + k)) := ⟨by show _ < 175; omega, Tf_hel hj⟩
theorem arX4_1 : aR 146 3 2 (fun k => k + 1 + 140) := ⟨by decide, rfl⟩
theorem shX0_0 : fR 151 0 0 (7 * 19) := ⟨by decide, _, rfl, rfl⟩
theorem shX0_1 : fR 151 0 1 (152) := ⟨by decide, _, rfl, rfl⟩
theorem arX0_1 : aI 152 2048 := ⟨by decide, rfl⟩
theorem shX0_2 : fR 151 0 2 (153) := ⟨by decide, _, rfl, rfl⟩
theorem arX0_2 : aI 153 2048 := ⟨by decide, rfl⟩
theorem shX0_3 : fR 151 0 3 (154) := ⟨by decide, _, rfl, rfl⟩
theorem arX0_3 : aI 154 2048 := ⟨by decide, rfl⟩
theorem shX0_4 : fI 151 0 4 := ⟨by decide, _, rfl, rfl⟩
theorem shX0_5 : fI 151 0 5 := ⟨by decide, _, rfl, rfl⟩
theorem shX3_0 : fI 147 3 0 := ⟨by decide, _, rfl, rfl⟩
theorem shX3_1 : fR 147 3 1 (148) := ⟨by decide, _, rfl, rfl⟩
theorem arX3_1 : aI 148 40 := ⟨by decide, rfl⟩
theorem shX3_2 : fR 147 3 2 (149) := ⟨by decide, _, rfl, rfl⟩
theorem arX3_2 : aI 149 40 := ⟨by decide, rfl⟩
theorem shX3_3 : fR 147 3 3 (150) := ⟨by decide, _, rfl, rfl⟩
theorem arX3_3 : aI 150 40 := ⟨by decide, rfl⟩
theorem shX3_4 : fI 147 3 4 := ⟨by decide, _, rfl, rfl⟩
theorem shX3_5 : fI 147 3 5 := ⟨by decide, _, rfl, rfl⟩
theorem shX3_6 : fI 147 3 6 := ⟨by decide, _, rfl, rfl⟩
theorem shX4_0 : fR 155 4 0 (140) := ⟨by decide, _, rfl, rfl⟩
theorem shX4_1 : fR 155 4 1 (146) := ⟨by decide, _, rfl, rfl⟩
theorem shX4_2 : fI 155 4 2 := ⟨by decide, _, rfl, rfl⟩
theorem shX4_3 : fR 155 4 3 (147) := ⟨by decide, _, rfl, rfl⟩
theorem shX4_4 : fI 155 4 4 := ⟨by decide, _, rfl, rfl⟩
theorem shX4_5 : fR 155 4 5 (7 * 18) := ⟨by decide, _, rfl, rfl⟩
theorem shX4_6 : fR 155 4 6 (151) := ⟨by decide, _, rfl, rfl⟩
theorem shX5_0 : fR 156 5 0 (157) := ⟨by decide, _, rfl, rfl⟩
theorem arX5_0 : aI 157 18 := ⟨by decide, rfl⟩
theorem shX5_1 : fR 156 5 1 (158) := ⟨by decide, _, rfl, rfl⟩
theorem arX5_1 : aI 158 198 := ⟨by decide, rfl⟩
theorem shX5_2 : fR 156 5 2 (159) := ⟨by decide, _, rfl, rfl⟩
theorem arX5_2 : aI 159 198 := ⟨by decide, rfl⟩
theorem shX5_3 : fR 156 5 3 (160) := ⟨by decide, _, rfl, rfl⟩
theorem arX5_3 : aI 160 198 := ⟨by decide, rfl⟩
theorem shX5_4 : fR 156 5 4 (161) := ⟨by decide, _, rfl, rfl⟩
theorem arX5_4 : aI 161 40 := ⟨by decide, rfl⟩
theorem shX5_5 : fI 156 5 5 := ⟨by decide, _, rfl, rfl⟩
theorem shX5_6 : fI 156 5 6 := ⟨by decide, _, rfl, rfl⟩
theorem shX5_7 : fI 156 5 7 := ⟨by decide, _, rfl, rfl⟩
theorem shX5_8 : fR 156 5 8 (162) := ⟨by decide, _, rfl, rfl⟩
theorem arX5_8 : aI 162 128 := ⟨by decide, rfl⟩
theorem shX5_9 : fR 156 5 9 (163) := ⟨by decide, _, rfl, rfl⟩
theorem arX5_9 : aI 163 128 := ⟨by decide, rfl⟩
theorem shX5_10 : fR 156 5 10 (164) := ⟨by decide, _, rfl, rfl⟩
theorem arX5_10 : aI 164 128 := ⟨by decide, rfl⟩
theorem shX5_11 : fR 156 5 11 (165) := ⟨by decide, _, rfl, rfl⟩
theorem arX5_11 : aI 165 64 := ⟨by decide, rfl⟩
theorem shX5_12 : fR 156 5 12 (166) := ⟨by decide, _, rfl, rfl⟩
theorem arX5_12 : aI 166 64 := ⟨by decide, rfl⟩
theorem shX5_13 : fR 156 5 13 (167) := ⟨by decide, _, rfl, rfl⟩
theorem arX5_13 : aI 167 64 := ⟨by decide, rfl⟩
theorem shX5_14 : fI 156 5 14 := ⟨by decide, _, rfl, rfl⟩
theorem shX5_15 : fI 156 5 15 := ⟨by decide, _, rfl, rfl⟩
theorem shX5_16 : fI 156 5 16 := ⟨by decide, _, rfl, rfl⟩
theorem shX5_17 : fR 156 5 17 (168) := ⟨by decide, _, rfl, rfl⟩
theorem arX5_17 : aI 168 16 := ⟨by decide, rfl⟩
theorem shX5_18 : fR 156 5 18 (169) := ⟨by decide, _, rfl, rfl⟩
theorem arX5_18 : aI 169 64 := ⟨by decide, rfl⟩
theorem shX5_19 : fR 156 5 19 (170) := ⟨by decide, _, rfl, rfl⟩
theorem arX5_19 : aI 170 16 := ⟨by decide, rfl⟩
theorem shX5_20 : fR 156 5 20 (171) := ⟨by decide, _, rfl, rfl⟩
theorem arX5_20 : aI 171 2048 := ⟨by decide, rfl⟩
theorem shX5_21 : fR 156 5 21 (172) := ⟨by decide, _, rfl, rfl⟩
theorem arX5_21 : aZ 172 2048 := ⟨by decide, rfl⟩
theorem shX5_22 : fI 156 5 22 := ⟨by decide, _, rfl, rfl⟩
theorem shX5_23 : fR 156 5 23 (173) := ⟨by decide, _, rfl, rfl⟩
theorem arX5_23 : aI 173 2048 := ⟨by decide, rfl⟩
theorem shX5_24 : fR 156 5 24 (174) := ⟨by decide, _, rfl, rfl⟩
theorem arX5_24 : aZ 174 2 := ⟨by decide, rfl⟩
