/-! WHERE EACH CELL IS MADE, AND THE WORLD AT THE START -/
def piL (i : Nat) : Nat := if i < 42 then 3 + i else if i < 84 then 70 + (i - 42) else if i < 126 then 114 + (i - 84) else if i < 133 then 50 + (i - 126) else if i < 140 then 58 + (i - 133) else if i = 140 then 1 else if i = 141 then 68 else if i = 142 then 112 else if i = 143 then 2 else if i = 144 then 69 else if i = 145 then 113 else if i = 146 then 45 else if i < 151 then 46 + (i - 147) else if i = 151 then 57 else if i < 155 then 65 + (i - 152) else if i = 155 then 0 else i
def ivL (k : Nat) : Nat := if k = 0 then 155 else if k = 1 then 140 else if k = 2 then 143 else if k < 45 then k - 3 else if k = 45 then 146 else if k < 50 then k - 46 + 147 else if k < 57 then k - 50 + 126 else if k = 57 then 151 else if k < 65 then k - 58 + 133 else if k < 68 then k - 65 + 152 else if k = 68 then 141 else if k = 69 then 144 else if k < 112 then k - 70 + 42 else if k = 112 then 142 else if k = 113 then 145 else if k < 156 then k - 114 + 84 else k
theorem ivL_ok : ∀ i, i < 175 → ivL (piL i) = i ∧ piL i < 175 := by decide +kernel
def GG (D : va_G) (ty : Nat → ClassId) (b0 : Nat) (sa : Nat → Nat) : GT := (D, ty, fun i => b0 + piL i, sa)
theorem GG_I (D : va_G) (ty : Nat → ClassId) (b0 : Nat) (sa : Nat → Nat) : GI (GG D ty b0 sa) := by
  intro i j hi hj e
  have e : b0 + piL i = b0 + piL j := e
  have e : piL i = piL j := by omega
  have h1 := (ivL_ok i hi).1
  rw [e, (ivL_ok j hj).1] at h1
  exact h1.symm
def sg0 : Sg := fun i k => if i = 147 ∧ k = 5 then 1 else if i = 155 ∧ k = 4 then -6 else if i = 156 ∧ k = 6 then -6 else 0
theorem sg0_z {i : Nat} (h : i < 147 ∨ (147 < i ∧ i < 155) ∨ 156 < i) : sg0 i = fun _ => 0 := by
  funext k
  unfold sg0
  rw [if_neg (by omega), if_neg (by omega), if_neg (by omega)]
theorem arrV_x {c : ClassId} {n : Nat} {z z' : Nat → Value} (h : ∀ j, j < n → z j = z' j) : arrV c n z = arrV c n z' := by
  unfold arrV
  have : (fun j : Fin n => z ↑j) = (fun j : Fin n => z' ↑j) := funext (fun j => h j j.2)
  rw [this]
section FINAL
variable {D : va_G} {ty : Nat → ClassId} {b0 : Nat} {sa : Nat → Nat} {E : Nat → va_E}
def Efn (G : GT) (b0 : Nat) (E : Nat → va_E) : Nat → va_E := moE G b0 (eU (x4I G b0 E 2) 156 (.inr (5, blX5)))
theorem Efn_lo {G : GT} {k : Nat} (h : k < 156) : Efn G b0 E k = x4I G b0 E 2 k := by
  rw [Efn, moE, if_neg (by omega), if_neg (by omega), eU_ne (by omega)]
theorem sen_ce {i m : Nat} (h7 : i % 7 = 0) (hi : i < 140) (hp : ∀ q, q < 7 → piL (i + q) = m + q) : senO b0 m = ce (GG D ty b0 sa) (Tf i) (sg0 i) := by
  have e1 : Tf i = .inr (.inr (1, [none, none, some (i + 1), some (i + 2), some (i + 3), some (i + 4), some (i + 5), some (i + 6)])) := by
    unfold Tf; rw [if_pos hi, if_pos h7]
  rw [e1, sg0_z (by omega)]
  show senO b0 m = .inr (1, [.int 0, .int 0, .ref (b0 + piL (i + 1)), .ref (b0 + piL (i + 2)), .ref (b0 + piL (i + 3)), .ref (b0 + piL (i + 4)), .ref (b0 + piL (i + 5)), .ref (b0 + piL (i + 6))])
  rw [hp 1 (by decide), hp 2 (by decide), hp 3 (by decide), hp 4 (by decide), hp 5 (by decide), hp 6 (by decide)]
  rfl
theorem arr_ce {i : Nat} (h7 : ¬ i % 7 = 0) (hi : i < 140) : arI (GG D ty b0 sa) 11 = ce (GG D ty b0 sa) (Tf i) (sg0 i) := by
  have e1 : Tf i = .inl (0, 11) := by
    unfold Tf; rw [if_pos hi, if_neg h7]
  rw [e1, sg0_z (by omega)]
  rfl
theorem x4L_2 {G : GT} {k : Nat} : x4L G b0 E 2 k = shE G b0 (shE G b0 (frE G b0 (senE G b0 (txE G b0 (shE G b0 E 1) 46) 50) 57) 68) 112 k := rfl
theorem fin_s {i : Nat} (hi : i < 140) : Efn (GG D ty b0 sa) b0 E (piL i) = ce (GG D ty b0 sa) (Tf i) (sg0 i) := by
  have pk : ∀ (n : Nat) (q : Nat), q < 7 → i % 7 = 0 → True := fun _ _ _ _ => trivial
  rcases (show i < 42 ∨ (42 ≤ i ∧ i < 84) ∨ (84 ≤ i ∧ i < 126) ∨ (126 ≤ i ∧ i < 133) ∨ (133 ≤ i ∧ i < 140) by omega) with z | ⟨z1, z2⟩ | ⟨z1, z2⟩ | ⟨z1, z2⟩ | ⟨z1, z2⟩
  · have e : piL i = 3 + i := by unfold piL; rw [if_pos z]
    rw [e, Efn_lo (by omega), x4I_ne (by omega) (by omega), x4L_2, shE_off (by omega), shE_off (by omega), frE_off (by omega), senE_off (by omega), txE_off (by omega), shE, shI_in (by omega) (by omega)]
    by_cases h7 : i % 7 = 0
    · rw [if_pos (by omega)]
      exact sen_ce h7 hi (fun q hq => by unfold piL; rw [if_pos (by omega)]; omega)
    · rw [if_neg (by omega)]; exact arr_ce h7 hi
  · have e : piL i = 70 + (i - 42) := by unfold piL; rw [if_neg (by omega), if_pos z2]
    rw [e, Efn_lo (by omega), x4I_ne (by omega) (by omega), x4L_2, shE_off (by omega), shE, shI_in (by omega) (by omega)]
    by_cases h7 : i % 7 = 0
    · rw [if_pos (by omega)]
      exact sen_ce h7 hi (fun q hq => by unfold piL; rw [if_neg (by omega), if_pos (by omega)]; omega)
    · rw [if_neg (by omega)]; exact arr_ce h7 hi
  · have e : piL i = 114 + (i - 84) := by unfold piL; rw [if_neg (by omega), if_neg (by omega), if_pos z2]
    rw [e, Efn_lo (by omega), x4I_ne (by omega) (by omega), x4L_2, shE, shI_in (by omega) (by omega)]
    by_cases h7 : i % 7 = 0
    · rw [if_pos (by omega)]
      exact sen_ce h7 hi (fun q hq => by unfold piL; rw [if_neg (by omega), if_neg (by omega), if_pos (by omega)]; omega)
    · rw [if_neg (by omega)]; exact arr_ce h7 hi
  · have e : piL i = 50 + (i - 126) := by unfold piL; rw [if_neg (by omega), if_neg (by omega), if_neg (by omega), if_pos z2]
    rw [e, Efn_lo (by omega), x4I_ne (by omega) (by omega), x4L_2, shE_off (by omega), shE_off (by omega), frE_off (by omega)]
    by_cases h7 : i % 7 = 0
    · rw [show 50 + (i - 126) = 50 by omega, senE_0]
      exact sen_ce h7 hi (fun q hq => by unfold piL; rw [if_neg (by omega), if_neg (by omega), if_neg (by omega), if_pos (by omega)]; omega)
    · rw [senE_ar (by omega) (by omega)]; exact arr_ce h7 hi
  · have e : piL i = 58 + (i - 133) := by unfold piL; rw [if_neg (by omega), if_neg (by omega), if_neg (by omega), if_neg (by omega), if_pos z2]
    rw [e, Efn_lo (by omega), x4I_ne (by omega) (by omega), x4L_2, shE_off (by omega), shE_off (by omega), frE_sen (by omega) (by omega)]
    by_cases h7 : i % 7 = 0
    · rw [show 58 + (i - 133) = 57 + 1 by omega, senE_0]
      exact sen_ce h7 hi (fun q hq => by unfold piL; rw [if_neg (by omega), if_neg (by omega), if_neg (by omega), if_neg (by omega), if_pos (by omega)]; omega)
    · rw [senE_ar (by omega) (by omega)]; exact arr_ce h7 hi
theorem held_at {n j : Nat} (hp : ∀ k, k < 6 → piL (7 * (6 * j + k)) = n + 2 + 7 * k) {H : Heap} {a : Nat} (h : va_at D vwCl (a, .inl (ty 2, 6, .inr (.inr (.inr (.inr (hf b0 n 6)))))) H) : va_at D vwCl (a, .inl (ty 2, 6, .inr (.inr (.inr (.inr (fun k => some (b0 + piL (7 * (6 * j + k)))))))) ) H := by
  have h : H[a]? = some (vp_cell (ty 2) (6, .inr (.inr (.inr (.inr (hf b0 n 6)))))) := h
  show H[a]? = some (vp_cell (ty 2) (6, .inr (.inr (.inr (.inr (fun k => some (b0 + piL (7 * (6 * j + k)))))))))
  rw [h, vp_cell_q, vp_cell_q]
  refine congrArg some (arrV_x (fun k hk => ?_))
  rw [hf, if_pos hk, hp k hk]
theorem img_at {H : Heap} {a : Nat} (h : va_at D vwCl (a, .inl (ty 3, 2, .inr (.inr (.inr (.inr (imf b0 2)))))) H) : va_at D vwCl (a, .inl (ty 3, 2, .inr (.inr (.inr (.inr (fun k => some (b0 + piL (k + 1 + 140)))))))) H := by
  have h : H[a]? = some (vp_cell (ty 3) (2, .inr (.inr (.inr (.inr (imf b0 2)))))) := h
  show H[a]? = some (vp_cell (ty 3) (2, .inr (.inr (.inr (.inr (fun k => some (b0 + piL (k + 1 + 140))))))))
  rw [h, vp_cell_q, vp_cell_q]
  refine congrArg some (arrV_x (fun k hk => ?_))
  rw [imf, if_pos hk]
  rcases (show k = 0 ∨ k = 1 by omega) with rfl | rfl <;> rfl
theorem fin_at {H : Heap} {i : Nat} (hi : i < 175) (h : va_at D vwCl (b0 + piL i, Efn (GG D ty b0 sa) b0 E (piL i)) H) : va_at D vwCl (b0 + piL i, ce (GG D ty b0 sa) (Tf i) (sg0 i)) H := by
  rcases Nat.lt_or_ge i 140 with z | z
  · rw [← fin_s (E := E) z]; exact h
  · rcases (show i = 140 ∨ i = 141 ∨ i = 142 ∨ i = 143 ∨ i = 144 ∨ i = 145 ∨ i = 146 ∨ i = 147 ∨ i = 148 ∨ i = 149 ∨ i = 150 ∨ i = 151 ∨ i = 152 ∨ i = 153 ∨ i = 154 ∨ i = 155 ∨ i = 156 ∨ i = 157 ∨ i = 158 ∨ i = 159 ∨ i = 160 ∨ i = 161 ∨ i = 162 ∨ i = 163 ∨ i = 164 ∨ i = 165 ∨ i = 166 ∨ i = 167 ∨ i = 168 ∨ i = 169 ∨ i = 170 ∨ i = 171 ∨ i = 172 ∨ i = 173 ∨ i = 174 by omega) with rfl | rfl | rfl | rfl | rfl | rfl | rfl | rfl | rfl | rfl | rfl | rfl | rfl | rfl | rfl | rfl | rfl | rfl | rfl | rfl | rfl | rfl | rfl | rfl | rfl | rfl | rfl | rfl | rfl | rfl | rfl | rfl | rfl | rfl | rfl
    · exact h
    · exact h
    · exact h
    · exact held_at (n := 1) (j := 0) (by decide +kernel) h
    · exact held_at (n := 68) (j := 1) (by decide +kernel) h
    · exact held_at (n := 112) (j := 2) (by decide +kernel) h
    · exact img_at h
    · exact h
    · exact h
    · exact h
    · exact h
    · exact h
    · exact h
    · exact h
    · exact h
    · exact h
    · exact h
    · exact h
    · exact h
    · exact h
    · exact h
    · exact h
    · exact h
    · exact h
    · exact h
    · exact h
    · exact h
    · exact h
    · exact h
    · exact h
    · exact h
    · exact h
    · exact h
    · exact h
    · exact h
theorem fin_P {H : Heap} (h : va_P D vwCl (wE b0 175 (Efn (GG D ty b0 sa) b0 E)) H) : va_P (GG D ty b0 sa).1 vwCl (wl (GG D ty b0 sa) sg0) H := by
  intro i q hq
  by_cases hi : i < 175
  · rw [wl_at _ _ hi] at hq
    cases hq
    exact fin_at hi (h (piL i) _ (wE_at b0 _ (ivL_ok i hi).2))
  · have : (wl (GG D ty b0 sa) sg0)[i]? = none := by simp [wl, NC]; omega
    rw [this] at hq; cases hq
end FINAL
def A0 : ASt := (fun _ => [], [], -6, 0)
theorem hs0 {j : Nat} (hj : j < 20) : hs sg0 j [] := ⟨Nat.zero_le _, fun k p h => by simp at h, by rw [sg0_z (by omega)]; rfl, fun k p h => by simp at h, fun k h => by simp at h⟩
theorem hz0 {j : Nat} (hj : j < 20) : hz sg0 j [] := ⟨hs0 hj, by rw [sg0_z (by omega)]; rfl⟩
theorem cR0 : cR sg0 A0 := ⟨fun j hj => hz0 (by omega), ⟨Nat.zero_le _, rfl, fun i s h => by simp [A0] at h⟩, rfl, rfl, by decide, [], hz0 (by decide), fun h => by simp at h⟩
theorem mR0 : mR sg0 A0 := ⟨fun i hi => ⟨Nat.zero_le _, fun k p h => by simp [A0] at h, by rw [sg0_z (by omega)]; rfl, fun k p h => by simp [A0] at h⟩, ⟨Nat.zero_le _, rfl, fun i s h => by simp [A0] at h⟩, rfl, fun k hk => by rw [sg0_z (by omega)]; simp [A0]; rfl, by decide⟩
