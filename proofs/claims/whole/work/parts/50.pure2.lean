/-! PURE FACTS ON ROWS OF TRUE AND FALSE -/
def rwB (P : Sen) (j i : Nat) : Bool := bt ((rwL P).getD i 0) j
def rset (P : Sen) (j : Nat) : Nat → Nat
  | 0 => 0
  | n + 1 => if rwB P j n then rset P j n ||| 2 ^ n else rset P j n
theorem rset_bit (P : Sen) (j : Nat) : ∀ (n i : Nat), (rset P j n).testBit i = (decide (i < n) && rwB P j i)
  | 0, i => by simp [rset]
  | n + 1, i => by
    have h1 : i ≠ n → decide (i < n + 1) = decide (i < n) := fun z => by rw [decide_eq_decide]; omega
    rw [rset]
    cases hc : rwB P j n with
    | true =>
      rw [if_pos rfl, Nat.testBit_or, rset_bit P j n i, Nat.testBit_two_pow]
      by_cases hi : i = n
      · subst hi; rw [hc]; simp
      · rw [h1 hi]; simp [Ne.symm hi]
    | false =>
      rw [if_neg (by decide), rset_bit P j n i]
      by_cases hi : i = n
      · subst hi; rw [hc]; simp
      · rw [h1 hi]
theorem rset_lt (P : Sen) (j n : Nat) : rset P j n < 2 ^ n := by
  apply Nat.lt_pow_two_of_testBit
  intro i hi
  rw [rset_bit, decide_eq_false (by omega)]; rfl
theorem arow_bit : ∀ a, a < 4 → ∀ j, j < 16 → bt (arow a) j = j.testBit a := by decide +kernel
theorem arow_hi : ∀ a, a < 4 → ∀ j, j < 32 → 16 ≤ j → bt (arow a) j = false := by decide +kernel
theorem b_65 : ∀ j, j < 32 → bt 65535 j = decide (j < 16) := by decide +kernel
theorem rwB_rec {P : Sen} (hw : wf P) {k : Nat} {p : Pt} (hp : P[k]? = some p) {j : Nat} (hj : j < 16) : rwB P j k = if p.1 = 0 then j.testBit p.2.1 else if p.1 = 2 then rwB P j p.2.1 && rwB P j p.2.2 else if p.1 = 3 then rwB P j p.2.1 || rwB P j p.2.2 else if p.1 = 4 then !rwB P j p.2.1 || rwB P j p.2.2 else false := by
  unfold rwB
  rw [rwL_rec hw hp]
  unfold rwV
  rcases hw k p hp with ⟨z, z1, -⟩ | ⟨z, -⟩ | ⟨z1, z2, -, -⟩
  · rw [if_pos z, if_pos z]; exact arow_bit _ z1 _ hj
  · rw [if_neg (by omega), if_neg (by omega), if_neg (by omega), if_neg (by omega), if_neg (by omega), if_neg (by omega), if_neg (by omega), if_neg (by omega)]
    exact b_0 j
  · rcases (show p.1 = 2 ∨ p.1 = 3 ∨ p.1 = 4 by omega) with z | z | z
    · rw [if_neg (by omega), if_pos z, if_neg (by omega), if_pos z]; exact b_and _ _ _
    · rw [if_neg (by omega), if_neg (by omega), if_pos z, if_neg (by omega), if_neg (by omega), if_pos z]; exact b_or _ _ _
    · rw [if_neg (by omega), if_neg (by omega), if_neg (by omega), if_pos z, if_neg (by omega), if_neg (by omega), if_neg (by omega), if_pos z]
      rw [b_or, b_and, b_xor, b_m1 j (by omega), b_65 j (by omega), decide_eq_true hj]
      simp
theorem rwB_hi {P : Sen} (hw : wf P) : ∀ (k : Nat), k < P.length → ∀ j, j < 32 → 16 ≤ j → rwB P j k = false := by
  intro k
  induction k using Nat.strongRecOn with
  | _ k ih =>
    intro hk j hj hj2
    obtain ⟨p, hp⟩ : ∃ p, P[k]? = some p := ⟨P[k], List.getElem?_eq_getElem hk⟩
    have ihb : ∀ a, a < k → bt ((rwL P).getD a 0) j = false := fun a ha => ih a ha (by omega) j hj hj2
    unfold rwB
    rw [rwL_rec hw hp]
    unfold rwV
    rcases hw k p hp with ⟨z, z1, -⟩ | ⟨z, -⟩ | ⟨z1, z2, ha, hb⟩
    · rw [if_pos z]; exact arow_hi _ z1 _ hj hj2
    · rw [if_neg (by omega), if_neg (by omega), if_neg (by omega), if_neg (by omega)]
      exact b_0 j
    · rcases (show p.1 = 2 ∨ p.1 = 3 ∨ p.1 = 4 by omega) with z | z | z
      · rw [if_neg (by omega), if_pos z, b_and, ihb _ ha]; rfl
      · rw [if_neg (by omega), if_neg (by omega), if_pos z, b_or, ihb _ ha, ihb _ hb]; rfl
      · rw [if_neg (by omega), if_neg (by omega), if_neg (by omega), if_pos z]
        rw [b_or, b_and, b_65 j hj, decide_eq_false (by omega), ihb _ hb]
        simp
theorem rowT_iff {P : Sen} (hw : wf P) (h0 : 0 < P.length) : rowT P = (List.range 16).all (fun j => rwB P j (P.length - 1)) := by
  rw [Bool.eq_iff_iff, List.all_eq_true]
  unfold rowT
  rw [decide_eq_true_eq]
  constructor
  · rintro ⟨-, h⟩ j hj
    have hj := List.mem_range.mp hj
    show bt _ j = true
    rw [h, b_65 j (by omega)]
    exact decide_eq_true hj
  · intro h
    refine ⟨h0, b_ext (fun i hi => ?_)⟩
    rw [b_65 i hi]
    by_cases z : i < 16
    · rw [decide_eq_true z]; exact h i (List.mem_range.mpr z)
    · rw [decide_eq_false z]; exact rwB_hi hw _ (by omega) i hi (by omega)
theorem rset_clo {P : Sen} (hw : wf P) {j : Nat} (hj : j < 16) : clP P P.length (rset P j P.length) = true := by
  rw [clP, List.all_eq_true]
  intro k hk
  have hk := List.mem_range.mp hk
  obtain ⟨p, hp⟩ : ∃ p, P[k]? = some p := ⟨P[k], List.getElem?_eq_getElem hk⟩
  rw [getD_of hp]
  have hr := rwB_rec hw hp hj
  unfold cl1
  have hb : ∀ a, a < P.length → (rset P j P.length).testBit a = rwB P j a := fun a ha => by rw [rset_bit, decide_eq_true ha]; rfl
  rcases hw k p hp with ⟨z, z1, -⟩ | ⟨z, -⟩ | ⟨z1, z2, ha, hbb⟩
  · rw [if_pos z]
  · rw [if_neg (by omega), if_pos z, hb k hk]
    rw [if_neg (by omega), if_neg (by omega), if_neg (by omega), if_neg (by omega)] at hr
    rw [hr]; rfl
  · rw [hb k hk, hb _ (by omega), hb _ (by omega)]
    rcases (show p.1 = 2 ∨ p.1 = 3 ∨ p.1 = 4 by omega) with z | z | z
    · rw [if_neg (by omega), if_neg (by omega), if_pos z]
      rw [if_neg (by omega), if_pos z] at hr
      rw [hr]; simp
    · rw [if_neg (by omega), if_neg (by omega), if_neg (by omega), if_pos z]
      rw [if_neg (by omega), if_neg (by omega), if_pos z] at hr
      rw [hr]; simp
    · rw [if_neg (by omega), if_neg (by omega), if_neg (by omega), if_neg (by omega)]
      rw [if_neg (by omega), if_neg (by omega), if_neg (by omega), if_pos z] at hr
      rw [hr]
      cases rwB P j p.2.1 <;> cases rwB P j p.2.2 <;> rfl
theorem sfL_own {P : Sen} {w : Nat} (h : ∀ K, (opF P w K).1 = 0) : ∀ (l : List Nat), w ∈ l → ∃ q ∈ sfL P l, q.1 = w
  | [], hm => by cases hm
  | v :: l, hm => by
    rw [sfL]
    unfold csd
    rcases List.mem_cons.mp hm with rfl | hm
    · rw [if_pos (h _)]; exact ⟨_, List.mem_cons_self, rfl⟩
    · obtain ⟨q, hq, e⟩ := sfL_own h l hm
      split
      · exact ⟨q, List.mem_cons_of_mem _ hq, e⟩
      · exact ⟨q, hq, e⟩
theorem rset_wld {P : Sen} (hw : wf P) {j : Nat} (hj : j < 16) : ∃ i, i < (wlK P).length ∧ kw (wlK P) i = rset P j P.length := by
  have h0 : ∀ K, (opF P (rset P j P.length) K).1 = 0 := by
    intro K
    rw [dif_zero_bit]
    intro k
    rw [opF_bit]
    cases hk : lk P (rset P j P.length) k with
    | false => rfl
    | true =>
      obtain ⟨h1, h2, h3⟩ := lk_iff.mp hk
      obtain ⟨p, hp⟩ : ∃ p, P[k]? = some p := ⟨P[k], List.getElem?_eq_getElem h1⟩
      rw [getD_of hp] at h2 ⊢
      have hr := rwB_rec hw hp hj
      rw [if_neg (by omega), if_neg (by omega), if_neg (by omega), if_pos h2] at hr
      rw [rset_bit, decide_eq_true h1, hr] at h3
      have ha : p.2.1 < P.length := by
        rcases hw k p hp with ⟨z, -⟩ | ⟨z, -⟩ | ⟨-, -, ha, -⟩ <;> omega
      rw [rset_bit, decide_eq_true ha]
      cases hq : rwB P j p.2.1 with
      | true => rfl
      | false => rw [hq] at h3; simp at h3
  have hm : rset P j P.length ∈ clL P P.length := List.mem_filter.mpr ⟨List.mem_range.mpr (rset_lt P j _), rset_clo hw hj⟩
  obtain ⟨q, hq, e⟩ := sfL_own h0 _ hm
  obtain ⟨i, hi⟩ := List.getElem?_of_mem hq
  refine ⟨i, (List.getElem?_eq_some_iff.mp hi).1, ?_⟩
  rw [kw, List.getD_eq_getElem?_getD, wlK, hi]
  exact e
theorem ctB_n0 {f : Nat → Bool} : ∀ {n}, ctB f n = 0 → ∀ i, i < n → f i = false
  | 0, _, i, hi => by omega
  | n + 1, h, i, hi => by
    rw [ctB] at h
    by_cases z : i = n
    · subst z
      cases hf : f i with
      | false => rfl
      | true => rw [hf] at h; simp at h
    · exact ctB_n0 (n := n) (by omega) i (by omega)
theorem sbs_0 (w : Nat) : sbs 0 w = true := sbs_iff.mpr (fun i h => by rw [Nat.zero_testBit] at h; cases h)
theorem pln_frc {P : Sen} (hw : wf P) (h0 : 0 < P.length) : frc (wlK P) 0 (P.length - 1) = pln P := by
  rw [Bool.eq_iff_iff, frc, List.all_eq_true, pln, Bool.and_eq_true, decide_eq_true_eq]
  constructor
  · intro h
    have hb : ∀ i, i < (wlK P).length → (kw (wlK P) i).testBit (P.length - 1) = true := fun i hi => by
      have := h i (List.mem_range.mpr hi)
      rw [sbs_0] at this
      simpa using this
    refine ⟨?_, ctB_0 (fun i hi => by rw [hb i hi]; rfl)⟩
    rw [rowT_iff hw h0, List.all_eq_true]
    intro j hj
    obtain ⟨i, hi, e⟩ := rset_wld hw (List.mem_range.mp hj)
    have := hb i hi
    rw [e, rset_bit, decide_eq_true (by omega)] at this
    simpa using this
  · rintro ⟨-, h⟩ i hi
    have := ctB_n0 h i (List.mem_range.mp hi)
    have : (kw (wlK P) i).testBit (P.length - 1) = true := by simpa using this
    rw [this]; simp
theorem all_succ (f : Nat → Bool) (n : Nat) : (List.range (n + 1)).all f = ((List.range n).all f && f n) := by
  rw [List.range_succ, List.all_append]; simp
theorem any_succ (f : Nat → Bool) (n : Nat) : (List.range (n + 1)).any f = ((List.range n).any f || f n) := by
  rw [List.range_succ, List.any_append]; simp
