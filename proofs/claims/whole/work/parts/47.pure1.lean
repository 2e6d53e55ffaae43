/-! PURE FACTS ON THE WORLDS -/
theorem dif_zero_bit {a : Nat} : a = 0 ↔ ∀ k, a.testBit k = false := by
  constructor
  · rintro rfl k; exact Nat.zero_testBit k
  · intro h
    apply Nat.eq_of_testBit_eq
    intro i
    rw [h i, Nat.zero_testBit]
theorem denK_bit (P : Sen) (m w : Nat) : ∀ (n i : Nat), (denK P m w n).testBit i = (decide (i < n) && (m.testBit i && w.testBit (P.getD i (1, 0, 0)).2.1))
  | 0, i => by simp [denK]
  | n + 1, i => by
    have h1 : i ≠ n → decide (i < n + 1) = decide (i < n) := fun z => by rw [decide_eq_decide]; omega
    rw [denK]
    cases hc : (m.testBit n && w.testBit (P.getD n (1, 0, 0)).2.1) with
    | true =>
      rw [if_pos rfl, Nat.testBit_or, denK_bit P m w n i, Nat.testBit_two_pow]
      by_cases hi : i = n
      · subst hi; rw [hc]; simp
      · rw [h1 hi]; simp [Ne.symm hi]
    | false =>
      rw [if_neg (by decide), denK_bit P m w n i]
      by_cases hi : i = n
      · subst hi; rw [hc]; simp
      · rw [h1 hi]
/-- part k is an ( A > B ) that w lacks -/
def lk (P : Sen) (w k : Nat) : Bool := decide (k < P.length) && (decide ((P.getD k (1, 0, 0)).1 = 4) && !w.testBit k)
theorem mis_bit (P : Sen) (w k : Nat) : (dif (imp P) w).testBit k = lk P w k := by
  rw [dif_bit, imp, impK_bit, lk, Bool.and_assoc]
theorem den_bit (P : Sen) (w k : Nat) : (den P w).testBit k = (lk P w k && w.testBit (P.getD k (1, 0, 0)).2.1) := by
  rw [den, denK_bit, mis_bit, lk]
  cases decide (k < P.length) <;> rfl
theorem opS_bit (w k : Nat) : ∀ (K : Kw) (acc : Nat × Nat), (K.foldl (opS w) acc).1.testBit k = (acc.1.testBit k && !K.any (fun e => sbs w e.1 && e.2.1.testBit k))
  | [], acc => by simp
  | e :: K, acc => by
    rw [List.foldl_cons, opS_bit w k K, List.any_cons]
    unfold opS
    cases hs : sbs w e.1 with
    | true =>
      rw [if_pos rfl]
      simp only
      rw [dif_bit]
      cases acc.1.testBit k <;> cases e.2.1.testBit k <;> simp
    | false => rw [if_neg (by decide)]; simp
theorem opF_bit (P : Sen) (w k : Nat) (K : Kw) : (opF P w K).1.testBit k = (lk P w k && !w.testBit (P.getD k (1, 0, 0)).2.1 && !K.any (fun e => sbs w e.1 && e.2.1.testBit k)) := by
  rw [opF, opS_bit, dif_bit, mis_bit, den_bit]
  cases lk P w k <;> simp
/-- what each kept world bears -/
theorem sfL_at (P : Sen) : ∀ (l : List Nat) (i : Nat) (q : Nat × Nat × Nat), (sfL P l)[i]? = some q → q.2.1 = den P q.1 ∧ q.2.2 = (opF P q.1 ((sfL P l).drop (i + 1))).2 ∧ (opF P q.1 ((sfL P l).drop (i + 1))).1 = 0
  | [], i, q, h => by simp [sfL] at h
  | w :: l, i, q, h => by
    rw [sfL] at h ⊢
    unfold csd at h ⊢
    by_cases h0 : (opF P w (sfL P l)).1 = 0
    · rw [if_pos h0] at h ⊢
      cases i with
      | zero =>
        have : (w, den P w, (opF P w (sfL P l)).2) = q := by simpa using h
        subst this
        exact ⟨rfl, rfl, h0⟩
      | succ i =>
        rw [List.getElem?_cons_succ] at h
        exact sfL_at P l i q h
    · rw [if_neg h0] at h ⊢
      exact sfL_at P l i q h
theorem sfL_sub (P : Sen) : ∀ (l : List Nat), ((sfL P l).map (fun q => q.1)).Sublist l
  | [] => by simp [sfL]
  | w :: l => by
    rw [sfL, csd]
    split
    · rw [List.map_cons]; exact (sfL_sub P l).cons₂ w
    · exact (sfL_sub P l).cons w
theorem clL_pair (P : Sen) (n : Nat) : (clL P n).Pairwise (· < ·) := List.pairwise_lt_range.filter _
theorem wlK_pair (P : Sen) : ((wlK P).map (fun q => q.1)).Pairwise (· < ·) := (clL_pair P P.length).sublist (sfL_sub P _)
theorem kw_map (K : Kw) {i : Nat} (hi : i < K.length) : (K.map (fun q => q.1))[i]? = some (kw K i) := by
  rw [List.getElem?_map, List.getElem?_eq_getElem hi, kw, List.getD_eq_getElem?_getD, List.getElem?_eq_getElem hi]
  rfl
theorem kw_mono {P : Sen} {i j : Nat} (hij : i < j) (hj : j < (wlK P).length) : kw (wlK P) i < kw (wlK P) j := by
  have h := wlK_pair P
  rw [List.pairwise_iff_getElem] at h
  have h1 := kw_map (wlK P) (show i < _ by omega)
  have h2 := kw_map (wlK P) hj
  obtain ⟨a1, a2⟩ := List.getElem?_eq_some_iff.mp h1
  obtain ⟨b1, b2⟩ := List.getElem?_eq_some_iff.mp h2
  have := h i j a1 b1 hij
  rw [a2, b2] at this
  exact this
/-- a closed set: an ( A > B ) with A and without B is not in it, one with B is -/
theorem clP_at {P : Sen} {n w k : Nat} (h : clP P n w = true) (hk : k < n) : cl1 (P.getD k (1, 0, 0)) k w = true := by
  rw [clP, List.all_eq_true] at h
  exact h k (List.mem_range.mpr hk)
theorem clo_4 {P : Sen} {w k : Nat} (h : clP P P.length w = true) (hk : k < P.length) (h4 : (P.getD k (1, 0, 0)).1 = 4) : w.testBit k = (w.testBit (P.getD k (1, 0, 0)).2.2 || (w.testBit k && !w.testBit (P.getD k (1, 0, 0)).2.1)) := by
  have := clP_at h hk
  rw [cl1, if_neg (by omega), if_neg (by omega), if_neg (by omega), if_neg (by omega)] at this
  exact eq_of_beq this
theorem lk_iff {P : Sen} {w k : Nat} : lk P w k = true ↔ k < P.length ∧ (P.getD k (1, 0, 0)).1 = 4 ∧ w.testBit k = false := by
  unfold lk
  rw [Bool.and_eq_true, Bool.and_eq_true, decide_eq_true_eq, decide_eq_true_eq, Bool.not_eq_true']
theorem lk_b {P : Sen} {w k : Nat} (hc : clP P P.length w = true) (h : lk P w k = true) : w.testBit (P.getD k (1, 0, 0)).2.2 = false := by
  obtain ⟨h1, h2, h3⟩ := lk_iff.mp h
  have := clo_4 hc h1 h2
  rw [h3] at this
  cases hb : w.testBit (P.getD k (1, 0, 0)).2.2 with
  | false => rfl
  | true => rw [hb] at this; simp at this
/-- refuted: v has A and not B -/
def rft (P : Sen) (v k : Nat) : Bool := v.testBit (P.getD k (1, 0, 0)).2.1 && !v.testBit (P.getD k (1, 0, 0)).2.2
theorem rft_lk {P : Sen} {v k : Nat} (hc : clP P P.length v = true) (hk : k < P.length) (h4 : (P.getD k (1, 0, 0)).1 = 4) : rft P v k = true ↔ (lk P v k && v.testBit (P.getD k (1, 0, 0)).2.1) = true := by
  unfold rft
  constructor
  · intro h
    obtain ⟨h1, h2⟩ := (Bool.and_eq_true _ _).mp h
    have h2 := Bool.not_eq_true' _ |>.mp h2
    have := clo_4 hc hk h4
    rw [h1, h2] at this
    have hv : v.testBit k = false := by rw [this]; simp
    rw [lk_iff.mpr ⟨hk, h4, hv⟩, h1]; rfl
  · intro h
    obtain ⟨h1, h2⟩ := (Bool.and_eq_true _ _).mp h
    rw [h2, lk_b hc h1]; rfl
/-- each ( A > B ) that w lacks is refuted in a set of L that isn't gone and has all of w -/
def ndd (P : Sen) (L : List Nat) (G : Nat → Bool) (w : Nat) : Prop := ∀ k, lk P w k = true → ∃ v ∈ L, G v = false ∧ sbs w v = true ∧ rft P v k = true
theorem clL_clo {P : Sen} {w : Nat} (h : w ∈ clL P P.length) : clP P P.length w = true := (List.mem_filter.mp h).2
theorem sbs_rfl (w : Nat) : sbs w w = true := sbs_iff.mpr (fun _ h => h)
/-- kept in what is left of the list, kept in the whole -/
theorem sfL_mem {P : Sen} : ∀ (pre l : List Nat) (q : Nat × Nat × Nat), q ∈ sfL P l → q ∈ sfL P (pre ++ l)
  | [], l, q, h => h
  | w :: pre, l, q, h => by
    have ih := sfL_mem pre l q h
    show q ∈ csd P w (sfL P (pre ++ l))
    unfold csd
    split
    · exact List.mem_cons_of_mem _ ih
    · exact ih
theorem kept_need {P : Sen} {G : Nat → Bool} (hG : ∀ q ∈ wlK P, G q.1 = false) {w : Nat} (hw : ∃ q ∈ wlK P, q.1 = w) : ndd P (clL P P.length) G w := by
  obtain ⟨q, hq, rfl⟩ := hw
  intro k hk
  obtain ⟨i, hi⟩ := List.getElem?_of_mem hq
  obtain ⟨-, -, h0⟩ := sfL_at P _ i q hi
  have hb := opF_bit P q.1 k ((wlK P).drop (i + 1))
  rw [show (opF P q.1 ((wlK P).drop (i + 1))).1 = 0 from h0, Nat.zero_testBit, hk] at hb
  have mem : ∀ e ∈ wlK P, e.1 ∈ clL P P.length := fun e he => (sfL_sub P _).subset (List.mem_map_of_mem he)
  obtain ⟨g1, g2, -⟩ := lk_iff.mp hk
  cases ha : q.1.testBit (P.getD k (1, 0, 0)).2.1 with
  | true => exact ⟨q.1, mem q hq, hG q hq, sbs_rfl _, (rft_lk (clL_clo (mem q hq)) g1 g2).mpr (by rw [hk, ha]; rfl)⟩
  | false =>
    rw [ha] at hb
    have hany : ((wlK P).drop (i + 1)).any (fun e => sbs q.1 e.1 && e.2.1.testBit k) = true := by
      cases h : ((wlK P).drop (i + 1)).any (fun e => sbs q.1 e.1 && e.2.1.testBit k) with
      | true => rfl
      | false => rw [h] at hb; simp at hb
    obtain ⟨e, he, hs⟩ := List.any_eq_true.mp hany
    obtain ⟨s1, s2⟩ := (Bool.and_eq_true _ _).mp hs
    have hem : e ∈ wlK P := List.mem_of_mem_drop he
    obtain ⟨j, hj⟩ := List.getElem?_of_mem hem
    rw [(sfL_at P _ j e hj).1, den_bit] at s2
    exact ⟨e.1, mem e hem, hG e hem, s1, (rft_lk (clL_clo (mem e hem)) g1 g2).mpr s2⟩
theorem gone_end {P : Sen} {G : Nat → Bool} (hG : ∀ q ∈ wlK P, G q.1 = false) (hN : ∀ w ∈ clL P P.length, G w = false → ndd P (clL P P.length) G w) : ∀ (pre l : List Nat), pre ++ l = clL P P.length → (sfL P l).map (fun q => q.1) = l.filter (fun w => !G w)
  | pre, [], _ => rfl
  | pre, w :: l, h => by
    have ih := gone_end hG hN (pre ++ [w]) l (by rw [← h]; simp)
    have hwL : w ∈ clL P P.length := by rw [← h]; simp
    rw [sfL, csd]
    by_cases h0 : (opF P w (sfL P l)).1 = 0
    · have hq : (w, den P w, (opF P w (sfL P l)).2) ∈ sfL P (pre ++ w :: l) := by
        apply sfL_mem
        rw [sfL, csd, if_pos h0]
        exact List.mem_cons_self
      rw [h] at hq
      have := hG _ hq
      rw [if_pos h0, List.map_cons, ih, List.filter_cons, this]
      rfl
    · rw [if_neg h0, ih, List.filter_cons]
      cases hg : G w with
      | true => rfl
      | false =>
        exfalso
        apply h0
        rw [dif_zero_bit]
        intro k
        rw [opF_bit]
        cases hk : lk P w k with
        | false => rfl
        | true =>
          obtain ⟨v, hv, v1, v2, v3⟩ := hN w hwL hg k hk
          obtain ⟨g1, g2, -⟩ := lk_iff.mp hk
          by_cases hvw : v = w
          · subst hvw
            have := ((Bool.and_eq_true _ _).mp v3).1
            rw [this]; rfl
          · have hlt : w < v := Nat.lt_of_le_of_ne (sbs_le v2) (Ne.symm hvw)
            have hvl : v ∈ l := by
              rw [← h] at hv
              rcases List.mem_append.mp hv with z | z
              · exfalso
                have hp := clL_pair P P.length
                rw [← h, List.pairwise_append] at hp
                have := hp.2.2 v z w List.mem_cons_self
                omega
              · rcases List.mem_cons.mp z with z | z
                · exact absurd z hvw
                · exact z
            have hvk : v ∈ (sfL P l).map (fun q => q.1) := by
              rw [ih]
              exact List.mem_filter.mpr ⟨hvl, by rw [v1]; rfl⟩
            obtain ⟨e, he, rfl⟩ := List.mem_map.mp hvk
            obtain ⟨j, hj⟩ := List.getElem?_of_mem he
            have hden := (sfL_at P _ j e hj).1
            have hany : (sfL P l).any (fun e => sbs w e.1 && e.2.1.testBit k) = true := List.any_eq_true.mpr ⟨e, he, by
              rw [hden, den_bit, (rft_lk (clL_clo hv) g1 g2).mp v3, v2]; rfl⟩
            rw [hany]
            simp
/-- the worlds, as the reference leaves them -/
theorem gone_whole {P : Sen} {G : Nat → Bool} (hG : ∀ q ∈ wlK P, G q.1 = false) (hN : ∀ w ∈ clL P P.length, G w = false → ndd P (clL P P.length) G w) : (clL P P.length).filter (fun w => !G w) = (wlK P).map (fun q => q.1) := (gone_end hG hN [] _ rfl).symm
