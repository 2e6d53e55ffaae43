/-! PURE FACTS ON WHAT IS ABOVE -/
def abv (K : Kw) (v w : Nat) : Bool := decide (w < v) && sbs (kw K w) (kw K v)
theorem kw_ne {P : Sen} {v w : Nat} (hv : v < (wlK P).length) (hw : w < (wlK P).length) : kw (wlK P) v = kw (wlK P) w ↔ v = w := by
  constructor
  · intro h
    rcases Nat.lt_trichotomy v w with z | z | z
    · have := kw_mono z hw; omega
    · exact z
    · have := kw_mono z hv; omega
  · rintro rfl; rfl
theorem abv_iff {P : Sen} {v w : Nat} (hv : v < (wlK P).length) (hw : w < (wlK P).length) : abv (wlK P) v w = true ↔ ¬ kw (wlK P) v = kw (wlK P) w ∧ sbs (kw (wlK P) w) (kw (wlK P) v) = true := by
  rw [kw_ne hv hw, abv, Bool.and_eq_true, decide_eq_true_eq]
  constructor
  · rintro ⟨h1, h2⟩; exact ⟨by omega, h2⟩
  · rintro ⟨h1, h2⟩
    refine ⟨?_, h2⟩
    rcases Nat.lt_trichotomy v w with z | z | z
    · have := kw_mono z hw
      have := sbs_le h2
      omega
    · exact absurd z h1
    · exact z
/-- the height of a world, from those that stand behind it -/
def hgR (K : Kw) (w : Nat) : Nat → Nat
  | 0 => 0
  | n + 1 => if sbs (kw K w) (kw K (w + 1 + n)) then max (hgR K w n) (kh K (w + 1 + n) + 1) else hgR K w n
theorem hg_fold (K : Kw) (w c : Nat) : ∀ n, w + 1 + n ≤ K.length → (((K.drop (w + 1)).take n).foldl (opS (kw K w)) (c, 0)).2 = hgR K w n
  | 0, _ => rfl
  | n + 1, h => by
    have ih := hg_fold K w c n (by omega)
    have he : (K.drop (w + 1))[n]? = some (K[w + 1 + n]'(by omega)) := by
      rw [List.getElem?_drop, List.getElem?_eq_getElem]
    rw [List.take_succ, he]
    have e1 : kw K (w + 1 + n) = (K[w + 1 + n]'(by omega)).1 := by rw [kw, List.getD_eq_getElem?_getD, List.getElem?_eq_getElem (by omega)]; rfl
    have e2 : kh K (w + 1 + n) = (K[w + 1 + n]'(by omega)).2.2 := by rw [kh, List.getD_eq_getElem?_getD, List.getElem?_eq_getElem (by omega)]; rfl
    rw [hgR, e1, e2, ← ih]
    simp only [Option.toList_some, List.foldl_append, List.foldl_cons, List.foldl_nil]
    unfold opS
    split <;> rfl
theorem kh_hg {P : Sen} {w : Nat} (hw : w < (wlK P).length) : kh (wlK P) w = hgR (wlK P) w ((wlK P).length - (w + 1)) := by
  have hq : (wlK P)[w]? = some ((wlK P)[w]'hw) := List.getElem?_eq_getElem hw
  obtain ⟨-, h2, -⟩ := sfL_at P _ w _ hq
  have e1 : kw (wlK P) w = ((wlK P)[w]'hw).1 := by rw [kw, List.getD_eq_getElem?_getD, hq]; rfl
  have e2 : kh (wlK P) w = ((wlK P)[w]'hw).2.2 := by rw [kh, List.getD_eq_getElem?_getD, hq]; rfl
  rw [e2, h2, ← hg_fold (wlK P) w (dif (dif (imp P) (kw (wlK P) w)) (den P (kw (wlK P) w))) _ (by omega), opF, ← e1]
  rw [List.take_of_length_le (by rw [List.length_drop]; omega)]
  rfl
theorem hgR_le {K : Kw} {w B : Nat} : ∀ n, (∀ v, w < v → v < w + 1 + n → kh K v + 1 ≤ B) → hgR K w n ≤ B
  | 0, _ => Nat.zero_le _
  | n + 1, h => by
    have ih := hgR_le (K := K) (w := w) (B := B) n (fun v h1 h2 => h v h1 (by omega))
    have h1 := h (w + 1 + n) (by omega) (by omega)
    rw [hgR]
    split
    · exact Nat.max_le.mpr ⟨ih, h1⟩
    · exact ih
theorem kh_le {P : Sen} : ∀ (m w : Nat), (wlK P).length - w < m → w < (wlK P).length → kh (wlK P) w + w + 1 ≤ (wlK P).length
  | 0, w, h, _ => by omega
  | m + 1, w, h, hw => by
    rw [kh_hg hw]
    have := hgR_le (K := wlK P) (w := w) (B := (wlK P).length - (w + 1)) ((wlK P).length - (w + 1)) (fun v h1 h2 => by
      have := kh_le (P := P) m v (by omega) (by omega)
      omega)
    omega
theorem kh_b {P : Sen} {w : Nat} (hw : w < (wlK P).length) : kh (wlK P) w + w + 1 ≤ (wlK P).length := kh_le ((wlK P).length + 1) w (by omega) hw
theorem hgR_0 {K : Kw} {w : Nat} : ∀ n, hgR K w n = 0 ↔ ∀ v, w < v → v < w + 1 + n → sbs (kw K w) (kw K v) = false
  | 0 => ⟨fun _ v h1 h2 => by omega, fun _ => rfl⟩
  | n + 1 => by
    have ih := hgR_0 (K := K) (w := w) n
    rw [hgR]
    cases hs : sbs (kw K w) (kw K (w + 1 + n)) with
    | true =>
      rw [if_pos rfl]
      constructor
      · intro h; exfalso
        have : kh K (w + 1 + n) + 1 ≤ max (hgR K w n) (kh K (w + 1 + n) + 1) := Nat.le_max_right _ _
        omega
      · intro h
        have := h (w + 1 + n) (by omega) (by omega)
        rw [hs] at this; cases this
    | false =>
      rw [if_neg (by decide), ih]
      constructor
      · intro h v h1 h2
        by_cases z : v = w + 1 + n
        · rw [z]; exact hs
        · exact h v h1 (by omega)
      · intro h v h1 h2; exact h v h1 (by omega)
theorem nab_0 {P : Sen} {w : Nat} (hw : w < (wlK P).length) : nab (wlK P) w = 0 ↔ kh (wlK P) w = 0 := by
  rw [kh_hg hw, hgR_0]
  constructor
  · intro h v h1 h2
    have := ctB_n0 h v (by omega)
    rw [decide_eq_true h1] at this
    simpa using this
  · intro h
    refine ctB_0 (fun v hv => ?_)
    by_cases z : w < v
    · rw [h v z (by omega)]; simp
    · rw [decide_eq_false z]; rfl
def nbl (K : Kw) (w : Nat) : Nat := ctB (fun v => abv K w v) K.length
theorem nbl_0 {K : Kw} {w : Nat} (hw : w < K.length) : nbl K w = 0 ↔ bel K w = false := by
  rw [bel, List.any_eq_false]
  constructor
  · intro h v hv
    have hv := List.mem_range.mp hv
    have := ctB_n0 h v (by omega)
    rw [abv, decide_eq_true hv] at this
    simpa using this
  · intro h
    refine ctB_0 (fun v hv => ?_)
    rw [abv]
    by_cases z : v < w
    · have := h v (List.mem_range.mpr z)
      simpa using fun _ => this
    · rw [decide_eq_false z]; rfl
theorem ctB_mono {f : Nat → Bool} {a : Nat} : ∀ {n}, a ≤ n → ctB f a ≤ ctB f n
  | 0, h => by rw [show a = 0 by omega]; exact Nat.le_refl _
  | n + 1, h => by
    by_cases z : a = n + 1
    · rw [z]; exact Nat.le_refl _
    · have := ctB_mono (f := f) (a := a) (n := n) (by omega)
      rw [ctB]; omega
/-- what lacks the last part stands before what has it -/
theorem rf_dn {P : Sen} (h0 : 0 < P.length) {i j : Nat} (hij : i < j) (hj : j < (wlK P).length) (h : (kw (wlK P) j).testBit (P.length - 1) = false) : (kw (wlK P) i).testBit (P.length - 1) = false := by
  have hm := kw_mono hij hj
  have hl : kw (wlK P) j < 2 ^ P.length := by
    have h1 := kw_map (wlK P) hj
    exact clL_lt ((sfL_sub P _).subset (List.mem_of_getElem? h1))
  have hlt : kw (wlK P) j < 2 ^ (P.length - 1) := by
    apply Nat.lt_pow_two_of_testBit
    intro b hb
    by_cases z : b = P.length - 1
    · rw [z]; exact h
    · exact nb_lt hl (by omega)
  exact nb_lt (n := P.length - 1) (by omega) (Nat.le_refl _)
theorem dn_0 {c : Nat} (hc : c < 2 ^ 31) : nI c - nI 1 < 0 ↔ c = 0 := by
  rcases Nat.eq_zero_or_pos c with rfl | h
  · exact ⟨fun _ => rfl, fun _ => by decide⟩
  · rw [nI_s1 h]
    constructor
    · intro z; exact absurd z (nI_pos (show c - 1 < 2 ^ 31 by omega))
    · intro z; omega
theorem dn_s (c : Nat) : nI (c + 1) - nI 1 = nI c := by rw [nI_s1 (Nat.succ_pos c)]; rfl
theorem dn_inc (c : Nat) : nI c + Int32.ofInt (-1) = nI c - nI 1 := by
  rw [Int32.sub_eq_add_neg]; rfl
