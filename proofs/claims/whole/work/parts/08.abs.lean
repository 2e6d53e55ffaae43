/-! SENTENCES as lists of parts: kind (0 atom, 1 F, 2 &, 3 |, 4 >) and two numbers -/
abbrev Pt : Type := Nat × Nat × Nat
abbrev Sen : Type := List Pt
def pK (p : Pt) : Int32 := nI p.1
def pA (p : Pt) : Int32 := if p.1 = 1 then -6 else nI p.2.1
def pB (p : Pt) : Int32 := if p.1 < 2 then -6 else nI p.2.2
def okp (k : Nat) (p : Pt) : Prop := (p.1 = 0 ∧ p.2.1 < 4 ∧ p.2.2 = 0) ∨ (p.1 = 1 ∧ p.2.1 = 0 ∧ p.2.2 = 0) ∨ (2 ≤ p.1 ∧ p.1 ≤ 4 ∧ p.2.1 < k ∧ p.2.2 < k)
def wf (P : Sen) : Prop := ∀ (k : Nat) (p : Pt), P[k]? = some p → okp k p
theorem okp.mono {k k' : Nat} {p : Pt} (h : okp k p) (hk : k ≤ k') : okp k' p := by
  rcases h with h | h | ⟨h1, h2, h3, h4⟩
  · exact Or.inl h
  · exact Or.inr (Or.inl h)
  · exact Or.inr (Or.inr ⟨h1, h2, by omega, by omega⟩)
theorem okp.k4 {k : Nat} {p : Pt} (h : okp k p) : p.1 ≤ 4 := by
  rcases h with h | h | h <;> omega
theorem nI_m6 {a : Nat} (h : a < 2 ^ 31) : nI a ≠ -6 := by
  intro e
  have h1 := congrArg Int32.toInt e
  rw [nI_toInt h] at h1
  have : (-6 : Int32).toInt = -6 := by decide
  omega
theorem pt_eq {k : Nat} {p q : Pt} (hp : okp k p) (hq : okp k q) (hk : k < 2 ^ 30) : (pK p = pK q ∧ pA p = pA q ∧ pB p = pB q) ↔ p = q := by
  constructor
  · rintro ⟨h1, h2, h3⟩
    obtain ⟨pk, pa, pb⟩ := p
    obtain ⟨qk, qa, qb⟩ := q
    have a1 := hp.k4
    have a2 := hq.k4
    simp only [pK, pA, pB, okp] at *
    have e1 : pk = qk := (nI_eq (by omega) (by omega)).mp h1
    subst e1
    rcases hp with ⟨rfl, g1, rfl⟩ | ⟨rfl, rfl, rfl⟩ | ⟨g1, g2, g3, g4⟩
    · rcases hq with ⟨-, f1, rfl⟩ | ⟨f0, -⟩ | ⟨f0, -⟩
      · have e2 : pa = qa := (nI_eq (by omega) (by omega)).mp (by simpa using h2)
        rw [e2]
      · omega
      · omega
    · rcases hq with ⟨f0, -⟩ | ⟨-, rfl, rfl⟩ | ⟨f0, -⟩
      · omega
      · rfl
      · omega
    · rcases hq with ⟨f0, -⟩ | ⟨f0, -⟩ | ⟨f1, f2, f3, f4⟩
      · omega
      · omega
      · rw [if_neg (by omega), if_neg (by omega)] at h2 h3
        have e2 : pa = qa := (nI_eq (by omega) (by omega)).mp h2
        have e3 : pb = qb := (nI_eq (by omega) (by omega)).mp h3
        rw [e2, e3]
  · rintro rfl
    exact ⟨rfl, rfl, rfl⟩
/-- a part is added, if it is not there yet -/
def addP (P : Sen) (q : Pt) : Sen := if q ∈ P then P else P ++ [q]
theorem addP_in {P : Sen} {q : Pt} (h : q ∈ P) : addP P q = P := if_pos h
theorem addP_new {P : Sen} {q : Pt} (h : q ∉ P) : addP P q = P ++ [q] := if_neg h
theorem addP_le (P : Sen) (q : Pt) : P.length ≤ (addP P q).length := by
  unfold addP; split <;> simp
theorem addP_le1 (P : Sen) (q : Pt) : (addP P q).length ≤ P.length + 1 := by
  unfold addP; split <;> simp
theorem idx_lt (P : Sen) (q : Pt) : (addP P q).idxOf q < (addP P q).length := by
  apply List.idxOf_lt_length_of_mem
  unfold addP; split
  · assumption
  · simp
theorem idx_new {P : Sen} {q : Pt} (h : q ∉ P) : (P ++ [q]).idxOf q = P.length := by
  rw [List.idxOf_append, if_neg h]; simp
theorem wf_addP {P : Sen} {q : Pt} (hP : wf P) (hq : okp P.length q) : wf (addP P q) := by
  unfold addP
  split
  · exact hP
  · intro k p hk
    rw [List.getElem?_append] at hk
    split at hk
    · exact hP k p hk
    · have : k - P.length = 0 := by
        rcases Nat.eq_zero_or_pos (k - P.length) with h | h
        · exact h
        · rw [List.getElem?_eq_none (by simp; omega)] at hk; cases hk
      rw [this] at hk
      have hk : q = p := by simpa using hk
      subst hk
      exact hq.mono (by omega)
/-- lengths of the parts, written out -/
def lnS (acc : List Nat) (p : Pt) : List Nat := acc ++ [if p.1 < 2 then 1 else acc.getD p.2.1 0 + acc.getD p.2.2 0 + 3]
def lnL (P : Sen) : List Nat := P.foldl lnS []
theorem lnL_app (P : Sen) (q : Pt) : lnL (P ++ [q]) = lnS (lnL P) q := by simp [lnL, List.foldl_append]
theorem foldl_len {α β : Type} (f : List β → α → List β) (hf : ∀ l a, (f l a).length = l.length + 1) : ∀ (P : List α) (l : List β), (P.foldl f l).length = l.length + P.length
  | [], l => by simp
  | a :: P, l => by rw [List.foldl_cons, foldl_len f hf P, hf]; simp; omega
theorem lnL_len (P : Sen) : (lnL P).length = P.length := by
  have := foldl_len lnS (fun l a => by simp [lnS]) P []
  simpa [lnL] using this
/-- rows of true and false of the parts, as 16 bits -/
def rwV (acc : List Int32) (p : Pt) : Int32 :=
  if p.1 = 0 then arow p.2.1 else if p.1 = 2 then acc.getD p.2.1 0 &&& acc.getD p.2.2 0 else if p.1 = 3 then acc.getD p.2.1 0 ||| acc.getD p.2.2 0 else if p.1 = 4 then ((acc.getD p.2.1 0 ^^^ (-1)) &&& 65535) ||| acc.getD p.2.2 0 else 0
def rwS (acc : List Int32) (p : Pt) : List Int32 := acc ++ [rwV acc p]
def rwL (P : Sen) : List Int32 := P.foldl rwS []
theorem rwL_app (P : Sen) (q : Pt) : rwL (P ++ [q]) = rwS (rwL P) q := by simp [rwL, List.foldl_append]
theorem rwL_len (P : Sen) : (rwL P).length = P.length := by
  have := foldl_len rwS (fun l a => by simp [rwS]) P []
  simpa [rwL] using this
/-! SENTENCE j of the class holds the parts P -/
def hk (σ : Sg) (j : Nat) (P : Sen) : Prop := ∀ (k : Nat) (p : Pt), P[k]? = some p → σ (7 * j + 1) k = pK p ∧ σ (7 * j + 2) k = pA p ∧ σ (7 * j + 3) k = pB p
def hs (σ : Sg) (j : Nat) (P : Sen) : Prop := P.length ≤ 11 ∧ wf P ∧ σ (7 * j) 0 = nI P.length ∧ hk σ j P ∧ ∀ k, k < P.length → σ (7 * j + 4) k = nI ((lnL P).getD k 0) ∧ σ (7 * j + 5) k = (rwL P).getD k 0
/-- cells off Sentence j are as they were -/
def offS (j : Nat) (σ τ : Sg) : Prop := ∀ i, (i < 7 * j ∨ 7 * j + 7 ≤ i) → τ i = σ i
theorem hs_cong {σ τ : Sg} {j : Nat} {P : Sen} (h : hs σ j P) (h0 : τ (7 * j) 0 = σ (7 * j) 0) (h1 : ∀ q, 1 ≤ q → q ≤ 5 → τ (7 * j + q) = σ (7 * j + q)) : hs τ j P := by
  obtain ⟨a1, a2, a3, a4, a5⟩ := h
  refine ⟨a1, a2, by rw [h0]; exact a3, fun k p hk => ?_, fun k hk => ?_⟩
  · rw [h1 1 (by decide) (by decide), h1 2 (by decide) (by decide), h1 3 (by decide) (by decide)]
    exact a4 k p hk
  · rw [h1 4 (by decide) (by decide), h1 5 (by decide) (by decide)]
    exact a5 k hk
theorem hs_off {σ τ : Sg} {j i : Nat} {P : Sen} (h : hs σ i P) (ho : offS j σ τ) (hij : i ≠ j) : hs τ i P := by
  have key : ∀ q, q < 7 → τ (7 * i + q) = σ (7 * i + q) := fun q hq => ho _ (by omega)
  exact hs_cong h (by have := key 0 (by decide); rw [Nat.add_zero] at this; rw [this]) (fun q h1 h2 => key q (by omega))
theorem offS.rfl {j : Nat} {σ : Sg} : offS j σ σ := fun _ _ => by rfl
theorem offS.trans {j : Nat} {σ τ υ : Sg} (h1 : offS j σ τ) (h2 : offS j τ υ) : offS j σ υ := fun i hi => (h2 i hi).trans (h1 i hi)
theorem offS.s2 {j : Nat} {σ τ : Sg} {i k : Nat} {x : Int32} (h : offS j σ τ) (h1 : 7 * j ≤ i) (h2 : i < 7 * j + 7) : offS j σ (s2 τ i k x) := fun q hq => by
  rw [s2_nc (by omega)]; exact h q hq
