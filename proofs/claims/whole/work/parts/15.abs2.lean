/-! what is computed along a list, part by part -/
section ACCU
variable {α β : Type} (g : List β → α → β)
theorem ac_len : ∀ (Q : List α) (l : List β), (Q.foldl (fun acc a => acc ++ [g acc a]) l).length = l.length + Q.length
  | [], l => by simp
  | a :: Q, l => by rw [List.foldl_cons, ac_len Q]; simp; omega
theorem ac_pre0 : ∀ (Q : List α) (l : List β) (i : Nat), i < l.length → (Q.foldl (fun acc a => acc ++ [g acc a]) l)[i]? = l[i]?
  | [], l, i, _ => rfl
  | a :: Q, l, i, h => by
    rw [List.foldl_cons, ac_pre0 Q _ i (by simp; omega), List.getElem?_append_left h]
theorem ac_pre {P : List α} {k i : Nat} (hi : i < k) (hk : k ≤ P.length) : (P.foldl (fun acc a => acc ++ [g acc a]) [])[i]? = ((P.take k).foldl (fun acc a => acc ++ [g acc a]) [])[i]? := by
  rw (occs := .pos [1]) [← List.take_append_drop k P]
  rw [List.foldl_append]
  apply ac_pre0
  rw [ac_len]; simp; omega
theorem ac_at {P : List α} {k : Nat} {p : α} (hp : P[k]? = some p) : (P.foldl (fun acc a => acc ++ [g acc a]) [])[k]? = some (g ((P.take k).foldl (fun acc a => acc ++ [g acc a]) []) p) := by
  have hk := (List.getElem?_eq_some_iff.mp hp).1
  have he : P = P.take k ++ p :: P.drop (k + 1) := by
    have h1 := List.take_append_drop k P
    have h2 : P.drop k = p :: P.drop (k + 1) := by
      have := List.drop_eq_getElem_cons hk
      rw [(List.getElem?_eq_some_iff.mp hp).2] at this
      exact this
    rw [h2] at h1
    exact h1.symm
  have hl : ((P.take k).foldl (fun acc a => acc ++ [g acc a]) []).length = k := by rw [ac_len]; simp; omega
  rw (occs := .pos [1]) [he]
  rw [List.foldl_append, List.foldl_cons, ac_pre0 g _ _ k (by simp [hl])]
  rw [List.getElem?_append_right (by omega), hl]
  simp
end ACCU
theorem lnL_rec {P : Sen} {k : Nat} {p : Pt} (hw : wf P) (hp : P[k]? = some p) : (lnL P).getD k 0 = if p.1 < 2 then 1 else (lnL P).getD p.2.1 0 + (lnL P).getD p.2.2 0 + 3 := by
  have hk := (List.getElem?_eq_some_iff.mp hp).1
  have h := ac_at (fun (acc : List Nat) (p : Pt) => if p.1 < 2 then 1 else acc.getD p.2.1 0 + acc.getD p.2.2 0 + 3) hp
  have hpre := fun i (hi : i < k) => ac_pre (fun (acc : List Nat) (p : Pt) => if p.1 < 2 then 1 else acc.getD p.2.1 0 + acc.getD p.2.2 0 + 3) (P := P) hi (Nat.le_of_lt hk)
  have e : ∀ Q : Sen, lnL Q = Q.foldl (fun acc a => acc ++ [(fun (acc : List Nat) (p : Pt) => if p.1 < 2 then 1 else acc.getD p.2.1 0 + acc.getD p.2.2 0 + 3) acc a]) [] := fun Q => rfl
  rw [← e, ← e] at h
  simp only [← e] at hpre
  rw [List.getD_eq_getElem?_getD, h]
  simp only [Option.getD_some]
  by_cases h2 : p.1 < 2
  · rw [if_pos h2, if_pos h2]
  · rw [if_neg h2, if_neg h2]
    rcases hw k p hp with ⟨z, -⟩ | ⟨z, -⟩ | ⟨-, -, ha, hb⟩
    · omega
    · omega
    · simp only [List.getD_eq_getElem?_getD]
      rw [hpre _ ha, hpre _ hb]
theorem rwL_rec {P : Sen} {k : Nat} {p : Pt} (hw : wf P) (hp : P[k]? = some p) : (rwL P).getD k 0 = rwV (rwL P) p := by
  have hk := (List.getElem?_eq_some_iff.mp hp).1
  have h := ac_at rwV hp
  have hpre := fun i (hi : i < k) => ac_pre rwV (P := P) hi (Nat.le_of_lt hk)
  have e : ∀ Q : Sen, rwL Q = Q.foldl (fun acc a => acc ++ [rwV acc a]) [] := fun Q => rfl
  rw [← e, ← e] at h
  simp only [← e] at hpre
  rw [List.getD_eq_getElem?_getD, h]
  simp only [Option.getD_some]
  unfold rwV
  rcases hw k p hp with ⟨z, -⟩ | ⟨z, -⟩ | ⟨z, -, ha, hb⟩
  · rw [if_pos z, if_pos z]
  · rw [if_neg (by omega), if_neg (by omega), if_neg (by omega), if_neg (by omega), if_neg (by omega), if_neg (by omega), if_neg (by omega), if_neg (by omega)]
  · simp only [List.getD_eq_getElem?_getD]
    rw [hpre _ ha, hpre _ hb]
theorem lnL_le {P : Sen} (hw : wf P) : ∀ (k : Nat), k < P.length → (lnL P).getD k 0 + 3 ≤ 4 * 2 ^ k := by
  intro k
  induction k using Nat.strongRecOn with
  | _ k ih =>
    intro hk
    obtain ⟨p, hp⟩ : ∃ p, P[k]? = some p := ⟨P[k], List.getElem?_eq_getElem hk⟩
    rw [lnL_rec hw hp]
    have hpos : 1 ≤ 2 ^ k := Nat.one_le_two_pow
    by_cases h2 : p.1 < 2
    · rw [if_pos h2]; omega
    · rw [if_neg h2]
      rcases hw k p hp with ⟨z, -⟩ | ⟨z, -⟩ | ⟨-, -, ha, hb⟩
      · omega
      · omega
      · have h1 := ih _ ha (by omega)
        have h3 := ih _ hb (by omega)
        have e1 : 2 ^ p.2.1 ≤ 2 ^ (k - 1) := Nat.pow_le_pow_right (by decide) (by omega)
        have e2 : 2 ^ p.2.2 ≤ 2 ^ (k - 1) := Nat.pow_le_pow_right (by decide) (by omega)
        have e3 : 2 ^ k = 2 * 2 ^ (k - 1) := by
          obtain ⟨j, rfl⟩ : ∃ j, k = j + 1 := ⟨k - 1, by omega⟩
          rw [Nat.pow_succ]; simp; omega
        omega
theorem lnL_lt {P : Sen} (hw : wf P) (hl : P.length ≤ 11) {k : Nat} (hk : k < P.length) : (lnL P).getD k 0 < 4096 := by
  have h := lnL_le hw k hk
  have : 2 ^ k ≤ 2 ^ 10 := Nat.pow_le_pow_right (by decide) (by omega)
  omega
/-- the sign at place a of part k, written out -/
def sgA (P : Sen) : Nat → Nat → Nat → Int32
  | 0, _, _ => 70
  | f + 1, k, a => if (P.getD k (1, 0, 0)).1 < 2 then (if (P.getD k (1, 0, 0)).1 = 0 then nI (112 + (P.getD k (1, 0, 0)).2.1) else 70)
    else if a = 0 then 40 else if a = (lnL P).getD (P.getD k (1, 0, 0)).2.1 0 + 1 then (if (P.getD k (1, 0, 0)).1 = 2 then 38 else if (P.getD k (1, 0, 0)).1 = 3 then 124 else 62)
    else if a = (lnL P).getD (P.getD k (1, 0, 0)).2.1 0 + (lnL P).getD (P.getD k (1, 0, 0)).2.2 0 + 2 then 41
    else if a ≤ (lnL P).getD (P.getD k (1, 0, 0)).2.1 0 then sgA P f (P.getD k (1, 0, 0)).2.1 (a - 1) else sgA P f (P.getD k (1, 0, 0)).2.2 (a - (lnL P).getD (P.getD k (1, 0, 0)).2.1 0 - 2)
/-- how many signs a Sentence has, written out -/
def sgN (P : Sen) : Nat := if 0 < P.length then (lnL P).getD (P.length - 1) 0 else 0
