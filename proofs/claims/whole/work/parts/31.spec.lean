/-! WHAT EACH CALL ANSWERS, AND THE STATE BEHIND IT -/
def sp_say (x : Int32) (A : ASt) : Int32 × ASt := if x < nI 33 ∨ nI 126 < x then (-2, A) else if 40 ≤ A.2.1.length then (-4, A) else (nI (A.2.1.length + 1), (A.1, A.2.1 ++ [x.toInt.toNat], A.2.2))
def sp_wipe (A : ASt) : Int32 × ASt := (nI A.2.1.length, (A.1, [], A.2.2))
def sp_read (to : Int32) (A : ASt) : Int32 × ASt := match sN to with
  | none => (-1, A)
  | some t => match prs A.2.1 with
    | .inl i => (-7, (A.1, A.2.1, nI i, A.2.2.2))
    | .inr P => if 11 < P.length then (-4, A) else (nI P.length, (stS A.1 t P, [], A.2.2))
def sp_fault (A : ASt) : Int32 × ASt := (A.2.2.1, A)
def sp_make (to a b way : Int32) (A : ASt) : Int32 × ASt := match sN to with
  | none => (-1, A)
  | some t => match sN a with
    | none => (-1, A)
    | some a => match sN b with
      | none => (-1, A)
      | some b => if way < 0 ∨ nI 2 < way then (-2, A) else if (A.1 a).length = 0 ∨ (A.1 b).length = 0 then (-3, A) else if 11 < (prP (A.1 a) (A.1 b) (2 + way.toInt.toNat)).length then (-4, A) else (nI (prP (A.1 a) (A.1 b) (2 + way.toInt.toNat)).length, (stS A.1 t (prP (A.1 a) (A.1 b) (2 + way.toInt.toNat)), A.2))
def sp_part (to fr k : Int32) (A : ASt) : Int32 × ASt := match sN to with
  | none => (-1, A)
  | some t => match sN fr with
    | none => (-1, A)
    | some f => if (A.1 f).length = 0 then (-3, A) else if k < 0 ∨ nI (A.1 f).length ≤ k then (-2, A) else (nI (subP (A.1 f) k.toInt.toNat).length, (stS A.1 t (subP (A.1 f) k.toInt.toNat), A.2))
def sp_sign (slot k : Int32) (A : ASt) : Int32 × ASt := match sN slot with
  | none => (-1, A)
  | some s => if k < -1 then (-2, A) else if (A.1 s).length = 0 then (-3, A) else if k = -1 then (nI (sgN (A.1 s)), A) else if nI (sgN (A.1 s)) ≤ k then (-6, A) else (sgA (A.1 s) 11 ((A.1 s).length - 1) k.toInt.toNat, A)
def sp_told (slot k what : Int32) (A : ASt) : Int32 × ASt := match sN slot with
  | none => (-1, A)
  | some s => if (A.1 s).length = 0 then (-3, A) else if k < 0 ∨ nI (A.1 s).length ≤ k ∨ what < 0 ∨ nI 2 < what then (-2, A) else (if what = 0 then pK ((A.1 s).getD k.toInt.toNat (1, 0, 0)) else if what = 1 then pA ((A.1 s).getD k.toInt.toNat (1, 0, 0)) else pB ((A.1 s).getD k.toInt.toNat (1, 0, 0)), A)
def sp_drop (slot : Int32) (A : ASt) : Int32 × ASt := match sN slot with
  | none => (-1, A)
  | some s => (if (A.1 s).length = 0 then nI 0 else nI 1, (stS A.1 s [], A.2))
def sp_plain (slot : Int32) (A : ASt) : Int32 × ASt := match sN slot with
  | none => (-1, A)
  | some s => if (A.1 s).length = 0 then (-3, A) else (bI (pln (A.1 s)), A)
def sp_rows (slot : Int32) (A : ASt) : Int32 × ASt := match sN slot with
  | none => (-1, A)
  | some s => if (A.1 s).length = 0 then (-3, A) else (bI (rowT (A.1 s)), A)
def sp_follows (a b : Int32) (A : ASt) : Int32 × ASt := match sN a with
  | none => (-1, A)
  | some a => match sN b with
    | none => (-1, A)
    | some b => if (A.1 a).length = 0 ∨ (A.1 b).length = 0 then (-3, A) else if 11 < (prP (A.1 a) (A.1 b) 4).length then (-4, A) else (bI (pln (prP (A.1 a) (A.1 b) 4)), A)
def sp_from (slot set k : Int32) (A : ASt) : Int32 × ASt := match sN slot with
  | none => (-1, A)
  | some s => if (A.1 s).length = 0 then (-3, A) else if k < 0 ∨ nI (A.1 s).length ≤ k ∨ set < 0 ∨ nI (2 ^ (A.1 s).length) ≤ set then (-2, A) else (bI (frc (wlK (A.1 s)) set.toInt.toNat k.toInt.toNat), A)
def qry (P : Sen) (what : Int32) : Int32 := if what = 0 then nI (wlK P).length else if what = 1 then nI (nrf (wlK P) (P.length - 1)) else if what = 2 then lrf (wlK P) (P.length - 1) else if what = 3 then nI (ctB (fun i => decide (kh (wlK P) i = 0)) (wlK P).length) else if what = 4 then nI (mxB (kh (wlK P)) (wlK P).length) else nI (ctB (fun i => !bel (wlK P) i) (wlK P).length)
def sp_worlds (slot what : Int32) (A : ASt) : Int32 × ASt := match sN slot with
  | none => (-1, A)
  | some s => if what < 0 ∨ nI 5 < what then (-2, A) else if (A.1 s).length = 0 then (-3, A) else (qry (A.1 s) what, A)
def sp_world (slot i what : Int32) (A : ASt) : Int32 × ASt := match sN slot with
  | none => (-1, A)
  | some s => if what < 0 ∨ nI 2 < what then (-2, A) else if (A.1 s).length = 0 then (-3, A) else if i < 0 ∨ nI (wlK (A.1 s)).length ≤ i then (-6, A) else (if what = 0 then nI (kw (wlK (A.1 s)) i.toInt.toNat) else if what = 1 then nI (nab (wlK (A.1 s)) i.toInt.toNat) else nI (kh (wlK (A.1 s)) i.toInt.toNat), A)
def sp_image (k : Int32) (A : ASt) : Int32 × ASt := if k < 0 ∨ nI 2 ≤ k then (-2, A) else (nI 1, (fun j => if 6 + 6 * k.toInt.toNat ≤ j ∧ j < 12 + 6 * k.toInt.toNat then A.1 (j - (6 + 6 * k.toInt.toNat)) else A.1 j, A.2.1, A.2.2.1, A.2.2.2 ||| 2 ^ k.toInt.toNat))
def sp_restore (k : Int32) (A : ASt) : Int32 × ASt := if k < 0 ∨ nI 2 ≤ k then (-2, A) else if A.2.2.2.testBit k.toInt.toNat = false then (-3, A) else (nI 1, (fun j => if j < 6 then A.1 (6 + 6 * k.toInt.toNat + j) else A.1 j, A.2))
def cnt (S : Nat → Sen) (what : Int32) : Nat := if what = 0 then ctB (fun s => decide (0 < (S s).length)) 6 else if what = 1 then ctB (fun s => decide (0 < (S s).length) && pln (S s)) 6 else if what = 2 then ctB (fun s => decide (0 < (S s).length) && (rowT (S s) && !pln (S s))) 6 else ctB (fun s => decide (0 < (S s).length) && !sbf S s) 6
def sp_count (what : Int32) (A : ASt) : Int32 × ASt := if what = 4 then (nI A.2.1.length, A) else if what = 5 then (nI A.2.2.2, A) else if ¬ (what < nI 10 ∨ nI 15 < what) then (nI (A.1 (what.toInt.toNat - 10)).length, A) else if what < 0 ∨ nI 3 < what then (-2, A) else (nI (cnt A.1 what), A)
theorem slot_t {x : Int32} (h : (sN x).isSome = true) : ∃ j, j < 6 ∧ x = nI j ∧ sN x = some j := by
  rcases sN_of x with ⟨z, -⟩ | z
  · rw [z] at h; cases h
  · exact z
theorem slot_f {x : Int32} (h : (sN x).isSome = false) : sN x = none := by
  rcases sN_of x with ⟨z, -⟩ | ⟨j, -, -, z⟩
  · exact z
  · rw [z] at h; cases h
theorem ix_of {x : Int32} {n : Nat} (hn : n < 2 ^ 31) (h1 : ¬ x < 0) (h2 : ¬ nI n ≤ x) : ∃ j, j < n ∧ x = nI j ∧ x.toInt.toNat = j := by
  rcases pk_ix x hn with z | z | ⟨j, hj, rfl⟩
  · exact absurd z h1
  · exact absurd z h2
  · exact ⟨j, hj, rfl, by rw [nI_toInt (by omega)]; rfl⟩
theorem nl_le {x y : Int32} (h : ¬ x ≤ y) : y < x := Int32.not_le.mp h
theorem le_nl {x y : Int32} (h : x ≤ y) : ¬ y < x := Int32.not_lt.mpr h
theorem lt_nl {x y : Int32} (h : x < y) : ¬ y ≤ x := Int32.not_le.mpr h
theorem nlt_le {x y : Int32} (h : ¬ x < y) : y ≤ x := Int32.not_lt.mp h
theorem stS_same (S : Nat → Sen) (j : Nat) (P : Sen) : stS S j P j = P := if_pos rfl
