/-! WHAT THE STATEMENT GIVES OF THE START: statics and strings -/
def AB (b0 : Nat) : Nat → Prop := fun q => ∃ i, i < NC ∧ b0 + piL i = q
theorem AB_ge {b0 q : Nat} (h : AB b0 q) : b0 ≤ q := by
  obtain ⟨i, -, h⟩ := h
  omega
section STATICS
variable {args : Array Value} {s : State} {A : Nat → Prop}
def strP (A : Nat → Prop) (i a v : Nat) (U : State) (H : Heap) : Prop := vk_R (strI i).1 (strI i).2.1 (strI i).2.2.1 a U ∧ va_O "java/lang/String" a A U H ∧ va_OF "java/lang/String" "coder" "B" (.int 0) a A U H ∧ va_OF "java/lang/String" "value" "[B" (.ref v) a A U H ∧ va_T .byte v (strI i).2.2.2.length (fun j => .int ((strI i).2.2.2.getD j 0)) A U H
theorem atom_of (hf : ∀ c ∈ flatC (Jvm.Cond.and given_1 narrow_1), c.before args s = true) (ht : ∀ w ∈ lw_tbl, w.before args s = true) (hA : ∀ a : Nat, a < s.heap.size → ¬ A a) : ∃ t : Nat, va_Z "StrictSentences$Sentence" "ATOM_ROWS" "[I" (.ref t) A s s.heap ∧ va_T .int t 4 (fun j => .int (arow j)) A s s.heap := by
  obtain ⟨t, h1, h2⟩ := va_Tof (tm := .static "StrictSentences$Sentence" "ATOM_ROWS" "[I") (ty := .int) (N := 4) (f := fun j => .int (arow j)) (A := A) (by decide) (hf _ (by decide +kernel)) (va_eqt (hf _ (by decide +kernel))) (fun j hj => by
    rcases (show j = 0 ∨ j = 1 ∨ j = 2 ∨ j = 3 by omega) with rfl | rfl | rfl | rfl
    · exact va_eqt (hf _ (by decide +kernel))
    · exact va_eqt (hf _ (by decide +kernel))
    · exact va_eqt (hf _ (by decide +kernel))
    · exact va_eqt (hf _ (by decide +kernel))) hA
  exact ⟨t, va_Zof (ht _ (List.mem_of_getElem? (i := 253) (by decide +kernel))) (ht _ (List.mem_of_getElem? (i := 51) (by decide +kernel))) h1 hA, h2⟩
theorem str_of0 (hf : ∀ c ∈ flatC (Jvm.Cond.and given_1 narrow_1), c.before args s = true) (ht : ∀ w ∈ lw_tbl, w.before args s = true) (hA : ∀ a : Nat, a < s.heap.size → ¬ A a) (h0 : args = args) : ∃ a v : Nat, ((Cond.stringRef "StrictSentences$Text" 59 "pqrs").before args s = true ∧ (Term.string "StrictSentences$Text" 59).eval args s none [] s = some (.ref a)) ∧ va_O "java/lang/String" a A s s.heap ∧ va_OF "java/lang/String" "coder" "B" (.int 0) a A s s.heap ∧ va_OF "java/lang/String" "value" "[B" (.ref v) a A s s.heap ∧ va_T .byte v 4 (fun j => .int (([112, 113, 114, 115] : List Int32).getD j 0)) A s s.heap := by
  obtain ⟨aK, aV, ⟨h1, -⟩, h2⟩ := vk_Sof (args := args) (s := s) (N := 1) (tm := fun _ => .string "StrictSentences$Text" 59) (len := [4]) (byt := [[112, 113, 114, 115]]) (A := A) (fun i hi => by rw [show i = 0 by omega]; decide) (fun i hi => hf _ (by decide +kernel)) (fun i hi => hf _ (by decide +kernel)) (fun i hi => hf _ (by decide +kernel)) (fun i hi => by rw [show i = 0 by omega]; exact hf _ (by decide +kernel)) (fun i hi j hj => by
    rw [show i = 0 by omega] at hj ⊢
    have hj : j < 4 := hj
    rcases (show j = 0 ∨ j = 1 ∨ j = 2 ∨ j = 3 by omega) with rfl | rfl | rfl | rfl
    · exact hf _ (by decide +kernel)
    · exact hf _ (by decide +kernel)
    · exact hf _ (by decide +kernel)
    · exact hf _ (by decide +kernel)) (fun i j hi hj hij => by omega) hA
  obtain ⟨g1, g2, g3, g4⟩ := h1 0 (by decide)
  exact ⟨aK 0, aV 0, ⟨ht _ (List.mem_of_getElem? (i := 263) (by decide +kernel)), h2 0 (by decide)⟩, g1, g2, g3, g4⟩
theorem str_of1 (hf : ∀ c ∈ flatC (Jvm.Cond.and given_1 narrow_1), c.before args s = true) (ht : ∀ w ∈ lw_tbl, w.before args s = true) (hA : ∀ a : Nat, a < s.heap.size → ¬ A a) (h0 : args = args) : ∃ a v : Nat, ((Cond.stringRef "StrictSentences$Text" 67 "&|>").before args s = true ∧ (Term.string "StrictSentences$Text" 67).eval args s none [] s = some (.ref a)) ∧ va_O "java/lang/String" a A s s.heap ∧ va_OF "java/lang/String" "coder" "B" (.int 0) a A s s.heap ∧ va_OF "java/lang/String" "value" "[B" (.ref v) a A s s.heap ∧ va_T .byte v 3 (fun j => .int (([38, 124, 62] : List Int32).getD j 0)) A s s.heap := by
  obtain ⟨aK, aV, ⟨h1, -⟩, h2⟩ := vk_Sof (args := args) (s := s) (N := 1) (tm := fun _ => .string "StrictSentences$Text" 67) (len := [3]) (byt := [[38, 124, 62]]) (A := A) (fun i hi => by rw [show i = 0 by omega]; decide) (fun i hi => hf _ (by decide +kernel)) (fun i hi => hf _ (by decide +kernel)) (fun i hi => hf _ (by decide +kernel)) (fun i hi => by rw [show i = 0 by omega]; exact hf _ (by decide +kernel)) (fun i hi j hj => by
    rw [show i = 0 by omega] at hj ⊢
    have hj : j < 3 := hj
    rcases (show j = 0 ∨ j = 1 ∨ j = 2 by omega) with rfl | rfl | rfl
    · exact hf _ (by decide +kernel)
    · exact hf _ (by decide +kernel)
    · exact hf _ (by decide +kernel)) (fun i j hi hj hij => by omega) hA
  obtain ⟨g1, g2, g3, g4⟩ := h1 0 (by decide)
  exact ⟨aK 0, aV 0, ⟨ht _ (List.mem_of_getElem? (i := 354) (by decide +kernel)), h2 0 (by decide)⟩, g1, g2, g3, g4⟩
theorem str_of2 (hf : ∀ c ∈ flatC (Jvm.Cond.and given_1 narrow_1), c.before args s = true) (ht : ∀ w ∈ lw_tbl, w.before args s = true) (hA : ∀ a : Nat, a < s.heap.size → ¬ A a) (h0 : args = args) : ∃ a v : Nat, ((Cond.stringRef "StrictSentences$Sentence" 75 "&|>").before args s = true ∧ (Term.string "StrictSentences$Sentence" 75).eval args s none [] s = some (.ref a)) ∧ va_O "java/lang/String" a A s s.heap ∧ va_OF "java/lang/String" "coder" "B" (.int 0) a A s s.heap ∧ va_OF "java/lang/String" "value" "[B" (.ref v) a A s s.heap ∧ va_T .byte v 3 (fun j => .int (([38, 124, 62] : List Int32).getD j 0)) A s s.heap := by
  obtain ⟨aK, aV, ⟨h1, -⟩, h2⟩ := vk_Sof (args := args) (s := s) (N := 1) (tm := fun _ => .string "StrictSentences$Sentence" 75) (len := [3]) (byt := [[38, 124, 62]]) (A := A) (fun i hi => by rw [show i = 0 by omega]; decide) (fun i hi => hf _ (by decide +kernel)) (fun i hi => hf _ (by decide +kernel)) (fun i hi => hf _ (by decide +kernel)) (fun i hi => by rw [show i = 0 by omega]; exact hf _ (by decide +kernel)) (fun i hi j hj => by
    rw [show i = 0 by omega] at hj ⊢
    have hj : j < 3 := hj
    rcases (show j = 0 ∨ j = 1 ∨ j = 2 by omega) with rfl | rfl | rfl
    · exact hf _ (by decide +kernel)
    · exact hf _ (by decide +kernel)
    · exact hf _ (by decide +kernel)) (fun i j hi hj hij => by omega) hA
  obtain ⟨g1, g2, g3, g4⟩ := h1 0 (by decide)
  exact ⟨aK 0, aV 0, ⟨ht _ (List.mem_of_getElem? (i := 415) (by decide +kernel)), h2 0 (by decide)⟩, g1, g2, g3, g4⟩
theorem str_of3 (hf : ∀ c ∈ flatC (Jvm.Cond.and given_1 narrow_1), c.before args s = true) (ht : ∀ w ∈ lw_tbl, w.before args s = true) (hA : ∀ a : Nat, a < s.heap.size → ¬ A a) (h0 : args = args) : ∃ a v : Nat, ((Cond.stringRef "StrictSentences$Sentence" 83 "pqrs").before args s = true ∧ (Term.string "StrictSentences$Sentence" 83).eval args s none [] s = some (.ref a)) ∧ va_O "java/lang/String" a A s s.heap ∧ va_OF "java/lang/String" "coder" "B" (.int 0) a A s s.heap ∧ va_OF "java/lang/String" "value" "[B" (.ref v) a A s s.heap ∧ va_T .byte v 4 (fun j => .int (([112, 113, 114, 115] : List Int32).getD j 0)) A s s.heap := by
  obtain ⟨aK, aV, ⟨h1, -⟩, h2⟩ := vk_Sof (args := args) (s := s) (N := 1) (tm := fun _ => .string "StrictSentences$Sentence" 83) (len := [4]) (byt := [[112, 113, 114, 115]]) (A := A) (fun i hi => by rw [show i = 0 by omega]; decide) (fun i hi => hf _ (by decide +kernel)) (fun i hi => hf _ (by decide +kernel)) (fun i hi => hf _ (by decide +kernel)) (fun i hi => by rw [show i = 0 by omega]; exact hf _ (by decide +kernel)) (fun i hi j hj => by
    rw [show i = 0 by omega] at hj ⊢
    have hj : j < 4 := hj
    rcases (show j = 0 ∨ j = 1 ∨ j = 2 ∨ j = 3 by omega) with rfl | rfl | rfl | rfl
    · exact hf _ (by decide +kernel)
    · exact hf _ (by decide +kernel)
    · exact hf _ (by decide +kernel)
    · exact hf _ (by decide +kernel)) (fun i j hi hj hij => by omega) hA
  obtain ⟨g1, g2, g3, g4⟩ := h1 0 (by decide)
  exact ⟨aK 0, aV 0, ⟨ht _ (List.mem_of_getElem? (i := 436) (by decide +kernel)), h2 0 (by decide)⟩, g1, g2, g3, g4⟩
theorem sta_of (hf : ∀ c ∈ flatC (Jvm.Cond.and given_1 narrow_1), c.before args s = true) (ht : ∀ w ∈ lw_tbl, w.before args s = true) (hA : ∀ a : Nat, a < s.heap.size → ¬ A a) (hS : ∀ (own : String) (k : Nat) (tx : String) (a : Nat), (Cond.stringRef own k tx).before args s = true ∧ (Term.string own k).eval args s none [] s = some (.ref a) → vk_R own k tx a s) : ∃ sa : Nat → Nat, va_Z "StrictSentences$Sentence" "ATOM_ROWS" "[I" (.ref (sa 0)) A s s.heap ∧ va_T .int (sa 0) 4 (fun j => .int (arow j)) A s s.heap ∧
    va_Z "java/lang/String" "COMPACT_STRINGS" "Z" (.int 1) A s s.heap ∧ va_Zq "jdk/internal/util/Preconditions" "SIOOBE_FORMATTER" "Ljava/util/function/BiFunction;" A s s.heap ∧
    va_Nw (.methodLinkNest "StrictSentences$Frame" 72 yX4_has "StrictSentences") s ∧ ∀ i, i < 4 → strP A i (sa (1 + i)) (sa (5 + i)) s s.heap := by
  obtain ⟨t, t1, t2⟩ := atom_of hf ht hA
  obtain ⟨a0, v0, q0, r0⟩ := str_of0 hf ht hA rfl
  obtain ⟨a1, v1, q1, r1⟩ := str_of1 hf ht hA rfl
  obtain ⟨a2, v2, q2, r2⟩ := str_of2 hf ht hA rfl
  obtain ⟨a3, v3, q3, r3⟩ := str_of3 hf ht hA rfl
  refine ⟨fun j => match j with
    | 0 => t
    | 1 => a0
    | 2 => a1
    | 3 => a2
    | 4 => a3
    | 5 => v0
    | 6 => v1
    | 7 => v2
    | _ => v3, t1, t2, va_Zof (ht _ (List.mem_of_getElem? (i := 277) (by decide +kernel))) (ht _ (List.mem_of_getElem? (i := 55) (by decide +kernel))) (va_eqi (hf _ (by decide +kernel))) hA, va_Zqof (ht _ (List.mem_of_getElem? (i := 320) (by decide +kernel))) (ht _ (List.mem_of_getElem? (i := 59) (by decide +kernel))) (hf _ (by decide +kernel)) hA, va_Nw.of rfl (ht _ (List.mem_of_getElem? (i := 475) (by decide +kernel))), fun i hi => ?_⟩
  rcases (show i = 0 ∨ i = 1 ∨ i = 2 ∨ i = 3 by omega) with rfl | rfl | rfl | rfl
  · exact ⟨hS _ _ _ _ q0, r0⟩
  · exact ⟨hS _ _ _ _ q1, r1⟩
  · exact ⟨hS _ _ _ _ q2, r2⟩
  · exact ⟨hS _ _ _ _ q3, r3⟩
theorem mk_of (ht : ∀ w ∈ lw_tbl, w.before args s = true) : MK s := ⟨va_AO.of (ht _ (List.mem_of_getElem? (i := 77) (by decide +kernel))), va_AO.of (ht _ (List.mem_of_getElem? (i := 124) (by decide +kernel))), va_Nw.of rfl (ht _ (List.mem_of_getElem? (i := 79) (by decide +kernel))), va_Nw.of rfl (ht _ (List.mem_of_getElem? (i := 127) (by decide +kernel))), va_Nw.of rfl (ht _ (List.mem_of_getElem? (i := 155) (by decide +kernel))), va_Nw.of rfl (ht _ (List.mem_of_getElem? (i := 158) (by decide +kernel))), va_Nw.of rfl (ht _ (List.mem_of_getElem? (i := 163) (by decide +kernel)))⟩
theorem bg_tbl {w : Cond} (h : w ∈ BG) : w ∈ lw_tbl := (List.mem_filter.mp h).1
theorem k_of (hb : ∀ w ∈ BG, w.before args s = true) : ∃ D : va_G, ∀ (c : Nat) (q : vw_C), vwCl[c]? = some q → u_Kn s q.1 q.2.1 q.2.2 (D.1 c) (D.2 c) := by
  obtain ⟨c0, i0, h0⟩ := u_known (C := RX0) (T := TX0) (N := 6) hb inX0 (hb _ wn_X0)
  obtain ⟨c1, i1, h1⟩ := u_known (C := RX1) (T := TX1) (N := 8) hb inX1 (hb _ wn_X1)
  obtain ⟨c2, i2, h2⟩ := u_known (C := RX2) (T := TX2) (N := 1) hb inX2 (hb _ wn_X2)
  obtain ⟨c3, i3, h3⟩ := u_known (C := RX3) (T := TX3) (N := 7) hb inX3 (hb _ wn_X3)
  obtain ⟨c4, i4, h4⟩ := u_known (C := RX4) (T := TX4) (N := 7) hb inX4 (hb _ wn_X4)
  obtain ⟨c5, i5, h5⟩ := u_known (C := RX5) (T := TX5) (N := 25) hb inX5 (hb _ wn_X5)
  refine ⟨(fun c => match c with
    | 0 => c0
    | 1 => c1
    | 2 => c2
    | 3 => c3
    | 4 => c4
    | _ => c5, fun c => match c with
    | 0 => i0
    | 1 => i1
    | 2 => i2
    | 3 => i3
    | 4 => i4
    | _ => i5), fun c q hq => ?_⟩
  have hc : c < 6 := (List.getElem?_eq_some_iff.mp hq).1
  rcases (show c = 0 ∨ c = 1 ∨ c = 2 ∨ c = 3 ∨ c = 4 ∨ c = 5 by omega) with rfl | rfl | rfl | rfl | rfl | rfl
  · cases hq; exact h0
  · cases hq; exact h1
  · cases hq; exact h2
  · cases hq; exact h3
  · cases hq; exact h4
  · cases hq; exact h5
theorem ty_of (ht : ∀ w ∈ lw_tbl, w.before args s = true) : ∃ ty : Nat → ClassId, ∀ (k : Nat) (q : ClassId × FieldType), [(ty 0, FieldType.int), (ty 1, .boolean), (ty 2, .object "StrictSentences$Sentence"), (ty 3, .object "StrictSentences$Shelf")][k]? = some q → ArrOfT s q.1 q.2 ∧ va_RA s q.1 q.2 := by
  obtain ⟨c0, k0, p0, a1, a2, a3⟩ := Cond.arrayClass_spec (ht _ (List.mem_of_getElem? (i := 118) (by decide +kernel) : Cond.arrayClass .int ∈ lw_tbl))
  obtain ⟨c1, k1, p1, b1, b2, b3⟩ := Cond.arrayClass_spec (ht _ (List.mem_of_getElem? (i := 688) (by decide +kernel) : Cond.arrayClass .boolean ∈ lw_tbl))
  obtain ⟨p2, c2, k2, d1, -, d2, d3, d4⟩ := Cond.arrayOver_spec (ht _ (List.mem_of_getElem? (i := 77) (by decide +kernel) : Cond.arrayOver (.object "StrictSentences$Sentence") ∈ lw_tbl))
  obtain ⟨p3, c3, k3, e1, -, e2, e3, e4⟩ := Cond.arrayOver_spec (ht _ (List.mem_of_getElem? (i := 124) (by decide +kernel) : Cond.arrayOver (.object "StrictSentences$Shelf") ∈ lw_tbl))
  refine ⟨fun k => match k with
    | 0 => c0
    | 1 => c1
    | 2 => c2
    | _ => c3, fun k q hq => ?_⟩
  have hk : k < 4 := (List.getElem?_eq_some_iff.mp hq).1
  rcases (show k = 0 ∨ k = 1 ∨ k = 2 ∨ k = 3 by omega) with rfl | rfl | rfl | rfl
  · cases hq; exact ⟨fun n z => ⟨(fun k h => by cases h), k0, a2, p0, a3⟩, a1⟩
  · cases hq; exact ⟨fun n z => ⟨(fun k h => by cases h), k1, b2, p1, b3⟩, b1⟩
  · cases hq; exact ⟨fun n z => ⟨(fun k h => by cases h), k2, d2, p2, d3⟩, k2, p2, d2, d3, d1, d4⟩
  · cases hq; exact ⟨fun n z => ⟨(fun k h => by cases h), k3, e2, p3, e3⟩, k3, p3, e2, e3, e1, e4⟩
end STATICS
