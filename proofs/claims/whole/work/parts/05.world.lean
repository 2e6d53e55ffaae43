/-! THE LAYOUT. Cells by logical number: i < 175; the world's contents are one function σ : cell → place → Int32 (int fields by their slot, int rows by their place); references never change once the objects are made.
0..139: Sentence j (j < 20) is 7 j (object), 7 j + 1 .. 7 j + 6 (kind, left, right, length, trueRows, placeOf); j 0..5 shelf, 6..11 image 0, 12..17 image 1, 18 draft, 19 the frame's own.
140..142 Shelf objects, 143..145 their rows 'held', 146 the row of images, 147 Text (148 signs, 149 opened, 150 lefts), 151 Frame (152 sets, 153 denied, 154 heights), 155 StrictSentences.
156 StrictSentencesModel; 157 sizes 158 kinds 159 ones 160 others 161 text 162 kind 163 one 164 other 165 open 166 first 167 sort 168 number 169 still 170 lengths 171 worlds 172 isGone 173 heights 174 isKept. -/
abbrev Sg : Type := Nat → Nat → Int32
/-- a cell's shape: a row of numbers (class, length); a row of references; an object (class, fields: none is a number) -/
abbrev Sh : Type := (Nat × Nat) ⊕ (Nat × Nat × (Nat → Nat)) ⊕ (Nat × List (Option Nat))
/-- tables, array classes, addresses, statics' addresses -/
abbrev GT : Type := va_G × (Nat → ClassId) × (Nat → Nat) × (Nat → Nat)
def fv (ad : Nat → Nat) : List (Option Nat) → (Nat → Int32) → Nat → List Value
  | [], _, _ => []
  | none :: l, v, k => .int (v k) :: fv ad l v (k + 1)
  | some r :: l, v, k => .ref (ad r) :: fv ad l v (k + 1)
def ce (G : GT) (t : Sh) (v : Nat → Int32) : va_E := match t with
  | .inl (t, n) => .inl (G.2.1 t, n, .inl v)
  | .inr (.inl (t, n, r)) => .inl (G.2.1 t, n, .inr (.inr (.inr (.inr (fun k => some (G.2.2.1 (r k)))))))
  | .inr (.inr (ci, fl)) => .inr (ci, fv G.2.2.1 fl v 0)
abbrev NC : Nat := 175
def TfM (i : Nat) : Sh := match i with
  | 0 => .inl (0, 18)
  | 1 => .inl (0, 198)
  | 2 => .inl (0, 198)
  | 3 => .inl (0, 198)
  | 4 => .inl (0, 40)
  | 5 => .inl (0, 128)
  | 6 => .inl (0, 128)
  | 7 => .inl (0, 128)
  | 8 => .inl (0, 64)
  | 9 => .inl (0, 64)
  | 10 => .inl (0, 64)
  | 11 => .inl (0, 16)
  | 12 => .inl (0, 64)
  | 13 => .inl (0, 16)
  | 14 => .inl (0, 2048)
  | 15 => .inl (1, 2048)
  | 16 => .inl (0, 2048)
  | _ => .inl (1, 2)
def Tf (i : Nat) : Sh :=
  if i < 140 then (if i % 7 = 0 then .inr (.inr (1, [none, none, some (i + 1), some (i + 2), some (i + 3), some (i + 4), some (i + 5), some (i + 6)])) else .inl (0, 11))
  else if i < 143 then .inr (.inr (2, [some (i + 3)]))
  else if i < 146 then .inr (.inl (2, 6, fun k => 7 * (6 * (i - 143) + k)))
  else if i = 146 then .inr (.inl (3, 2, fun k => k + 1 + 140))
  else if i = 147 then .inr (.inr (3, [none, some 148, some 149, some 150, none, none, none]))
  else if i < 151 then .inl (0, 40)
  else if i = 151 then .inr (.inr (0, [some (7 * 19), some 152, some 153, some 154, none, none]))
  else if i < 155 then .inl (0, 2048)
  else if i = 155 then .inr (.inr (4, [some 140, some 146, none, some 147, none, some (7 * 18), some 151]))
  else if i = 156 then .inr (.inr (5, [some 157, some 158, some 159, some 160, some 161, none, none, none, some 162, some 163, some 164, some 165, some 166, some 167, none, none, none, some 168, some 169, some 170, some 171, some 172, none, some 173, some 174]))
  else TfM (i - 157)
def wl (G : GT) (σ : Sg) : va_W := (List.range NC).map (fun i => (G.2.2.1 i, ce G (Tf i) (σ i)))
def Ain (G : GT) : Nat → Prop := fun q => ∃ i, i < NC ∧ G.2.2.1 i = q
def GI (G : GT) : Prop := ∀ i j, i < NC → j < NC → G.2.2.1 i = G.2.2.1 j → i = j
def tysG (G : GT) : List (ClassId × FieldType) := [(G.2.1 0, .int), (G.2.1 1, .boolean), (G.2.1 2, .object "StrictSentences$Sentence"), (G.2.1 3, .object "StrictSentences$Shelf")]
def s1 (σ : Sg) (i : Nat) (f : Nat → Int32) : Sg := fun j => if j = i then f else σ j
def s2 (σ : Sg) (i k : Nat) (x : Int32) : Sg := s1 σ i (upd (σ i) k x)
theorem s2_at (σ : Sg) (i k : Nat) (x : Int32) : s2 σ i k x i k = x := by simp [s2, s1, upd]
theorem s2_ap (σ : Sg) (i k : Nat) (x : Int32) (j q : Nat) : s2 σ i k x j q = if j = i ∧ q = k then x else σ j q := by
  by_cases h : j = i
  · subst h; by_cases h2 : q = k <;> simp [s2, s1, upd, h2]
  · simp [s2, s1, h]
theorem s2_nc {σ : Sg} {i k : Nat} {x : Int32} {j : Nat} (h : j ≠ i) : s2 σ i k x j = σ j := by simp [s2, s1, h]
theorem fv_len (ad : Nat → Nat) : ∀ (fl : List (Option Nat)) (v : Nat → Int32) (b : Nat), (fv ad fl v b).length = fl.length
  | [], _, _ => rfl
  | none :: l, v, b => by simp [fv, fv_len ad l]
  | some r :: l, v, b => by simp [fv, fv_len ad l]
theorem fv_int (ad : Nat → Nat) : ∀ (fl : List (Option Nat)) (v : Nat → Int32) (b k : Nat), fl[k]? = some none → (fv ad fl v b)[k]? = some (.int (v (b + k)))
  | [], _, _, k, h => by simp at h
  | none :: l, v, b, 0, _ => by simp [fv]
  | some r :: l, v, b, 0, h => by simp at h
  | none :: l, v, b, k + 1, h => by
    rw [List.getElem?_cons_succ] at h
    have := fv_int ad l v (b + 1) k h
    simp only [fv, List.getElem?_cons_succ, this]
    rw [show b + 1 + k = b + (k + 1) by omega]
  | some r :: l, v, b, k + 1, h => by
    rw [List.getElem?_cons_succ] at h
    have := fv_int ad l v (b + 1) k h
    simp only [fv, List.getElem?_cons_succ, this]
    rw [show b + 1 + k = b + (k + 1) by omega]
theorem fv_ref (ad : Nat → Nat) : ∀ (fl : List (Option Nat)) (v : Nat → Int32) (b k r : Nat), fl[k]? = some (some r) → (fv ad fl v b)[k]? = some (.ref (ad r))
  | [], _, _, k, _, h => by simp at h
  | none :: l, v, b, 0, r, h => by simp at h
  | some r' :: l, v, b, 0, r, h => by simp at h; simp [fv, h]
  | none :: l, v, b, k + 1, r, h => by
    rw [List.getElem?_cons_succ] at h
    simp only [fv, List.getElem?_cons_succ, fv_ref ad l v (b + 1) k r h]
  | some r' :: l, v, b, k + 1, r, h => by
    rw [List.getElem?_cons_succ] at h
    simp only [fv, List.getElem?_cons_succ, fv_ref ad l v (b + 1) k r h]
theorem fv_cong (ad : Nat → Nat) : ∀ (fl : List (Option Nat)) (v u : Nat → Int32) (b : Nat), (∀ k, b ≤ k → v k = u k) → fv ad fl v b = fv ad fl u b
  | [], _, _, _, _ => rfl
  | none :: l, v, u, b, h => by simp only [fv, h b (Nat.le_refl b), fv_cong ad l v u (b + 1) (fun k hk => h k (by omega))]
  | some r :: l, v, u, b, h => by simp only [fv, fv_cong ad l v u (b + 1) (fun k hk => h k (by omega))]
theorem fv_set (ad : Nat → Nat) (x : Int32) : ∀ (fl : List (Option Nat)) (v : Nat → Int32) (b k : Nat), fl[k]? = some none → (fv ad fl v b).set k (.int x) = fv ad fl (upd v (b + k) x) b
  | [], _, _, k, h => by simp at h
  | none :: l, v, b, 0, _ => by
    simp only [fv, List.set_cons_zero]
    rw [show upd v (b + 0) x b = x by simp [upd]]
    rw [fv_cong ad l v (upd v (b + 0) x) (b + 1) (fun k hk => by simp [upd]; omega)]
  | some r :: l, v, b, 0, h => by simp at h
  | none :: l, v, b, k + 1, h => by
    rw [List.getElem?_cons_succ] at h
    simp only [fv, List.set_cons_succ, fv_set ad x l v (b + 1) k h]
    rw [show b + 1 + k = b + (k + 1) by omega, show upd v (b + (k + 1)) x b = v b by simp [upd]]
  | some r :: l, v, b, k + 1, h => by
    rw [List.getElem?_cons_succ] at h
    simp only [fv, List.set_cons_succ, fv_set ad x l v (b + 1) k h]
    rw [show b + 1 + k = b + (k + 1) by omega]
theorem wl_at (G : GT) (σ : Sg) {i : Nat} (hi : i < NC) : (wl G σ)[i]? = some (G.2.2.1 i, ce G (Tf i) (σ i)) := by
  rw [wl, List.getElem?_map, List.getElem?_range hi]; rfl
theorem wl_set (G : GT) (σ : Sg) {i : Nat} (hi : i < NC) (f : Nat → Int32) : (wl G σ).set i (G.2.2.1 i, ce G (Tf i) f) = wl G (s1 σ i f) := by
  apply List.ext_getElem?
  intro j
  rw [List.getElem?_set]
  by_cases hj : j < NC
  · by_cases h : i = j
    · subst h
      rw [if_pos rfl, wl_at G _ hj]
      simp [wl, s1, hi]
    · rw [if_neg h, wl_at G σ hj, wl_at G _ hj]
      simp [s1, Ne.symm h]
  · have h1 : ∀ τ : Sg, (wl G τ)[j]? = none := fun τ => by simp [wl]; omega
    rw [h1, h1]
    by_cases h : i = j
    · omega
    · rw [if_neg h]
theorem wl_D {G : GT} (hG : GI G) (σ : Sg) : va_D (Ain G) (wl G σ) := by
  have key : ∀ (i : Nat) (q : Nat × va_E), (wl G σ)[i]? = some q → i < NC ∧ q.1 = G.2.2.1 i := by
    intro i q h
    by_cases hi : i < NC
    · rw [wl_at G σ hi] at h
      cases h
      exact ⟨hi, rfl⟩
    · have : (wl G σ)[i]? = none := by simp [wl]; omega
      rw [this] at h; cases h
  refine ⟨fun i j p q hi hj e => ?_, fun k q hk => ?_⟩
  · obtain ⟨a1, a2⟩ := key i p hi
    obtain ⟨b1, b2⟩ := key j q hj
    exact hG i j a1 b1 (by rw [← a2, ← b2]; exact e)
  · obtain ⟨a1, a2⟩ := key k q hk
    exact ⟨k, a1, a2.symm⟩
def fI (i ci k : Nat) : Prop := i < NC ∧ ∃ fl, Tf i = .inr (.inr (ci, fl)) ∧ fl[k]? = some none
def fR (i ci k r : Nat) : Prop := i < NC ∧ ∃ fl, Tf i = .inr (.inr (ci, fl)) ∧ fl[k]? = some (some r)
def aI (i n : Nat) : Prop := i < NC ∧ Tf i = .inl (0, n)
def aZ (i n : Nat) : Prop := i < NC ∧ Tf i = .inl (1, n)
def aR (i t n : Nat) (r : Nat → Nat) : Prop := i < NC ∧ Tf i = .inr (.inl (t, n, r))
def oC (i ci : Nat) : Prop := i < NC ∧ ∃ fl, Tf i = .inr (.inr (ci, fl))
/-! STATICS: the row ATOM_ROWS, the strings, String.COMPACT_STRINGS, the formatter -/
def arow (j : Nat) : Int32 := match j with
  | 0 => 43690
  | 1 => 52428
  | 2 => 61680
  | _ => 65280
def strI (i : Nat) : String × Nat × String × List Int32 := match i with
  | 0 => ("StrictSentences$Text", 59, "pqrs", [112, 113, 114, 115])
  | 1 => ("StrictSentences$Text", 67, "&|>", [38, 124, 62])
  | 2 => ("StrictSentences$Sentence", 75, "&|>", [38, 124, 62])
  | _ => ("StrictSentences$Sentence", 83, "pqrs", [112, 113, 114, 115])
def St (G : GT) (U : State) (H : Heap) : Prop :=
  va_Z "StrictSentences$Sentence" "ATOM_ROWS" "[I" (.ref (G.2.2.2 0)) (Ain G) U H ∧ va_T .int (G.2.2.2 0) 4 (fun j => .int (arow j)) (Ain G) U H ∧
  va_Z "java/lang/String" "COMPACT_STRINGS" "Z" (.int 1) (Ain G) U H ∧ va_Zq "jdk/internal/util/Preconditions" "SIOOBE_FORMATTER" "Ljava/util/function/BiFunction;" (Ain G) U H ∧
  va_Nw (.methodLinkNest "StrictSentences$Frame" 72 yX4_has "StrictSentences") U ∧
  ∀ i, i < 4 → vk_R (strI i).1 (strI i).2.1 (strI i).2.2.1 (G.2.2.2 (1 + i)) U ∧ va_O "java/lang/String" (G.2.2.2 (1 + i)) (Ain G) U H ∧ va_OF "java/lang/String" "coder" "B" (.int 0) (G.2.2.2 (1 + i)) (Ain G) U H ∧ va_OF "java/lang/String" "value" "[B" (.ref (G.2.2.2 (5 + i))) (G.2.2.2 (1 + i)) (Ain G) U H ∧ va_T .byte (G.2.2.2 (5 + i)) (strI i).2.2.2.length (fun j => .int ((strI i).2.2.2.getD j 0)) (Ain G) U H
theorem St.kept {G : GT} {U : State} {H H1 : Heap} (h : St G U H) (hq : ∀ a : Nat, a < H.size → ¬ Ain G a → H1[a]? = H[a]?) : St G U H1 := by
  obtain ⟨h1, h2, h3, h4, h6, h5⟩ := h
  refine ⟨h1.kept hq, h2.kept hq, h3.kept hq, h4.kept hq, h6, fun i hi => ?_⟩
  obtain ⟨a1, a2, a3, a4, a5⟩ := h5 i hi
  exact ⟨a1, a2.kept hq, a3.kept hq, a4.kept hq, a5.kept hq⟩
theorem St.warm {G : GT} {s U : State} {H : Heap} (hW : s.WarmedH U.vm) (h : St G s H) : St G U H := by
  obtain ⟨h1, h2, h3, h4, h6, h5⟩ := h
  refine ⟨h1.moved hW.alike, h2.moved hW.alike, h3.moved hW.alike, h4.moved hW.alike, va_Nw.warmM hW h6, fun i hi => ?_⟩
  obtain ⟨a1, a2, a3, a4, a5⟩ := h5 i hi
  exact ⟨a1.warm hW, va_O.moved hW.alike a2, va_OF.moved hW.alike a3, va_OF.moved hW.alike a4, a5.moved hW.alike⟩
theorem St.same {G : GT} {u U : State} {H : Heap} (hv : U.vm = u.vm) (h : St G u H) : St G U H := by
  have ha : u.vm.Alike U.vm := by rw [hv]; exact Vm.Alike.refl _
  obtain ⟨h1, h2, h3, h4, h6, h5⟩ := h
  refine ⟨h1.moved ha, h2.moved ha, h3.moved ha, h4.moved ha, va_Nw.same rfl hv.symm h6, fun i hi => ?_⟩
  obtain ⟨a1, a2, a3, a4, a5⟩ := h5 i hi
  exact ⟨a1.same hv, va_O.moved ha a2, va_OF.moved ha a3, va_OF.moved ha a4, a5.moved ha⟩
/-! LOCALS by their places -/
def posL (lo : List (Option Value)) : List (Nat × Value) := (List.range lo.length).filterMap (fun k => match lo[k]? with
  | some (some v) => some (k, v)
  | _ => none)
theorem mem_posL {lo : List (Option Value)} {q : Nat × Value} : q ∈ posL lo ↔ lo[q.1]? = some (some q.2) := by
  unfold posL
  rw [List.mem_filterMap]
  constructor
  · rintro ⟨k, hk, h⟩
    cases hl : lo[k]? with
    | none => rw [hl] at h; cases h
    | some o =>
      cases o with
      | none => rw [hl] at h; cases h
      | some v => rw [hl] at h; cases h; exact hl
  · intro h
    refine ⟨q.1, ?_, ?_⟩
    · rw [List.mem_range]
      exact (List.getElem?_eq_some_iff.mp h).1
    · rw [h]
def lh (ls : Array Slot) (nL : Nat) (lo : List (Option Value)) : Prop := lo.length = nL ∧ (∀ (k : Nat) (v : Value), lo[k]? = some (some v) → v.category = 1) ∧ lv_has ls nL (posL lo)
theorem lh_at {ls : Array Slot} {nL : Nat} {lo : List (Option Value)} (h : lh ls nL lo) {k : Nat} {v : Value} (hk : lo[k]? = some (some v)) : ls[k]? = some (.val v) := h.2.2.2.2 (k, v) (mem_posL.mpr hk)
theorem lh_st {ls ls' : Array Slot} {nL : Nat} {lo : List (Option Value)} (h : lh ls nL lo) {i : Nat} {v : Value} (hi : i < nL) (hc : v.category = 1) (h' : lv_has ls' nL ((i, v) :: (posL lo).filter (fun q => !(q.1 == i) && !(q.1 + 1 == i && q.2.category == 2)))) : lh ls' nL (lo.set i (some v)) := by
  obtain ⟨h1, h2, h3⟩ := h
  have key : ∀ (k : Nat) (u : Value), (lo.set i (some v))[k]? = some (some u) → (k = i ∧ u = v) ∨ (k ≠ i ∧ lo[k]? = some (some u)) := by
    intro k u hk
    rw [List.getElem?_set] at hk
    by_cases e : i = k
    · subst e
      rw [if_pos rfl] at hk
      split at hk
      · cases hk; exact Or.inl ⟨rfl, rfl⟩
      · cases hk
    · rw [if_neg e] at hk
      exact Or.inr ⟨Ne.symm e, hk⟩
  refine ⟨by rw [List.length_set]; exact h1, fun k u hk => ?_, h'.1, h'.2.1, fun q hq => ?_⟩
  · rcases key k u hk with ⟨-, rfl⟩ | ⟨-, h⟩
    · exact hc
    · exact h2 k u h
  · have hq := mem_posL.mp hq
    rcases key q.1 q.2 hq with ⟨e1, e2⟩ | ⟨e1, h⟩
    · have := h'.2.2 (i, v) List.mem_cons_self
      rw [e1, e2]; exact this
    · refine h'.2.2 q (List.mem_cons_of_mem _ (List.mem_filter.mpr ⟨mem_posL.mpr h, ?_⟩))
      have hcat := h2 q.1 q.2 h
      simp [e1, hcat]
theorem lh_entry {av : List Value} {n : Nat} (hc : ∀ v ∈ av, v.category = 1) (hn : av.length ≤ n) : lh ((lg_sl av ++ List.replicate (n - (lg_sl av).length) Slot.unset).toArray) n (av.map some ++ List.replicate (n - av.length) none) := by
  have hsl : lg_sl av = av.map Slot.val := by
    unfold lg_sl
    clear hn
    induction av with
    | nil => rfl
    | cons v l ih =>
      rw [List.flatMap_cons, ih (fun u hu => hc u (List.mem_cons_of_mem _ hu))]
      simp [hc v List.mem_cons_self]
  have hE := lv_entry av (n := n) (by rw [hsl, List.length_map]; exact hn)
  have key : ∀ (k : Nat) (v : Value), (av.map some ++ List.replicate (n - av.length) none)[k]? = some (some v) → av[k]? = some v := by
    intro k v hk
    rw [List.getElem?_append] at hk
    split at hk
    · rw [List.getElem?_map] at hk
      cases ha : av[k]? with
      | none => rw [ha] at hk; cases hk
      | some u => rw [ha] at hk; cases hk; rfl
    · rw [List.getElem?_replicate] at hk
      split at hk <;> cases hk
  refine ⟨by simp; omega, fun k v hk => hc v (List.mem_of_getElem? (key k v hk)), hE.1, hE.2.1, fun q hq => ?_⟩
  have h := key q.1 q.2 (mem_posL.mp hq)
  rw [hsl]
  have hl : q.1 < av.length := (List.getElem?_eq_some_iff.mp h).1
  simp only [List.getElem?_toArray]
  rw [List.getElem?_append_left (by rw [List.length_map]; exact hl), List.getElem?_map, h]
  rfl
/-! THE JUDGEMENT: the machine at pc, with the world σ, the locals lo and the stack st, comes to its end -/
abbrev ZT : Type := Program × Launch × Env × Room × State × MethodId × Array Value × List Frame × Method × Code × Nat × Nat × (State → Prop)
def V (G : GT) (Z : ZT) (σ : Sg) (pc : Nat) (lo : List (Option Value)) (st : List Value) : Prop := match Z with
  | (p, l, e, R, s, m, args, below, meth, c, cs, sl, Q) => ∀ (H : Heap) (locs : List Loc) (ls : Array Slot), va_P G.1 vwCl (wl G σ) H → va_S (Ain G) s.heap H locs → lh ls c.maxLocals lo → W p l e R s m args below meth c H locs cs sl Q (F0 m pc ls st)
abbrev lcl (n : Nat) : Nat := 60 * n
def rml (lev : Nat) : Room := { frames := lev, cells := 0, slots := 0, locals := lcl lev }
def Cx (G : GT) (own : String) (cc : ByteArray) (lev : Nat) (Z : ZT) : Prop := match Z with
  | (p, _, _, R, s, m, args, _, meth, c, cs, sl, _) => p.tables.exec = Jvm.exec ∧ c.code = cc ∧ s.vm.findClass own = some m.cls ∧ (∀ w ∈ BG, w.before args s = true) ∧ va_K G.1 vwCl (tysG G) s ∧ GI G ∧ St G s s.heap ∧ (lev ≤ R.frames ∧ lcl lev ≤ R.locals ∧ cs ≤ R.cells ∧ sl ≤ R.slots) ∧ meth.locks = false
def Bd (G : GT) (σ : Sg) (t : State) : Prop := va_P G.1 vwCl (wl G σ) t.heap
def Wd (G : GT) (σ : Sg) (U : State) : Prop := GI G ∧ va_P G.1 vwCl (wl G σ) U.heap ∧ va_K G.1 vwCl (tysG G) U ∧ St G U U.heap
def Rt (G : GT) (Z : ZT) (ty : FieldType) (post : Int32 → Sg → Prop) : Prop := match Z with
  | (_, _, _, _, s, _, args, below, meth, _, cs, sl, Q) => meth.sig.returnType = some ty ∧ Q = MQ below (va_Qi post (Bd G) (Ain G)) args s cs sl (Ain G)
def RtV (G : GT) (Z : ZT) (post : Sg → Prop) : Prop := match Z with
  | (_, _, _, _, s, _, args, below, meth, _, cs, sl, Q) => meth.sig.returnType = none ∧ Q = MQ below (va_Qv post (Bd G) (Ain G)) args s cs sl (Ain G)
/-- a contract: a method that answers a number (or a truth) -/
def MC (G : GT) (y : MethodName) (cc : ByteArray) (n : Nat) (ty : FieldType) (lev : Nat) (av : List Value) (σ : Sg) (post : Int32 → Sg → Prop) : Prop := ∀ l, Met l y (.code y cc n (some ty) :: BG) (rml lev) (va_Pc av (Wd G σ)) (va_Qi post (Bd G) (Ain G)) 0 0 (Ain G)
/-- a contract: a method that answers nothing -/
def MV (G : GT) (y : MethodName) (cc : ByteArray) (n : Nat) (lev : Nat) (av : List Value) (σ : Sg) (post : Sg → Prop) : Prop := ∀ l, Met l y (.code y cc n none :: BG) (rml lev) (va_Pc av (Wd G σ)) (va_Qv post (Bd G) (Ain G)) 0 0 (Ain G)
theorem MC_of {G : GT} {y : MethodName} {cc : ByteArray} {n : Nat} {ty : FieldType} {lev : Nat} {av : List Value} {σ : Sg} {post : Int32 → Sg → Prop} (hy : plainName y.cls = true) (hc : ∀ v ∈ av, v.category = 1) (hn : av.length ≤ n)
    (h : ∀ Z : ZT, Cx G y.cls cc lev Z → Rt G Z ty post → V G Z σ 0 (av.map some ++ List.replicate (n - av.length) none) []) : MC G y cc n ty lev av σ post := by
  intro l
  refine Met.ofW (cc := cc) (maxL := n) (ret := some ty) hy rfl ?_
  intro p e s m args below meth c s₁ B hml hv
  obtain ⟨rfl, hG, hP, hK, hS⟩ := hv
  have hts := atoms_spec (ws := .code y cc n (some ty) :: BG) B.pre
  have hV := h (p, l, e, rml lev, s, m, av.toArray, below, meth, c, 0, 0, MQ below (va_Qi post (Bd G) (Ain G)) av.toArray s 0 0 (Ain G)) ⟨B.exec, B.bytes, findClass_of_methodNamed B.named, fun w hw => hts w (List.mem_cons_of_mem _ hw), hK, hG, hS, ⟨Nat.le_refl _, Nat.le_refl _, Nat.le_refl _, Nat.le_refl _⟩, B.notSynchronized⟩ ⟨B.returns, rfl⟩
  rw [lg_entry_eq]
  exact hV s.heap [] _ hP va_S.rf (by rw [hml]; exact lh_entry hc hn)
theorem MV_of {G : GT} {y : MethodName} {cc : ByteArray} {n : Nat} {lev : Nat} {av : List Value} {σ : Sg} {post : Sg → Prop} (hy : plainName y.cls = true) (hc : ∀ v ∈ av, v.category = 1) (hn : av.length ≤ n)
    (h : ∀ Z : ZT, Cx G y.cls cc lev Z → RtV G Z post → V G Z σ 0 (av.map some ++ List.replicate (n - av.length) none) []) : MV G y cc n lev av σ post := by
  intro l
  refine Met.ofW (cc := cc) (maxL := n) (ret := none) hy rfl ?_
  intro p e s m args below meth c s₁ B hml hv
  obtain ⟨rfl, hG, hP, hK, hS⟩ := hv
  have hts := atoms_spec (ws := .code y cc n none :: BG) B.pre
  have hV := h (p, l, e, rml lev, s, m, av.toArray, below, meth, c, 0, 0, MQ below (va_Qv post (Bd G) (Ain G)) av.toArray s 0 0 (Ain G)) ⟨B.exec, B.bytes, findClass_of_methodNamed B.named, fun w hw => hts w (List.mem_cons_of_mem _ hw), hK, hG, hS, ⟨Nat.le_refl _, Nat.le_refl _, Nat.le_refl _, Nat.le_refl _⟩, B.notSynchronized⟩ ⟨B.returns, rfl⟩
  rw [lg_entry_eq]
  exact hV s.heap [] _ hP va_S.rf (by rw [hml]; exact lh_entry hc hn)
theorem MC.weak {G : GT} {y : MethodName} {cc : ByteArray} {n : Nat} {ty : FieldType} {lev : Nat} {av : List Value} {σ τ : Sg} {post : Int32 → Sg → Prop} (h : MC G y cc n ty lev av σ post) (e : σ = τ) : MC G y cc n ty lev av τ post := e ▸ h
theorem wd_blind (G : GT) (σ : Sg) (av : List Value) : FrameBlind (va_Pc av (Wd G σ)) := fun a U g mk q => by
  obtain ⟨q0, q1, q2, q3, q4⟩ := q
  exact ⟨q0, q1, q2, va_K.moved (u := U) (U := U.calling g mk a) (Vm.Alike.refl U.vm) q3, St.same rfl q4⟩
section VROWS
variable {G : GT} {own : String} {cc : ByteArray} {lev : Nat} {Z : ZT} {σ : Sg} {pc : Nat} {lo : List (Option Value)} {st : List Value}
theorem v_ret {ty : FieldType} {post : Int32 → Sg → Prop} {v : Int32} (X : Cx G own cc lev Z) (hR : Rt G Z ty post) (d : decode cc pc = .ok (.ireturn, 1)) (hn : narrow ty (.int v) = .int v) (hp : post v σ) : V G Z σ pc lo [.int v] := by
  obtain ⟨p, l, e, R, s, m, args, below, meth, c, cs, sl, Q⟩ := Z
  obtain ⟨hx, hb, ho, ht, hK, hG, hS0, hr, hlk⟩ := X
  obtain ⟨hty, rfl⟩ := hR
  intro H locs ls hP hS hl
  exact W.zret hx hb hty hn (fun t ht hW => ⟨⟨v, σ, rfl, hp, by rw [Bd, ht]; exact hP⟩, hS.F ht⟩) hS.2.2 d hlk
theorem v_vret {post : Sg → Prop} (X : Cx G own cc lev Z) (hR : RtV G Z post) (d : decode cc pc = .ok (.return_, 1)) (hp : post σ) : V G Z σ pc lo [] := by
  obtain ⟨p, l, e, R, s, m, args, below, meth, c, cs, sl, Q⟩ := Z
  obtain ⟨hx, hb, ho, ht, hK, hG, hS0, hr, hlk⟩ := X
  obtain ⟨hty, rfl⟩ := hR
  intro H locs ls hP hS hl
  exact W.vret hx hb hty (fun t ht hW => ⟨⟨σ, rfl, hp, by rw [Bd, ht]; exact hP⟩, hS.F ht⟩) hS.2.2 d hlk
theorem v_iconst {n : Int} {v : Int32} (X : Cx G own cc lev Z) (d : decode cc pc = .ok (.iconst n, 1)) (hv : Int32.ofInt n = v) (k : V G Z σ (pc + 1) lo (.int v :: st)) : V G Z σ pc lo st := by
  obtain ⟨p, l, e, R, s, m, args, below, meth, c, cs, sl, Q⟩ := Z
  obtain ⟨hx, hb, ho, ht, hK, hG, hS0, hr, hlk⟩ := X
  intro H locs ls hP hS hl
  exact lv_iconst hx hb d hv (k H locs ls hP hS hl)
theorem v_bipush {n : Int} {v : Int32} (X : Cx G own cc lev Z) (d : decode cc pc = .ok (.bipush n, 2)) (hv : (Int8.ofInt n).toInt32 = v) (k : V G Z σ (pc + 2) lo (.int v :: st)) : V G Z σ pc lo st := by
  obtain ⟨p, l, e, R, s, m, args, below, meth, c, cs, sl, Q⟩ := Z
  obtain ⟨hx, hb, ho, ht, hK, hG, hS0, hr, hlk⟩ := X
  intro H locs ls hP hS hl
  exact lv_bipush hx hb d hv (k H locs ls hP hS hl)
theorem v_sipush {n : Int} {v : Int32} (X : Cx G own cc lev Z) (d : decode cc pc = .ok (.sipush n, 3)) (hv : (Int16.ofInt n).toInt32 = v) (k : V G Z σ (pc + 3) lo (.int v :: st)) : V G Z σ pc lo st := by
  obtain ⟨p, l, e, R, s, m, args, below, meth, c, cs, sl, Q⟩ := Z
  obtain ⟨hx, hb, ho, ht, hK, hG, hS0, hr, hlk⟩ := X
  intro H locs ls hP hS hl
  exact lv_sipush hx hb d hv (k H locs ls hP hS hl)
theorem v_iload_n {k : Fin 4} {x : Int32} (X : Cx G own cc lev Z) (d : decode cc pc = .ok (.iload_n k, 1)) (h : lo[(k : Nat)]? = some (some (.int x))) (kk : V G Z σ (pc + 1) lo (.int x :: st)) : V G Z σ pc lo st := by
  obtain ⟨p, l, e, R, s, m, args, below, meth, c, cs, sl, Q⟩ := Z
  obtain ⟨hx, hb, ho, ht, hK, hG, hS0, hr, hlk⟩ := X
  intro H locs ls hP hS hl
  exact lv_iload_n hx hb d rfl (lh_at hl h) (kk H locs ls hP hS hl)
theorem v_iload {k : Nat} {x : Int32} (X : Cx G own cc lev Z) (d : decode cc pc = .ok (.iload k, 2)) (h : lo[k]? = some (some (.int x))) (kk : V G Z σ (pc + 2) lo (.int x :: st)) : V G Z σ pc lo st := by
  obtain ⟨p, l, e, R, s, m, args, below, meth, c, cs, sl, Q⟩ := Z
  obtain ⟨hx, hb, ho, ht, hK, hG, hS0, hr, hlk⟩ := X
  intro H locs ls hP hS hl
  exact lv_iload hx hb d (lh_at hl h) (kk H locs ls hP hS hl)
theorem v_istore_n {k : Fin 4} {x : Int32} (X : Cx G own cc lev Z) (d : decode cc pc = .ok (.istore_n k, 1)) (h : (k : Nat) < lo.length) (kk : V G Z σ (pc + 1) (lo.set (k : Nat) (some (.int x))) st) : V G Z σ pc lo (.int x :: st) := by
  obtain ⟨p, l, e, R, s, m, args, below, meth, c, cs, sl, Q⟩ := Z
  obtain ⟨hx, hb, ho, ht, hK, hG, hS0, hr, hlk⟩ := X
  intro H locs ls hP hS hl
  have hi : (k : Nat) < c.maxLocals := by rw [← hl.1]; exact h
  exact lv_istore_n hx hb d rfl hl.2.2 hi rfl (fun ls' h' => kk H locs ls' hP hS (lh_st hl hi rfl h'))
theorem v_istore {k : Nat} {x : Int32} (X : Cx G own cc lev Z) (d : decode cc pc = .ok (.istore k, 2)) (h : k < lo.length) (kk : V G Z σ (pc + 2) (lo.set k (some (.int x))) st) : V G Z σ pc lo (.int x :: st) := by
  obtain ⟨p, l, e, R, s, m, args, below, meth, c, cs, sl, Q⟩ := Z
  obtain ⟨hx, hb, ho, ht, hK, hG, hS0, hr, hlk⟩ := X
  intro H locs ls hP hS hl
  have hi : k < c.maxLocals := by rw [← hl.1]; exact h
  exact lv_istore hx hb d hl.2.2 hi rfl (fun ls' h' => kk H locs ls' hP hS (lh_st hl hi rfl h'))
theorem v_aload_n {k : Fin 4} {x : Nat} (X : Cx G own cc lev Z) (d : decode cc pc = .ok (.aload_n k, 1)) (h : lo[(k : Nat)]? = some (some (.ref x))) (kk : V G Z σ (pc + 1) lo (.ref x :: st)) : V G Z σ pc lo st := by
  obtain ⟨p, l, e, R, s, m, args, below, meth, c, cs, sl, Q⟩ := Z
  obtain ⟨hx, hb, ho, ht, hK, hG, hS0, hr, hlk⟩ := X
  intro H locs ls hP hS hl
  exact lv_aload_n hx hb d rfl (lh_at hl h) (kk H locs ls hP hS hl)
theorem v_aload {k : Nat} {x : Nat} (X : Cx G own cc lev Z) (d : decode cc pc = .ok (.aload k, 2)) (h : lo[k]? = some (some (.ref x))) (kk : V G Z σ (pc + 2) lo (.ref x :: st)) : V G Z σ pc lo st := by
  obtain ⟨p, l, e, R, s, m, args, below, meth, c, cs, sl, Q⟩ := Z
  obtain ⟨hx, hb, ho, ht, hK, hG, hS0, hr, hlk⟩ := X
  intro H locs ls hP hS hl
  exact lv_aload hx hb d (lh_at hl h) (kk H locs ls hP hS hl)
theorem v_astore_n {k : Fin 4} {x : Nat} (X : Cx G own cc lev Z) (d : decode cc pc = .ok (.astore_n k, 1)) (h : (k : Nat) < lo.length) (kk : V G Z σ (pc + 1) (lo.set (k : Nat) (some (.ref x))) st) : V G Z σ pc lo (.ref x :: st) := by
  obtain ⟨p, l, e, R, s, m, args, below, meth, c, cs, sl, Q⟩ := Z
  obtain ⟨hx, hb, ho, ht, hK, hG, hS0, hr, hlk⟩ := X
  intro H locs ls hP hS hl
  have hi : (k : Nat) < c.maxLocals := by rw [← hl.1]; exact h
  exact lv_astore_n hx hb d rfl hl.2.2 hi rfl (fun ls' h' => kk H locs ls' hP hS (lh_st hl hi rfl h'))
theorem v_astore {k : Nat} {x : Nat} (X : Cx G own cc lev Z) (d : decode cc pc = .ok (.astore k, 2)) (h : k < lo.length) (kk : V G Z σ (pc + 2) (lo.set k (some (.ref x))) st) : V G Z σ pc lo (.ref x :: st) := by
  obtain ⟨p, l, e, R, s, m, args, below, meth, c, cs, sl, Q⟩ := Z
  obtain ⟨hx, hb, ho, ht, hK, hG, hS0, hr, hlk⟩ := X
  intro H locs ls hP hS hl
  have hi : k < c.maxLocals := by rw [← hl.1]; exact h
  exact lv_astore hx hb d hl.2.2 hi rfl (fun ls' h' => kk H locs ls' hP hS (lh_st hl hi rfl h'))
theorem v_iinc {k : Nat} {n : Int} {x : Int32} (X : Cx G own cc lev Z) (d : decode cc pc = .ok (.iinc k n, 3)) (h : lo[k]? = some (some (.int x))) (kk : V G Z σ (pc + 3) (lo.set k (some (.int (x + Int32.ofInt n)))) st) : V G Z σ pc lo st := by
  obtain ⟨p, l, e, R, s, m, args, below, meth, c, cs, sl, Q⟩ := Z
  obtain ⟨hx, hb, ho, ht, hK, hG, hS0, hr, hlk⟩ := X
  intro H locs ls hP hS hl
  have hi : k < c.maxLocals := by rw [← hl.1]; exact (List.getElem?_eq_some_iff.mp h).1
  obtain ⟨j, hj⟩ := List.getElem?_of_mem ((mem_posL (q := (k, .int x))).mpr h)
  exact lv_iinc hx hb d hl.2.2 hj rfl hi rfl (fun ls' h' => kk H locs ls' hP hS (lh_st hl hi rfl h'))
theorem v_iadd {x y : Int32} (X : Cx G own cc lev Z) (d : decode cc pc = .ok (.iadd, 1)) (k : V G Z σ (pc + 1) lo (.int (x + y) :: st)) : V G Z σ pc lo (.int y :: .int x :: st) := by
  obtain ⟨p, l, e, R, s, m, args, below, meth, c, cs, sl, Q⟩ := Z
  obtain ⟨hx, hb, ho, ht, hK, hG, hS0, hr, hlk⟩ := X
  intro H locs ls hP hS hl
  exact lv_iadd hx hb d (k H locs ls hP hS hl)
theorem v_isub {x y : Int32} (X : Cx G own cc lev Z) (d : decode cc pc = .ok (.isub, 1)) (k : V G Z σ (pc + 1) lo (.int (x - y) :: st)) : V G Z σ pc lo (.int y :: .int x :: st) := by
  obtain ⟨p, l, e, R, s, m, args, below, meth, c, cs, sl, Q⟩ := Z
  obtain ⟨hx, hb, ho, ht, hK, hG, hS0, hr, hlk⟩ := X
  intro H locs ls hP hS hl
  exact lv_isub hx hb d (k H locs ls hP hS hl)
theorem v_imul {x y : Int32} (X : Cx G own cc lev Z) (d : decode cc pc = .ok (.imul, 1)) (k : V G Z σ (pc + 1) lo (.int (x * y) :: st)) : V G Z σ pc lo (.int y :: .int x :: st) := by
  obtain ⟨p, l, e, R, s, m, args, below, meth, c, cs, sl, Q⟩ := Z
  obtain ⟨hx, hb, ho, ht, hK, hG, hS0, hr, hlk⟩ := X
  intro H locs ls hP hS hl
  exact lv_imul hx hb d (k H locs ls hP hS hl)
theorem v_iand {x y : Int32} (X : Cx G own cc lev Z) (d : decode cc pc = .ok (.iand, 1)) (k : V G Z σ (pc + 1) lo (.int (x &&& y) :: st)) : V G Z σ pc lo (.int y :: .int x :: st) := by
  obtain ⟨p, l, e, R, s, m, args, below, meth, c, cs, sl, Q⟩ := Z
  obtain ⟨hx, hb, ho, ht, hK, hG, hS0, hr, hlk⟩ := X
  intro H locs ls hP hS hl
  exact lv_iand hx hb d (k H locs ls hP hS hl)
theorem v_ior {x y : Int32} (X : Cx G own cc lev Z) (d : decode cc pc = .ok (.ior, 1)) (k : V G Z σ (pc + 1) lo (.int (x ||| y) :: st)) : V G Z σ pc lo (.int y :: .int x :: st) := by
  obtain ⟨p, l, e, R, s, m, args, below, meth, c, cs, sl, Q⟩ := Z
  obtain ⟨hx, hb, ho, ht, hK, hG, hS0, hr, hlk⟩ := X
  intro H locs ls hP hS hl
  exact lv_ior hx hb d (k H locs ls hP hS hl)
theorem v_ixor {x y : Int32} (X : Cx G own cc lev Z) (d : decode cc pc = .ok (.ixor, 1)) (k : V G Z σ (pc + 1) lo (.int (x ^^^ y) :: st)) : V G Z σ pc lo (.int y :: .int x :: st) := by
  obtain ⟨p, l, e, R, s, m, args, below, meth, c, cs, sl, Q⟩ := Z
  obtain ⟨hx, hb, ho, ht, hK, hG, hS0, hr, hlk⟩ := X
  intro H locs ls hP hS hl
  exact lv_ixor hx hb d (k H locs ls hP hS hl)
theorem v_ishl {x y : Int32} (X : Cx G own cc lev Z) (d : decode cc pc = .ok (.ishl, 1)) (k : V G Z σ (pc + 1) lo (.int (x <<< (y &&& 31)) :: st)) : V G Z σ pc lo (.int y :: .int x :: st) := by
  obtain ⟨p, l, e, R, s, m, args, below, meth, c, cs, sl, Q⟩ := Z
  obtain ⟨hx, hb, ho, ht, hK, hG, hS0, hr, hlk⟩ := X
  intro H locs ls hP hS hl
  exact lv_ishl hx hb d (k H locs ls hP hS hl)
theorem v_ishr {x y : Int32} (X : Cx G own cc lev Z) (d : decode cc pc = .ok (.ishr, 1)) (k : V G Z σ (pc + 1) lo (.int (x >>> (y &&& 31)) :: st)) : V G Z σ pc lo (.int y :: .int x :: st) := by
  obtain ⟨p, l, e, R, s, m, args, below, meth, c, cs, sl, Q⟩ := Z
  obtain ⟨hx, hb, ho, ht, hK, hG, hS0, hr, hlk⟩ := X
  intro H locs ls hP hS hl
  exact lv_ishr hx hb d (k H locs ls hP hS hl)
theorem v_iushr {x y : Int32} (X : Cx G own cc lev Z) (d : decode cc pc = .ok (.iushr, 1)) (k : V G Z σ (pc + 1) lo (.int ((x.toUInt32 >>> (y.toUInt32 &&& Int32.toUInt32 31)).toInt32) :: st)) : V G Z σ pc lo (.int y :: .int x :: st) := by
  obtain ⟨p, l, e, R, s, m, args, below, meth, c, cs, sl, Q⟩ := Z
  obtain ⟨hx, hb, ho, ht, hK, hG, hS0, hr, hlk⟩ := X
  intro H locs ls hP hS hl
  exact lv_iushr hx hb d rfl (k H locs ls hP hS hl)
theorem v_i2c {x : Int32} (X : Cx G own cc lev Z) (d : decode cc pc = .ok (.i2c, 1)) (k : V G Z σ (pc + 1) lo (.int ((x.toUInt32 % 65536).toInt32) :: st)) : V G Z σ pc lo (.int x :: st) := by
  obtain ⟨p, l, e, R, s, m, args, below, meth, c, cs, sl, Q⟩ := Z
  obtain ⟨hx, hb, ho, ht, hK, hG, hS0, hr, hlk⟩ := X
  intro H locs ls hP hS hl
  exact lv_i2c hx hb d rfl (k H locs ls hP hS hl)
theorem v_i2b {x : Int32} (X : Cx G own cc lev Z) (d : decode cc pc = .ok (.i2b, 1)) (k : V G Z σ (pc + 1) lo (.int (x.toInt8.toInt32) :: st)) : V G Z σ pc lo (.int x :: st) := by
  obtain ⟨p, l, e, R, s, m, args, below, meth, c, cs, sl, Q⟩ := Z
  obtain ⟨hx, hb, ho, ht, hK, hG, hS0, hr, hlk⟩ := X
  intro H locs ls hP hS hl
  exact lv_i2b hx hb d rfl (k H locs ls hP hS hl)
theorem v_dup {v : Value} (X : Cx G own cc lev Z) (d : decode cc pc = .ok (.dup, 1)) (hv : v.category = 1) (k : V G Z σ (pc + 1) lo (v :: v :: st)) : V G Z σ pc lo (v :: st) := by
  obtain ⟨p, l, e, R, s, m, args, below, meth, c, cs, sl, Q⟩ := Z
  obtain ⟨hx, hb, ho, ht, hK, hG, hS0, hr, hlk⟩ := X
  intro H locs ls hP hS hl
  exact lv_dup hx hb d hv (k H locs ls hP hS hl)
theorem v_pop {v : Value} (X : Cx G own cc lev Z) (d : decode cc pc = .ok (.pop, 1)) (hv : v.category = 1) (k : V G Z σ (pc + 1) lo st) : V G Z σ pc lo (v :: st) := by
  obtain ⟨p, l, e, R, s, m, args, below, meth, c, cs, sl, Q⟩ := Z
  obtain ⟨hx, hb, ho, ht, hK, hG, hS0, hr, hlk⟩ := X
  intro H locs ls hP hS hl
  exact lv_pop hx hb d hv (k H locs ls hP hS hl)
theorem v_goto {off : Int} {tgt : Nat} (X : Cx G own cc lev Z) (d : decode cc pc = .ok (.goto off, 3)) (ht' : (pc : Int) + off = (tgt : Int)) (k : V G Z σ tgt lo st) : V G Z σ pc lo st := by
  obtain ⟨p, l, e, R, s, m, args, below, meth, c, cs, sl, Q⟩ := Z
  obtain ⟨hx, hb, ho, ht, hK, hG, hS0, hr, hlk⟩ := X
  intro H locs ls hP hS hl
  exact lv_goto hx hb d ht' (k H locs ls hP hS hl)
theorem v_ldci {idx : Nat} {v : Int32} (X : Cx G own cc lev Z) (hw : Cond.constant own idx v ∈ BG) (d : decode cc pc = .ok (.ldc idx, 2)) (k : V G Z σ (pc + 2) lo (.int v :: st)) : V G Z σ pc lo st := by
  obtain ⟨p, l, e, R, s, m, args, below, meth, c, cs, sl, Q⟩ := Z
  obtain ⟨hx, hb, ho, ht, hK, hG, hS0, hr, hlk⟩ := X
  intro H locs ls hP hS hl
  exact lv_ldc hx hb ho (ht _ hw) d (k H locs ls hP hS hl)
theorem v_if_eq {x : Int32} {off : Int} {tgt : Nat} (X : Cx G own cc lev Z) (d : decode cc pc = .ok (.ifCond .eq off, 3)) (ht' : (pc : Int) + off = (tgt : Int)) (kt : x = 0 → V G Z σ tgt lo st) (kf : ¬ x = 0 → V G Z σ (pc + 3) lo st) : V G Z σ pc lo (.int x :: st) := by
  obtain ⟨p, l, e, R, s, m, args, below, meth, c, cs, sl, Q⟩ := Z
  obtain ⟨hx, hb, ho, ht, hK, hG, hS0, hr, hlk⟩ := X
  intro H locs ls hP hS hl
  exact lv_if_eq hx hb d ht' (fun h => kt h H locs ls hP hS hl) (fun h => kf h H locs ls hP hS hl)
theorem v_icmp_eq {x y : Int32} {off : Int} {tgt : Nat} (X : Cx G own cc lev Z) (d : decode cc pc = .ok (.if_icmp .eq off, 3)) (ht' : (pc : Int) + off = (tgt : Int)) (kt : x = y → V G Z σ tgt lo st) (kf : ¬ x = y → V G Z σ (pc + 3) lo st) : V G Z σ pc lo (.int y :: .int x :: st) := by
  obtain ⟨p, l, e, R, s, m, args, below, meth, c, cs, sl, Q⟩ := Z
  obtain ⟨hx, hb, ho, ht, hK, hG, hS0, hr, hlk⟩ := X
  intro H locs ls hP hS hl
  exact lv_icmp_eq hx hb d ht' (fun h => kt h H locs ls hP hS hl) (fun h => kf h H locs ls hP hS hl)
theorem v_if_ne {x : Int32} {off : Int} {tgt : Nat} (X : Cx G own cc lev Z) (d : decode cc pc = .ok (.ifCond .ne off, 3)) (ht' : (pc : Int) + off = (tgt : Int)) (kt : ¬ x = 0 → V G Z σ tgt lo st) (kf : x = 0 → V G Z σ (pc + 3) lo st) : V G Z σ pc lo (.int x :: st) := by
  obtain ⟨p, l, e, R, s, m, args, below, meth, c, cs, sl, Q⟩ := Z
  obtain ⟨hx, hb, ho, ht, hK, hG, hS0, hr, hlk⟩ := X
  intro H locs ls hP hS hl
  exact lv_if_ne hx hb d ht' (fun h => kt h H locs ls hP hS hl) (fun h => kf h H locs ls hP hS hl)
theorem v_icmp_ne {x y : Int32} {off : Int} {tgt : Nat} (X : Cx G own cc lev Z) (d : decode cc pc = .ok (.if_icmp .ne off, 3)) (ht' : (pc : Int) + off = (tgt : Int)) (kt : ¬ x = y → V G Z σ tgt lo st) (kf : x = y → V G Z σ (pc + 3) lo st) : V G Z σ pc lo (.int y :: .int x :: st) := by
  obtain ⟨p, l, e, R, s, m, args, below, meth, c, cs, sl, Q⟩ := Z
  obtain ⟨hx, hb, ho, ht, hK, hG, hS0, hr, hlk⟩ := X
  intro H locs ls hP hS hl
  exact lv_icmp_ne hx hb d ht' (fun h => kt h H locs ls hP hS hl) (fun h => kf h H locs ls hP hS hl)
theorem v_if_lt {x : Int32} {off : Int} {tgt : Nat} (X : Cx G own cc lev Z) (d : decode cc pc = .ok (.ifCond .lt off, 3)) (ht' : (pc : Int) + off = (tgt : Int)) (kt : x < 0 → V G Z σ tgt lo st) (kf : ¬ x < 0 → V G Z σ (pc + 3) lo st) : V G Z σ pc lo (.int x :: st) := by
  obtain ⟨p, l, e, R, s, m, args, below, meth, c, cs, sl, Q⟩ := Z
  obtain ⟨hx, hb, ho, ht, hK, hG, hS0, hr, hlk⟩ := X
  intro H locs ls hP hS hl
  exact lv_if_lt hx hb d ht' (fun h => kt h H locs ls hP hS hl) (fun h => kf h H locs ls hP hS hl)
theorem v_icmp_lt {x y : Int32} {off : Int} {tgt : Nat} (X : Cx G own cc lev Z) (d : decode cc pc = .ok (.if_icmp .lt off, 3)) (ht' : (pc : Int) + off = (tgt : Int)) (kt : x < y → V G Z σ tgt lo st) (kf : ¬ x < y → V G Z σ (pc + 3) lo st) : V G Z σ pc lo (.int y :: .int x :: st) := by
  obtain ⟨p, l, e, R, s, m, args, below, meth, c, cs, sl, Q⟩ := Z
  obtain ⟨hx, hb, ho, ht, hK, hG, hS0, hr, hlk⟩ := X
  intro H locs ls hP hS hl
  exact lv_icmp_lt hx hb d ht' (fun h => kt h H locs ls hP hS hl) (fun h => kf h H locs ls hP hS hl)
theorem v_if_ge {x : Int32} {off : Int} {tgt : Nat} (X : Cx G own cc lev Z) (d : decode cc pc = .ok (.ifCond .ge off, 3)) (ht' : (pc : Int) + off = (tgt : Int)) (kt : 0 ≤ x → V G Z σ tgt lo st) (kf : ¬ 0 ≤ x → V G Z σ (pc + 3) lo st) : V G Z σ pc lo (.int x :: st) := by
  obtain ⟨p, l, e, R, s, m, args, below, meth, c, cs, sl, Q⟩ := Z
  obtain ⟨hx, hb, ho, ht, hK, hG, hS0, hr, hlk⟩ := X
  intro H locs ls hP hS hl
  exact lv_if_ge hx hb d ht' (fun h => kt h H locs ls hP hS hl) (fun h => kf h H locs ls hP hS hl)
theorem v_icmp_ge {x y : Int32} {off : Int} {tgt : Nat} (X : Cx G own cc lev Z) (d : decode cc pc = .ok (.if_icmp .ge off, 3)) (ht' : (pc : Int) + off = (tgt : Int)) (kt : y ≤ x → V G Z σ tgt lo st) (kf : ¬ y ≤ x → V G Z σ (pc + 3) lo st) : V G Z σ pc lo (.int y :: .int x :: st) := by
  obtain ⟨p, l, e, R, s, m, args, below, meth, c, cs, sl, Q⟩ := Z
  obtain ⟨hx, hb, ho, ht, hK, hG, hS0, hr, hlk⟩ := X
  intro H locs ls hP hS hl
  exact lv_icmp_ge hx hb d ht' (fun h => kt h H locs ls hP hS hl) (fun h => kf h H locs ls hP hS hl)
theorem v_if_gt {x : Int32} {off : Int} {tgt : Nat} (X : Cx G own cc lev Z) (d : decode cc pc = .ok (.ifCond .gt off, 3)) (ht' : (pc : Int) + off = (tgt : Int)) (kt : 0 < x → V G Z σ tgt lo st) (kf : ¬ 0 < x → V G Z σ (pc + 3) lo st) : V G Z σ pc lo (.int x :: st) := by
  obtain ⟨p, l, e, R, s, m, args, below, meth, c, cs, sl, Q⟩ := Z
  obtain ⟨hx, hb, ho, ht, hK, hG, hS0, hr, hlk⟩ := X
  intro H locs ls hP hS hl
  exact lv_if_gt hx hb d ht' (fun h => kt h H locs ls hP hS hl) (fun h => kf h H locs ls hP hS hl)
theorem v_icmp_gt {x y : Int32} {off : Int} {tgt : Nat} (X : Cx G own cc lev Z) (d : decode cc pc = .ok (.if_icmp .gt off, 3)) (ht' : (pc : Int) + off = (tgt : Int)) (kt : y < x → V G Z σ tgt lo st) (kf : ¬ y < x → V G Z σ (pc + 3) lo st) : V G Z σ pc lo (.int y :: .int x :: st) := by
  obtain ⟨p, l, e, R, s, m, args, below, meth, c, cs, sl, Q⟩ := Z
  obtain ⟨hx, hb, ho, ht, hK, hG, hS0, hr, hlk⟩ := X
  intro H locs ls hP hS hl
  exact lv_icmp_gt hx hb d ht' (fun h => kt h H locs ls hP hS hl) (fun h => kf h H locs ls hP hS hl)
theorem v_if_le {x : Int32} {off : Int} {tgt : Nat} (X : Cx G own cc lev Z) (d : decode cc pc = .ok (.ifCond .le off, 3)) (ht' : (pc : Int) + off = (tgt : Int)) (kt : x ≤ 0 → V G Z σ tgt lo st) (kf : ¬ x ≤ 0 → V G Z σ (pc + 3) lo st) : V G Z σ pc lo (.int x :: st) := by
  obtain ⟨p, l, e, R, s, m, args, below, meth, c, cs, sl, Q⟩ := Z
  obtain ⟨hx, hb, ho, ht, hK, hG, hS0, hr, hlk⟩ := X
  intro H locs ls hP hS hl
  exact lv_if_le hx hb d ht' (fun h => kt h H locs ls hP hS hl) (fun h => kf h H locs ls hP hS hl)
theorem v_icmp_le {x y : Int32} {off : Int} {tgt : Nat} (X : Cx G own cc lev Z) (d : decode cc pc = .ok (.if_icmp .le off, 3)) (ht' : (pc : Int) + off = (tgt : Int)) (kt : x ≤ y → V G Z σ tgt lo st) (kf : ¬ x ≤ y → V G Z σ (pc + 3) lo st) : V G Z σ pc lo (.int y :: .int x :: st) := by
  obtain ⟨p, l, e, R, s, m, args, below, meth, c, cs, sl, Q⟩ := Z
  obtain ⟨hx, hb, ho, ht, hK, hG, hS0, hr, hlk⟩ := X
  intro H locs ls hP hS hl
  exact lv_icmp_le hx hb d ht' (fun h => kt h H locs ls hP hS hl) (fun h => kf h H locs ls hP hS hl)
theorem v_tabOut {dflt lo' hi : Int} {offs : Array Int} {len : Nat} {x : Int32} {tgt : Nat} (X : Cx G own cc lev Z) (d : decode cc pc = .ok (.tableswitch dflt lo' hi offs, len)) (h : x.toInt < lo' ∨ hi < x.toInt) (ht' : (pc : Int) + dflt = (tgt : Int)) (k : V G Z σ tgt lo st) : V G Z σ pc lo (.int x :: st) := by
  obtain ⟨p, l, e, R, s, m, args, below, meth, c, cs, sl, Q⟩ := Z
  obtain ⟨hx, hb, ho, ht, hK, hG, hS0, hr, hlk⟩ := X
  intro H locs ls hP hS hl
  exact lv_tableOut hx hb d h ht' (k H locs ls hP hS hl)
theorem v_tabIn {dflt lo' hi : Int} {offs : Array Int} {len : Nat} {x : Int32} {off : Int} {tgt : Nat} (X : Cx G own cc lev Z) (d : decode cc pc = .ok (.tableswitch dflt lo' hi offs, len)) (h1 : ¬ x.toInt < lo') (h2 : ¬ hi < x.toInt) (ho' : offs[(x.toInt - lo').toNat]? = some off) (ht' : (pc : Int) + off = (tgt : Int)) (k : V G Z σ tgt lo st) : V G Z σ pc lo (.int x :: st) := by
  obtain ⟨p, l, e, R, s, m, args, below, meth, c, cs, sl, Q⟩ := Z
  obtain ⟨hx, hb, ho, ht, hK, hG, hS0, hr, hlk⟩ := X
  intro H locs ls hP hS hl
  exact lv_tableIn hx hb d h1 h2 ho' ht' (k H locs ls hP hS hl)
theorem v_lookup {dflt : Int} {ps : Array (Int × Int)} {len : Nat} {x : Int32} {off : Int} {tgt : Nat} (X : Cx G own cc lev Z) (d : decode cc pc = .ok (.lookupswitch dflt ps, len)) (hp : (ps.toList.zip (ps.toList.drop 1)).all (fun (a, next) => a.1 < next.1) = true) (ho' : Op.lookupswitch.offset ps.toList dflt x.toInt = off) (ht' : (pc : Int) + off = (tgt : Int)) (k : V G Z σ tgt lo st) : V G Z σ pc lo (.int x :: st) := by
  obtain ⟨p, l, e, R, s, m, args, below, meth, c, cs, sl, Q⟩ := Z
  obtain ⟨hx, hb, ho, ht, hK, hG, hS0, hr, hlk⟩ := X
  intro H locs ls hP hS hl
  exact lv_lookup hx hb d hp ho' ht' (k H locs ls hP hS hl)
/-- a field's link: class ci, place k -/
def FL (own : String) (idx ci k : Nat) : Prop := ∃ (C : String) (T : u_T) (N : Nat), vwCl[ci]? = some (C, T, N) ∧ (∀ w ∈ u_ws C T N, w ∈ BG) ∧ k < N ∧ Cond.fieldLink own idx (T k).1 (T k).2.1 (T k).2.2.1 ∈ BG
/-- the same of a field that may be written, of type ty -/
def FW (own : String) (idx ci k : Nat) (ty : FieldType) : Prop := ∃ (C : String) (T : u_T) (N : Nat) (ty0 : Nat → FieldType), vwCl[ci]? = some (C, T, N) ∧ (∀ w ∈ u_ws C T N, w ∈ BG) ∧ (∀ k, k < N → parseFieldDescriptor (T k).2.2.1 = some (ty0 k)) ∧ (∀ a, a < N → ∀ b, b < N → a ≠ b → (T a).2.1 ≠ (T b).2.1) ∧ k < N ∧ Cond.fieldLink own idx (T k).1 (T k).2.1 (T k).2.2.1 ∈ BG ∧ (T k).2.2.2 = false ∧ parseFieldDescriptor (T k).2.2.1 = some ty
theorem v_geti {idx ci k i : Nat} (X : Cx G own cc lev Z) (hF : FL own idx ci k) (hf : fI i ci k) (d : decode cc pc = .ok (.getfield idx, 3)) (kk : V G Z σ (pc + 3) lo (.int (σ i k) :: st)) : V G Z σ pc lo (.ref (G.2.2.1 i) :: st) := by
  obtain ⟨p, l, e, R, s, m, args, below, meth, c, cs, sl, Q⟩ := Z
  obtain ⟨hx, hb, ho, ht, hK, hG, hS0, hr, hlk⟩ := X
  intro H locs ls hP hS hl
  obtain ⟨C, T, N, f1, f2, f3, f4⟩ := hF
  obtain ⟨hi, fl, e1, e2⟩ := hf
  have he := wl_at G σ hi
  rw [e1] at he
  exact va_get hx hb ht f2 ho hK hP i he f1 k f3 (ht _ f4) (fun _ h => h) (by rw [fv_int G.2.2.1 fl (σ i) 0 k e2, Nat.zero_add]) d (kk H locs ls hP hS hl)
theorem v_getr {idx ci k i r : Nat} (X : Cx G own cc lev Z) (hF : FL own idx ci k) (hf : fR i ci k r) (d : decode cc pc = .ok (.getfield idx, 3)) (kk : V G Z σ (pc + 3) lo (.ref (G.2.2.1 r) :: st)) : V G Z σ pc lo (.ref (G.2.2.1 i) :: st) := by
  obtain ⟨p, l, e, R, s, m, args, below, meth, c, cs, sl, Q⟩ := Z
  obtain ⟨hx, hb, ho, ht, hK, hG, hS0, hr, hlk⟩ := X
  intro H locs ls hP hS hl
  obtain ⟨C, T, N, f1, f2, f3, f4⟩ := hF
  obtain ⟨hi, fl, e1, e2⟩ := hf
  have he := wl_at G σ hi
  rw [e1] at he
  exact va_get hx hb ht f2 ho hK hP i he f1 k f3 (ht _ f4) (fun _ h => h) (fv_ref G.2.2.1 fl (σ i) 0 k r e2) d (kk H locs ls hP hS hl)
theorem v_puti {idx ci k i : Nat} {ty : FieldType} {x : Int32} (X : Cx G own cc lev Z) (hF : FW own idx ci k ty) (hf : fI i ci k) (d : decode cc pc = .ok (.putfield idx, 3)) (hn : narrow ty (.int x) = .int x) (hfit : fits ty (.int x) = true) (kk : V G Z (s2 σ i k x) (pc + 3) lo st) : V G Z σ pc lo (.int x :: .ref (G.2.2.1 i) :: st) := by
  obtain ⟨p, l, e, R, s, m, args, below, meth, c, cs, sl, Q⟩ := Z
  obtain ⟨hx, hb, ho, ht, hK, hG, hS0, hr, hlk⟩ := X
  intro H locs ls hP hS hl
  obtain ⟨C, T, N, ty0, f1, f2, f2a, f2b, f3, f4, f5, f6⟩ := hF
  obtain ⟨hi, fl, e1, e2⟩ := hf
  have he := wl_at G σ hi
  rw [e1] at he
  have hlen : k < (fv G.2.2.1 fl (σ i) 0).length := by rw [fv_len]; exact (List.getElem?_eq_some_iff.mp e2).1
  refine va_put hx hb ht f2 ty0 f2a f2b ho hK hP (wl_D hG σ) hS i he f1 k f3 (ht _ f4) (fun _ h => h) f5 f6 hn hfit hlen d (fun H1 locs1 hP1 _ hS1 => ?_)
  rw [fv_set G.2.2.1 x fl (σ i) 0 k e2, Nat.zero_add] at hP1
  have hw := wl_set G σ hi (upd (σ i) k x)
  rw [e1] at hw
  rw [show (Sum.inr (ci, fv G.2.2.1 fl (upd (σ i) k x) 0) : va_E) = ce G (.inr (.inr (ci, fl))) (upd (σ i) k x) from rfl, hw] at hP1
  exact kk H1 locs1 ls hP1 hS1 hl
theorem v_iald {i n : Nat} {j : Int32} (X : Cx G own cc lev Z) (ha : aI i n) (hin : vp_in j n) (d : decode cc pc = .ok (.iaload, 1)) (kk : V G Z σ (pc + 1) lo (.int (σ i j.toNatClampNeg) :: st)) : V G Z σ pc lo (.int j :: .ref (G.2.2.1 i) :: st) := by
  obtain ⟨p, l, e, R, s, m, args, below, meth, c, cs, sl, Q⟩ := Z
  obtain ⟨hx, hb, ho, ht, hK, hG, hS0, hr, hlk⟩ := X
  intro H locs ls hP hS hl
  obtain ⟨hi, e1⟩ := ha
  have he := wl_at G σ hi
  rw [e1] at he
  exact va_iald hx hb hK hP i 0 he rfl hin d (kk H locs ls hP hS hl)
theorem v_zald {i n : Nat} {j : Int32} (X : Cx G own cc lev Z) (ha : aZ i n) (hin : vp_in j n) (d : decode cc pc = .ok (.baload, 1)) (kk : V G Z σ (pc + 1) lo (.int (σ i j.toNatClampNeg) :: st)) : V G Z σ pc lo (.int j :: .ref (G.2.2.1 i) :: st) := by
  obtain ⟨p, l, e, R, s, m, args, below, meth, c, cs, sl, Q⟩ := Z
  obtain ⟨hx, hb, ho, ht, hK, hG, hS0, hr, hlk⟩ := X
  intro H locs ls hP hS hl
  obtain ⟨hi, e1⟩ := ha
  have he := wl_at G σ hi
  rw [e1] at he
  exact va_zald hx hb hK hP i 1 he rfl hin d (kk H locs ls hP hS hl)
theorem v_iast {i n : Nat} {j x : Int32} (X : Cx G own cc lev Z) (ha : aI i n) (hin : vp_in j n) (d : decode cc pc = .ok (.iastore, 1)) (kk : V G Z (s2 σ i j.toNatClampNeg x) (pc + 1) lo st) : V G Z σ pc lo (.int x :: .int j :: .ref (G.2.2.1 i) :: st) := by
  obtain ⟨p, l, e, R, s, m, args, below, meth, c, cs, sl, Q⟩ := Z
  obtain ⟨hx, hb, ho, ht, hK, hG, hS0, hr, hlk⟩ := X
  intro H locs ls hP hS hl
  obtain ⟨hi, e1⟩ := ha
  have he := wl_at G σ hi
  rw [e1] at he
  refine va_iast hx hb hK hP (wl_D hG σ) hS i 0 he rfl hin d (fun H1 locs1 hP1 _ hS1 => ?_)
  have hw := wl_set G σ hi (upd (σ i) j.toNatClampNeg x)
  rw [e1] at hw
  rw [show (Sum.inl (G.2.1 0, n, Sum.inl (upd (σ i) j.toNatClampNeg x)) : va_E) = ce G (.inl (0, n)) (upd (σ i) j.toNatClampNeg x) from rfl, hw] at hP1
  exact kk H1 locs1 ls hP1 hS1 hl
theorem v_zast {i n : Nat} {j x : Int32} (X : Cx G own cc lev Z) (ha : aZ i n) (hin : vp_in j n) (d : decode cc pc = .ok (.bastore, 1)) (hx1 : vp_nar .boolean x = x) (kk : V G Z (s2 σ i j.toNatClampNeg x) (pc + 1) lo st) : V G Z σ pc lo (.int x :: .int j :: .ref (G.2.2.1 i) :: st) := by
  obtain ⟨p, l, e, R, s, m, args, below, meth, c, cs, sl, Q⟩ := Z
  obtain ⟨hx, hb, ho, ht, hK, hG, hS0, hr, hlk⟩ := X
  intro H locs ls hP hS hl
  obtain ⟨hi, e1⟩ := ha
  have he := wl_at G σ hi
  rw [e1] at he
  refine va_zast hx hb hK hP (wl_D hG σ) hS i 1 he rfl hin d (fun H1 locs1 hP1 _ hS1 => ?_)
  rw [hx1] at hP1
  have hw := wl_set G σ hi (upd (σ i) j.toNatClampNeg x)
  rw [e1] at hw
  rw [show (Sum.inl (G.2.1 1, n, Sum.inl (upd (σ i) j.toNatClampNeg x)) : va_E) = ce G (.inl (1, n)) (upd (σ i) j.toNatClampNeg x) from rfl, hw] at hP1
  exact kk H1 locs1 ls hP1 hS1 hl
theorem v_aald {i t n : Nat} {r : Nat → Nat} {j : Int32} (X : Cx G own cc lev Z) (ha : aR i t n r) (ht2 : t = 2 ∨ t = 3) (hin : vp_in j n) (d : decode cc pc = .ok (.aaload, 1)) (kk : V G Z σ (pc + 1) lo (.ref (G.2.2.1 (r j.toNatClampNeg)) :: st)) : V G Z σ pc lo (.int j :: .ref (G.2.2.1 i) :: st) := by
  obtain ⟨p, l, e, R, s, m, args, below, meth, c, cs, sl, Q⟩ := Z
  obtain ⟨hx, hb, ho, ht, hK, hG, hS0, hr, hlk⟩ := X
  intro H locs ls hP hS hl
  obtain ⟨hi, e1⟩ := ha
  have he := wl_at G σ hi
  rw [e1] at he
  rcases ht2 with rfl | rfl
  · exact va_aldq hx hb hK hP i 2 he rfl hin d (kk H locs ls hP hS hl)
  · exact va_aldq hx hb hK hP i 3 he rfl hin d (kk H locs ls hP hS hl)
/-- a call's words: an instance method of our own -/
def CV (own : String) (idx : Nat) (y : MethodName) (cc : ByteArray) (n : Nat) (ret : Option FieldType) (na : Nat) : Prop := (Cond.methodLink own idx y ∈ BG ∧ Cond.instanceMethod y ∈ BG ∧ Cond.selects y.cls y y ∈ BG ∧ Cond.initialized y.cls ∈ BG ∧ Cond.code y cc n ret ∈ BG) ∧ (y.cls ≠ "java/lang/invoke/MethodHandle" ∧ y.cls ≠ "java/lang/invoke/VarHandle" ∧ (parseMethodDescriptor y.desc).map (fun d => d.parameters.length) = some na) ∧ n ≤ 30
def CS (own : String) (idx : Nat) (y : MethodName) (cc : ByteArray) (n : Nat) (ret : Option FieldType) (na : Nat) : Prop := (Cond.methodLink own idx y ∈ BG ∧ Cond.static y ∈ BG ∧ Cond.initialized y.cls ∈ BG ∧ Cond.code y cc n ret ∈ BG) ∧ (y.cls ≠ "java/lang/invoke/MethodHandle" ∧ y.cls ≠ "java/lang/invoke/VarHandle" ∧ (parseMethodDescriptor y.desc).map (fun d => d.parameters.length) = some na) ∧ n ≤ 30
theorem good_cons {w : Cond} (h : w ∈ BG) : GoodIn BG (w :: BG) := fun v hv => by
  rcases List.mem_cons.mp hv with rfl | hv
  · exact ⟨h, good_of_word (List.all_eq_true.mp bg_good _ h)⟩
  · exact ⟨hv, good_of_word (List.all_eq_true.mp bg_good _ hv)⟩
theorem rml_ok {lev lev' n : Nat} {R : Room} (hl : lev' < lev) (hn : n ≤ 30) (hr : lev ≤ R.frames ∧ lcl lev ≤ R.locals) : (rml lev').frames + 1 ≤ R.frames ∧ 8 + (n + 11) + (rml lev').locals ≤ R.locals := by
  obtain ⟨h1, h2⟩ := hr
  simp only [rml, lcl] at *
  constructor <;> omega
theorem v_cali {idx n na lev' i : Nat} {y : MethodName} {bc : ByteArray} {ty : FieldType} {post : Int32 → Sg → Prop} {As rest : List Value} {ci : Nat} (X : Cx G own cc lev Z) (hM : MC G y bc n ty lev' (.ref (G.2.2.1 i) :: As) σ post) (hC : CV own idx y bc n (some ty) na) (hO : oC i ci) (hy : (vwCl[ci]?).map (fun q => q.1) = some y.cls) (hlev : lev' < lev) (hna : As.length = na) (hst : st = As.reverse ++ .ref (G.2.2.1 i) :: rest) (hcat : (rest.map fun v => v.category).sum ≤ 8) (d : decode cc pc = .ok (.invokevirtual idx, 3))
    (kk : ∀ (r : Int32) (τ : Sg), post r τ → V G Z τ (pc + 3) lo (.int r :: rest)) : V G Z σ pc lo st := by
  subst hst
  obtain ⟨p, l, e, R, s, m, args, below, meth, c, cs, sl, Q⟩ := Z
  obtain ⟨hx, hb, ho, ht, hK, hG, hS0, hr, hlk⟩ := X
  intro H locs ls hP hS hl
  obtain ⟨⟨w1, w2, w3, w4, w5⟩, w6, w7⟩ := hC
  obtain ⟨hi, fl, e1⟩ := hO
  have he := wl_at G σ hi
  rw [e1] at he
  cases hq : vwCl[ci]? with
  | none => rw [hq] at hy; cases hy
  | some q =>
  rw [hq] at hy
  have hy : q.1 = y.cls := Option.some.inj hy
  have hrec := va_recv hK hP hq he
  rw [hy] at hrec
  have hT := (rml_ok hlev w7 ⟨hr.1, hr.2.1⟩)
  have cw : CallW R s args own y.cls idx y bc n (some ty) (.code y bc n (some ty) :: BG) (rml lev') 0 0 na := ⟨callB_of na ht (good_cons w5) rfl rfl rfl (ht _ w4) (ht _ w1) w6 hT, ht _ w2, ht _ w3⟩
  refine va_calli (va_runV (As := As) (rest := rest) ⟨hx, hb, rfl, ho, ht⟩ (hM l) cw ⟨wd_blind G σ _, hrec, fun U hU hW => ⟨rfl, hG, by rw [hU]; exact hP, va_K.moved hW.alike hK, ?_⟩⟩ rfl hna hl.2.2.1 rfl (lv_room hcat) d ⟨hr.2.2.1, hr.2.2.2⟩) hS (fun q _ h => h) (fun q h => h) (fun r u t H1 locs1 ht1 hvm hw hB hz1 hk1 hS1 => ?_)
  · rw [hU]; exact St.warm hW (hS0.kept (fun a h1 h2 => hS.2.1 a h1 h2))
  · exact kk r u hw H1 locs1 ls (by rw [← ht1]; exact hB) hS1 hl
theorem v_calv {idx n na lev' i : Nat} {y : MethodName} {bc : ByteArray} {post : Sg → Prop} {As rest : List Value} {ci : Nat} (X : Cx G own cc lev Z) (hM : MV G y bc n lev' (.ref (G.2.2.1 i) :: As) σ post) (hC : CV own idx y bc n none na) (hO : oC i ci) (hy : (vwCl[ci]?).map (fun q => q.1) = some y.cls) (hlev : lev' < lev) (hna : As.length = na) (hst : st = As.reverse ++ .ref (G.2.2.1 i) :: rest) (hcat : (rest.map fun v => v.category).sum ≤ 8) (d : decode cc pc = .ok (.invokevirtual idx, 3))
    (kk : ∀ (τ : Sg), post τ → V G Z τ (pc + 3) lo rest) : V G Z σ pc lo st := by
  subst hst
  obtain ⟨p, l, e, R, s, m, args, below, meth, c, cs, sl, Q⟩ := Z
  obtain ⟨hx, hb, ho, ht, hK, hG, hS0, hr, hlk⟩ := X
  intro H locs ls hP hS hl
  obtain ⟨⟨w1, w2, w3, w4, w5⟩, w6, w7⟩ := hC
  obtain ⟨hi, fl, e1⟩ := hO
  have he := wl_at G σ hi
  rw [e1] at he
  cases hq : vwCl[ci]? with
  | none => rw [hq] at hy; cases hy
  | some q =>
  rw [hq] at hy
  have hy : q.1 = y.cls := Option.some.inj hy
  have hrec := va_recv hK hP hq he
  rw [hy] at hrec
  have hT := (rml_ok hlev w7 ⟨hr.1, hr.2.1⟩)
  have cw : CallW R s args own y.cls idx y bc n none (.code y bc n none :: BG) (rml lev') 0 0 na := ⟨callB_of na ht (good_cons w5) rfl rfl rfl (ht _ w4) (ht _ w1) w6 hT, ht _ w2, ht _ w3⟩
  refine va_callv (va_runV (As := As) (rest := rest) ⟨hx, hb, rfl, ho, ht⟩ (hM l) cw ⟨wd_blind G σ _, hrec, fun U hU hW => ⟨rfl, hG, by rw [hU]; exact hP, va_K.moved hW.alike hK, ?_⟩⟩ rfl hna hl.2.2.1 rfl (lv_room hcat) d ⟨hr.2.2.1, hr.2.2.2⟩) hS (fun q _ h => h) (fun q h => h) (fun u t H1 locs1 ht1 hvm hw hB hz1 hk1 hS1 => ?_)
  · rw [hU]; exact St.warm hW (hS0.kept (fun a h1 h2 => hS.2.1 a h1 h2))
  · exact kk u hw H1 locs1 ls (by rw [← ht1]; exact hB) hS1 hl
theorem v_cals {idx n na lev' : Nat} {y : MethodName} {bc : ByteArray} {ty : FieldType} {post : Int32 → Sg → Prop} {As rest : List Value} (X : Cx G own cc lev Z) (hM : MC G y bc n ty lev' As σ post) (hC : CS own idx y bc n (some ty) na) (hlev : lev' < lev) (hna : As.length = na) (hst : st = As.reverse ++ rest) (hcat : (rest.map fun v => v.category).sum ≤ 8) (d : decode cc pc = .ok (.invokestatic idx, 3))
    (kk : ∀ (r : Int32) (τ : Sg), post r τ → V G Z τ (pc + 3) lo (.int r :: rest)) : V G Z σ pc lo st := by
  subst hst
  obtain ⟨p, l, e, R, s, m, args, below, meth, c, cs, sl, Q⟩ := Z
  obtain ⟨hx, hb, ho, ht, hK, hG, hS0, hr, hlk⟩ := X
  intro H locs ls hP hS hl
  obtain ⟨⟨w1, w2, w4, w5⟩, w6, w7⟩ := hC
  have hT := (rml_ok hlev w7 ⟨hr.1, hr.2.1⟩)
  have cw : CallB R s args own idx y bc n (some ty) (.code y bc n (some ty) :: BG) (rml lev') 0 0 na ∧ (Cond.static y).before args s = true := ⟨callB_of na ht (good_cons w5) rfl rfl rfl (ht _ w4) (ht _ w1) w6 hT, ht _ w2⟩
  refine va_calli (va_runS (As := As) (rest := rest) ⟨hx, hb, rfl, ho, ht⟩ (hM l) cw ⟨wd_blind G σ _, fun U hU hW => ⟨rfl, hG, by rw [hU]; exact hP, va_K.moved hW.alike hK, ?_⟩⟩ rfl hna hl.2.2.1 rfl (lv_room hcat) d ⟨hr.2.2.1, hr.2.2.2⟩) hS (fun q _ h => h) (fun q h => h) (fun r u t H1 locs1 ht1 hvm hw hB hz1 hk1 hS1 => ?_)
  · rw [hU]; exact St.warm hW (hS0.kept (fun a h1 h2 => hS.2.1 a h1 h2))
  · exact kk r u hw H1 locs1 ls (by rw [← ht1]; exact hB) hS1 hl
theorem v_ldcs {i : Nat} {idx : Nat} (X : Cx G own cc lev Z) (hi : i < 4) (ho' : (strI i).1 = own) (hx' : (strI i).2.1 = idx) (d : decode cc pc = .ok (.ldc idx, 2)) (k : V G Z σ (pc + 2) lo (.ref (G.2.2.2 (1 + i)) :: st)) : V G Z σ pc lo st := by
  obtain ⟨p, l, e, R, s, m, args, below, meth, c, cs, sl, Q⟩ := Z
  obtain ⟨hx, hb, ho, ht, hK, hG, hS0, hr, hlk⟩ := X
  intro H locs ls hP hS hl
  obtain ⟨-, -, -, -, -, h5⟩ := hS0
  obtain ⟨a1, -⟩ := h5 i hi
  rw [ho', hx'] at a1
  exact va_ldcS hx hb ho a1 d (k H locs ls hP hS hl)
theorem v_atoms {idx : Nat} (X : Cx G own cc lev Z) (hw : Cond.fieldLink own idx "StrictSentences$Sentence" "ATOM_ROWS" "[I" ∈ BG) (d : decode cc pc = .ok (.getstatic idx, 3)) (k : V G Z σ (pc + 3) lo (.ref (G.2.2.2 0) :: st)) : V G Z σ pc lo st := by
  obtain ⟨p, l, e, R, s, m, args, below, meth, c, cs, sl, Q⟩ := Z
  obtain ⟨hx, hb, ho, ht, hK, hG, hS0, hr, hlk⟩ := X
  intro H locs ls hP hS hl
  exact va_gets hx hb hS0.1 hS ho (ht _ hw) (fun _ h => h) d (k H locs ls hP hS hl)
theorem v_tlen (X : Cx G own cc lev Z) (d : decode cc pc = .ok (.arraylength, 1)) (k : V G Z σ (pc + 1) lo (.int 4 :: st)) : V G Z σ pc lo (.ref (G.2.2.2 0) :: st) := by
  obtain ⟨p, l, e, R, s, m, args, below, meth, c, cs, sl, Q⟩ := Z
  obtain ⟨hx, hb, ho, ht, hK, hG, hS0, hr, hlk⟩ := X
  intro H locs ls hP hS hl
  obtain ⟨-, ⟨cell, h1, h2, h3, h4, h5, h6, h7⟩, -⟩ := hS0
  have hc : H[G.2.2.2 0]? = some cell := by rw [hS.2.1 _ (Array.getElem?_eq_some_iff.mp h1).1 h7]; exact h1
  exact W.alen hx hb hc h2 h5 (g := F0 m pc ls (.ref (G.2.2.2 0) :: st)) rfl rfl d (k H locs ls hP hS hl)
theorem v_tald {j : Int32} (X : Cx G own cc lev Z) (hin : vp_in j 4) (d : decode cc pc = .ok (.iaload, 1)) (k : V G Z σ (pc + 1) lo (.int (arow j.toNatClampNeg) :: st)) : V G Z σ pc lo (.int j :: .ref (G.2.2.2 0) :: st) := by
  obtain ⟨p, l, e, R, s, m, args, below, meth, c, cs, sl, Q⟩ := Z
  obtain ⟨hx, hb, ho, ht, hK, hG, hS0, hr, hlk⟩ := X
  intro H locs ls hP hS hl
  obtain ⟨-, ⟨cell, h1, h2, h3, h4, h5, h6, h7⟩, -⟩ := hS0
  have hc : H[G.2.2.2 0]? = some cell := by rw [hS.2.1 _ (Array.getElem?_eq_some_iff.mp h1).1 h7]; exact h1
  have hin2 : ¬ (j < 0 ∨ 4 ≤ j.toNatClampNeg) := hin
  have hsz : cell.slots.size = 4 ∨ 4 < cell.slots.size := by omega
  refine W.iald hx hb hc h2 h3 (fun q => ?_) (h6 j.toNatClampNeg (by omega)) (g := F0 m pc ls (.int j :: .ref (G.2.2.2 0) :: st)) rfl rfl d (k H locs ls hP hS hl)
  rcases q with q | q
  · exact hin2 (Or.inl q)
  · exact hin2 (Or.inr (Nat.le_trans h4 q))
end VROWS
