def bt (x : Int32) (i : Nat) : Bool := x.toBitVec.getLsbD i
theorem b_ext {x y : Int32} (h : ∀ i, i < 32 → bt x i = bt y i) : x = y := Int32.toBitVec_inj.mp (BitVec.eq_of_getLsbD_eq (fun i hi => h i hi))
theorem b_or (x y : Int32) (i : Nat) : bt (x ||| y) i = (bt x i || bt y i) := by unfold bt; rw [Int32.toBitVec_or, BitVec.getLsbD_or]
theorem b_and (x y : Int32) (i : Nat) : bt (x &&& y) i = (bt x i && bt y i) := by unfold bt; rw [Int32.toBitVec_and, BitVec.getLsbD_and]
theorem b_xor (x y : Int32) (i : Nat) : bt (x ^^^ y) i = (bt x i ^^ bt y i) := by unfold bt; rw [Int32.toBitVec_xor, BitVec.getLsbD_xor]
theorem b_big {x : Int32} {i : Nat} (h : 32 ≤ i) : bt x i = false := BitVec.getLsbD_of_ge _ _ h
theorem b_m1 : ∀ i, i < 32 → bt (-1) i = true := by decide +kernel
theorem b_0 (i : Nat) : bt 0 i = false := BitVec.getLsbD_zero
theorem s_l : ∀ n, n < 32 → ((nI n &&& 31).toBitVec.smod 32).toNat = n := by decide +kernel
theorem s_u : ∀ n, n < 32 → (((nI n).toUInt32 &&& Int32.toUInt32 31).toBitVec % 32).toNat = n := by decide +kernel
theorem b_shl (n : Nat) (hn : n < 32) (x : Int32) {i : Nat} (hi : i < 32) : bt (x <<< (nI n &&& 31)) i = (decide (n ≤ i) && bt x (i - n)) := by
  unfold bt
  rw [Int32.toBitVec_shiftLeft]
  show (x.toBitVec <<< ((nI n &&& 31).toBitVec.smod 32).toNat).getLsbD i = _
  rw [s_l n hn, BitVec.getLsbD_shiftLeft]
  rcases Nat.lt_or_ge i n with h | h
  · simp [h, Nat.not_le.mpr h]
  · simp [hi, h, Nat.not_lt.mpr h]
theorem b_ushr (n : Nat) (hn : n < 32) (x : Int32) (i : Nat) : bt ((x.toUInt32 >>> ((nI n).toUInt32 &&& Int32.toUInt32 31)).toInt32) i = bt x (n + i) := by
  show (x.toUInt32 >>> ((nI n).toUInt32 &&& Int32.toUInt32 31)).toBitVec.getLsbD i = x.toUInt32.toBitVec.getLsbD (n + i)
  rw [UInt32.toBitVec_shiftRight]
  show (x.toUInt32.toBitVec >>> (((nI n).toUInt32 &&& Int32.toUInt32 31).toBitVec % 32).toNat).getLsbD i = _
  rw [s_u n hn, BitVec.getLsbD_ushiftRight]
theorem b_sshr (n : Nat) (hn : n < 32) (x : Int32) {i : Nat} (hi : i < 32) : bt (x >>> (nI n &&& 31)) i = if n + i < 32 then bt x (n + i) else bt x 31 := by
  unfold bt
  rw [Int32.toBitVec_shiftRight]
  show (x.toBitVec.sshiftRight ((nI n &&& 31).toBitVec.smod 32).toNat).getLsbD i = _
  rw [s_l n hn, BitVec.getLsbD_sshiftRight, BitVec.msb_eq_getLsbD_last]
  simp [hi]
theorem nx_and (a b : Nat) : nI a &&& nI b = nI (a &&& b) := by
  apply Int32.toBitVec_inj.1
  show BitVec.ofNat 32 a &&& BitVec.ofNat 32 b = BitVec.ofNat 32 (a &&& b)
  apply BitVec.eq_of_getLsbD_eq
  intro i hi
  simp [hi]
theorem bt_nI {w i : Nat} (h : i < 32) : bt (nI w) i = w.testBit i := by
  unfold bt
  show (BitVec.ofNat 32 w).getLsbD i = _
  rw [BitVec.getLsbD_ofNat]
  simp [h]
theorem nb_or (a b : Nat) : nI a ||| nI b = nI (a ||| b) := b_ext (fun i hi => by rw [b_or, bt_nI hi, bt_nI hi, bt_nI hi, Nat.testBit_or])
theorem nb_and (a b : Nat) : nI a &&& nI b = nI (a &&& b) := b_ext (fun i hi => by rw [b_and, bt_nI hi, bt_nI hi, bt_nI hi, Nat.testBit_and])
/-- what is in a and not in b -/
def dif (a b : Nat) : Nat := a ^^^ (a &&& b)
theorem dif_bit (a b i : Nat) : (dif a b).testBit i = (a.testBit i && !b.testBit i) := by
  rw [dif, Nat.testBit_xor, Nat.testBit_and]
  cases a.testBit i <;> cases b.testBit i <;> rfl
theorem nb_not (a b : Nat) : nI a &&& (nI b ^^^ (-1)) = nI (dif a b) := b_ext (fun i hi => by
  rw [b_and, b_xor, b_m1 i hi, bt_nI hi, bt_nI hi, bt_nI hi, dif_bit]
  cases a.testBit i <;> cases b.testBit i <;> rfl)
theorem bt_1 {i : Nat} (hi : i < 32) : bt (nI 1) i = decide (i = 0) := by
  have h : ∀ i, i < 32 → bt (nI 1) i = decide (i = 0) := by decide +kernel
  exact h i hi
theorem nb_shl {k : Nat} (hk : k < 31) : nI 1 <<< (nI k &&& 31) = nI (2 ^ k) := b_ext (fun i hi => by
  rw [b_shl k (by omega) _ hi, bt_1 (by omega), bt_nI hi, Nat.testBit_two_pow]
  rw [← Bool.decide_and]
  congr 1
  apply propext
  omega)
theorem bt_bI (b : Bool) {i : Nat} (hi : i < 32) : bt (bI b) i = (b && decide (i = 0)) := by
  cases b
  · show bt 0 i = _
    rw [show bt 0 i = false from BitVec.getLsbD_zero]; rfl
  · show bt (nI 1) i = _
    rw [bt_1 hi]; rfl
theorem nb_has (w : Nat) {k : Nat} (hk : k < 32) : ((nI w).toUInt32 >>> ((nI k).toUInt32 &&& Int32.toUInt32 31)).toInt32 &&& nI 1 = bI (w.testBit k) := b_ext (fun i hi => by
  rw [b_and, b_ushr k hk, bt_1 hi, bt_bI _ hi]
  by_cases h : i = 0
  · subst h; rw [Nat.add_zero, bt_nI hk]
  · simp [h])
theorem nb_hasS (w : Nat) {k : Nat} (hk : k < 32) : (nI w >>> (nI k &&& 31)) &&& nI 1 = bI (w.testBit k) := b_ext (fun i hi => by
  rw [b_and, b_sshr k hk _ hi, bt_1 hi, bt_bI _ hi]
  by_cases h : i = 0
  · subst h; rw [if_pos (by omega), Nat.add_zero, bt_nI hk]
  · simp [h])
theorem nb_two (m s : Nat) {k l : Nat} (hk : k < 32) (hl : l < 32) : (((nI m).toUInt32 >>> ((nI k).toUInt32 &&& Int32.toUInt32 31)).toInt32 &&& ((nI s).toUInt32 >>> ((nI l).toUInt32 &&& Int32.toUInt32 31)).toInt32) &&& nI 1 = bI (m.testBit k && s.testBit l) := b_ext (fun i hi => by
  rw [b_and, b_and, b_ushr k hk, b_ushr l hl, bt_1 hi, bt_bI _ hi]
  by_cases h : i = 0
  · subst h; rw [Nat.add_zero, Nat.add_zero, bt_nI hk, bt_nI hl]
  · simp [h])
theorem nb_zero {m : Nat} (x : Int32) {k : Nat} (hk : k < 32) (h0 : m.testBit k = false) : (((nI m).toUInt32 >>> ((nI k).toUInt32 &&& Int32.toUInt32 31)).toInt32 &&& x) &&& nI 1 = 0 := b_ext (fun i hi => by
  rw [b_and, b_and, b_ushr k hk, bt_1 hi, show bt 0 i = false from BitVec.getLsbD_zero]
  by_cases h : i = 0
  · subst h; rw [Nat.add_zero, bt_nI hk, h0]; rfl
  · simp [h])
/-- a is within b -/
def sbs (a b : Nat) : Bool := b &&& a == a
theorem sbs_iff {a b : Nat} : sbs a b = true ↔ ∀ i, a.testBit i = true → b.testBit i = true := by
  unfold sbs
  rw [beq_iff_eq]
  constructor
  · intro h i hi
    rw [← h, Nat.testBit_and] at hi
    exact (Bool.and_eq_true _ _ |>.mp hi).1
  · intro h
    apply Nat.eq_of_testBit_eq
    intro i
    rw [Nat.testBit_and]
    cases ha : a.testBit i with
    | false => simp
    | true => rw [h i ha]; rfl
theorem sbs_le {a b : Nat} (h : sbs a b = true) : a ≤ b := by
  unfold sbs at h
  rw [beq_iff_eq] at h
  rw [← h]
  exact Nat.and_le_left
theorem nb_lt {a n : Nat} (h : a < 2 ^ n) {i : Nat} (hi : n ≤ i) : a.testBit i = false := Nat.testBit_lt_two_pow (Nat.lt_of_lt_of_le h (Nat.pow_le_pow_right (by decide) hi))
/-! WHICH SETS OF PARTS ARE CLOSED BY THEIR SIGNS -/
def cl1 (p : Pt) (k w : Nat) : Bool := if p.1 = 0 then true else if p.1 = 1 then !w.testBit k else if p.1 = 2 then w.testBit k == (w.testBit p.2.1 && w.testBit p.2.2) else if p.1 = 3 then w.testBit k == (w.testBit p.2.1 || w.testBit p.2.2) else w.testBit k == (w.testBit p.2.2 || (w.testBit k && !w.testBit p.2.1))
def clP (P : Sen) (k w : Nat) : Bool := (List.range k).all (fun i => cl1 (P.getD i (1, 0, 0)) i w)
def clL (P : Sen) (k : Nat) : List Nat := (List.range (2 ^ k)).filter (clP P k)
def wyO (p : Pt) (w : Nat) : Bool := if p.1 = 0 then true else if p.1 = 1 then true else if p.1 = 2 then !(w.testBit p.2.1 && w.testBit p.2.2) else if p.1 = 3 then !(w.testBit p.2.1 || w.testBit p.2.2) else !w.testBit p.2.2
def wyI (p : Pt) (w : Nat) : Bool := if p.1 = 0 then true else if p.1 = 1 then false else if p.1 = 2 then (w.testBit p.2.1 && w.testBit p.2.2) else if p.1 = 3 then (w.testBit p.2.1 || w.testBit p.2.2) else (w.testBit p.2.2 || !w.testBit p.2.1)
theorem clP_succ (P : Sen) (k w : Nat) : clP P (k + 1) w = (clP P k w && cl1 (P.getD k (1, 0, 0)) k w) := by
  unfold clP
  rw [List.range_succ, List.all_append]
  simp
theorem add_bit {w k i : Nat} (hw : w < 2 ^ k) (hi : i < k) : (2 ^ k + w).testBit i = w.testBit i := Nat.testBit_two_pow_add_gt hi w
theorem add_bitk {w k : Nat} (hw : w < 2 ^ k) : (2 ^ k + w).testBit k = true := by
  rw [Nat.testBit_two_pow_add_eq, nb_lt hw (Nat.le_refl k)]; rfl
theorem cl1_hi {P : Sen} (hw : wf P) {i k w : Nat} (hi : i < k) (hk : k ≤ P.length) (h : w < 2 ^ k) : cl1 (P.getD i (1, 0, 0)) i (2 ^ k + w) = cl1 (P.getD i (1, 0, 0)) i w := by
  obtain ⟨p, hp⟩ : ∃ p, P[i]? = some p := ⟨P[i]'(by omega), List.getElem?_eq_getElem (by omega)⟩
  rw [getD_of hp]
  unfold cl1
  rw [add_bit h hi]
  rcases hw i p hp with ⟨z, -⟩ | ⟨z, -⟩ | ⟨z1, z2, z3, z4⟩
  · simp [z]
  · simp [z]
  · rw [add_bit h (show p.2.1 < k by omega), add_bit h (show p.2.2 < k by omega)]
theorem clP_hi {P : Sen} (hw : wf P) {k w : Nat} (hk : k ≤ P.length) (h : w < 2 ^ k) : ∀ j, j ≤ k → clP P j (2 ^ k + w) = clP P j w
  | 0, _ => rfl
  | j + 1, hj => by rw [clP_succ, clP_succ, clP_hi hw hk h j (by omega), cl1_hi hw (by omega) hk h]
theorem cl1_out {p : Pt} {k w : Nat} (h : w < 2 ^ k) (hp : okp k p) : cl1 p k w = wyO p w := by
  unfold cl1 wyO
  rw [nb_lt h (Nat.le_refl k)]
  have := hp.k4
  split
  · rfl
  · split
    · rfl
    · split
      · cases w.testBit p.2.1 <;> cases w.testBit p.2.2 <;> rfl
      · split
        · cases w.testBit p.2.1 <;> cases w.testBit p.2.2 <;> rfl
        · cases w.testBit p.2.1 <;> cases w.testBit p.2.2 <;> rfl
theorem cl1_in {p : Pt} {k w : Nat} (h : w < 2 ^ k) (hp : okp k p) : cl1 p k (2 ^ k + w) = wyI p w := by
  unfold cl1 wyI
  rw [add_bitk h]
  rcases hp with ⟨z, -⟩ | ⟨z, -⟩ | ⟨z1, z2, z3, z4⟩
  · simp [z]
  · simp [z]
  · rw [add_bit h z3, add_bit h z4]
    rcases (show p.1 = 2 ∨ p.1 = 3 ∨ p.1 = 4 by omega) with z | z | z
    · simp only [z]
      cases w.testBit p.2.1 <;> cases w.testBit p.2.2 <;> rfl
    · simp only [z]
      cases w.testBit p.2.1 <;> cases w.testBit p.2.2 <;> rfl
    · simp only [z]
      cases w.testBit p.2.1 <;> cases w.testBit p.2.2 <;> rfl
theorem clL_succ {P : Sen} (hw : wf P) {k : Nat} {p : Pt} (hp : P[k]? = some p) : clL P (k + 1) = (clL P k).filter (wyO p) ++ ((clL P k).filter (wyI p)).map (fun w => 2 ^ k + w) := by
  have hk := (List.getElem?_eq_some_iff.mp hp).1
  unfold clL
  rw [show 2 ^ (k + 1) = 2 ^ k + 2 ^ k by rw [Nat.pow_succ]; omega, List.range_add, List.filter_append, List.filter_map, List.filter_filter, List.filter_filter]
  congr 1
  · apply List.filter_congr
    intro w hm
    rw [clP_succ, getD_of hp, cl1_out (List.mem_range.mp hm) (hw k p hp), Bool.and_comm]
  · congr 1
    apply List.filter_congr
    intro w hm
    have h := List.mem_range.mp hm
    simp only [Function.comp_apply]
    rw [clP_succ, getD_of hp, clP_hi hw (by omega) h k (Nat.le_refl k), cl1_in h (hw k p hp), Bool.and_comm]
theorem clL_lt {P : Sen} {k w : Nat} (h : w ∈ clL P k) : w < 2 ^ k := List.mem_range.mp (List.mem_filter.mp h).1
theorem clL_len (P : Sen) (k : Nat) : (clL P k).length ≤ 2 ^ k := by
  have := List.length_filter_le (clP P k) (List.range (2 ^ k))
  rw [List.length_range] at this
  exact this
