/-! rows with places as naturals; truths -/
def bI (b : Bool) : Int32 := if b then 1 else 0
theorem bI_t {P : Prop} [Decidable P] (h : P) : nI 1 = bI (decide P) := by simp [bI, h]; rfl
theorem bI_f {P : Prop} [Decidable P] (h : ¬ P) : nI 0 = bI (decide P) := by simp [bI, h]; rfl
theorem nI_inc (k : Nat) : nI k + Int32.ofInt 1 = nI (k + 1) := nI_1 k
theorem nI_dec {k : Nat} (h : 0 < k) : nI k + Int32.ofInt (-1) = nI (k - 1) := by
  obtain ⟨j, rfl⟩ : ∃ j, k = j + 1 := ⟨k - 1, by omega⟩
  exact pk_m1 j
theorem nI_s1 {k : Nat} (h : 0 < k) : nI k - nI 1 = nI (k - 1) := pk_sub h
theorem nI_lem {a b : Nat} (ha : a < 2 ^ 31) (hb : b < 2 ^ 31) (h : nI a ≤ nI b) : a ≤ b := (nI_leI ha hb).mp h
theorem nI_len {a b : Nat} (ha : a < 2 ^ 31) (hb : b < 2 ^ 31) (h : ¬ nI a ≤ nI b) : b < a := by
  have := mt (nI_leI ha hb).mpr h; omega
theorem nI_ltm {a b : Nat} (ha : a < 2 ^ 31) (hb : b < 2 ^ 31) (h : nI a < nI b) : a < b := (nI_ltI ha hb).mp h
theorem nI_ltn {a b : Nat} (ha : a < 2 ^ 31) (hb : b < 2 ^ 31) (h : ¬ nI a < nI b) : b ≤ a := by
  have := mt (nI_ltI ha hb).mpr h; omega
theorem nI_eqm {a b : Nat} (ha : a < 2 ^ 31) (hb : b < 2 ^ 31) (h : nI a = nI b) : a = b := (nI_eq ha hb).mp h
theorem nI_eqn {a b : Nat} (ha : a < 2 ^ 31) (hb : b < 2 ^ 31) (h : ¬ nI a = nI b) : a ≠ b := fun e => h (by rw [e])
theorem nI_l0 {a : Nat} (ha : a < 2 ^ 31) (h : nI a ≤ 0) : a = 0 := by
  have := nI_lem ha (b := 0) (by decide) h; omega
theorem nI_n0 {a : Nat} (ha : a < 2 ^ 31) (h : ¬ nI a ≤ 0) : 0 < a := nI_len ha (b := 0) (by decide) h
theorem bI_1 : nI 1 = bI true := rfl
theorem bI_0 : nI 0 = bI false := rfl
theorem bI_z {b : Bool} : bI b = 0 ↔ b = false := by cases b <;> decide
theorem bI_nz {b : Bool} : ¬ bI b = 0 ↔ b = true := by cases b <;> decide
theorem bI_nar (b : Bool) : narrow .boolean (.int (bI b)) = .int (bI b) := by cases b <;> rfl
theorem ca0 : ∀ v ∈ ([] : List Value), v.category = 1 := fun _ h => absurd h List.not_mem_nil
theorem ca1 {v : Value} {l : List Value} (h : v.category = 1) (t : ∀ u ∈ l, u.category = 1) : ∀ u ∈ v :: l, u.category = 1 := List.forall_mem_cons.mpr ⟨h, t⟩
section VROWS2
variable {G : GT} {own : String} {cc : ByteArray} {lev : Nat} {Z : ZT} {σ : Sg} {pc : Nat} {lo : List (Option Value)} {st : List Value}
theorem v_ialdE {i n k : Nat} {j : Int32} (X : Cx G own cc lev Z) (ha : aI i n) (e : j = nI k) (hk : k < n) (d : decode cc pc = .ok (.iaload, 1)) (kk : V G Z σ (pc + 1) lo (.int (σ i k) :: st)) (hn : n ≤ 2048 := by decide) : V G Z σ pc lo (.int j :: .ref (G.2.2.1 i) :: st) := by
  subst e
  have h := v_iald X ha (vp_in_nI hk (by omega)) d (σ := σ) (lo := lo) (st := st)
  rw [nI_clamp (by omega)] at h
  exact h kk
theorem v_zaldE {i n k : Nat} {j : Int32} (X : Cx G own cc lev Z) (ha : aZ i n) (e : j = nI k) (hk : k < n) (d : decode cc pc = .ok (.baload, 1)) (kk : V G Z σ (pc + 1) lo (.int (σ i k) :: st)) (hn : n ≤ 2048 := by decide) : V G Z σ pc lo (.int j :: .ref (G.2.2.1 i) :: st) := by
  subst e
  have h := v_zald X ha (vp_in_nI hk (by omega)) d (σ := σ) (lo := lo) (st := st)
  rw [nI_clamp (by omega)] at h
  exact h kk
theorem v_iastE {i n k : Nat} {j x : Int32} (X : Cx G own cc lev Z) (ha : aI i n) (e : j = nI k) (hk : k < n) (d : decode cc pc = .ok (.iastore, 1)) (kk : V G Z (s2 σ i k x) (pc + 1) lo st) (hn : n ≤ 2048 := by decide) : V G Z σ pc lo (.int x :: .int j :: .ref (G.2.2.1 i) :: st) := by
  subst e
  have h := v_iast (x := x) X ha (vp_in_nI hk (by omega)) d (σ := σ) (lo := lo) (st := st)
  rw [nI_clamp (by omega)] at h
  exact h kk
theorem v_zastE {i n k : Nat} {j x : Int32} (X : Cx G own cc lev Z) (ha : aZ i n) (e : j = nI k) (hk : k < n) (d : decode cc pc = .ok (.bastore, 1)) (hx : vp_nar .boolean x = x) (kk : V G Z (s2 σ i k x) (pc + 1) lo st) (hn : n ≤ 2048 := by decide) : V G Z σ pc lo (.int x :: .int j :: .ref (G.2.2.1 i) :: st) := by
  subst e
  have h := v_zast (x := x) X ha (vp_in_nI hk (by omega)) d hx (σ := σ) (lo := lo) (st := st)
  rw [nI_clamp (by omega)] at h
  exact h kk
theorem v_aaldE {i t n k : Nat} {r : Nat → Nat} {j : Int32} (X : Cx G own cc lev Z) (ha : aR i t n r) (ht : t = 2 ∨ t = 3) (e : j = nI k) (hk : k < n) (d : decode cc pc = .ok (.aaload, 1)) (kk : V G Z σ (pc + 1) lo (.ref (G.2.2.1 (r k)) :: st)) (hn : n ≤ 2048 := by decide) : V G Z σ pc lo (.int j :: .ref (G.2.2.1 i) :: st) := by
  subst e
  have h := v_aald X ha ht (vp_in_nI hk (by omega)) d (σ := σ) (lo := lo) (st := st)
  rw [nI_clamp (by omega)] at h
  exact h kk
theorem v_taldE {k : Nat} {j : Int32} (X : Cx G own cc lev Z) (e : j = nI k) (hk : k < 4) (d : decode cc pc = .ok (.iaload, 1)) (kk : V G Z σ (pc + 1) lo (.int (arow k) :: st)) : V G Z σ pc lo (.int j :: .ref (G.2.2.2 0) :: st) := by
  subst e
  have h := v_tald X (vp_in_nI hk (by omega)) d (σ := σ) (lo := lo) (st := st)
  rw [nI_clamp (by omega)] at h
  exact h kk
theorem v_iincE {k : Nat} {n : Int} {x y : Int32} (X : Cx G own cc lev Z) (d : decode cc pc = .ok (.iinc k n, 3)) (h : lo[k]? = some (some (.int x))) (e : x + Int32.ofInt n = y) (kk : V G Z σ (pc + 3) (lo.set k (some (.int y))) st) : V G Z σ pc lo st := by
  subst e; exact v_iinc X d h kk
theorem v_eq {τ : Sg} (e : σ = τ) (h : V G Z τ pc lo st) : V G Z σ pc lo st := e ▸ h
theorem v_top {x y : Int32} (e : x = y) (h : V G Z σ pc lo (.int y :: st)) : V G Z σ pc lo (.int x :: st) := e ▸ h
theorem v_eqn {a b : Nat} {A B : Prop} (ha : a < 2 ^ 31) (hb : b < 2 ^ 31) (f : a = b → A) : nI a = nI b → A := fun h => f ((nI_eq ha hb).mp h)
end VROWS2
