/-! SHELVES -/
def offR (lo hi : Nat) (σ τ : Sg) : Prop := ∀ i, (i < lo ∨ hi ≤ i) → τ i = σ i
theorem offR.rfl {lo hi : Nat} {σ : Sg} : offR lo hi σ σ := fun _ _ => by rfl
theorem offR.S {lo hi j : Nat} {σ τ υ : Sg} (h : offR lo hi σ τ) (h2 : offS j τ υ) (h3 : lo ≤ 7 * j) (h4 : 7 * j + 7 ≤ hi) : offR lo hi σ υ := fun i hi' => (h2 i (by omega)).trans (h i hi')
/-- sentence j is whole: it holds P, and is not too large -/
def hz (σ : Sg) (j : Nat) (P : Sen) : Prop := hs σ j P ∧ σ (7 * j) 1 = bI false
theorem hz_off {σ τ : Sg} {j i : Nat} {P : Sen} (h : hz σ i P) (ho : offS j σ τ) (hij : i ≠ j) : hz τ i P := ⟨hs_off h.1 ho hij, by rw [ho (7 * i) (by omega)]; exact h.2⟩
theorem hz_offR {lo hi : Nat} {σ τ : Sg} {i : Nat} {P : Sen} (h : hz σ i P) (ho : offR lo hi σ τ) (hi : 7 * i + 7 ≤ lo ∨ hi ≤ 7 * i) : hz τ i P := by
  have key : ∀ q, q < 7 → τ (7 * i + q) = σ (7 * i + q) := fun q hq => ho _ (by omega)
  have k0 : τ (7 * i) = σ (7 * i) := ho _ (by omega)
  exact ⟨hs_cong h.1 (by rw [k0]) (fun q h1 h2 => key q (by omega)), by rw [k0]; exact h.2⟩
def ctB (f : Nat → Bool) : Nat → Nat
  | 0 => 0
  | n + 1 => ctB f n + (if f n then 1 else 0)
theorem ctB_le (f : Nat → Bool) : ∀ n, ctB f n ≤ n
  | 0 => Nat.le_refl _
  | n + 1 => by have := ctB_le f n; rw [ctB]; split <;> omega
theorem ctB_cong {f g : Nat → Bool} : ∀ {n : Nat}, (∀ k, k < n → f k = g k) → ctB f n = ctB g n
  | 0, _ => rfl
  | n + 1, h => by rw [ctB, ctB, ctB_cong (fun k hk => h k (by omega)), h n (by omega)]
/-- whether one before s holds the same -/
def sbf (PS : Nat → Sen) (s : Nat) : Bool := (List.range s).any (fun t => decide (PS t = PS s))
theorem sbf_t {PS : Nat → Sen} {s t : Nat} (h : t < s) (e : PS t = PS s) : sbf PS s = true := List.any_eq_true.mpr ⟨t, List.mem_range.mpr h, decide_eq_true e⟩
theorem sbf_f {PS : Nat → Sen} {s : Nat} (h : ∀ t, t < s → ¬ PS t = PS s) : sbf PS s = false := by
  rw [sbf, List.any_eq_false]
  intro t ht
  simp [h t (List.mem_range.mp ht)]
set_option maxHeartbeats 4000000 in
set_option maxRecDepth 100000 in
theorem c_shelfCopy (G : GT) {σ : Sg} {a b : Nat} (ha : a < 3) (hb : b < 3) (hab : a ≠ b) {PS : Nat → Sen} (hP : ∀ x, x < 6 → hz σ (6 * b + x) (PS x)) : MV G yX2_copyFrom cX2_copyFrom 3 1 [.ref (G.2.2.1 (a + 140)), .ref (G.2.2.1 (b + 140))] σ (fun τ => offR (42 * a) (42 * a + 42) σ τ ∧ ∀ x, x < 6 → hz τ (6 * a + x) (PS x)) := by
  refine MV_of (by decide) (ca1 rfl (ca1 rfl ca0)) (Nat.le_of_ble_eq_true rfl) ?_
  intro Z X hR
  show V G Z σ 0 [some (.ref (G.2.2.1 (a + 140))), some (.ref (G.2.2.1 (b + 140))), none] []
  have loop : ∀ (n k : Nat) (τ : Sg), 6 - k < n → k ≤ 6 → (offR (42 * a) (42 * a + 42) σ τ ∧ ∀ x, x < k → hz τ (6 * a + x) (PS x)) → V G Z τ 2 [some (.ref (G.2.2.1 (a + 140))), some (.ref (G.2.2.1 (b + 140))), some (.int (nI k))] [] := by
    intro n
    induction n with
    | zero => intro k τ h; omega
    | succ n ih =>
      intro k τ hn hkl hinv
      obtain ⟨i1, i2⟩ := hinv
      refine v_iload_n X dX2_copyFrom_2 rfl ?_
      refine v_bipush (v := nI 6) X dX2_copyFrom_3 (by decide) ?_
      refine v_icmp_ge (tgt := 29) X dX2_copyFrom_5 (by decide) (fun h5 => ?_) (fun h5 => ?_)
      · skip
        have hk := nI_lem (a := 6) (by decide) (by omega) h5
        refine v_vret X hR dX2_copyFrom_29 ?_
        exact ⟨i1, fun x hx => i2 x (by omega)⟩
      · skip
        have hk := nI_len (a := 6) (by decide) (by omega) h5
        have hQ : hz τ (6 * b + k) (PS k) := hz_offR (hP k hk) i1 (by omega)
        refine v_aload_n X dX2_copyFrom_8 rfl ?_
        refine v_getr X fl_X2_11 (shX2_0 (by first | assumption | omega)) dX2_copyFrom_9 ?_
        refine v_iload_n X dX2_copyFrom_12 rfl ?_
        refine v_aaldE X (arX2_0 (by first | assumption | omega)) (Or.inl rfl) rfl (by first | assumption | omega) dX2_copyFrom_13 ?_
        refine v_aload_n X dX2_copyFrom_14 rfl ?_
        refine v_getr X fl_X2_11 (shX2_0 (by first | assumption | omega)) dX2_copyFrom_15 ?_
        refine v_iload_n X dX2_copyFrom_18 rfl ?_
        refine v_aaldE X (arX2_0 (by first | assumption | omega)) (Or.inl rfl) rfl (by first | assumption | omega) dX2_copyFrom_19 ?_
        refine v_calv X (c_copyFrom G (j := 6 * a + k) (i := 6 * b + k) (by omega) (by omega) (by omega) hQ.1 hQ.2) cv_X2_18 (obX1 (by first | assumption | omega)) rfl (by decide) rfl (by rfl) (Nat.le_of_ble_eq_true rfl) dX2_copyFrom_20 (fun τ' hp => ?_)
        obtain ⟨g1, g2, g3, g4⟩ := hp
        refine v_iincE X dX2_copyFrom_23 rfl (nI_inc k) ?_
        show V G Z _ 26 [_, _, _] _
        refine v_goto (tgt := 2) X dX2_copyFrom_26 (by decide) ?_
        refine ih (k + 1) _ (by omega) (by omega) ⟨i1.S g1 (by omega) (by omega), fun x hx => ?_⟩
        rcases Nat.lt_or_ge x k with h | h
        · exact hz_off (i2 x h) g1 (by omega)
        · rw [show x = k by omega]; exact ⟨g2, g3⟩
  refine v_iconst (v := nI 0) X dX2_copyFrom_0 (by decide) ?_
  refine v_istore_n X dX2_copyFrom_1 (Nat.le_of_ble_eq_true rfl) ?_
  show V G Z _ 2 [_, _, _] _
  exact loop 7 0 _ (by omega) (by omega) ⟨offR.rfl, fun x h => by omega⟩
set_option maxHeartbeats 4000000 in
set_option maxRecDepth 100000 in
theorem c_standsBefore (G : GT) {σ : Sg} {a : Nat} (ha : a < 3) {PS : Nat → Sen} (hP : ∀ x, x < 6 → hs σ (6 * a + x) (PS x)) {s : Nat} (hs6 : s < 6) : MC G yX2_standsBefore cX2_standsBefore 3 .boolean 2 [.ref (G.2.2.1 (a + 140)), .int (nI s)] σ (fun r τ => τ = σ ∧ r = bI (sbf PS s)) := by
  refine MC_of (by decide) (ca1 rfl (ca1 rfl ca0)) (Nat.le_of_ble_eq_true rfl) ?_
  intro Z X hR
  show V G Z σ 0 [some (.ref (G.2.2.1 (a + 140))), some (.int (nI s)), none] []
  have loop : ∀ (n k : Nat), s - k < n → k ≤ s → (∀ t, t < k → ¬ PS t = PS s) → V G Z σ 2 [some (.ref (G.2.2.1 (a + 140))), some (.int (nI s)), some (.int (nI k))] [] := by
    intro n
    induction n with
    | zero => intro k h; omega
    | succ n ih =>
      intro k hn hkl hin
      refine v_iload_n X dX2_standsBefore_2 rfl ?_
      refine v_iload_n X dX2_standsBefore_3 rfl ?_
      refine v_icmp_ge (tgt := 33) X dX2_standsBefore_4 (by decide) (fun h4 => ?_) (fun h4 => ?_)
      · skip
        have hk := nI_lem (by omega) (by omega) h4
        refine v_iconst (v := nI 0) X dX2_standsBefore_33 (by decide) ?_
        refine v_ret X hR dX2_standsBefore_34 rfl ?_
        exact ⟨rfl, by rw [sbf_f (fun t ht => hin t (by omega))]; rfl⟩
      · skip
        have hk := nI_len (by omega) (by omega) h4
        refine v_aload_n X dX2_standsBefore_7 rfl ?_
        refine v_getr X fl_X2_11 (shX2_0 (by first | assumption | omega)) dX2_standsBefore_8 ?_
        refine v_iload_n X dX2_standsBefore_11 rfl ?_
        refine v_aaldE X (arX2_0 (by first | assumption | omega)) (Or.inl rfl) rfl (by first | assumption | omega) dX2_standsBefore_12 ?_
        refine v_aload_n X dX2_standsBefore_13 rfl ?_
        refine v_getr X fl_X2_11 (shX2_0 (by first | assumption | omega)) dX2_standsBefore_14 ?_
        refine v_iload_n X dX2_standsBefore_17 rfl ?_
        refine v_aaldE X (arX2_0 (by first | assumption | omega)) (Or.inl rfl) rfl (by first | assumption | omega) dX2_standsBefore_18 ?_
        refine v_cali X (c_sameAs G (j := 6 * a + k) (i := 6 * a + s) (by omega) (by omega) (hP k (by omega)) (hP s hs6)) cv_X2_30 (obX1 (by first | assumption | omega)) rfl (by decide) rfl (by rfl) (Nat.le_of_ble_eq_true rfl) dX2_standsBefore_19 (fun r τ hp => ?_)
        obtain ⟨rfl, rfl⟩ := hp
        refine v_if_eq (tgt := 27) X dX2_standsBefore_22 (by decide) (fun h22 => ?_) (fun h22 => ?_)
        · skip
          have e := of_decide_eq_false (bI_z.mp h22)
          refine v_iincE X dX2_standsBefore_27 rfl (nI_inc k) ?_
          show V G Z _ 30 [_, _, _] _
          refine v_goto (tgt := 2) X dX2_standsBefore_30 (by decide) ?_
          exact ih (k + 1) (by omega) (by omega) (fun t ht => by
            rcases Nat.lt_or_ge t k with h | h
            · exact hin t h
            · rw [show t = k by omega]; exact e)
        · skip
          have e := of_decide_eq_true (bI_nz.mp h22)
          refine v_iconst (v := nI 1) X dX2_standsBefore_25 (by decide) ?_
          refine v_ret X hR dX2_standsBefore_26 rfl ?_
          exact ⟨rfl, by rw [sbf_t hk e]; rfl⟩
  refine v_iconst (v := nI 0) X dX2_standsBefore_0 (by decide) ?_
  refine v_istore_n X dX2_standsBefore_1 (Nat.le_of_ble_eq_true rfl) ?_
  show V G Z _ 2 [_, _, _] _
  exact loop (s + 1) 0 (by omega) (by omega) (fun t h => by omega)
set_option maxHeartbeats 4000000 in
set_option maxRecDepth 100000 in
theorem c_countUnlike (G : GT) {σ : Sg} {a : Nat} (ha : a < 3) {PS : Nat → Sen} (hP : ∀ x, x < 6 → hs σ (6 * a + x) (PS x)) : MC G yX2_countUnlike cX2_countUnlike 3 .int 3 [.ref (G.2.2.1 (a + 140))] σ (fun r τ => τ = σ ∧ r = nI (ctB (fun k => decide (0 < (PS k).length) && !sbf PS k) 6)) := by
  refine MC_of (by decide) (ca1 rfl ca0) (Nat.le_of_ble_eq_true rfl) ?_
  intro Z X hR
  show V G Z σ 0 [some (.ref (G.2.2.1 (a + 140))), none, none] []
  have loop : ∀ (n k : Nat), 6 - k < n → k ≤ 6 → V G Z σ 4 [some (.ref (G.2.2.1 (a + 140))), some (.int (nI (ctB (fun k => decide (0 < (PS k).length) && !sbf PS k) k))), some (.int (nI k))] [] := by
    intro n
    induction n with
    | zero => intro k h; omega
    | succ n ih =>
      intro k hn hkl
      refine v_iload_n X dX2_countUnlike_4 rfl ?_
      refine v_bipush (v := nI 6) X dX2_countUnlike_5 (by decide) ?_
      refine v_icmp_ge (tgt := 39) X dX2_countUnlike_7 (by decide) (fun h7 => ?_) (fun h7 => ?_)
      · skip
        have hk := nI_lem (a := 6) (by decide) (by omega) h7
        have hk : k = 6 := by omega
        subst hk
        refine v_iload_n X dX2_countUnlike_39 rfl ?_
        refine v_ret X hR dX2_countUnlike_40 rfl ?_
        exact ⟨rfl, rfl⟩
      · skip
        have hk := nI_len (a := 6) (by decide) (by omega) h7
        have hz0 := (hP k hk).2.2.1
        have hl0 := (hP k hk).1
        refine v_aload_n X dX2_countUnlike_10 rfl ?_
        refine v_getr X fl_X2_11 (shX2_0 (by first | assumption | omega)) dX2_countUnlike_11 ?_
        refine v_iload_n X dX2_countUnlike_14 rfl ?_
        refine v_aaldE X (arX2_0 (by first | assumption | omega)) (Or.inl rfl) rfl (by first | assumption | omega) dX2_countUnlike_15 ?_
        refine v_geti X fl_X2_22 (shX1_0 (by first | assumption | omega)) dX2_countUnlike_16 ?_
        refine v_top hz0 ?_
        refine v_if_le (tgt := 33) X dX2_countUnlike_19 (by decide) (fun h19 => ?_) (fun h19 => ?_)
        · skip
          have h0 := nI_l0 (by omega) h19
          refine v_iincE X dX2_countUnlike_33 rfl (nI_inc k) ?_
          show V G Z _ 36 [_, _, _] _
          refine v_goto (tgt := 4) X dX2_countUnlike_36 (by decide) ?_
          have := ih (k + 1) (by omega) (by omega)
          rw [ctB, show (decide (0 < (PS k).length) && !sbf PS k) = false from by rw [decide_eq_false (by omega)]; rfl] at this
          exact this
        · skip
          have h0 := nI_n0 (by omega) h19
          refine v_aload_n X dX2_countUnlike_22 rfl ?_
          refine v_iload_n X dX2_countUnlike_23 rfl ?_
          refine v_cali X (c_standsBefore G ha hP hk) cv_X2_26 (obX2 (by first | assumption | omega)) rfl (by decide) rfl (by rfl) (Nat.le_of_ble_eq_true rfl) dX2_countUnlike_24 (fun r τ hp => ?_)
          obtain ⟨rfl, rfl⟩ := hp
          refine v_if_ne (tgt := 33) X dX2_countUnlike_27 (by decide) (fun h27 => ?_) (fun h27 => ?_)
          · skip
            have e := bI_nz.mp h27
            refine v_iincE X dX2_countUnlike_33 rfl (nI_inc k) ?_
            show V G Z _ 36 [_, _, _] _
            refine v_goto (tgt := 4) X dX2_countUnlike_36 (by decide) ?_
            have := ih (k + 1) (by omega) (by omega)
            rw [ctB, show (decide (0 < (PS k).length) && !sbf PS k) = false from by rw [e]; simp] at this
            exact this
          · skip
            have e := bI_z.mp h27
            refine v_iincE X dX2_countUnlike_30 rfl (nI_inc _) ?_
            show V G Z _ 33 [_, _, _] _
            refine v_iincE X dX2_countUnlike_33 rfl (nI_inc k) ?_
            show V G Z _ 36 [_, _, _] _
            refine v_goto (tgt := 4) X dX2_countUnlike_36 (by decide) ?_
            have := ih (k + 1) (by omega) (by omega)
            rw [ctB, show (decide (0 < (PS k).length) && !sbf PS k) = true from by rw [e, decide_eq_true h0]; rfl] at this
            exact this
  refine v_iconst (v := nI 0) X dX2_countUnlike_0 (by decide) ?_
  refine v_istore_n X dX2_countUnlike_1 (Nat.le_of_ble_eq_true rfl) ?_
  show V G Z _ 2 [_, _, _] _
  refine v_iconst (v := nI 0) X dX2_countUnlike_2 (by decide) ?_
  refine v_istore_n X dX2_countUnlike_3 (Nat.le_of_ble_eq_true rfl) ?_
  show V G Z _ 4 [_, _, _] _
  exact loop 7 0 (by omega) (by omega)
