theorem bI_fit (b : Bool) : fits .boolean (.int (bI b)) = true := by cases b <;> rfl
theorem idx_first {P : Sen} {q : Pt} : ∀ {k : Nat}, P[k]? = some q → (∀ x, x < k → P[x]? ≠ some q) → P.idxOf q = k := by
  induction P with
  | nil => intro k h; simp at h
  | cons p P ih =>
    intro k h hn
    cases k with
    | zero =>
      have : p = q := by simpa using h
      simp [this, List.idxOf_cons]
    | succ k =>
      have hpq : ¬ p = q := by
        have := hn 0 (by omega)
        simpa using this
      rw [List.getElem?_cons_succ] at h
      have := ih h (fun x hx => by
        have := hn (x + 1) (by omega)
        rwa [List.getElem?_cons_succ] at this)
      rw [List.idxOf_cons, this, beq_false_of_ne hpq]
      rfl
theorem not_mem_of {P : Sen} {q : Pt} (h : ∀ x, x < P.length → P[x]? ≠ some q) : q ∉ P := by
  intro hm
  obtain ⟨k, hk⟩ := List.getElem?_of_mem hm
  exact h k (List.getElem?_eq_some_iff.mp hk).1 hk
set_option maxHeartbeats 4000000 in
set_option maxRecDepth 100000 in
theorem c_copyFrom (G : GT) {σ : Sg} {j i : Nat} (hj : j < 20) (hi : i < 20) (hij : i ≠ j) {P : Sen} (hP : hs σ i P) {lg : Bool} (hl : σ (7 * i) 1 = bI lg) : MV G yX1_copyFrom cX1_copyFrom 3 0 [.ref (G.2.2.1 (7 * j)), .ref (G.2.2.1 (7 * i))] σ (fun τ => offS j σ τ ∧ hs τ j P ∧ τ (7 * j) 1 = bI lg ∧ τ (7 * j + 6) = σ (7 * j + 6)) := by
  refine MV_of (by decide) (ca1 rfl (ca1 rfl ca0)) (Nat.le_of_ble_eq_true rfl) ?_
  intro Z X hR
  show V G Z σ 0 [some (.ref (G.2.2.1 (7 * j))), some (.ref (G.2.2.1 (7 * i))), none] []
  obtain ⟨p1, p2, p3, p4, p5⟩ := hP
  have loop : ∀ (n k : Nat) (τ : Sg), P.length - k < n → k ≤ P.length → (offS j σ τ ∧ τ (7 * j) 0 = nI P.length ∧ τ (7 * j) 1 = σ (7 * i) 1 ∧ τ (7 * j + 6) = σ (7 * j + 6) ∧ ∀ x, x < k → τ (7 * j + 1) x = σ (7 * i + 1) x ∧ τ (7 * j + 2) x = σ (7 * i + 2) x ∧ τ (7 * j + 3) x = σ (7 * i + 3) x ∧ τ (7 * j + 4) x = σ (7 * i + 4) x ∧ τ (7 * j + 5) x = σ (7 * i + 5) x) → V G Z τ 18 [some (.ref (G.2.2.1 (7 * j))), some (.ref (G.2.2.1 (7 * i))), some (.int (nI k))] [] := by
    intro n
    induction n with
    | zero => intro k τ h; omega
    | succ n ih =>
      intro k τ hn hkl hinv
      obtain ⟨i1, i2, i3, i4, i5⟩ := hinv
      have rd : ∀ q, q < 7 → τ (7 * i + q) = σ (7 * i + q) := fun q hq => i1 _ (by omega)
      have rd0 : τ (7 * i) 0 = nI P.length := by rw [i1 (7 * i) (by omega)]; exact p3
      refine v_iload_n X dX1_copyFrom_18 rfl ?_
      refine v_aload_n X dX1_copyFrom_19 rfl ?_
      refine v_geti X fl_X1_9 (shX1_0 (by first | assumption | omega)) dX1_copyFrom_20 ?_
      refine v_top rd0 ?_
      refine v_icmp_ge (tgt := 92) X dX1_copyFrom_23 (by decide) (fun h23 => ?_) (fun h23 => ?_)
      · skip
        have hk := nI_lem (by omega) (by omega) h23
        refine v_vret X hR dX1_copyFrom_92 ?_
        refine ⟨i1, ⟨p1, p2, i2, fun x p hx => ?_, fun x hx => ?_⟩, by rw [i3]; exact hl, i4⟩
        · obtain ⟨a1, a2, a3, -⟩ := i5 x (by have := (List.getElem?_eq_some_iff.mp hx).1; omega)
          rw [a1, a2, a3]
          exact p4 x p hx
        · obtain ⟨-, -, -, a4, a5⟩ := i5 x (by omega)
          rw [a4, a5]
          exact p5 x hx
      · skip
        have hk := nI_len (by omega) (by omega) h23
        refine v_aload_n X dX1_copyFrom_26 rfl ?_
        refine v_getr X fl_X1_19 (shX1_2 (by first | assumption | omega)) dX1_copyFrom_27 ?_
        refine v_iload_n X dX1_copyFrom_30 rfl ?_
        refine v_aload_n X dX1_copyFrom_31 rfl ?_
        refine v_getr X fl_X1_19 (shX1_2 (by first | assumption | omega)) dX1_copyFrom_32 ?_
        refine v_iload_n X dX1_copyFrom_35 rfl ?_
        refine v_ialdE X (arX1_2 (by first | assumption | omega)) rfl (by first | assumption | omega) dX1_copyFrom_36 ?_
        refine v_top (y := σ (7 * i + 1) k) (by (repeat rw [s2_nc (by omega)]); rw [rd 1 (by decide)]) ?_
        refine v_iastE X (arX1_2 (by first | assumption | omega)) rfl (by first | assumption | omega) dX1_copyFrom_37 ?_
        refine v_aload_n X dX1_copyFrom_38 rfl ?_
        refine v_getr X fl_X1_23 (shX1_3 (by first | assumption | omega)) dX1_copyFrom_39 ?_
        refine v_iload_n X dX1_copyFrom_42 rfl ?_
        refine v_aload_n X dX1_copyFrom_43 rfl ?_
        refine v_getr X fl_X1_23 (shX1_3 (by first | assumption | omega)) dX1_copyFrom_44 ?_
        refine v_iload_n X dX1_copyFrom_47 rfl ?_
        refine v_ialdE X (arX1_3 (by first | assumption | omega)) rfl (by first | assumption | omega) dX1_copyFrom_48 ?_
        refine v_top (y := σ (7 * i + 2) k) (by (repeat rw [s2_nc (by omega)]); rw [rd 2 (by decide)]) ?_
        refine v_iastE X (arX1_3 (by first | assumption | omega)) rfl (by first | assumption | omega) dX1_copyFrom_49 ?_
        refine v_aload_n X dX1_copyFrom_50 rfl ?_
        refine v_getr X fl_X1_26 (shX1_4 (by first | assumption | omega)) dX1_copyFrom_51 ?_
        refine v_iload_n X dX1_copyFrom_54 rfl ?_
        refine v_aload_n X dX1_copyFrom_55 rfl ?_
        refine v_getr X fl_X1_26 (shX1_4 (by first | assumption | omega)) dX1_copyFrom_56 ?_
        refine v_iload_n X dX1_copyFrom_59 rfl ?_
        refine v_ialdE X (arX1_4 (by first | assumption | omega)) rfl (by first | assumption | omega) dX1_copyFrom_60 ?_
        refine v_top (y := σ (7 * i + 3) k) (by (repeat rw [s2_nc (by omega)]); rw [rd 3 (by decide)]) ?_
        refine v_iastE X (arX1_4 (by first | assumption | omega)) rfl (by first | assumption | omega) dX1_copyFrom_61 ?_
        refine v_aload_n X dX1_copyFrom_62 rfl ?_
        refine v_getr X fl_X1_29 (shX1_5 (by first | assumption | omega)) dX1_copyFrom_63 ?_
        refine v_iload_n X dX1_copyFrom_66 rfl ?_
        refine v_aload_n X dX1_copyFrom_67 rfl ?_
        refine v_getr X fl_X1_29 (shX1_5 (by first | assumption | omega)) dX1_copyFrom_68 ?_
        refine v_iload_n X dX1_copyFrom_71 rfl ?_
        refine v_ialdE X (arX1_5 (by first | assumption | omega)) rfl (by first | assumption | omega) dX1_copyFrom_72 ?_
        refine v_top (y := σ (7 * i + 4) k) (by (repeat rw [s2_nc (by omega)]); rw [rd 4 (by decide)]) ?_
        refine v_iastE X (arX1_5 (by first | assumption | omega)) rfl (by first | assumption | omega) dX1_copyFrom_73 ?_
        refine v_aload_n X dX1_copyFrom_74 rfl ?_
        refine v_getr X fl_X1_32 (shX1_6 (by first | assumption | omega)) dX1_copyFrom_75 ?_
        refine v_iload_n X dX1_copyFrom_78 rfl ?_
        refine v_aload_n X dX1_copyFrom_79 rfl ?_
        refine v_getr X fl_X1_32 (shX1_6 (by first | assumption | omega)) dX1_copyFrom_80 ?_
        refine v_iload_n X dX1_copyFrom_83 rfl ?_
        refine v_ialdE X (arX1_6 (by first | assumption | omega)) rfl (by first | assumption | omega) dX1_copyFrom_84 ?_
        refine v_top (y := σ (7 * i + 5) k) (by (repeat rw [s2_nc (by omega)]); rw [rd 5 (by decide)]) ?_
        refine v_iastE X (arX1_6 (by first | assumption | omega)) rfl (by first | assumption | omega) dX1_copyFrom_85 ?_
        refine v_iincE X dX1_copyFrom_86 rfl (nI_inc k) ?_
        show V G Z _ 89 [_, _, _] _
        refine v_goto (tgt := 18) X dX1_copyFrom_89 (by decide) ?_
        refine ih (k + 1) _ (by omega) (by omega) ⟨?_, ?_, ?_, ?_, ?_⟩
        · exact ((((i1.s2 (by omega) (by omega)).s2 (by omega) (by omega)).s2 (by omega) (by omega)).s2 (by omega) (by omega)).s2 (by omega) (by omega)
        · repeat rw [s2_nc (by omega)]
          exact i2
        · repeat rw [s2_nc (by omega)]
          exact i3
        · repeat rw [s2_nc (by omega)]
          exact i4
        · intro x hx
          simp only [s2_ap]
          rcases Nat.lt_or_ge x k with h | h
          · have hne : x ≠ k := by omega
            simp only [hne, and_false, if_false]
            exact i5 x h
          · have he : x = k := by omega
            subst he
            refine ⟨?_, ?_, ?_, ?_, ?_⟩ <;> simp
  refine v_aload_n X dX1_copyFrom_0 rfl ?_
  refine v_aload_n X dX1_copyFrom_1 rfl ?_
  refine v_geti X fl_X1_9 (shX1_0 (by first | assumption | omega)) dX1_copyFrom_2 ?_
  refine v_top p3 ?_
  refine v_puti X fw_X1_9 (shX1_0 (by first | assumption | omega)) dX1_copyFrom_5 rfl rfl ?_
  refine v_aload_n X dX1_copyFrom_8 rfl ?_
  refine v_aload_n X dX1_copyFrom_9 rfl ?_
  refine v_geti X fl_X1_15 (shX1_1 (by first | assumption | omega)) dX1_copyFrom_10 ?_
  refine v_top (y := bI lg) (by rw [s2_nc (by omega)]; exact hl) ?_
  refine v_puti X fw_X1_15 (shX1_1 (by first | assumption | omega)) dX1_copyFrom_13 (bI_nar lg) (bI_fit lg) ?_
  refine v_iconst (v := nI 0) X dX1_copyFrom_16 (by decide) ?_
  refine v_istore_n X dX1_copyFrom_17 (Nat.le_of_ble_eq_true rfl) ?_
  show V G Z _ 18 [_, _, _] _
  refine loop (P.length + 1) 0 _ (by omega) (by omega) ⟨?_, ?_, ?_, ?_, fun x h => by omega⟩
  · exact ((offS.rfl.s2 (by omega) (by omega)).s2 (by omega) (by omega))
  · simp [s2_ap]
  · rw [s2_at, hl]
  · repeat rw [s2_nc (by omega)]
set_option maxHeartbeats 4000000 in
set_option maxRecDepth 100000 in
theorem c_canStand (G : GT) {σ : Sg} {j : Nat} (hj : j < 20) {n : Nat} (hn : n ≤ 11) (hz : σ (7 * j) 0 = nI n) {q : Pt} (hq : okp n q) : MC G yX1_canStand cX1_canStand 4 .boolean 0 [.ref (G.2.2.1 (7 * j)), .int (pK q), .int (pA q), .int (pB q)] σ (fun r τ => τ = σ ∧ r = nI 1) := by
  refine MC_of (by decide) (ca1 rfl (ca1 rfl (ca1 rfl (ca1 rfl ca0)))) (Nat.le_of_ble_eq_true rfl) ?_
  intro Z X hR
  show V G Z σ 0 [some (.ref (G.2.2.1 (7 * j))), some (.int (pK q)), some (.int (pA q)), some (.int (pB q))] []
  obtain ⟨t, a, b⟩ := q
  rcases hq with ⟨h0, ha, hb⟩ | ⟨h0, ha, hb⟩ | ⟨h1, h2, ha, hb⟩
  · simp only at h0 ha hb
    subst h0; subst hb
    show V G Z σ 0 [some (.ref (G.2.2.1 (7 * j))), some (.int (nI 0)), some (.int (nI a)), some (.int (-6))] []
    refine v_iload_n X dX1_canStand_0 rfl ?_
    refine v_lookup (off := 27) (tgt := 28) X dX1_canStand_1 (by decide) (by decide) (by decide) ?_
    refine v_iload_n X dX1_canStand_28 rfl ?_
    refine v_if_lt (tgt := 44) X dX1_canStand_29 (by decide) (fun h29 => ?_) (fun h29 => ?_)
    · skip
      exact absurd h29 (nI_pos (by omega))
    · skip
      refine v_iload_n X dX1_canStand_32 rfl ?_
      refine v_atoms X fs_X1_50 dX1_canStand_33 ?_
      refine v_tlen X dX1_canStand_36 ?_
      refine v_icmp_ge (tgt := 44) X dX1_canStand_37 (by decide) (fun h37 => ?_) (fun h37 => ?_)
      · skip
        exact absurd (nI_lem (a := 4) (by decide) (by omega) h37) (by omega)
      · skip
        refine v_iconst (v := nI 1) X dX1_canStand_40 (by decide) ?_
        refine v_goto (tgt := 45) X dX1_canStand_41 (by decide) ?_
        refine v_ret X hR dX1_canStand_45 rfl ?_
        exact ⟨rfl, rfl⟩
  · simp only at h0 ha hb
    subst h0; subst ha; subst hb
    show V G Z σ 0 [some (.ref (G.2.2.1 (7 * j))), some (.int (nI 1)), some (.int (-6)), some (.int (-6))] []
    refine v_iload_n X dX1_canStand_0 rfl ?_
    refine v_lookup (off := 45) (tgt := 46) X dX1_canStand_1 (by decide) (by decide) (by decide) ?_
    refine v_iconst (v := nI 1) X dX1_canStand_46 (by decide) ?_
    refine v_ret X hR dX1_canStand_47 rfl ?_
    exact ⟨rfl, rfl⟩
  · simp only at h1 h2 ha hb
    have e1 : pA (t, a, b) = nI a := if_neg (show ¬ t = 1 by omega)
    have e2 : pB (t, a, b) = nI b := if_neg (show ¬ t < 2 by omega)
    have e0 : pK (t, a, b) = nI t := rfl
    rw [e0, e1, e2]
    have ht : t = 2 ∨ t = 3 ∨ t = 4 := by omega
    refine v_iload_n X dX1_canStand_0 rfl ?_
    refine v_lookup (off := 47) (tgt := 48) X dX1_canStand_1 (by decide) (by rcases ht with rfl | rfl | rfl <;> decide) (by decide) ?_
    refine v_iload_n X dX1_canStand_48 rfl ?_
    refine v_if_lt (tgt := 76) X dX1_canStand_49 (by decide) (fun h49 => ?_) (fun h49 => ?_)
    · skip
      exact absurd h49 (nI_pos (by omega))
    · skip
      refine v_iload_n X dX1_canStand_52 rfl ?_
      refine v_aload_n X dX1_canStand_53 rfl ?_
      refine v_geti X fl_X1_9 (shX1_0 (by first | assumption | omega)) dX1_canStand_54 ?_
      refine v_top hz ?_
      refine v_icmp_ge (tgt := 76) X dX1_canStand_57 (by decide) (fun h57 => ?_) (fun h57 => ?_)
      · skip
        exact absurd (nI_lem (by omega) (by omega) h57) (by omega)
      · skip
        refine v_iload_n X dX1_canStand_60 rfl ?_
        refine v_if_lt (tgt := 76) X dX1_canStand_61 (by decide) (fun h61 => ?_) (fun h61 => ?_)
        · skip
          exact absurd h61 (nI_pos (by omega))
        · skip
          refine v_iload_n X dX1_canStand_64 rfl ?_
          refine v_aload_n X dX1_canStand_65 rfl ?_
          refine v_geti X fl_X1_9 (shX1_0 (by first | assumption | omega)) dX1_canStand_66 ?_
          refine v_top hz ?_
          refine v_icmp_ge (tgt := 76) X dX1_canStand_69 (by decide) (fun h69 => ?_) (fun h69 => ?_)
          · skip
            exact absurd (nI_lem (by omega) (by omega) h69) (by omega)
          · skip
            refine v_iconst (v := nI 1) X dX1_canStand_72 (by decide) ?_
            refine v_goto (tgt := 77) X dX1_canStand_73 (by decide) ?_
            refine v_ret X hR dX1_canStand_77 rfl ?_
            exact ⟨rfl, rfl⟩
