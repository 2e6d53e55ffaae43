set_option maxHeartbeats 4000000 in
set_option maxRecDepth 100000 in
theorem c_sameAs (G : GT) {σ : Sg} {j i : Nat} (hj : j < 20) (hi : i < 20) {P Q : Sen} (hP : hs σ j P) (hQ : hs σ i Q) : MC G yX1_sameAs cX1_sameAs 3 .boolean 1 [.ref (G.2.2.1 (7 * j)), .ref (G.2.2.1 (7 * i))] σ (fun r τ => τ = σ ∧ r = bI (decide (P = Q))) := by
  refine MC_of (by decide) (ca1 rfl (ca1 rfl ca0)) (Nat.le_of_ble_eq_true rfl) ?_
  intro Z X hR
  show V G Z σ 0 [some (.ref (G.2.2.1 (7 * j))), some (.ref (G.2.2.1 (7 * i))), none] []
  obtain ⟨p1, p2, p3, p4, -⟩ := hP
  obtain ⟨q1, q2, q3, q4, -⟩ := hQ
  have loop : ∀ (n k : Nat), P.length - k < n → k ≤ P.length → P.length = Q.length → (∀ x, x < k → P[x]? = Q[x]?) → V G Z σ 15 [some (.ref (G.2.2.1 (7 * j))), some (.ref (G.2.2.1 (7 * i))), some (.int (nI k))] [] := by
    intro n
    induction n with
    | zero => intro k h; omega
    | succ n ih =>
      intro k hn hkl hpq hin
      refine v_iload_n X dX1_sameAs_15 rfl ?_
      refine v_aload_n X dX1_sameAs_16 rfl ?_
      refine v_geti X fl_X1_9 (shX1_0 (by first | assumption | omega)) dX1_sameAs_17 ?_
      refine v_top p3 ?_
      refine v_icmp_ge (tgt := 57) X dX1_sameAs_20 (by decide) (fun h20 => ?_) (fun h20 => ?_)
      · skip
        have hk := nI_lem (by omega) (by omega) h20
        refine v_iconst (v := nI 1) X dX1_sameAs_57 (by decide) ?_
        refine v_ret X hR dX1_sameAs_58 rfl ?_
        refine ⟨rfl, bI_t (List.ext_getElem? (fun x => ?_))⟩
        rcases Nat.lt_or_ge x k with h | h
        · exact hin x h
        · rw [List.getElem?_eq_none (by omega), List.getElem?_eq_none (by omega)]
      · skip
        have hk := nI_len (by omega) (by omega) h20
        have hk11 : k < 11 := by omega
        refine v_aload_n X dX1_sameAs_23 rfl ?_
        refine v_iload_n X dX1_sameAs_24 rfl ?_
        refine v_aload_n X dX1_sameAs_25 rfl ?_
        refine v_getr X fl_X1_19 (shX1_2 (by first | assumption | omega)) dX1_sameAs_26 ?_
        refine v_iload_n X dX1_sameAs_29 rfl ?_
        refine v_ialdE X (arX1_2 (by first | assumption | omega)) rfl (by first | assumption | omega) dX1_sameAs_30 ?_
        refine v_aload_n X dX1_sameAs_31 rfl ?_
        refine v_getr X fl_X1_23 (shX1_3 (by first | assumption | omega)) dX1_sameAs_32 ?_
        refine v_iload_n X dX1_sameAs_35 rfl ?_
        refine v_ialdE X (arX1_3 (by first | assumption | omega)) rfl (by first | assumption | omega) dX1_sameAs_36 ?_
        refine v_aload_n X dX1_sameAs_37 rfl ?_
        refine v_getr X fl_X1_26 (shX1_4 (by first | assumption | omega)) dX1_sameAs_38 ?_
        refine v_iload_n X dX1_sameAs_41 rfl ?_
        refine v_ialdE X (arX1_4 (by first | assumption | omega)) rfl (by first | assumption | omega) dX1_sameAs_42 ?_
        refine v_cali X (c_isAt G hj hk11 _ _ _) cv_X1_38 (obX1 (by first | assumption | omega)) rfl (by decide) rfl (by rfl) (Nat.le_of_ble_eq_true rfl) dX1_sameAs_43 (fun r τ hp => ?_)
        obtain ⟨rfl, rfl⟩ := hp
        obtain ⟨p, hp⟩ : ∃ p, P[k]? = some p := ⟨P[k], List.getElem?_eq_getElem hk⟩
        obtain ⟨q, hq⟩ : ∃ q, Q[k]? = some q := ⟨Q[k]'(by omega), List.getElem?_eq_getElem (by omega)⟩
        obtain ⟨a1, a2, a3⟩ := p4 k p hp
        obtain ⟨b1, b2, b3⟩ := q4 k q hq
        rw [a1, a2, a3, b1, b2, b3]
        have hpe := pt_eq (p2 k p hp) (q2 k q hq) (by omega)
        refine v_if_ne (tgt := 51) X dX1_sameAs_46 (by decide) (fun h46 => ?_) (fun h46 => ?_)
        · skip
          have e : p = q := by
            have := bI_nz.mp h46
            exact hpe.mp (of_decide_eq_true this)
          refine v_iincE X dX1_sameAs_51 rfl (nI_inc k) ?_
          show V G Z _ 54 [_, _, _] _
          refine v_goto (tgt := 15) X dX1_sameAs_54 (by decide) ?_
          exact ih (k + 1) (by omega) (by omega) hpq (fun x hx => by
            rcases Nat.lt_or_ge x k with h | h
            · exact hin x h
            · rw [show x = k by omega, hp, hq, e])
        · skip
          have e : ¬ p = q := by
            have := bI_z.mp h46
            exact fun z => of_decide_eq_false this (hpe.mpr z)
          refine v_iconst (v := nI 0) X dX1_sameAs_49 (by decide) ?_
          refine v_ret X hR dX1_sameAs_50 rfl ?_
          refine ⟨rfl, bI_f (fun z => e ?_)⟩
          rw [z, hq] at hp
          exact (Option.some.inj hp).symm
  refine v_aload_n X dX1_sameAs_0 rfl ?_
  refine v_geti X fl_X1_9 (shX1_0 (by first | assumption | omega)) dX1_sameAs_1 ?_
  refine v_aload_n X dX1_sameAs_4 rfl ?_
  refine v_geti X fl_X1_9 (shX1_0 (by first | assumption | omega)) dX1_sameAs_5 ?_
  refine v_top q3 ?_
  rw [p3]
  refine v_icmp_eq (tgt := 13) X dX1_sameAs_8 (by decide) (fun h8 => ?_) (fun h8 => ?_)
  · skip
    have hl := nI_eqm (by omega) (by omega) h8
    refine v_iconst (v := nI 0) X dX1_sameAs_13 (by decide) ?_
    refine v_istore_n X dX1_sameAs_14 (Nat.le_of_ble_eq_true rfl) ?_
    show V G Z _ 15 [_, _, _] _
    exact loop (P.length + 1) 0 (by omega) (by omega) hl (fun x h => by omega)
  · skip
    have hl := nI_eqn (by omega) (by omega) h8
    refine v_iconst (v := nI 0) X dX1_sameAs_11 (by decide) ?_
    refine v_ret X hR dX1_sameAs_12 rfl ?_
    exact ⟨rfl, bI_f (fun e => hl (by rw [e]))⟩
