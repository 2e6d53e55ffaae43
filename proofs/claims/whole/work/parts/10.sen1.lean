set_option maxHeartbeats 4000000 in
set_option maxRecDepth 100000 in
theorem c_isAt (G : GT) {σ : Sg} {j : Nat} (hj : j < 20) {k : Nat} (hk : k < 11) (kd a b : Int32) : MC G yX1_isAt cX1_isAt 5 .boolean 0 [.ref (G.2.2.1 (7 * j)), .int (nI k), .int kd, .int a, .int b] σ (fun r τ => τ = σ ∧ r = bI (decide (σ (7 * j + 1) k = kd ∧ σ (7 * j + 2) k = a ∧ σ (7 * j + 3) k = b))) := by
  refine MC_of (by decide) (ca1 rfl (ca1 rfl (ca1 rfl (ca1 rfl (ca1 rfl ca0))))) (Nat.le_of_ble_eq_true rfl) ?_
  intro Z X hR
  show V G Z σ 0 [some (.ref (G.2.2.1 (7 * j))), some (.int (nI k)), some (.int kd), some (.int a), some (.int b)] []
  refine v_aload_n X dX1_isAt_0 rfl ?_
  refine v_getr X fl_X1_19 (shX1_2 (by first | assumption | omega)) dX1_isAt_1 ?_
  refine v_iload_n X dX1_isAt_4 rfl ?_
  refine v_ialdE X (arX1_2 (by first | assumption | omega)) rfl (by first | assumption | omega) dX1_isAt_5 ?_
  refine v_iload_n X dX1_isAt_6 rfl ?_
  refine v_icmp_ne (tgt := 35) X dX1_isAt_7 (by decide) (fun h7 => ?_) (fun h7 => ?_)
  · skip
    refine v_iconst (v := nI 0) X dX1_isAt_35 (by decide) ?_
    refine v_ret X hR dX1_isAt_36 rfl ?_
    exact ⟨rfl, bI_f (fun q => h7 q.1)⟩
  · skip
    refine v_aload_n X dX1_isAt_10 rfl ?_
    refine v_getr X fl_X1_23 (shX1_3 (by first | assumption | omega)) dX1_isAt_11 ?_
    refine v_iload_n X dX1_isAt_14 rfl ?_
    refine v_ialdE X (arX1_3 (by first | assumption | omega)) rfl (by first | assumption | omega) dX1_isAt_15 ?_
    refine v_iload_n X dX1_isAt_16 rfl ?_
    refine v_icmp_ne (tgt := 35) X dX1_isAt_17 (by decide) (fun h17 => ?_) (fun h17 => ?_)
    · skip
      refine v_iconst (v := nI 0) X dX1_isAt_35 (by decide) ?_
      refine v_ret X hR dX1_isAt_36 rfl ?_
      exact ⟨rfl, bI_f (fun q => h17 q.2.1)⟩
    · skip
      refine v_aload_n X dX1_isAt_20 rfl ?_
      refine v_getr X fl_X1_26 (shX1_4 (by first | assumption | omega)) dX1_isAt_21 ?_
      refine v_iload_n X dX1_isAt_24 rfl ?_
      refine v_ialdE X (arX1_4 (by first | assumption | omega)) rfl (by first | assumption | omega) dX1_isAt_25 ?_
      refine v_iload X dX1_isAt_26 rfl ?_
      refine v_icmp_ne (tgt := 35) X dX1_isAt_28 (by decide) (fun h28 => ?_) (fun h28 => ?_)
      · skip
        refine v_iconst (v := nI 0) X dX1_isAt_35 (by decide) ?_
        refine v_ret X hR dX1_isAt_36 rfl ?_
        exact ⟨rfl, bI_f (fun q => h28 q.2.2)⟩
      · skip
        refine v_iconst (v := nI 1) X dX1_isAt_31 (by decide) ?_
        refine v_goto (tgt := 36) X dX1_isAt_32 (by decide) ?_
        refine v_ret X hR dX1_isAt_36 rfl ?_
        exact ⟨rfl, bI_t ⟨h7, h17, h28⟩⟩

set_option maxHeartbeats 4000000 in
set_option maxRecDepth 100000 in
theorem c_hasPart (G : GT) {σ : Sg} {j : Nat} (hj : j < 20) (k : Int32) : MC G yX1_hasPart cX1_hasPart 2 .boolean 0 [.ref (G.2.2.1 (7 * j)), .int k] σ (fun r τ => τ = σ ∧ r = bI (decide (¬ k < 0 ∧ ¬ σ (7 * j) 0 ≤ k))) := by
  refine MC_of (by decide) (ca1 rfl (ca1 rfl ca0)) (Nat.le_of_ble_eq_true rfl) ?_
  intro Z X hR
  show V G Z σ 0 [some (.ref (G.2.2.1 (7 * j))), some (.int k)] []
  refine v_iload_n X dX1_hasPart_0 rfl ?_
  refine v_if_lt (tgt := 16) X dX1_hasPart_1 (by decide) (fun h1 => ?_) (fun h1 => ?_)
  · skip
    refine v_iconst (v := nI 0) X dX1_hasPart_16 (by decide) ?_
    refine v_ret X hR dX1_hasPart_17 rfl ?_
    exact ⟨rfl, bI_f (fun q => q.1 h1)⟩
  · skip
    refine v_iload_n X dX1_hasPart_4 rfl ?_
    refine v_aload_n X dX1_hasPart_5 rfl ?_
    refine v_geti X fl_X1_9 (shX1_0 (by first | assumption | omega)) dX1_hasPart_6 ?_
    refine v_icmp_ge (tgt := 16) X dX1_hasPart_9 (by decide) (fun h9 => ?_) (fun h9 => ?_)
    · skip
      refine v_iconst (v := nI 0) X dX1_hasPart_16 (by decide) ?_
      refine v_ret X hR dX1_hasPart_17 rfl ?_
      exact ⟨rfl, bI_f (fun q => q.2 h9)⟩
    · skip
      refine v_iconst (v := nI 1) X dX1_hasPart_12 (by decide) ?_
      refine v_goto (tgt := 17) X dX1_hasPart_13 (by decide) ?_
      refine v_ret X hR dX1_hasPart_17 rfl ?_
      exact ⟨rfl, bI_t ⟨h1, h9⟩⟩

set_option maxHeartbeats 4000000 in
set_option maxRecDepth 100000 in
theorem c_root (G : GT) {σ : Sg} {j : Nat} (hj : j < 20) : MC G yX1_root cX1_root 1 .int 0 [.ref (G.2.2.1 (7 * j))] σ (fun r τ => τ = σ ∧ r = σ (7 * j) 0 - nI 1) := by
  refine MC_of (by decide) (ca1 rfl ca0) (Nat.le_of_ble_eq_true rfl) ?_
  intro Z X hR
  show V G Z σ 0 [some (.ref (G.2.2.1 (7 * j)))] []
  refine v_aload_n X dX1_root_0 rfl ?_
  refine v_geti X fl_X1_9 (shX1_0 (by first | assumption | omega)) dX1_root_1 ?_
  refine v_iconst (v := nI 1) X dX1_root_4 (by decide) ?_
  refine v_isub X dX1_root_5 ?_
  refine v_ret X hR dX1_root_6 rfl ?_
  exact ⟨rfl, rfl⟩

set_option maxHeartbeats 4000000 in
set_option maxRecDepth 100000 in
theorem c_clear (G : GT) {σ : Sg} {j : Nat} (hj : j < 20) : MV G yX1_clear cX1_clear 1 0 [.ref (G.2.2.1 (7 * j))] σ (fun τ => τ = s2 (s2 σ (7 * j) 0 (nI 0)) (7 * j) 1 (nI 0)) := by
  refine MV_of (by decide) (ca1 rfl ca0) (Nat.le_of_ble_eq_true rfl) ?_
  intro Z X hR
  show V G Z σ 0 [some (.ref (G.2.2.1 (7 * j)))] []
  refine v_aload_n X dX1_clear_0 rfl ?_
  refine v_iconst (v := nI 0) X dX1_clear_1 (by decide) ?_
  refine v_puti X fw_X1_9 (shX1_0 (by first | assumption | omega)) dX1_clear_2 rfl rfl ?_
  refine v_aload_n X dX1_clear_5 rfl ?_
  refine v_iconst (v := nI 0) X dX1_clear_6 (by decide) ?_
  refine v_puti X fw_X1_15 (shX1_1 (by first | assumption | omega)) dX1_clear_7 rfl rfl ?_
  refine v_vret X hR dX1_clear_10 ?_
  rfl
