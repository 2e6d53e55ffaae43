set_option maxHeartbeats 4000000 in
set_option maxRecDepth 100000 in
theorem x_say (G : GT) {σ : Sg} {A : ASt} (hA : cR σ A) (x : Int32) : MC G yX4_say cX4_say 2 .int 1 [.ref (G.2.2.1 155), .int x] σ (fun r τ => r = (sp_say x A).1 ∧ cR τ (sp_say x A).2 ∧ mO σ τ) := by
  refine MC_of (by decide) (ca1 rfl (ca1 rfl ca0)) (Nat.le_of_ble_eq_true rfl) ?_
  intro Z X hR
  show V G Z σ 0 [some (.ref (G.2.2.1 155)), some (.int x)] []
  refine v_iload_n X dX4_say_0 rfl ?_
  refine v_bipush (v := nI 33) X dX4_say_1 (by decide) ?_
  refine v_icmp_lt (tgt := 12) X dX4_say_3 (by decide) (fun h3 => ?_) (fun h3 => ?_)
  · skip
    refine v_bipush (v := (-2)) X dX4_say_12 (by decide) ?_
    refine v_ret X hR dX4_say_14 rfl ?_
    have e : sp_say x A = (-2, A) := by rw [sp_say, if_pos (Or.inl h3)]
    rw [e]
    exact ⟨rfl, hA, mO.rfl⟩
  · skip
    refine v_iload_n X dX4_say_6 rfl ?_
    refine v_bipush (v := nI 126) X dX4_say_7 (by decide) ?_
    refine v_icmp_le (tgt := 15) X dX4_say_9 (by decide) (fun h9 => ?_) (fun h9 => ?_)
    · skip
      refine v_aload_n X dX4_say_15 rfl ?_
      refine v_getr X fl_X4_27 shX4_3 dX4_say_16 ?_
      refine v_geti X fl_X4_48 shX3_0 dX4_say_19 ?_
      rw [hA.2.1.2.1]
      have hr : ¬ (x < nI 33 ∨ nI 126 < x) := fun z => z.elim h3 (le_nl h9)
      have hl := hA.2.1.1
      refine v_bipush (v := nI 40) X dX4_say_22 (by decide) ?_
      refine v_icmp_lt (tgt := 30) X dX4_say_24 (by decide) (fun h24 => ?_) (fun h24 => ?_)
      · skip
        have hl2 := nI_ltm (b := 40) (by omega) (by decide) h24
        refine v_aload_n X dX4_say_30 rfl ?_
        refine v_getr X fl_X4_27 shX4_3 dX4_say_31 ?_
        refine v_iload_n X dX4_say_34 rfl ?_
        refine v_calv X (c_textAdd G hl2 hA.2.1.2.1 x) cv_X4_51 obX3 rfl (by decide) rfl (by rfl) (Nat.le_of_ble_eq_true rfl) dX4_say_35 (fun τ hp => ?_)
        subst hp
        refine v_aload_n X dX4_say_38 rfl ?_
        refine v_getr X fl_X4_27 shX4_3 dX4_say_39 ?_
        refine v_geti X fl_X4_48 shX3_0 dX4_say_42 ?_
        rw [s2_at]
        refine v_ret X hR dX4_say_45 rfl ?_
        obtain ⟨j, hj, hxj⟩ : ∃ j, j < 127 ∧ x = nI j := by
          obtain ⟨j, hj, e, -⟩ := ix_of (x := x) (n := 127) (by decide) (fun z => h3 (Int32.lt_of_lt_of_le z (by decide))) (fun z => by
            have h9 : x ≤ nI 126 := h9
            exact absurd (Int32.le_trans z h9) (by decide))
          exact ⟨j, hj, e⟩
        have hxn : x.toInt.toNat = j := by rw [hxj, nI_toInt (by omega)]; rfl
        have e : sp_say x A = (nI (A.2.1.length + 1), (A.1, A.2.1 ++ [j], A.2.2)) := by rw [sp_say, if_neg hr, if_neg (by omega), hxn]
        rw [e]
        obtain ⟨a1, a2, a3, a4, a5, P, a6⟩ := hA
        refine ⟨rfl, ⟨fun k hk => ?_, ⟨?_, ?_, ?_⟩, ?_, ?_, a5, P, ?_⟩, fun i hi => ?_⟩
        · have hS : ∀ i, i < 147 → (s2 (s2 σ 148 A.2.1.length x) 147 0 (nI (A.2.1.length + 1))) i = σ i := fun i hi => by rw [s2_nc (by omega), s2_nc (by omega)]
          exact ⟨hs_cong (a1 k hk).1 (by rw [hS _ (by omega)]) (fun q _ _ => hS _ (by omega)), by rw [hS _ (by omega)]; exact (a1 k hk).2⟩
        · show (A.2.1 ++ [j]).length ≤ 40
          simp; omega
        · show _ = nI (A.2.1 ++ [j]).length
          rw [s2_at]; simp
        · intro i s hs
          rw [s2_nc (by decide)]
          have hs : (A.2.1 ++ [j])[i]? = some s := hs
          rw [List.getElem?_append] at hs
          split at hs
          · rename_i hlt
            have := a2.2.2 i s hs
            rw [s2_ap, if_neg (by omega)]
            exact this
          · have h0 : i - A.2.1.length = 0 := by
              rcases Nat.eq_zero_or_pos (i - A.2.1.length) with z | z
              · exact z
              · rw [List.getElem?_eq_none (by simp; omega)] at hs; cases hs
            rw [h0] at hs
            have hs : j = s := by simpa using hs
            subst hs
            rw [s2_ap, if_pos ⟨rfl, by omega⟩]
            exact ⟨hj, hxj⟩
        · rw [s2_nc (by decide), s2_nc (by decide)]; exact a3
        · rw [s2_nc (by decide), s2_nc (by decide)]; exact a4
        · exact frm_cong a6 (fun i _ _ => by rw [s2_nc (by omega), s2_nc (by omega)]) (fun i _ _ => by rw [s2_nc (by omega), s2_nc (by omega)])
        · rw [s2_nc (by omega), s2_nc (by omega)]
      · skip
        have hl2 := nI_ltn (b := 40) (by omega) (by decide) h24
        refine v_bipush (v := (-4)) X dX4_say_27 (by decide) ?_
        refine v_ret X hR dX4_say_29 rfl ?_
        have e : sp_say x A = (-4, A) := by rw [sp_say, if_neg hr, if_pos hl2]
        rw [e]
        exact ⟨rfl, hA, mO.rfl⟩
    · skip
      refine v_bipush (v := (-2)) X dX4_say_12 (by decide) ?_
      refine v_ret X hR dX4_say_14 rfl ?_
      have e : sp_say x A = (-2, A) := by rw [sp_say, if_pos (Or.inr (nl_le h9))]
      rw [e]
      exact ⟨rfl, hA, mO.rfl⟩

theorem psL_lt : ∀ (tx : List Nat) (i : Nat) (st : PS) (k : Nat), psL tx i st = .inl k → k < i + tx.length
  | [], i, st, k, h => by simp [psL] at h
  | s :: r, i, st, k, h => by
    rw [psL] at h
    cases hs : stA s st with
    | none =>
      rw [hs] at h
      cases h
      simp
    | some st' =>
      rw [hs] at h
      have := psL_lt r (i + 1) st' k h
      simp; omega
theorem prs_lt {tx : List Nat} {k : Nat} (hl : tx.length ≤ 40) (h : prs tx = .inl k) : k < 2 ^ 31 := by
  rw [prs] at h
  cases hp : psL tx 0 ([], [], true, 0) with
  | inl i =>
    rw [hp] at h
    cases h
    have := psL_lt _ _ _ _ hp
    omega
  | inr st =>
    rw [hp] at h
    simp only at h
    split at h
    · cases h; omega
    · cases h
/-- the text is emptied -/
theorem cR_wipe {σ : Sg} {A : ASt} (h : cR σ A) : cR (s2 σ 147 0 (nI 0)) (A.1, [], A.2.2) := by
  obtain ⟨a1, a2, a3, a4, a5, P, a6⟩ := h
  refine ⟨fun k hk => ?_, ⟨Nat.zero_le _, s2_at _ _ _ _, fun i s hs => by simp at hs⟩, by rw [s2_nc (by decide)]; exact a3, by rw [s2_nc (by decide)]; exact a4, a5, P, frm_cong a6 (fun i _ _ => s2_nc (by omega)) (fun i _ _ => s2_nc (by omega))⟩
  exact ⟨hs_cong (a1 k hk).1 (by rw [s2_nc (by omega)]) (fun q _ _ => s2_nc (by omega)), by rw [s2_nc (by omega)]; exact (a1 k hk).2⟩
theorem cR_fault {σ : Sg} {A : ASt} {v : Int32} (h : cR σ A) : cR (s2 σ 155 4 v) (A.1, A.2.1, v, A.2.2.2) := by
  obtain ⟨a1, a2, a3, a4, a5, P, a6⟩ := h
  refine ⟨fun k hk => ?_, tX_cong a2 (by rw [s2_nc (by decide)]) (s2_nc (by decide)), s2_at _ _ _ _, by rw [s2_ap, if_neg (by decide)]; exact a4, a5, P, frm_cong a6 (fun i _ _ => s2_nc (by omega)) (fun i _ _ => s2_nc (by omega))⟩
  exact ⟨hs_cong (a1 k hk).1 (by rw [s2_nc (by omega)]) (fun q _ _ => s2_nc (by omega)), by rw [s2_nc (by omega)]; exact (a1 k hk).2⟩
set_option maxHeartbeats 4000000 in
set_option maxRecDepth 100000 in
theorem x_wipe (G : GT) {σ : Sg} {A : ASt} (hA : cR σ A)  : MC G yX4_wipe cX4_wipe 2 .int 0 [.ref (G.2.2.1 155)] σ (fun r τ => r = (sp_wipe A).1 ∧ cR τ (sp_wipe A).2 ∧ mO σ τ) := by
  refine MC_of (by decide) (ca1 rfl ca0) (Nat.le_of_ble_eq_true rfl) ?_
  intro Z X hR
  show V G Z σ 0 [some (.ref (G.2.2.1 155)), none] []
  refine v_aload_n X dX4_wipe_0 rfl ?_
  refine v_getr X fl_X4_27 shX4_3 dX4_wipe_1 ?_
  refine v_geti X fl_X4_48 shX3_0 dX4_wipe_4 ?_
  rw [hA.2.1.2.1]
  refine v_istore_n X dX4_wipe_7 (Nat.le_of_ble_eq_true rfl) ?_
  show V G Z _ 8 [_, _] _
  refine v_aload_n X dX4_wipe_8 rfl ?_
  refine v_getr X fl_X4_27 shX4_3 dX4_wipe_9 ?_
  refine v_iconst (v := nI 0) X dX4_wipe_12 (by decide) ?_
  refine v_puti X fw_X4_48 shX3_0 dX4_wipe_13 rfl rfl ?_
  refine v_iload_n X dX4_wipe_16 rfl ?_
  refine v_ret X hR dX4_wipe_17 rfl ?_
  exact ⟨rfl, cR_wipe hA, fun i hi => s2_nc (by omega)⟩

set_option maxHeartbeats 4000000 in
set_option maxRecDepth 100000 in
theorem x_fault (G : GT) {σ : Sg} {A : ASt} (hA : cR σ A)  : MC G yX4_fault cX4_fault 1 .int 0 [.ref (G.2.2.1 155)] σ (fun r τ => r = (sp_fault A).1 ∧ cR τ (sp_fault A).2 ∧ mO σ τ) := by
  refine MC_of (by decide) (ca1 rfl ca0) (Nat.le_of_ble_eq_true rfl) ?_
  intro Z X hR
  show V G Z σ 0 [some (.ref (G.2.2.1 155))] []
  refine v_aload_n X dX4_fault_0 rfl ?_
  refine v_geti X fl_X4_31 shX4_4 dX4_fault_1 ?_
  rw [hA.2.2.1]
  refine v_ret X hR dX4_fault_4 rfl ?_
  exact ⟨rfl, hA, mO.rfl⟩

set_option maxHeartbeats 4000000 in
set_option maxRecDepth 100000 in
theorem x_read (G : GT) {σ : Sg} {A : ASt} (hA : cR σ A) (x : Int32) : MC G yX4_read cX4_read 3 .int 6 [.ref (G.2.2.1 155), .int x] σ (fun r τ => r = (sp_read x A).1 ∧ cR τ (sp_read x A).2 ∧ mO σ τ) := by
  refine MC_of (by decide) (ca1 rfl (ca1 rfl ca0)) (Nat.le_of_ble_eq_true rfl) ?_
  intro Z X hR
  show V G Z σ 0 [some (.ref (G.2.2.1 155)), some (.int x), none] []
  refine v_iload_n X dX4_read_0 rfl ?_
  refine v_cals X (c_isSlot G _) cs_X4_55 (by decide) rfl (by rfl) (Nat.le_of_ble_eq_true rfl) dX4_read_1 (fun r τ9 hq => ?_)
  obtain ⟨e9, rfl⟩ := hq
  rw [e9]
  refine v_if_ne (tgt := 9) X dX4_read_4 (by decide) (fun h4 => ?_) (fun h4 => ?_)
  · skip
    obtain ⟨t, t6, rfl, tN⟩ := slot_t (bI_nz.mp h4)
    have tP := hA.1 t (by omega)
    refine v_aload_n X dX4_read_9 rfl ?_
    refine v_getr X fl_X4_27 shX4_3 dX4_read_10 ?_
    refine v_aload_n X dX4_read_13 rfl ?_
    refine v_getr X fl_X4_37 shX4_5 dX4_read_14 ?_
    refine v_cali X (c_parseInto G hA.2.1) cv_X4_59 obX3 rfl (by decide) rfl (by rfl) (Nat.le_of_ble_eq_true rfl) dX4_read_17 (fun r τ hp => ?_)
    obtain ⟨o1, hp⟩ := hp
    have hA1 := cR_tR hA o1
    have hm1 : mO σ τ := fun i hi => o1.1 i (by omega) (by omega) (by omega) (by omega)
    refine v_istore_n X dX4_read_20 (Nat.le_of_ble_eq_true rfl) ?_
    show V G Z _ 21 [_, _, _] _
    refine v_iload_n X dX4_read_21 rfl ?_
    refine v_bipush (v := (-6)) X dX4_read_22 (by decide) ?_
    refine v_icmp_eq (tgt := 35) X dX4_read_24 (by decide) (fun h24 => ?_) (fun h24 => ?_)
    · skip
      obtain ⟨S, D, lg, g1, g2⟩ : ∃ (S D : Sen) (lg : Bool), prs A.2.1 = .inr S ∧ dS τ 18 S D lg := by
        rcases hp with ⟨i, z1, z2⟩ | ⟨S, D, lg, z1, -, z3⟩
        · rw [z2] at h24
          exact absurd h24 (nI_m6 (prs_lt hA.2.1.1 z1))
        · exact ⟨S, D, lg, z1, z3⟩
      refine v_aload_n X dX4_read_35 rfl ?_
      refine v_getr X fl_X4_37 shX4_5 dX4_read_36 ?_
      refine v_geti X fl_X4_63 (shX1_1 (by first | assumption | omega)) dX4_read_39 ?_
      rw [g2.2.1]
      refine v_if_eq (tgt := 48) X dX4_read_42 (by decide) (fun h42 => ?_) (fun h42 => ?_)
      · skip
        have hlg := bI_z.mp h42
        have hDS : D = S := by
          rcases g2.2.2 with z | z
          · exact z.2
          · rw [hlg] at z; cases z.1
        subst hDS
        have hz18 : hz τ 18 D := ⟨g2.1, by rw [g2.2.1, hlg]⟩
        have hle := g2.1.1
        refine v_aload_n X dX4_read_48 rfl ?_
        refine v_getr X fl_X4_27 shX4_3 dX4_read_49 ?_
        refine v_iconst (v := nI 0) X dX4_read_52 (by decide) ?_
        refine v_puti X fw_X4_48 shX3_0 dX4_read_53 rfl rfl ?_
        refine v_aload_n X dX4_read_56 rfl ?_
        refine v_iload_n X dX4_read_57 rfl ?_
        have hz18b : hz (s2 τ 147 0 (nI 0)) 18 D := ⟨hs_cong hz18.1 (by rw [s2_nc (by decide)]) (fun q _ _ => s2_nc (by omega)), by rw [s2_nc (by decide)]; exact hz18.2⟩
        refine v_cali X (c_putDraft G t6 (cR_wipe hA1) hz18b) cv_X4_67 obX4 rfl (by decide) rfl (by rfl) (Nat.le_of_ble_eq_true rfl) dX4_read_58 (fun r τ2 hp2 => ?_)
        obtain ⟨rfl, q1, q2⟩ := hp2
        refine v_ret X hR dX4_read_61 rfl ?_
        have e : sp_read (nI t) A = (nI D.length, (stS A.1 t D, [], A.2.2)) := by simp [sp_read, tN, g1]; omega
        rw [e]
        exact ⟨rfl, q1, (hm1.trans (fun j hj => s2_nc (by omega))).trans q2⟩
      · skip
        have hlg := bI_nz.mp h42
        have hgt : 11 < S.length := by
          rcases g2.2.2 with z | z
          · rw [hlg] at z; cases z.1
          · exact z.2.2
        refine v_bipush (v := (-4)) X dX4_read_45 (by decide) ?_
        refine v_ret X hR dX4_read_47 rfl ?_
        have e : sp_read (nI t) A = (-4, A) := by simp [sp_read, tN, g1, hgt]
        rw [e]
        exact ⟨rfl, hA1, hm1⟩
    · skip
      obtain ⟨i, g1, rfl⟩ : ∃ i, prs A.2.1 = .inl i ∧ r = nI i := by
        rcases hp with z | ⟨S, D, lg, z1, z2, -⟩
        · exact z
        · exact absurd z2 h24
      refine v_aload_n X dX4_read_27 rfl ?_
      refine v_iload_n X dX4_read_28 rfl ?_
      refine v_puti X fw_X4_31 shX4_4 dX4_read_29 rfl rfl ?_
      refine v_bipush (v := (-7)) X dX4_read_32 (by decide) ?_
      refine v_ret X hR dX4_read_34 rfl ?_
      have e : sp_read (nI t) A = (-7, (A.1, A.2.1, nI i, A.2.2.2)) := by simp [sp_read, tN, g1]
      rw [e]
      exact ⟨rfl, cR_fault hA1, hm1.trans (fun j hj => s2_nc (by omega))⟩
  · skip
    have tn := slot_f (bI_z.mp h4)
    refine v_iconst (v := (-1)) X dX4_read_7 (by decide) ?_
    refine v_ret X hR dX4_read_8 rfl ?_
    have e : sp_read x A = (-1, A) := by simp [sp_read, tn]
    rw [e]
    exact ⟨rfl, hA, mO.rfl⟩

