set_option maxHeartbeats 4000000 in
set_option maxRecDepth 100000 in
theorem x_make (G : GT) {σ : Sg} {A : ASt} (hA : cR σ A) (x y z w : Int32) : MC G yX4_make cX4_make 5 .int 3 [.ref (G.2.2.1 155), .int x, .int y, .int z, .int w] σ (fun r τ => r = (sp_make x y z w A).1 ∧ cR τ (sp_make x y z w A).2 ∧ mO σ τ) := by
  refine MC_of (by decide) (ca1 rfl (ca1 rfl (ca1 rfl (ca1 rfl (ca1 rfl ca0))))) (Nat.le_of_ble_eq_true rfl) ?_
  intro Z X hR
  show V G Z σ 0 [some (.ref (G.2.2.1 155)), some (.int x), some (.int y), some (.int z), some (.int w)] []
  refine v_iload_n X dX4_make_0 rfl ?_
  refine v_cals X (c_isSlot G _) cs_X4_55 (by decide) rfl (by rfl) (Nat.le_of_ble_eq_true rfl) dX4_make_1 (fun r τ9 hq => ?_)
  obtain ⟨e9, rfl⟩ := hq
  rw [e9]
  refine v_if_eq (tgt := 21) X dX4_make_4 (by decide) (fun h4 => ?_) (fun h4 => ?_)
  · skip
    have tn := slot_f (bI_z.mp h4)
    refine v_iconst (v := (-1)) X dX4_make_21 (by decide) ?_
    refine v_ret X hR dX4_make_22 rfl ?_
    have e : sp_make x y z w A = (-1, A) := by simp [sp_make, tn]
    rw [e]
    exact ⟨rfl, hA, mO.rfl⟩
  · skip
    obtain ⟨t, t6, rfl, tN⟩ := slot_t (bI_nz.mp h4)
    have tP := hA.1 t (by omega)
    refine v_iload_n X dX4_make_7 rfl ?_
    refine v_cals X (c_isSlot G _) cs_X4_55 (by decide) rfl (by rfl) (Nat.le_of_ble_eq_true rfl) dX4_make_8 (fun r τ9 hq => ?_)
    obtain ⟨e9, rfl⟩ := hq
    rw [e9]
    refine v_if_eq (tgt := 21) X dX4_make_11 (by decide) (fun h11 => ?_) (fun h11 => ?_)
    · skip
      have an := slot_f (bI_z.mp h11)
      refine v_iconst (v := (-1)) X dX4_make_21 (by decide) ?_
      refine v_ret X hR dX4_make_22 rfl ?_
      have e : sp_make (nI t) y z w A = (-1, A) := by simp [sp_make, tN, an]
      rw [e]
      exact ⟨rfl, hA, mO.rfl⟩
    · skip
      obtain ⟨a, a6, rfl, aN⟩ := slot_t (bI_nz.mp h11)
      have aP := hA.1 a (by omega)
      refine v_iload_n X dX4_make_14 rfl ?_
      refine v_cals X (c_isSlot G _) cs_X4_55 (by decide) rfl (by rfl) (Nat.le_of_ble_eq_true rfl) dX4_make_15 (fun r τ9 hq => ?_)
      obtain ⟨e9, rfl⟩ := hq
      rw [e9]
      refine v_if_ne (tgt := 23) X dX4_make_18 (by decide) (fun h18 => ?_) (fun h18 => ?_)
      · skip
        obtain ⟨b, b6, rfl, bN⟩ := slot_t (bI_nz.mp h18)
        have bP := hA.1 b (by omega)
        refine v_iload X dX4_make_23 rfl ?_
        refine v_if_lt (tgt := 34) X dX4_make_25 (by decide) (fun h25 => ?_) (fun h25 => ?_)
        · skip
          refine v_bipush (v := (-2)) X dX4_make_34 (by decide) ?_
          refine v_ret X hR dX4_make_36 rfl ?_
          have e : sp_make (nI t) (nI a) (nI b) w A = (-2, A) := by simp [sp_make, tN, aN, bN, h25]
          rw [e]
          exact ⟨rfl, hA, mO.rfl⟩
        · skip
          refine v_iload X dX4_make_28 rfl ?_
          refine v_iconst (v := nI 2) X dX4_make_30 (by decide) ?_
          refine v_icmp_le (tgt := 37) X dX4_make_31 (by decide) (fun h31 => ?_) (fun h31 => ?_)
          · skip
            refine v_aload_n X dX4_make_37 rfl ?_
            refine v_iload_n X dX4_make_38 rfl ?_
            have hr : ¬ (w < 0 ∨ nI 2 < w) := fun z => z.elim h25 (le_nl h31)
            obtain ⟨k, hk, rfl, hkn⟩ := ix_of (x := w) (n := 3) (by decide) h25 (fun z => absurd (Int32.le_trans z h31) (by decide))
            refine v_cali X (c_isEmpty G a6 aP) cv_X4_71 obX4 rfl (by decide) rfl (by rfl) (Nat.le_of_ble_eq_true rfl) dX4_make_39 (fun r τ9 hq => ?_)
            obtain ⟨e9, rfl⟩ := hq
            rw [e9]
            refine v_if_ne (tgt := 53) X dX4_make_42 (by decide) (fun h42 => ?_) (fun h42 => ?_)
            · skip
              have a0 : (A.1 a).length = 0 := of_decide_eq_true (bI_nz.mp h42)
              refine v_bipush (v := (-3)) X dX4_make_53 (by decide) ?_
              refine v_ret X hR dX4_make_55 rfl ?_
              have e : sp_make (nI t) (nI a) (nI b) (nI k) A = (-3, A) := by simp only [sp_make, tN, aN, bN]; rw [if_neg hr, if_pos (Or.inl a0)]
              rw [e]
              exact ⟨rfl, hA, mO.rfl⟩
            · skip
              have a0 : ¬ (A.1 a).length = 0 := of_decide_eq_false (bI_z.mp h42)
              have ap : 0 < (A.1 a).length := by omega
              refine v_aload_n X dX4_make_45 rfl ?_
              refine v_iload_n X dX4_make_46 rfl ?_
              refine v_cali X (c_isEmpty G b6 bP) cv_X4_71 obX4 rfl (by decide) rfl (by rfl) (Nat.le_of_ble_eq_true rfl) dX4_make_47 (fun r τ9 hq => ?_)
              obtain ⟨e9, rfl⟩ := hq
              rw [e9]
              refine v_if_eq (tgt := 56) X dX4_make_50 (by decide) (fun h50 => ?_) (fun h50 => ?_)
              · skip
                have b0 : ¬ (A.1 b).length = 0 := of_decide_eq_false (bI_z.mp h50)
                have bp : 0 < (A.1 b).length := by omega
                refine v_aload_n X dX4_make_56 rfl ?_
                refine v_getr X fl_X4_37 shX4_5 dX4_make_57 ?_
                refine v_iconst (v := nI 2) X dX4_make_60 (by decide) ?_
                refine v_iload X dX4_make_61 rfl ?_
                refine v_iadd X dX4_make_63 ?_
                refine v_top (nI_add 2 k) ?_
                refine v_aload_n X dX4_make_64 rfl ?_
                refine v_getr X fl_X4_10 shX4_0 dX4_make_65 ?_
                refine v_getr X fl_X4_74 (shX2_0 (by first | assumption | omega)) dX4_make_68 ?_
                refine v_iload_n X dX4_make_71 rfl ?_
                refine v_aaldE X (arX2_0 (by first | assumption | omega)) (Or.inl rfl) rfl (by first | assumption | omega) dX4_make_72 ?_
                refine v_refe (show _ = 7 * a from by omega) ?_
                refine v_aload_n X dX4_make_73 rfl ?_
                refine v_getr X fl_X4_10 shX4_0 dX4_make_74 ?_
                refine v_getr X fl_X4_74 (shX2_0 (by first | assumption | omega)) dX4_make_77 ?_
                refine v_iload_n X dX4_make_80 rfl ?_
                refine v_aaldE X (arX2_0 (by first | assumption | omega)) (Or.inl rfl) rfl (by first | assumption | omega) dX4_make_81 ?_
                refine v_refe (show _ = 7 * b from by omega) ?_
                refine v_calv X (c_becomePair G (j := 18) (by decide) (by omega) (by omega) (by omega) (by omega) aP.1 aP.2 bP.1 ap bp (t := 2 + k) (by omega)) cv_X4_78 (obX1 (by first | assumption | omega)) rfl (by decide) rfl (by rfl) (Nat.le_of_ble_eq_true rfl) dX4_make_82 (fun τ hp => ?_)
                obtain ⟨o1, D, lg, g1⟩ := hp
                have hA1 := cR_off hA o1
                have hm1 : mO σ τ := fun i hi => o1 i (by omega)
                refine v_aload_n X dX4_make_85 rfl ?_
                refine v_getr X fl_X4_37 shX4_5 dX4_make_86 ?_
                refine v_geti X fl_X4_63 (shX1_1 (by first | assumption | omega)) dX4_make_89 ?_
                rw [g1.2.1]
                refine v_if_eq (tgt := 100) X dX4_make_92 (by decide) (fun h92 => ?_) (fun h92 => ?_)
                · skip
                  have hlg := bI_z.mp h92
                  have hDS : D = prP (A.1 a) (A.1 b) (2 + k) := by
                    rcases g1.2.2 with z | z
                    · exact z.2
                    · rw [hlg] at z; cases z.1
                  have hz18 : hz τ 18 D := ⟨g1.1, by rw [g1.2.1, hlg]⟩
                  have hle := g1.1.1
                  rw [hDS] at hz18 hle
                  refine v_aload_n X dX4_make_100 rfl ?_
                  refine v_iload_n X dX4_make_101 rfl ?_
                  refine v_cali X (c_putDraft G t6 hA1 hz18) cv_X4_67 obX4 rfl (by decide) rfl (by rfl) (Nat.le_of_ble_eq_true rfl) dX4_make_102 (fun r τ2 hp2 => ?_)
                  obtain ⟨rfl, q1, q2⟩ := hp2
                  refine v_ret X hR dX4_make_105 rfl ?_
                  have e : sp_make (nI t) (nI a) (nI b) (nI k) A = (nI (prP (A.1 a) (A.1 b) (2 + k)).length, (stS A.1 t (prP (A.1 a) (A.1 b) (2 + k)), A.2)) := by simp only [sp_make, tN, aN, bN]; rw [if_neg hr, if_neg (by omega), hkn, if_neg (by omega)]
                  rw [e]
                  exact ⟨rfl, q1, hm1.trans q2⟩
                · skip
                  have hlg := bI_nz.mp h92
                  have hgt : 11 < (prP (A.1 a) (A.1 b) (2 + k)).length := by
                    rcases g1.2.2 with z | z
                    · rw [hlg] at z; cases z.1
                    · exact z.2.2
                  refine v_bipush (v := (-4)) X dX4_make_95 (by decide) ?_
                  refine v_goto (tgt := 105) X dX4_make_97 (by decide) ?_
                  refine v_ret X hR dX4_make_105 rfl ?_
                  have e : sp_make (nI t) (nI a) (nI b) (nI k) A = (-4, A) := by simp only [sp_make, tN, aN, bN]; rw [if_neg hr, if_neg (by omega), hkn, if_pos hgt]
                  rw [e]
                  exact ⟨rfl, hA1, hm1⟩
              · skip
                have b0 : (A.1 b).length = 0 := of_decide_eq_true (bI_nz.mp h50)
                refine v_bipush (v := (-3)) X dX4_make_53 (by decide) ?_
                refine v_ret X hR dX4_make_55 rfl ?_
                have e : sp_make (nI t) (nI a) (nI b) (nI k) A = (-3, A) := by simp only [sp_make, tN, aN, bN]; rw [if_neg hr, if_pos (Or.inr b0)]
                rw [e]
                exact ⟨rfl, hA, mO.rfl⟩
          · skip
            refine v_bipush (v := (-2)) X dX4_make_34 (by decide) ?_
            refine v_ret X hR dX4_make_36 rfl ?_
            have e : sp_make (nI t) (nI a) (nI b) w A = (-2, A) := by simp [sp_make, tN, aN, bN, nl_le h31]
            rw [e]
            exact ⟨rfl, hA, mO.rfl⟩
      · skip
        have bn := slot_f (bI_z.mp h18)
        refine v_iconst (v := (-1)) X dX4_make_21 (by decide) ?_
        refine v_ret X hR dX4_make_22 rfl ?_
        have e : sp_make (nI t) (nI a) z w A = (-1, A) := by simp [sp_make, tN, aN, bn]
        rw [e]
        exact ⟨rfl, hA, mO.rfl⟩

set_option maxHeartbeats 4000000 in
set_option maxRecDepth 100000 in
theorem x_part (G : GT) {σ : Sg} {A : ASt} (hA : cR σ A) (x y z : Int32) : MC G yX4_part cX4_part 4 .int 14 [.ref (G.2.2.1 155), .int x, .int y, .int z] σ (fun r τ => r = (sp_part x y z A).1 ∧ cR τ (sp_part x y z A).2 ∧ mO σ τ) := by
  refine MC_of (by decide) (ca1 rfl (ca1 rfl (ca1 rfl (ca1 rfl ca0)))) (Nat.le_of_ble_eq_true rfl) ?_
  intro Z X hR
  show V G Z σ 0 [some (.ref (G.2.2.1 155)), some (.int x), some (.int y), some (.int z)] []
  refine v_iload_n X dX4_part_0 rfl ?_
  refine v_cals X (c_isSlot G _) cs_X4_55 (by decide) rfl (by rfl) (Nat.le_of_ble_eq_true rfl) dX4_part_1 (fun r τ9 hq => ?_)
  obtain ⟨e9, rfl⟩ := hq
  rw [e9]
  refine v_if_eq (tgt := 14) X dX4_part_4 (by decide) (fun h4 => ?_) (fun h4 => ?_)
  · skip
    have tn := slot_f (bI_z.mp h4)
    refine v_iconst (v := (-1)) X dX4_part_14 (by decide) ?_
    refine v_ret X hR dX4_part_15 rfl ?_
    have e : sp_part x y z A = (-1, A) := by simp [sp_part, tn]
    rw [e]
    exact ⟨rfl, hA, mO.rfl⟩
  · skip
    obtain ⟨t, t6, rfl, tN⟩ := slot_t (bI_nz.mp h4)
    have tP := hA.1 t (by omega)
    refine v_iload_n X dX4_part_7 rfl ?_
    refine v_cals X (c_isSlot G _) cs_X4_55 (by decide) rfl (by rfl) (Nat.le_of_ble_eq_true rfl) dX4_part_8 (fun r τ9 hq => ?_)
    obtain ⟨e9, rfl⟩ := hq
    rw [e9]
    refine v_if_ne (tgt := 16) X dX4_part_11 (by decide) (fun h11 => ?_) (fun h11 => ?_)
    · skip
      obtain ⟨a, a6, rfl, aN⟩ := slot_t (bI_nz.mp h11)
      have aP := hA.1 a (by omega)
      refine v_aload_n X dX4_part_16 rfl ?_
      refine v_iload_n X dX4_part_17 rfl ?_
      refine v_cali X (c_isEmpty G a6 aP) cv_X4_71 obX4 rfl (by decide) rfl (by rfl) (Nat.le_of_ble_eq_true rfl) dX4_part_18 (fun r τ9 hq => ?_)
      obtain ⟨e9, rfl⟩ := hq
      rw [e9]
      refine v_if_eq (tgt := 27) X dX4_part_21 (by decide) (fun h21 => ?_) (fun h21 => ?_)
      · skip
        have a0 : ¬ (A.1 a).length = 0 := of_decide_eq_false (bI_z.mp h21)
        have ap : 0 < (A.1 a).length := by omega
        refine v_aload_n X dX4_part_27 rfl ?_
        refine v_getr X fl_X4_10 shX4_0 dX4_part_28 ?_
        refine v_getr X fl_X4_74 (shX2_0 (by first | assumption | omega)) dX4_part_31 ?_
        refine v_iload_n X dX4_part_34 rfl ?_
        refine v_aaldE X (arX2_0 (by first | assumption | omega)) (Or.inl rfl) rfl (by first | assumption | omega) dX4_part_35 ?_
        refine v_refe (show _ = 7 * a from by omega) ?_
        refine v_iload_n X dX4_part_36 rfl ?_
        refine v_cali X (c_hasPart G (j := a) (by omega) _) cv_X4_82 (obX1 (by first | assumption | omega)) rfl (by decide) rfl (by rfl) (Nat.le_of_ble_eq_true rfl) dX4_part_37 (fun r τ9 hq => ?_)
        obtain ⟨e9, rfl⟩ := hq
        rw [e9, aP.1.2.2.1]
        have a11 := aP.1.1
        refine v_if_ne (tgt := 46) X dX4_part_40 (by decide) (fun h40 => ?_) (fun h40 => ?_)
        · skip
          have hz1 := of_decide_eq_true (bI_nz.mp h40)
          obtain ⟨k, hk, rfl, hkn⟩ := ix_of (by omega) hz1.1 hz1.2
          refine v_aload_n X dX4_part_46 rfl ?_
          refine v_getr X fl_X4_37 shX4_5 dX4_part_47 ?_
          refine v_aload_n X dX4_part_50 rfl ?_
          refine v_getr X fl_X4_10 shX4_0 dX4_part_51 ?_
          refine v_getr X fl_X4_74 (shX2_0 (by first | assumption | omega)) dX4_part_54 ?_
          refine v_iload_n X dX4_part_57 rfl ?_
          refine v_aaldE X (arX2_0 (by first | assumption | omega)) (Or.inl rfl) rfl (by first | assumption | omega) dX4_part_58 ?_
          refine v_refe (show _ = 7 * a from by omega) ?_
          refine v_iload_n X dX4_part_59 rfl ?_
          refine v_calv X (c_becomePart G (j := 18) (i := a) (by decide) (by omega) (by omega) aP.1 hk) cv_X4_85 (obX1 (by first | assumption | omega)) rfl (by decide) rfl (by rfl) (Nat.le_of_ble_eq_true rfl) dX4_part_60 (fun τ hp => ?_)
          obtain ⟨o1, g1, g2⟩ := hp
          have hA1 := cR_off hA o1
          have hm1 : mO σ τ := fun i hi => o1 i (by omega)
          refine v_aload_n X dX4_part_63 rfl ?_
          refine v_iload_n X dX4_part_64 rfl ?_
          refine v_cali X (c_putDraft G t6 hA1 ⟨g1, g2⟩) cv_X4_67 obX4 rfl (by decide) rfl (by rfl) (Nat.le_of_ble_eq_true rfl) dX4_part_65 (fun r τ2 hp2 => ?_)
          obtain ⟨rfl, q1, q2⟩ := hp2
          refine v_ret X hR dX4_part_68 rfl ?_
          have e : sp_part (nI t) (nI a) (nI k) A = (nI (subP (A.1 a) k).length, (stS A.1 t (subP (A.1 a) k), A.2)) := by simp only [sp_part, tN, aN]; rw [if_neg a0, if_neg (fun z => z.elim hz1.1 hz1.2), hkn]
          rw [e]
          exact ⟨rfl, q1, hm1.trans q2⟩
        · skip
          have hz1 := of_decide_eq_false (bI_z.mp h40)
          have hz2 : z < 0 ∨ nI (A.1 a).length ≤ z := by
            rcases Decidable.em (z < 0) with q | q
            · exact Or.inl q
            · rcases Decidable.em (nI (A.1 a).length ≤ z) with q2 | q2
              · exact Or.inr q2
              · exact absurd ⟨q, q2⟩ hz1
          refine v_bipush (v := (-2)) X dX4_part_43 (by decide) ?_
          refine v_ret X hR dX4_part_45 rfl ?_
          have e : sp_part (nI t) (nI a) z A = (-2, A) := by simp only [sp_part, tN, aN]; rw [if_neg a0, if_pos hz2]
          rw [e]
          exact ⟨rfl, hA, mO.rfl⟩
      · skip
        have a0 : (A.1 a).length = 0 := of_decide_eq_true (bI_nz.mp h21)
        refine v_bipush (v := (-3)) X dX4_part_24 (by decide) ?_
        refine v_ret X hR dX4_part_26 rfl ?_
        have e : sp_part (nI t) (nI a) z A = (-3, A) := by simp only [sp_part, tN, aN]; rw [if_pos a0]
        rw [e]
        exact ⟨rfl, hA, mO.rfl⟩
    · skip
      have an := slot_f (bI_z.mp h11)
      refine v_iconst (v := (-1)) X dX4_part_14 (by decide) ?_
      refine v_ret X hR dX4_part_15 rfl ?_
      have e : sp_part (nI t) y z A = (-1, A) := by simp [sp_part, tN, an]
      rw [e]
      exact ⟨rfl, hA, mO.rfl⟩

set_option maxHeartbeats 4000000 in
set_option maxRecDepth 100000 in
theorem x_sign (G : GT) {σ : Sg} {A : ASt} (hA : cR σ A) (x y : Int32) : MC G yX4_sign cX4_sign 4 .int 5 [.ref (G.2.2.1 155), .int x, .int y] σ (fun r τ => r = (sp_sign x y A).1 ∧ cR τ (sp_sign x y A).2 ∧ mO σ τ) := by
  refine MC_of (by decide) (ca1 rfl (ca1 rfl (ca1 rfl ca0))) (Nat.le_of_ble_eq_true rfl) ?_
  intro Z X hR
  show V G Z σ 0 [some (.ref (G.2.2.1 155)), some (.int x), some (.int y), none] []
  refine v_iload_n X dX4_sign_0 rfl ?_
  refine v_cals X (c_isSlot G _) cs_X4_55 (by decide) rfl (by rfl) (Nat.le_of_ble_eq_true rfl) dX4_sign_1 (fun r τ9 hq => ?_)
  obtain ⟨e9, rfl⟩ := hq
  rw [e9]
  refine v_if_ne (tgt := 9) X dX4_sign_4 (by decide) (fun h4 => ?_) (fun h4 => ?_)
  · skip
    obtain ⟨a, a6, rfl, aN⟩ := slot_t (bI_nz.mp h4)
    have aP := hA.1 a (by omega)
    refine v_iload_n X dX4_sign_9 rfl ?_
    refine v_iconst (v := (-1)) X dX4_sign_10 (by decide) ?_
    refine v_icmp_ge (tgt := 17) X dX4_sign_11 (by decide) (fun h11 => ?_) (fun h11 => ?_)
    · skip
      have hy := le_nl h11
      refine v_aload_n X dX4_sign_17 rfl ?_
      refine v_iload_n X dX4_sign_18 rfl ?_
      refine v_cali X (c_isEmpty G a6 aP) cv_X4_71 obX4 rfl (by decide) rfl (by rfl) (Nat.le_of_ble_eq_true rfl) dX4_sign_19 (fun r τ9 hq => ?_)
      obtain ⟨e9, rfl⟩ := hq
      rw [e9]
      refine v_if_eq (tgt := 28) X dX4_sign_22 (by decide) (fun h22 => ?_) (fun h22 => ?_)
      · skip
        have a0 : ¬ (A.1 a).length = 0 := of_decide_eq_false (bI_z.mp h22)
        have ap : 0 < (A.1 a).length := by omega
        refine v_aload_n X dX4_sign_28 rfl ?_
        refine v_getr X fl_X4_10 shX4_0 dX4_sign_29 ?_
        refine v_getr X fl_X4_74 (shX2_0 (by first | assumption | omega)) dX4_sign_32 ?_
        refine v_iload_n X dX4_sign_35 rfl ?_
        refine v_aaldE X (arX2_0 (by first | assumption | omega)) (Or.inl rfl) rfl (by first | assumption | omega) dX4_sign_36 ?_
        refine v_refe (show _ = 7 * a from by omega) ?_
        refine v_astore_n X dX4_sign_37 (Nat.le_of_ble_eq_true rfl) ?_
        show V G Z _ 38 [_, _, _, _] _
        refine v_iload_n X dX4_sign_38 rfl ?_
        refine v_iconst (v := (-1)) X dX4_sign_39 (by decide) ?_
        refine v_icmp_ne (tgt := 50) X dX4_sign_40 (by decide) (fun h40 => ?_) (fun h40 => ?_)
        · skip
          refine v_aload_n X dX4_sign_50 rfl ?_
          refine v_iload_n X dX4_sign_51 rfl ?_
          refine v_cali X (c_signAt G (j := a) (by omega) aP.1 ap y) cv_X4_93 (obX1 (by first | assumption | omega)) rfl (by decide) rfl (by rfl) (Nat.le_of_ble_eq_true rfl) dX4_sign_52 (fun r τ9 hq => ?_)
          obtain ⟨e9, hq⟩ := hq
          rw [e9]
          refine v_ret X hR dX4_sign_55 rfl ?_
          have hb : sgN (A.1 a) < 4096 := by rw [sgN, if_pos ap]; exact lnL_lt aP.1.2.1 aP.1.1 (by omega)
          have hy0 : ¬ y < 0 := fun z => h40 (by
            have h1 := Int32.lt_iff_toInt_lt.mp z
            have h2 := Int32.le_iff_toInt_le.mp (nlt_le hy)
            have e1 : (0 : Int32).toInt = 0 := by decide
            have e2 : (-1 : Int32).toInt = -1 := by decide
            exact Int32.toInt_inj.mp (by omega))
          rcases hq with ⟨z, -⟩ | ⟨z, rfl⟩ | ⟨k, hk, rfl, rfl⟩
          · exact absurd z hy0
          · have e : sp_sign (nI a) y A = (-6, A) := by simp only [sp_sign, aN]; rw [if_neg hy, if_neg a0, if_neg h40, if_pos z]
            rw [e]
            exact ⟨rfl, hA, mO.rfl⟩
          · have hkn : (nI k).toInt.toNat = k := by rw [nI_toInt (by omega)]; rfl
            have e : sp_sign (nI a) (nI k) A = (sgA (A.1 a) 11 ((A.1 a).length - 1) k, A) := by simp only [sp_sign, aN]; rw [if_neg hy, if_neg a0, if_neg h40, if_neg (nI_ge hk (by omega)), hkn]
            rw [e]
            exact ⟨rfl, hA, mO.rfl⟩
        · skip
          refine v_aload_n X dX4_sign_43 rfl ?_
          refine v_cali X (c_signs G (j := a) (by omega) aP.1) cv_X4_89 (obX1 (by first | assumption | omega)) rfl (by decide) rfl (by rfl) (Nat.le_of_ble_eq_true rfl) dX4_sign_44 (fun r τ9 hq => ?_)
          obtain ⟨e9, rfl⟩ := hq
          rw [e9]
          refine v_goto (tgt := 55) X dX4_sign_47 (by decide) ?_
          refine v_ret X hR dX4_sign_55 rfl ?_
          have e : sp_sign (nI a) y A = (nI (sgN (A.1 a)), A) := by simp only [sp_sign, aN]; rw [if_neg hy, if_neg a0, if_pos h40]
          rw [e]
          exact ⟨rfl, hA, mO.rfl⟩
      · skip
        have a0 : (A.1 a).length = 0 := of_decide_eq_true (bI_nz.mp h22)
        refine v_bipush (v := (-3)) X dX4_sign_25 (by decide) ?_
        refine v_ret X hR dX4_sign_27 rfl ?_
        have e : sp_sign (nI a) y A = (-3, A) := by simp only [sp_sign, aN]; rw [if_neg hy, if_pos a0]
        rw [e]
        exact ⟨rfl, hA, mO.rfl⟩
    · skip
      have hy := nl_le h11
      refine v_bipush (v := (-2)) X dX4_sign_14 (by decide) ?_
      refine v_ret X hR dX4_sign_16 rfl ?_
      have e : sp_sign (nI a) y A = (-2, A) := by simp only [sp_sign, aN]; rw [if_pos hy]
      rw [e]
      exact ⟨rfl, hA, mO.rfl⟩
  · skip
    have an := slot_f (bI_z.mp h4)
    refine v_iconst (v := (-1)) X dX4_sign_7 (by decide) ?_
    refine v_ret X hR dX4_sign_8 rfl ?_
    have e : sp_sign x y A = (-1, A) := by simp [sp_sign, an]
    rw [e]
    exact ⟨rfl, hA, mO.rfl⟩

theorem sw_3 (x : Int32) : (x.toInt < 0 ∨ 2 < x.toInt) ∨ x = nI 0 ∨ x = nI 1 ∨ x = nI 2 := by
  rcases pk_ix x (n := 3) (by decide) with h | h | ⟨j, hj, rfl⟩
  · left; left
    have := Int32.lt_iff_toInt_lt.mp h
    have e : (0 : Int32).toInt = 0 := by decide
    omega
  · left; right
    have := Int32.le_iff_toInt_le.mp h
    rw [nI_toInt (by decide)] at this
    omega
  · right
    rcases (show j = 0 ∨ j = 1 ∨ j = 2 by omega) with rfl | rfl | rfl
    · exact Or.inl rfl
    · exact Or.inr (Or.inl rfl)
    · exact Or.inr (Or.inr rfl)
theorem lt0_iff {x : Int32} : x.toInt < 0 ↔ x < 0 := by
  rw [Int32.lt_iff_toInt_lt, show (0 : Int32).toInt = 0 by decide]
theorem gt_iff {x : Int32} {n : Nat} (h : n < 2 ^ 31) : (n : Int) < x.toInt ↔ nI n < x := by
  rw [Int32.lt_iff_toInt_lt, nI_toInt h]
set_option maxHeartbeats 4000000 in
set_option maxRecDepth 100000 in
theorem x_told (G : GT) {σ : Sg} {A : ASt} (hA : cR σ A) (x y z : Int32) : MC G yX4_told cX4_told 5 .int 1 [.ref (G.2.2.1 155), .int x, .int y, .int z] σ (fun r τ => r = (sp_told x y z A).1 ∧ cR τ (sp_told x y z A).2 ∧ mO σ τ) := by
  refine MC_of (by decide) (ca1 rfl (ca1 rfl (ca1 rfl (ca1 rfl ca0)))) (Nat.le_of_ble_eq_true rfl) ?_
  intro Z X hR
  show V G Z σ 0 [some (.ref (G.2.2.1 155)), some (.int x), some (.int y), some (.int z), none] []
  refine v_iload_n X dX4_told_0 rfl ?_
  refine v_cals X (c_isSlot G _) cs_X4_55 (by decide) rfl (by rfl) (Nat.le_of_ble_eq_true rfl) dX4_told_1 (fun r τ9 hq => ?_)
  obtain ⟨e9, rfl⟩ := hq
  rw [e9]
  refine v_if_ne (tgt := 9) X dX4_told_4 (by decide) (fun h4 => ?_) (fun h4 => ?_)
  · skip
    obtain ⟨a, a6, rfl, aN⟩ := slot_t (bI_nz.mp h4)
    have aP := hA.1 a (by omega)
    refine v_aload_n X dX4_told_9 rfl ?_
    refine v_iload_n X dX4_told_10 rfl ?_
    refine v_cali X (c_isEmpty G a6 aP) cv_X4_71 obX4 rfl (by decide) rfl (by rfl) (Nat.le_of_ble_eq_true rfl) dX4_told_11 (fun r τ9 hq => ?_)
    obtain ⟨e9, rfl⟩ := hq
    rw [e9]
    refine v_if_eq (tgt := 20) X dX4_told_14 (by decide) (fun h14 => ?_) (fun h14 => ?_)
    · skip
      have a0 : ¬ (A.1 a).length = 0 := of_decide_eq_false (bI_z.mp h14)
      have ap : 0 < (A.1 a).length := by omega
      refine v_aload_n X dX4_told_20 rfl ?_
      refine v_getr X fl_X4_10 shX4_0 dX4_told_21 ?_
      refine v_getr X fl_X4_74 (shX2_0 (by first | assumption | omega)) dX4_told_24 ?_
      refine v_iload_n X dX4_told_27 rfl ?_
      refine v_aaldE X (arX2_0 (by first | assumption | omega)) (Or.inl rfl) rfl (by first | assumption | omega) dX4_told_28 ?_
      refine v_refe (show _ = 7 * a from by omega) ?_
      refine v_astore X dX4_told_29 (Nat.le_of_ble_eq_true rfl) ?_
      show V G Z _ 31 [_, _, _, _, _] _
      refine v_aload X dX4_told_31 rfl ?_
      refine v_iload_n X dX4_told_33 rfl ?_
      refine v_cali X (c_hasPart G (j := a) (by omega) _) cv_X4_82 (obX1 (by first | assumption | omega)) rfl (by decide) rfl (by rfl) (Nat.le_of_ble_eq_true rfl) dX4_told_34 (fun r τ9 hq => ?_)
      obtain ⟨e9, rfl⟩ := hq
      rw [e9, aP.1.2.2.1]
      have a11 := aP.1.1
      refine v_if_ne (tgt := 43) X dX4_told_37 (by decide) (fun h37 => ?_) (fun h37 => ?_)
      · skip
        have hz1 := of_decide_eq_true (bI_nz.mp h37)
        obtain ⟨k, hk, rfl, hkn⟩ := ix_of (by omega) hz1.1 hz1.2
        obtain ⟨p, hp⟩ : ∃ p, (A.1 a)[k]? = some p := ⟨(A.1 a)[k], List.getElem?_eq_getElem hk⟩
        refine v_iload_n X dX4_told_43 rfl ?_
        rcases sw_3 z with hz3 | hz3 | hz3 | hz3
        · refine v_tabOut (tgt := 96) X dX4_told_44 hz3 (by decide) ?_
          refine v_bipush (v := (-2)) X dX4_told_96 (by decide) ?_
          refine v_ret X hR dX4_told_98 rfl ?_
          have e : sp_told (nI a) (nI k) z A = (-2, A) := by
            simp only [sp_told, aN]
            rw [if_neg a0, if_pos]
            rcases hz3 with q | q
            · exact Or.inr (Or.inr (Or.inl (lt0_iff.mp q)))
            · exact Or.inr (Or.inr (Or.inr ((gt_iff (n := 2) (by decide)).mp q)))
          rw [e]
          exact ⟨rfl, hA, mO.rfl⟩
        · have hnr : ¬ (nI k < 0 ∨ nI (A.1 a).length ≤ nI k ∨ z < 0 ∨ nI 2 < z) := by
            rw [hz3]
            rintro (q | q | q | q)
            · exact hz1.1 q
            · exact hz1.2 q
            · exact absurd q (by decide)
            · exact absurd q (by decide)
          rw [hz3]
          refine v_tabIn (off := 28) (tgt := 72) X dX4_told_44 (by decide) (by decide) (by decide) (by decide) ?_
          refine v_aload X dX4_told_72 rfl ?_
          refine v_getr X fl_X4_96 (shX1_2 (by first | assumption | omega)) dX4_told_74 ?_
          refine v_iload_n X dX4_told_77 rfl ?_
          refine v_ialdE X (arX1_2 (by first | assumption | omega)) rfl (show k < 11 by omega) dX4_told_78 ?_
          refine v_ret X hR dX4_told_79 rfl ?_
          have e : sp_told (nI a) (nI k) z A = (pK p, A) := by simp only [sp_told, aN]; rw [if_neg a0, if_neg hnr, hkn, getD_of hp, hz3]; rfl
          rw [e]
          exact ⟨(aP.1.2.2.2.1 k p hp).1, hA, mO.rfl⟩
        · have hnr : ¬ (nI k < 0 ∨ nI (A.1 a).length ≤ nI k ∨ z < 0 ∨ nI 2 < z) := by
            rw [hz3]
            rintro (q | q | q | q)
            · exact hz1.1 q
            · exact hz1.2 q
            · exact absurd q (by decide)
            · exact absurd q (by decide)
          rw [hz3]
          refine v_tabIn (off := 36) (tgt := 80) X dX4_told_44 (by decide) (by decide) (by decide) (by decide) ?_
          refine v_aload X dX4_told_80 rfl ?_
          refine v_getr X fl_X4_100 (shX1_3 (by first | assumption | omega)) dX4_told_82 ?_
          refine v_iload_n X dX4_told_85 rfl ?_
          refine v_ialdE X (arX1_3 (by first | assumption | omega)) rfl (show k < 11 by omega) dX4_told_86 ?_
          refine v_ret X hR dX4_told_87 rfl ?_
          have e : sp_told (nI a) (nI k) z A = (pA p, A) := by simp only [sp_told, aN]; rw [if_neg a0, if_neg hnr, hkn, getD_of hp, hz3]; rfl
          rw [e]
          exact ⟨(aP.1.2.2.2.1 k p hp).2.1, hA, mO.rfl⟩
        · have hnr : ¬ (nI k < 0 ∨ nI (A.1 a).length ≤ nI k ∨ z < 0 ∨ nI 2 < z) := by
            rw [hz3]
            rintro (q | q | q | q)
            · exact hz1.1 q
            · exact hz1.2 q
            · exact absurd q (by decide)
            · exact absurd q (by decide)
          rw [hz3]
          refine v_tabIn (off := 44) (tgt := 88) X dX4_told_44 (by decide) (by decide) (by decide) (by decide) ?_
          refine v_aload X dX4_told_88 rfl ?_
          refine v_getr X fl_X4_103 (shX1_4 (by first | assumption | omega)) dX4_told_90 ?_
          refine v_iload_n X dX4_told_93 rfl ?_
          refine v_ialdE X (arX1_4 (by first | assumption | omega)) rfl (show k < 11 by omega) dX4_told_94 ?_
          refine v_ret X hR dX4_told_95 rfl ?_
          have e : sp_told (nI a) (nI k) z A = (pB p, A) := by simp only [sp_told, aN]; rw [if_neg a0, if_neg hnr, hkn, getD_of hp, hz3]; rfl
          rw [e]
          exact ⟨(aP.1.2.2.2.1 k p hp).2.2, hA, mO.rfl⟩
      · skip
        have hz1 := of_decide_eq_false (bI_z.mp h37)
        have hz2 : y < 0 ∨ nI (A.1 a).length ≤ y := by
          rcases Decidable.em (y < 0) with q | q
          · exact Or.inl q
          · rcases Decidable.em (nI (A.1 a).length ≤ y) with q2 | q2
            · exact Or.inr q2
            · exact absurd ⟨q, q2⟩ hz1
        refine v_bipush (v := (-2)) X dX4_told_40 (by decide) ?_
        refine v_ret X hR dX4_told_42 rfl ?_
        have e : sp_told (nI a) y z A = (-2, A) := by simp only [sp_told, aN]; rw [if_neg a0, if_pos (hz2.elim Or.inl (fun q => Or.inr (Or.inl q)))]
        rw [e]
        exact ⟨rfl, hA, mO.rfl⟩
    · skip
      have a0 : (A.1 a).length = 0 := of_decide_eq_true (bI_nz.mp h14)
      refine v_bipush (v := (-3)) X dX4_told_17 (by decide) ?_
      refine v_ret X hR dX4_told_19 rfl ?_
      have e : sp_told (nI a) y z A = (-3, A) := by simp only [sp_told, aN]; rw [if_pos a0]
      rw [e]
      exact ⟨rfl, hA, mO.rfl⟩
  · skip
    have an := slot_f (bI_z.mp h4)
    refine v_iconst (v := (-1)) X dX4_told_7 (by decide) ?_
    refine v_ret X hR dX4_told_8 rfl ?_
    have e : sp_told x y z A = (-1, A) := by simp [sp_told, an]
    rw [e]
    exact ⟨rfl, hA, mO.rfl⟩
