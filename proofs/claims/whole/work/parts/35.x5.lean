set_option maxHeartbeats 4000000 in
set_option maxRecDepth 100000 in
theorem x_worlds (G : GT) {σ : Sg} {A : ASt} (hA : cR σ A) (x y : Int32) : MC G yX4_worlds cX4_worlds 3 .int 4 [.ref (G.2.2.1 155), .int x, .int y] σ (fun r τ => r = (sp_worlds x y A).1 ∧ cR τ (sp_worlds x y A).2 ∧ mO σ τ) := by
  refine MC_of (by decide) (ca1 rfl (ca1 rfl (ca1 rfl ca0))) (Nat.le_of_ble_eq_true rfl) ?_
  intro Z X hR
  show V G Z σ 0 [some (.ref (G.2.2.1 155)), some (.int x), some (.int y)] []
  refine v_iload_n X dX4_worlds_0 rfl ?_
  refine v_cals X (c_isSlot G _) cs_X4_55 (by decide) rfl (by rfl) (Nat.le_of_ble_eq_true rfl) dX4_worlds_1 (fun r τ9 hq => ?_)
  obtain ⟨e9, rfl⟩ := hq
  rw [e9]
  refine v_if_ne (tgt := 9) X dX4_worlds_4 (by decide) (fun h4 => ?_) (fun h4 => ?_)
  · skip
    obtain ⟨a, a6, rfl, aN⟩ := slot_t (bI_nz.mp h4)
    have aP := hA.1 a (by omega)
    refine v_iload_n X dX4_worlds_9 rfl ?_
    refine v_if_lt (tgt := 18) X dX4_worlds_10 (by decide) (fun h10 => ?_) (fun h10 => ?_)
    · skip
      refine v_bipush (v := (-2)) X dX4_worlds_18 (by decide) ?_
      refine v_ret X hR dX4_worlds_20 rfl ?_
      have e : sp_worlds (nI a) y A = (-2, A) := by simp only [sp_worlds, aN]; rw [if_pos (Or.inl h10)]
      rw [e]
      exact ⟨rfl, hA, mO.rfl⟩
    · skip
      refine v_iload_n X dX4_worlds_13 rfl ?_
      refine v_iconst (v := nI 5) X dX4_worlds_14 (by decide) ?_
      refine v_icmp_le (tgt := 21) X dX4_worlds_15 (by decide) (fun h15 => ?_) (fun h15 => ?_)
      · skip
        refine v_aload_n X dX4_worlds_21 rfl ?_
        refine v_iload_n X dX4_worlds_22 rfl ?_
        have hr : ¬ (y < 0 ∨ nI 5 < y) := fun z => z.elim h10 (le_nl h15)
        obtain ⟨w, hw, rfl, hwn⟩ := ix_of (x := y) (n := 6) (by decide) h10 (fun z => absurd (Int32.le_trans z h15) (by decide))
        refine v_cali X (c_isEmpty G a6 aP) cv_X4_71 obX4 rfl (by decide) rfl (by rfl) (Nat.le_of_ble_eq_true rfl) dX4_worlds_23 (fun r τ9 hq => ?_)
        obtain ⟨e9, rfl⟩ := hq
        rw [e9]
        refine v_if_eq (tgt := 32) X dX4_worlds_26 (by decide) (fun h26 => ?_) (fun h26 => ?_)
        · skip
          have a0 : ¬ (A.1 a).length = 0 := of_decide_eq_false (bI_z.mp h26)
          have ap : 0 < (A.1 a).length := by omega
          refine v_aload_n X dX4_worlds_32 rfl ?_
          refine v_getr X fl_X4_44 shX4_6 dX4_worlds_33 ?_
          refine v_aload_n X dX4_worlds_36 rfl ?_
          refine v_getr X fl_X4_10 shX4_0 dX4_worlds_37 ?_
          refine v_getr X fl_X4_74 (shX2_0 (by first | assumption | omega)) dX4_worlds_40 ?_
          refine v_iload_n X dX4_worlds_43 rfl ?_
          refine v_aaldE X (arX2_0 (by first | assumption | omega)) (Or.inl rfl) rfl (by first | assumption | omega) dX4_worlds_44 ?_
          refine v_refe (show _ = 7 * a from by omega) ?_
          obtain ⟨F, hF⟩ := hA.2.2.2.2.2
          refine v_calv X (c_turnTo G (i := a) (by omega) hF aP ap) cv_X4_120 obX0 rfl (by decide) rfl (by rfl) (Nat.le_of_ble_eq_true rfl) dX4_worlds_45 (fun τ1 hp => ?_)
          obtain ⟨b1, b2⟩ := hp
          obtain ⟨f, e, c1, c2⟩ := b2.2 ap
          have hm : mO σ τ1 := fun i hi => b1 i (by omega)
          have hcr := cR_fT hA b1 b2
          have al := aP.1.1
          refine v_iload_n X dX4_worlds_48 rfl ?_
          rcases (show w = 0 ∨ w = 1 ∨ w = 2 ∨ w = 3 ∨ w = 4 ∨ w = 5 by omega) with rfl | rfl | rfl | rfl | rfl | rfl
          · refine v_tabIn (off := 35) (tgt := 84) X dX4_worlds_49 (by decide) (by decide) (by decide) (by decide) ?_
            refine v_aload_n X dX4_worlds_84 rfl ?_
            refine v_getr X fl_X4_44 shX4_6 dX4_worlds_85 ?_
            refine v_cali X (c_fsize G c1 c2) cv_X4_128 obX0 rfl (by decide) rfl (by rfl) (Nat.le_of_ble_eq_true rfl) dX4_worlds_88 (fun r τ9 hq => ?_)
            obtain ⟨e9, rfl⟩ := hq
            rw [e9]
            refine v_ret X hR dX4_worlds_91 rfl ?_
            have e : sp_worlds (nI a) (nI 0) A = (nI (wlK (A.1 a)).length, A) := by simp only [sp_worlds, aN]; rw [if_neg (by decide), if_neg a0]; rfl
            rw [e]
            exact ⟨rfl, hcr, hm⟩
          · refine v_tabIn (off := 43) (tgt := 92) X dX4_worlds_49 (by decide) (by decide) (by decide) (by decide) ?_
            refine v_aload_n X dX4_worlds_92 rfl ?_
            refine v_getr X fl_X4_44 shX4_6 dX4_worlds_93 ?_
            refine v_cali X (c_refuting G c1 c2 b2.1.1 ap) cv_X4_130 obX0 rfl (by decide) rfl (by rfl) (Nat.le_of_ble_eq_true rfl) dX4_worlds_96 (fun r τ9 hq => ?_)
            obtain ⟨e9, rfl⟩ := hq
            rw [e9]
            refine v_ret X hR dX4_worlds_99 rfl ?_
            have e : sp_worlds (nI a) (nI 1) A = (nI (nrf (wlK (A.1 a)) ((A.1 a).length - 1)), A) := by simp only [sp_worlds, aN]; rw [if_neg (by decide), if_neg a0]; rfl
            rw [e]
            exact ⟨rfl, hcr, hm⟩
          · refine v_tabIn (off := 51) (tgt := 100) X dX4_worlds_49 (by decide) (by decide) (by decide) (by decide) ?_
            refine v_aload_n X dX4_worlds_100 rfl ?_
            refine v_getr X fl_X4_44 shX4_6 dX4_worlds_101 ?_
            refine v_cali X (c_leastRefuting G c1 c2 b2.1.1 ap) cv_X4_133 obX0 rfl (by decide) rfl (by rfl) (Nat.le_of_ble_eq_true rfl) dX4_worlds_104 (fun r τ9 hq => ?_)
            obtain ⟨e9, rfl⟩ := hq
            rw [e9]
            refine v_ret X hR dX4_worlds_107 rfl ?_
            have e : sp_worlds (nI a) (nI 2) A = (lrf (wlK (A.1 a)) ((A.1 a).length - 1), A) := by simp only [sp_worlds, aN]; rw [if_neg (by decide), if_neg a0]; rfl
            rw [e]
            exact ⟨rfl, hcr, hm⟩
          · refine v_tabIn (off := 59) (tgt := 108) X dX4_worlds_49 (by decide) (by decide) (by decide) (by decide) ?_
            refine v_aload_n X dX4_worlds_108 rfl ?_
            refine v_getr X fl_X4_44 shX4_6 dX4_worlds_109 ?_
            refine v_cali X (c_highest G c1 c2) cv_X4_136 obX0 rfl (by decide) rfl (by rfl) (Nat.le_of_ble_eq_true rfl) dX4_worlds_112 (fun r τ9 hq => ?_)
            obtain ⟨e9, rfl⟩ := hq
            rw [e9]
            refine v_ret X hR dX4_worlds_115 rfl ?_
            have e : sp_worlds (nI a) (nI 3) A = (nI (ctB (fun i => decide (kh (wlK (A.1 a)) i = 0)) (wlK (A.1 a)).length), A) := by simp only [sp_worlds, aN]; rw [if_neg (by decide), if_neg a0]; rfl
            rw [e]
            exact ⟨rfl, hcr, hm⟩
          · refine v_tabIn (off := 67) (tgt := 116) X dX4_worlds_49 (by decide) (by decide) (by decide) (by decide) ?_
            refine v_aload_n X dX4_worlds_116 rfl ?_
            refine v_getr X fl_X4_44 shX4_6 dX4_worlds_117 ?_
            refine v_cali X (c_greatestHeight G c1 c2) cv_X4_139 obX0 rfl (by decide) rfl (by rfl) (Nat.le_of_ble_eq_true rfl) dX4_worlds_120 (fun r τ9 hq => ?_)
            obtain ⟨e9, rfl⟩ := hq
            rw [e9]
            refine v_ret X hR dX4_worlds_123 rfl ?_
            have e : sp_worlds (nI a) (nI 4) A = (nI (mxB (kh (wlK (A.1 a))) (wlK (A.1 a)).length), A) := by simp only [sp_worlds, aN]; rw [if_neg (by decide), if_neg a0]; rfl
            rw [e]
            exact ⟨rfl, hcr, hm⟩
          · refine v_tabOut (tgt := 124) X dX4_worlds_49 (Or.inr (by decide)) (by decide) ?_
            refine v_aload_n X dX4_worlds_124 rfl ?_
            refine v_getr X fl_X4_44 shX4_6 dX4_worlds_125 ?_
            refine v_cali X (c_lowest G c1 c2 (kw_lt al)) cv_X4_142 obX0 rfl (by decide) rfl (by rfl) (Nat.le_of_ble_eq_true rfl) dX4_worlds_128 (fun r τ9 hq => ?_)
            obtain ⟨e9, rfl⟩ := hq
            rw [e9]
            refine v_ret X hR dX4_worlds_131 rfl ?_
            have e : sp_worlds (nI a) (nI 5) A = (nI (ctB (fun i => !bel (wlK (A.1 a)) i) (wlK (A.1 a)).length), A) := by simp only [sp_worlds, aN]; rw [if_neg (by decide), if_neg a0]; rfl
            rw [e]
            exact ⟨rfl, hcr, hm⟩
        · skip
          have a0 : (A.1 a).length = 0 := of_decide_eq_true (bI_nz.mp h26)
          refine v_bipush (v := (-3)) X dX4_worlds_29 (by decide) ?_
          refine v_ret X hR dX4_worlds_31 rfl ?_
          have e : sp_worlds (nI a) (nI w) A = (-3, A) := by simp only [sp_worlds, aN]; rw [if_neg hr, if_pos a0]
          rw [e]
          exact ⟨rfl, hA, mO.rfl⟩
      · skip
        refine v_bipush (v := (-2)) X dX4_worlds_18 (by decide) ?_
        refine v_ret X hR dX4_worlds_20 rfl ?_
        have e : sp_worlds (nI a) y A = (-2, A) := by simp only [sp_worlds, aN]; rw [if_pos (Or.inr (nl_le h15))]
        rw [e]
        exact ⟨rfl, hA, mO.rfl⟩
  · skip
    have an := slot_f (bI_z.mp h4)
    refine v_iconst (v := (-1)) X dX4_worlds_7 (by decide) ?_
    refine v_ret X hR dX4_worlds_8 rfl ?_
    have e : sp_worlds x y A = (-1, A) := by simp [sp_worlds, an]
    rw [e]
    exact ⟨rfl, hA, mO.rfl⟩

set_option maxHeartbeats 4000000 in
set_option maxRecDepth 100000 in
theorem x_world (G : GT) {σ : Sg} {A : ASt} (hA : cR σ A) (x y z : Int32) : MC G yX4_world cX4_world 4 .int 4 [.ref (G.2.2.1 155), .int x, .int y, .int z] σ (fun r τ => r = (sp_world x y z A).1 ∧ cR τ (sp_world x y z A).2 ∧ mO σ τ) := by
  refine MC_of (by decide) (ca1 rfl (ca1 rfl (ca1 rfl (ca1 rfl ca0)))) (Nat.le_of_ble_eq_true rfl) ?_
  intro Z X hR
  show V G Z σ 0 [some (.ref (G.2.2.1 155)), some (.int x), some (.int y), some (.int z)] []
  refine v_iload_n X dX4_world_0 rfl ?_
  refine v_cals X (c_isSlot G _) cs_X4_55 (by decide) rfl (by rfl) (Nat.le_of_ble_eq_true rfl) dX4_world_1 (fun r τ9 hq => ?_)
  obtain ⟨e9, rfl⟩ := hq
  rw [e9]
  refine v_if_ne (tgt := 9) X dX4_world_4 (by decide) (fun h4 => ?_) (fun h4 => ?_)
  · skip
    obtain ⟨a, a6, rfl, aN⟩ := slot_t (bI_nz.mp h4)
    have aP := hA.1 a (by omega)
    refine v_iload_n X dX4_world_9 rfl ?_
    refine v_if_lt (tgt := 18) X dX4_world_10 (by decide) (fun h10 => ?_) (fun h10 => ?_)
    · skip
      refine v_bipush (v := (-2)) X dX4_world_18 (by decide) ?_
      refine v_ret X hR dX4_world_20 rfl ?_
      have e : sp_world (nI a) y z A = (-2, A) := by simp only [sp_world, aN]; rw [if_pos (Or.inl h10)]
      rw [e]
      exact ⟨rfl, hA, mO.rfl⟩
    · skip
      refine v_iload_n X dX4_world_13 rfl ?_
      refine v_iconst (v := nI 2) X dX4_world_14 (by decide) ?_
      refine v_icmp_le (tgt := 21) X dX4_world_15 (by decide) (fun h15 => ?_) (fun h15 => ?_)
      · skip
        refine v_aload_n X dX4_world_21 rfl ?_
        refine v_iload_n X dX4_world_22 rfl ?_
        have hr : ¬ (z < 0 ∨ nI 2 < z) := fun q => q.elim h10 (le_nl h15)
        obtain ⟨w, hw, rfl, hwn⟩ := ix_of (x := z) (n := 3) (by decide) h10 (fun q => absurd (Int32.le_trans q h15) (by decide))
        refine v_cali X (c_isEmpty G a6 aP) cv_X4_71 obX4 rfl (by decide) rfl (by rfl) (Nat.le_of_ble_eq_true rfl) dX4_world_23 (fun r τ9 hq => ?_)
        obtain ⟨e9, rfl⟩ := hq
        rw [e9]
        refine v_if_eq (tgt := 32) X dX4_world_26 (by decide) (fun h26 => ?_) (fun h26 => ?_)
        · skip
          have a0 : ¬ (A.1 a).length = 0 := of_decide_eq_false (bI_z.mp h26)
          have ap : 0 < (A.1 a).length := by omega
          refine v_aload_n X dX4_world_32 rfl ?_
          refine v_getr X fl_X4_44 shX4_6 dX4_world_33 ?_
          refine v_aload_n X dX4_world_36 rfl ?_
          refine v_getr X fl_X4_10 shX4_0 dX4_world_37 ?_
          refine v_getr X fl_X4_74 (shX2_0 (by first | assumption | omega)) dX4_world_40 ?_
          refine v_iload_n X dX4_world_43 rfl ?_
          refine v_aaldE X (arX2_0 (by first | assumption | omega)) (Or.inl rfl) rfl (by first | assumption | omega) dX4_world_44 ?_
          refine v_refe (show _ = 7 * a from by omega) ?_
          obtain ⟨F, hF⟩ := hA.2.2.2.2.2
          refine v_calv X (c_turnTo G (i := a) (by omega) hF aP ap) cv_X4_120 obX0 rfl (by decide) rfl (by rfl) (Nat.le_of_ble_eq_true rfl) dX4_world_45 (fun τ1 hp => ?_)
          obtain ⟨b1, b2⟩ := hp
          obtain ⟨f, e, c1, c2⟩ := b2.2 ap
          have hm : mO σ τ1 := fun i hi => b1 i (by omega)
          have hcr := cR_fT hA b1 b2
          have al := aP.1.1
          refine v_iload_n X dX4_world_48 rfl ?_
          refine v_if_lt (tgt := 63) X dX4_world_49 (by decide) (fun h49 => ?_) (fun h49 => ?_)
          · skip
            refine v_bipush (v := (-6)) X dX4_world_63 (by decide) ?_
            refine v_ret X hR dX4_world_65 rfl ?_
            have e : sp_world (nI a) y (nI w) A = (-6, A) := by simp only [sp_world, aN]; rw [if_neg hr, if_neg a0, if_pos (Or.inl h49)]
            rw [e]
            exact ⟨rfl, hcr, hm⟩
          · skip
            refine v_iload_n X dX4_world_52 rfl ?_
            refine v_aload_n X dX4_world_53 rfl ?_
            refine v_getr X fl_X4_44 shX4_6 dX4_world_54 ?_
            refine v_cali X (c_fsize G c1 c2) cv_X4_128 obX0 rfl (by decide) rfl (by rfl) (Nat.le_of_ble_eq_true rfl) dX4_world_57 (fun r τ9 hq => ?_)
            obtain ⟨e9, rfl⟩ := hq
            rw [e9]
            have hkl : (wlK (A.1 a)).length ≤ 2048 := by have := c1.1; omega
            refine v_icmp_lt (tgt := 66) X dX4_world_60 (by decide) (fun h60 => ?_) (fun h60 => ?_)
            · skip
              obtain ⟨i, hi, rfl, hin⟩ := ix_of (by omega) h49 (lt_nl h60)
              have hi2 : ¬ (nI i < 0 ∨ nI (wlK (A.1 a)).length ≤ nI i) := fun q => q.elim h49 (lt_nl h60)
              refine v_iload_n X dX4_world_66 rfl ?_
              rcases (show w = 0 ∨ w = 1 ∨ w = 2 by omega) with rfl | rfl | rfl
              · refine v_lookup (off := 25) (tgt := 92) X dX4_world_67 (by decide) (by decide) (by decide) ?_
                refine v_aload_n X dX4_world_92 rfl ?_
                refine v_getr X fl_X4_44 shX4_6 dX4_world_93 ?_
                refine v_iload_n X dX4_world_96 rfl ?_
                refine v_cali X (c_setAt G c1 c2 hi) cv_X4_145 obX0 rfl (by decide) rfl (by rfl) (Nat.le_of_ble_eq_true rfl) dX4_world_97 (fun r τ9 hq => ?_)
                obtain ⟨e9, rfl⟩ := hq
                rw [e9]
                refine v_ret X hR dX4_world_100 rfl ?_
                have e : sp_world (nI a) (nI i) (nI 0) A = (nI (kw (wlK (A.1 a)) i), A) := by simp only [sp_world, aN]; rw [if_neg (by decide), if_neg a0, if_neg hi2, hin]; rfl
                rw [e]
                exact ⟨rfl, hcr, hm⟩
              · refine v_lookup (off := 34) (tgt := 101) X dX4_world_67 (by decide) (by decide) (by decide) ?_
                refine v_aload_n X dX4_world_101 rfl ?_
                refine v_getr X fl_X4_44 shX4_6 dX4_world_102 ?_
                refine v_iload_n X dX4_world_105 rfl ?_
                refine v_cali X (c_above G c1 c2 (kw_lt al) hi) cv_X4_148 obX0 rfl (by decide) rfl (by rfl) (Nat.le_of_ble_eq_true rfl) dX4_world_106 (fun r τ9 hq => ?_)
                obtain ⟨e9, rfl⟩ := hq
                rw [e9]
                refine v_ret X hR dX4_world_109 rfl ?_
                have e : sp_world (nI a) (nI i) (nI 1) A = (nI (nab (wlK (A.1 a)) i), A) := by simp only [sp_world, aN]; rw [if_neg (by decide), if_neg a0, if_neg hi2, hin]; rfl
                rw [e]
                exact ⟨rfl, hcr, hm⟩
              · refine v_lookup (off := 43) (tgt := 110) X dX4_world_67 (by decide) (by decide) (by decide) ?_
                refine v_aload_n X dX4_world_110 rfl ?_
                refine v_getr X fl_X4_44 shX4_6 dX4_world_111 ?_
                refine v_iload_n X dX4_world_114 rfl ?_
                refine v_cali X (c_heightAt G c1 c2 hi) cv_X4_151 obX0 rfl (by decide) rfl (by rfl) (Nat.le_of_ble_eq_true rfl) dX4_world_115 (fun r τ9 hq => ?_)
                obtain ⟨e9, rfl⟩ := hq
                rw [e9]
                refine v_ret X hR dX4_world_118 rfl ?_
                have e : sp_world (nI a) (nI i) (nI 2) A = (nI (kh (wlK (A.1 a)) i), A) := by simp only [sp_world, aN]; rw [if_neg (by decide), if_neg a0, if_neg hi2, hin]; rfl
                rw [e]
                exact ⟨rfl, hcr, hm⟩
            · skip
              refine v_bipush (v := (-6)) X dX4_world_63 (by decide) ?_
              refine v_ret X hR dX4_world_65 rfl ?_
              have e : sp_world (nI a) y (nI w) A = (-6, A) := by simp only [sp_world, aN]; rw [if_neg hr, if_neg a0, if_pos (Or.inr (nlt_le h60))]
              rw [e]
              exact ⟨rfl, hcr, hm⟩
        · skip
          have a0 : (A.1 a).length = 0 := of_decide_eq_true (bI_nz.mp h26)
          refine v_bipush (v := (-3)) X dX4_world_29 (by decide) ?_
          refine v_ret X hR dX4_world_31 rfl ?_
          have e : sp_world (nI a) y (nI w) A = (-3, A) := by simp only [sp_world, aN]; rw [if_neg hr, if_pos a0]
          rw [e]
          exact ⟨rfl, hA, mO.rfl⟩
      · skip
        refine v_bipush (v := (-2)) X dX4_world_18 (by decide) ?_
        refine v_ret X hR dX4_world_20 rfl ?_
        have e : sp_world (nI a) y z A = (-2, A) := by simp only [sp_world, aN]; rw [if_pos (Or.inr (nl_le h15))]
        rw [e]
        exact ⟨rfl, hA, mO.rfl⟩
  · skip
    have an := slot_f (bI_z.mp h4)
    refine v_iconst (v := (-1)) X dX4_world_7 (by decide) ?_
    refine v_ret X hR dX4_world_8 rfl ?_
    have e : sp_world x y z A = (-1, A) := by simp [sp_world, an]
    rw [e]
    exact ⟨rfl, hA, mO.rfl⟩

theorem cR_shelf {σ τ : Sg} {A : ASt} {a : Nat} {S : Nat → Sen} {kp : Nat} (ha : a < 3) (h : cR σ A) (ho : offR (42 * a) (42 * a + 42) σ τ) (hS : ∀ x, x < 6 → hz τ (6 * a + x) (S (6 * a + x))) (hr : ∀ j, j < 18 → (j < 6 * a ∨ 6 * a + 6 ≤ j) → S j = A.1 j) : cR τ (S, A.2) := by
  obtain ⟨a1, a2, a3, a4, a5, P, a6⟩ := h
  refine ⟨fun j hj => ?_, tX_cong a2 (by rw [ho 147 (by omega)]) (ho 148 (by omega)), by rw [ho 155 (by omega)]; exact a3, by rw [ho 155 (by omega)]; exact a4, a5, P, frm_cong a6 (fun i _ _ => ho i (by omega)) (fun i _ _ => ho i (by omega))⟩
  by_cases hin : 6 * a ≤ j ∧ j < 6 * a + 6
  · have := hS (j - 6 * a) (by omega)
    rw [show 6 * a + (j - 6 * a) = j by omega] at this
    exact this
  · show hz τ j (S j)
    rw [hr j hj (by omega)]
    exact hz_offR (a1 j hj) ho (by omega)
theorem cR_kept {σ : Sg} {A : ASt} {v : Nat} (h : cR σ A) (hv : v < 4) : cR (s2 σ 155 2 (nI v)) (A.1, A.2.1, A.2.2.1, v) := by
  obtain ⟨a1, a2, a3, a4, a5, P, a6⟩ := h
  refine ⟨fun k hk => ?_, tX_cong a2 (by rw [s2_nc (by decide)]) (s2_nc (by decide)), by rw [s2_ap, if_neg (by decide)]; exact a3, s2_at _ _ _ _, hv, P, frm_cong a6 (fun i _ _ => s2_nc (by omega)) (fun i _ _ => s2_nc (by omega))⟩
  exact ⟨hs_cong (a1 k hk).1 (by rw [s2_nc (by omega)]) (fun q _ _ => s2_nc (by omega)), by rw [s2_nc (by omega)]; exact (a1 k hk).2⟩
set_option maxHeartbeats 4000000 in
set_option maxRecDepth 100000 in
theorem x_image (G : GT) {σ : Sg} {A : ASt} (hA : cR σ A) (x : Int32) : MC G yX4_image cX4_image 2 .int 2 [.ref (G.2.2.1 155), .int x] σ (fun r τ => r = (sp_image x A).1 ∧ cR τ (sp_image x A).2 ∧ mO σ τ) := by
  refine MC_of (by decide) (ca1 rfl (ca1 rfl ca0)) (Nat.le_of_ble_eq_true rfl) ?_
  intro Z X hR
  show V G Z σ 0 [some (.ref (G.2.2.1 155)), some (.int x)] []
  refine v_iload_n X dX4_image_0 rfl ?_
  refine v_cals X (c_isImage G _) cs_X4_154 (by decide) rfl (by rfl) (Nat.le_of_ble_eq_true rfl) dX4_image_1 (fun r τ9 hq => ?_)
  obtain ⟨e9, rfl⟩ := hq
  rw [e9]
  refine v_if_ne (tgt := 10) X dX4_image_4 (by decide) (fun h4 => ?_) (fun h4 => ?_)
  · skip
    have hx := of_decide_eq_true (bI_nz.mp h4)
    obtain ⟨k, hk, rfl, hkn⟩ := ix_of (n := 2) (by decide) hx.1 hx.2
    have hx2 : ¬ (nI k < 0 ∨ nI 2 ≤ nI k) := fun q => q.elim hx.1 hx.2
    refine v_aload_n X dX4_image_10 rfl ?_
    refine v_getr X fl_X4_16 shX4_1 dX4_image_11 ?_
    refine v_iload_n X dX4_image_14 rfl ?_
    refine v_aaldE X arX4_1 (Or.inr rfl) rfl (by first | assumption | omega) dX4_image_15 ?_
    refine v_aload_n X dX4_image_16 rfl ?_
    refine v_getr X fl_X4_10 shX4_0 dX4_image_17 ?_
    refine v_calv X (c_shelfCopy G (a := k + 1) (b := 0) (by omega) (by decide) (by omega) (PS := A.1) (fun x hx => by have := hA.1 x (by omega); rw [show 6 * 0 + x = x by omega]; exact this)) cv_X4_157 (obX2 (by first | assumption | omega)) rfl (by decide) rfl (by rfl) (Nat.le_of_ble_eq_true rfl) dX4_image_20 (fun τ hp => ?_)
    obtain ⟨g1, g2⟩ := hp
    have hA1 : cR τ ((fun j => if 6 + 6 * k ≤ j ∧ j < 12 + 6 * k then A.1 (j - (6 + 6 * k)) else A.1 j), A.2) := cR_shelf (kp := 0) (a := k + 1) (by omega) hA g1 (fun x hx => by
      have := g2 x hx
      show hz τ (6 * (k + 1) + x) (if _ then _ else _)
      rw [if_pos (by omega), show 6 * (k + 1) + x - (6 + 6 * k) = x by omega]
      exact this) (fun j hj hjr => if_neg (by omega))
    have hm1 : mO σ τ := fun i hi => g1 i (by omega)
    refine v_aload_n X dX4_image_23 rfl ?_
    refine v_dup X dX4_image_24 rfl ?_
    refine v_geti X fl_X4_20 shX4_2 dX4_image_25 ?_
    rw [g1 155 (by omega), hA.2.2.2.1]
    refine v_iconst (v := nI 1) X dX4_image_28 (by decide) ?_
    refine v_iload_n X dX4_image_29 rfl ?_
    refine v_ishl X dX4_image_30 ?_
    refine v_top (nb_shl (by omega)) ?_
    refine v_ior X dX4_image_31 ?_
    refine v_top (nb_or _ _) ?_
    have hv : A.2.2.2 ||| 2 ^ k < 4 := Nat.or_lt_two_pow (n := 2) hA.2.2.2.2.1 (Nat.pow_lt_pow_right (by decide) hk)
    refine v_puti X fw_X4_20 shX4_2 dX4_image_32 rfl rfl ?_
    refine v_iconst (v := nI 1) X dX4_image_35 (by decide) ?_
    refine v_ret X hR dX4_image_36 rfl ?_
    have e : sp_image (nI k) A = (nI 1, ((fun j => if 6 + 6 * k ≤ j ∧ j < 12 + 6 * k then A.1 (j - (6 + 6 * k)) else A.1 j), A.2.1, A.2.2.1, A.2.2.2 ||| 2 ^ k)) := by rw [sp_image, if_neg hx2, hkn]
    rw [e]
    exact ⟨rfl, cR_kept hA1 hv, hm1.trans (fun i hi => s2_nc (by omega))⟩
  · skip
    have hx := of_decide_eq_false (bI_z.mp h4)
    have hx2 : x < 0 ∨ nI 2 ≤ x := by
      rcases Decidable.em (x < 0) with q | q
      · exact Or.inl q
      · rcases Decidable.em (nI 2 ≤ x) with q2 | q2
        · exact Or.inr q2
        · exact absurd ⟨q, q2⟩ hx
    refine v_bipush (v := (-2)) X dX4_image_7 (by decide) ?_
    refine v_ret X hR dX4_image_9 rfl ?_
    have e : sp_image x A = (-2, A) := by rw [sp_image, if_pos hx2]
    rw [e]
    exact ⟨rfl, hA, mO.rfl⟩

set_option maxHeartbeats 4000000 in
set_option maxRecDepth 100000 in
theorem x_restore (G : GT) {σ : Sg} {A : ASt} (hA : cR σ A) (x : Int32) : MC G yX4_restore cX4_restore 2 .int 2 [.ref (G.2.2.1 155), .int x] σ (fun r τ => r = (sp_restore x A).1 ∧ cR τ (sp_restore x A).2 ∧ mO σ τ) := by
  refine MC_of (by decide) (ca1 rfl (ca1 rfl ca0)) (Nat.le_of_ble_eq_true rfl) ?_
  intro Z X hR
  show V G Z σ 0 [some (.ref (G.2.2.1 155)), some (.int x)] []
  refine v_iload_n X dX4_restore_0 rfl ?_
  refine v_cals X (c_isImage G _) cs_X4_154 (by decide) rfl (by rfl) (Nat.le_of_ble_eq_true rfl) dX4_restore_1 (fun r τ9 hq => ?_)
  obtain ⟨e9, rfl⟩ := hq
  rw [e9]
  refine v_if_ne (tgt := 10) X dX4_restore_4 (by decide) (fun h4 => ?_) (fun h4 => ?_)
  · skip
    have hx := of_decide_eq_true (bI_nz.mp h4)
    obtain ⟨k, hk, rfl, hkn⟩ := ix_of (n := 2) (by decide) hx.1 hx.2
    have hx2 : ¬ (nI k < 0 ∨ nI 2 ≤ nI k) := fun q => q.elim hx.1 hx.2
    refine v_aload_n X dX4_restore_10 rfl ?_
    refine v_geti X fl_X4_20 shX4_2 dX4_restore_11 ?_
    rw [hA.2.2.2.1]
    refine v_iload_n X dX4_restore_14 rfl ?_
    refine v_cals X (c_has G A.2.2.2 (k := k) (by omega)) cs_X4_161 (by decide) rfl (by rfl) (Nat.le_of_ble_eq_true rfl) dX4_restore_15 (fun r τ9 hq => ?_)
    obtain ⟨e9, rfl⟩ := hq
    rw [e9]
    refine v_if_ne (tgt := 24) X dX4_restore_18 (by decide) (fun h18 => ?_) (fun h18 => ?_)
    · skip
      have hb := bI_nz.mp h18
      refine v_aload_n X dX4_restore_24 rfl ?_
      refine v_getr X fl_X4_10 shX4_0 dX4_restore_25 ?_
      refine v_aload_n X dX4_restore_28 rfl ?_
      refine v_getr X fl_X4_16 shX4_1 dX4_restore_29 ?_
      refine v_iload_n X dX4_restore_32 rfl ?_
      refine v_aaldE X arX4_1 (Or.inr rfl) rfl (by first | assumption | omega) dX4_restore_33 ?_
      refine v_calv X (c_shelfCopy G (a := 0) (b := k + 1) (by decide) (by omega) (by omega) (PS := fun x => A.1 (6 + 6 * k + x)) (fun x hx => by have := hA.1 (6 + 6 * k + x) (by omega); rw [show 6 * (k + 1) + x = 6 + 6 * k + x by omega]; exact this)) cv_X4_157 (obX2 (by first | assumption | omega)) rfl (by decide) rfl (by rfl) (Nat.le_of_ble_eq_true rfl) dX4_restore_34 (fun τ hp => ?_)
      obtain ⟨g1, g2⟩ := hp
      have hA1 : cR τ ((fun j => if j < 6 then A.1 (6 + 6 * k + j) else A.1 j), A.2) := cR_shelf (kp := 0) (a := 0) (by decide) hA g1 (fun x hx => by
        have := g2 x hx
        rw [show 6 * 0 + x = x by omega] at this ⊢
        show hz τ x (if _ then _ else _)
        rw [if_pos hx]
        exact this) (fun j hj hjr => if_neg (by omega))
      have hm1 : mO σ τ := fun i hi => g1 i (by omega)
      refine v_iconst (v := nI 1) X dX4_restore_37 (by decide) ?_
      refine v_ret X hR dX4_restore_38 rfl ?_
      have e : sp_restore (nI k) A = (nI 1, ((fun j => if j < 6 then A.1 (6 + 6 * k + j) else A.1 j), A.2)) := by rw [sp_restore, if_neg hx2, hkn, if_neg (by rw [hb]; decide)]
      rw [e]
      exact ⟨rfl, hA1, hm1⟩
    · skip
      have hb := bI_z.mp h18
      refine v_bipush (v := (-3)) X dX4_restore_21 (by decide) ?_
      refine v_ret X hR dX4_restore_23 rfl ?_
      have e : sp_restore (nI k) A = (-3, A) := by rw [sp_restore, if_neg hx2, hkn, if_pos hb]
      rw [e]
      exact ⟨rfl, hA, mO.rfl⟩
  · skip
    have hx := of_decide_eq_false (bI_z.mp h4)
    have hx2 : x < 0 ∨ nI 2 ≤ x := by
      rcases Decidable.em (x < 0) with q | q
      · exact Or.inl q
      · rcases Decidable.em (nI 2 ≤ x) with q2 | q2
        · exact Or.inr q2
        · exact absurd ⟨q, q2⟩ hx
    refine v_bipush (v := (-2)) X dX4_restore_7 (by decide) ?_
    refine v_ret X hR dX4_restore_9 rfl ?_
    have e : sp_restore x A = (-2, A) := by rw [sp_restore, if_pos hx2]
    rw [e]
    exact ⟨rfl, hA, mO.rfl⟩

