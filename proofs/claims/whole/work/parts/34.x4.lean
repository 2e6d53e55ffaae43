theorem hz_nil {σ : Sg} {j : Nat} (h0 : σ (7 * j) 0 = nI 0) (h1 : σ (7 * j) 1 = bI false) : hz σ j [] := ⟨⟨Nat.zero_le _, fun q p h => by simp at h, h0, fun q p h => by simp at h, fun q h => absurd h (Nat.not_lt_zero _)⟩, h1⟩
set_option maxHeartbeats 4000000 in
set_option maxRecDepth 100000 in
theorem x_drop (G : GT) {σ : Sg} {A : ASt} (hA : cR σ A) (x : Int32) : MC G yX4_drop cX4_drop 3 .int 1 [.ref (G.2.2.1 155), .int x] σ (fun r τ => r = (sp_drop x A).1 ∧ cR τ (sp_drop x A).2 ∧ mO σ τ) := by
  refine MC_of (by decide) (ca1 rfl (ca1 rfl ca0)) (Nat.le_of_ble_eq_true rfl) ?_
  intro Z X hR
  show V G Z σ 0 [some (.ref (G.2.2.1 155)), some (.int x), none] []
  refine v_iload_n X dX4_drop_0 rfl ?_
  refine v_cals X (c_isSlot G _) cs_X4_55 (by decide) rfl (by rfl) (Nat.le_of_ble_eq_true rfl) dX4_drop_1 (fun r τ9 hq => ?_)
  obtain ⟨e9, rfl⟩ := hq
  rw [e9]
  refine v_if_ne (tgt := 9) X dX4_drop_4 (by decide) (fun h4 => ?_) (fun h4 => ?_)
  · skip
    obtain ⟨a, a6, rfl, aN⟩ := slot_t (bI_nz.mp h4)
    have aP := hA.1 a (by omega)
    refine v_aload_n X dX4_drop_9 rfl ?_
    refine v_iload_n X dX4_drop_10 rfl ?_
    refine v_cali X (c_isEmpty G a6 aP) cv_X4_71 obX4 rfl (by decide) rfl (by rfl) (Nat.le_of_ble_eq_true rfl) dX4_drop_11 (fun r τ9 hq => ?_)
    obtain ⟨e9, rfl⟩ := hq
    rw [e9]
    refine v_if_eq (tgt := 21) X dX4_drop_14 (by decide) (fun h14 => ?_) (fun h14 => ?_)
    · skip
      have a0 : ¬ (A.1 a).length = 0 := of_decide_eq_false (bI_z.mp h14)
      have ap : 0 < (A.1 a).length := by omega
      refine v_iconst (v := nI 1) X dX4_drop_21 (by decide) ?_
      refine v_istore_n X dX4_drop_22 (Nat.le_of_ble_eq_true rfl) ?_
      show V G Z _ 23 [_, _, _] _
      refine v_aload_n X dX4_drop_23 rfl ?_
      refine v_getr X fl_X4_10 shX4_0 dX4_drop_24 ?_
      refine v_getr X fl_X4_74 (shX2_0 (by first | assumption | omega)) dX4_drop_27 ?_
      refine v_iload_n X dX4_drop_30 rfl ?_
      refine v_aaldE X (arX2_0 (by first | assumption | omega)) (Or.inl rfl) rfl (by first | assumption | omega) dX4_drop_31 ?_
      refine v_refe (show _ = 7 * a from by omega) ?_
      refine v_calv X (c_clear G (j := a) (by omega)) cv_X4_106 (obX1 (by first | assumption | omega)) rfl (by decide) rfl (by rfl) (Nat.le_of_ble_eq_true rfl) dX4_drop_32 (fun τ hp => ?_)
      subst hp
      refine v_iload_n X dX4_drop_35 rfl ?_
      refine v_ret X hR dX4_drop_36 rfl ?_
      have e : sp_drop (nI a) A = (nI 1, (stS A.1 a [], A.2)) := by simp only [sp_drop, aN]; rw [if_neg a0]
      rw [e]
      have ho : offS a σ (s2 (s2 σ (7 * a) 0 (nI 0)) (7 * a) 1 (nI 0)) := (offS.rfl.s2 (by omega) (by omega)).s2 (by omega) (by omega)
      refine ⟨rfl, cR_slot (by omega) hA ho (hz_nil ?_ (s2_at _ _ _ _)), fun i hi => ho i (by omega)⟩
      rw [s2_ap, if_neg (by simp), s2_at]
    · skip
      have a0 : (A.1 a).length = 0 := of_decide_eq_true (bI_nz.mp h14)
      refine v_iconst (v := nI 0) X dX4_drop_17 (by decide) ?_
      refine v_goto (tgt := 22) X dX4_drop_18 (by decide) ?_
      refine v_istore_n X dX4_drop_22 (Nat.le_of_ble_eq_true rfl) ?_
      show V G Z _ 23 [_, _, _] _
      refine v_aload_n X dX4_drop_23 rfl ?_
      refine v_getr X fl_X4_10 shX4_0 dX4_drop_24 ?_
      refine v_getr X fl_X4_74 (shX2_0 (by first | assumption | omega)) dX4_drop_27 ?_
      refine v_iload_n X dX4_drop_30 rfl ?_
      refine v_aaldE X (arX2_0 (by first | assumption | omega)) (Or.inl rfl) rfl (by first | assumption | omega) dX4_drop_31 ?_
      refine v_refe (show _ = 7 * a from by omega) ?_
      refine v_calv X (c_clear G (j := a) (by omega)) cv_X4_106 (obX1 (by first | assumption | omega)) rfl (by decide) rfl (by rfl) (Nat.le_of_ble_eq_true rfl) dX4_drop_32 (fun τ hp => ?_)
      subst hp
      refine v_iload_n X dX4_drop_35 rfl ?_
      refine v_ret X hR dX4_drop_36 rfl ?_
      have e : sp_drop (nI a) A = (nI 0, (stS A.1 a [], A.2)) := by simp only [sp_drop, aN]; rw [if_pos a0]
      rw [e]
      have ho : offS a σ (s2 (s2 σ (7 * a) 0 (nI 0)) (7 * a) 1 (nI 0)) := (offS.rfl.s2 (by omega) (by omega)).s2 (by omega) (by omega)
      refine ⟨rfl, cR_slot (by omega) hA ho (hz_nil ?_ (s2_at _ _ _ _)), fun i hi => ho i (by omega)⟩
      rw [s2_ap, if_neg (by simp), s2_at]
  · skip
    have an := slot_f (bI_z.mp h4)
    refine v_iconst (v := (-1)) X dX4_drop_7 (by decide) ?_
    refine v_ret X hR dX4_drop_8 rfl ?_
    have e : sp_drop x A = (-1, A) := by simp [sp_drop, an]
    rw [e]
    exact ⟨rfl, hA, mO.rfl⟩

set_option maxHeartbeats 4000000 in
set_option maxRecDepth 100000 in
theorem x_plain (G : GT) {σ : Sg} {A : ASt} (hA : cR σ A) (x : Int32) : MC G yX4_plain cX4_plain 2 .int 5 [.ref (G.2.2.1 155), .int x] σ (fun r τ => r = (sp_plain x A).1 ∧ cR τ (sp_plain x A).2 ∧ mO σ τ) := by
  refine MC_of (by decide) (ca1 rfl (ca1 rfl ca0)) (Nat.le_of_ble_eq_true rfl) ?_
  intro Z X hR
  show V G Z σ 0 [some (.ref (G.2.2.1 155)), some (.int x)] []
  refine v_iload_n X dX4_plain_0 rfl ?_
  refine v_cals X (c_isSlot G _) cs_X4_55 (by decide) rfl (by rfl) (Nat.le_of_ble_eq_true rfl) dX4_plain_1 (fun r τ9 hq => ?_)
  obtain ⟨e9, rfl⟩ := hq
  rw [e9]
  refine v_if_ne (tgt := 9) X dX4_plain_4 (by decide) (fun h4 => ?_) (fun h4 => ?_)
  · skip
    obtain ⟨a, a6, rfl, aN⟩ := slot_t (bI_nz.mp h4)
    have aP := hA.1 a (by omega)
    refine v_aload_n X dX4_plain_9 rfl ?_
    refine v_iload_n X dX4_plain_10 rfl ?_
    refine v_cali X (c_isEmpty G a6 aP) cv_X4_71 obX4 rfl (by decide) rfl (by rfl) (Nat.le_of_ble_eq_true rfl) dX4_plain_11 (fun r τ9 hq => ?_)
    obtain ⟨e9, rfl⟩ := hq
    rw [e9]
    refine v_if_eq (tgt := 20) X dX4_plain_14 (by decide) (fun h14 => ?_) (fun h14 => ?_)
    · skip
      have a0 : ¬ (A.1 a).length = 0 := of_decide_eq_false (bI_z.mp h14)
      have ap : 0 < (A.1 a).length := by omega
      refine v_aload_n X dX4_plain_20 rfl ?_
      refine v_aload_n X dX4_plain_21 rfl ?_
      refine v_getr X fl_X4_10 shX4_0 dX4_plain_22 ?_
      refine v_getr X fl_X4_74 (shX2_0 (by first | assumption | omega)) dX4_plain_25 ?_
      refine v_iload_n X dX4_plain_28 rfl ?_
      refine v_aaldE X (arX2_0 (by first | assumption | omega)) (Or.inl rfl) rfl (by first | assumption | omega) dX4_plain_29 ?_
      refine v_refe (show _ = 7 * a from by omega) ?_
      refine v_cali X (c_isPlain G (i := a) (by omega) hA aP ap) cv_X4_109 obX4 rfl (by decide) rfl (by rfl) (Nat.le_of_ble_eq_true rfl) dX4_plain_30 (fun r τ hp => ?_)
      obtain ⟨rfl, q1, q2, -⟩ := hp
      refine v_if_eq (tgt := 40) X dX4_plain_33 (by decide) (fun h33 => ?_) (fun h33 => ?_)
      · skip
        have hb := bI_z.mp h33
        refine v_iconst (v := nI 0) X dX4_plain_40 (by decide) ?_
        refine v_ret X hR dX4_plain_41 rfl ?_
        have e : sp_plain (nI a) A = (bI (pln (A.1 a)), A) := by simp only [sp_plain, aN]; rw [if_neg a0]
        rw [e]
        exact ⟨by rw [hb]; rfl, q1, q2⟩
      · skip
        have hb := bI_nz.mp h33
        refine v_iconst (v := nI 1) X dX4_plain_36 (by decide) ?_
        refine v_goto (tgt := 41) X dX4_plain_37 (by decide) ?_
        refine v_ret X hR dX4_plain_41 rfl ?_
        have e : sp_plain (nI a) A = (bI (pln (A.1 a)), A) := by simp only [sp_plain, aN]; rw [if_neg a0]
        rw [e]
        exact ⟨by rw [hb]; rfl, q1, q2⟩
    · skip
      have a0 : (A.1 a).length = 0 := of_decide_eq_true (bI_nz.mp h14)
      refine v_bipush (v := (-3)) X dX4_plain_17 (by decide) ?_
      refine v_ret X hR dX4_plain_19 rfl ?_
      have e : sp_plain (nI a) A = (-3, A) := by simp only [sp_plain, aN]; rw [if_pos a0]
      rw [e]
      exact ⟨rfl, hA, mO.rfl⟩
  · skip
    have an := slot_f (bI_z.mp h4)
    refine v_iconst (v := (-1)) X dX4_plain_7 (by decide) ?_
    refine v_ret X hR dX4_plain_8 rfl ?_
    have e : sp_plain x A = (-1, A) := by simp [sp_plain, an]
    rw [e]
    exact ⟨rfl, hA, mO.rfl⟩

set_option maxHeartbeats 4000000 in
set_option maxRecDepth 100000 in
theorem x_rows (G : GT) {σ : Sg} {A : ASt} (hA : cR σ A) (x : Int32) : MC G yX4_rows cX4_rows 2 .int 2 [.ref (G.2.2.1 155), .int x] σ (fun r τ => r = (sp_rows x A).1 ∧ cR τ (sp_rows x A).2 ∧ mO σ τ) := by
  refine MC_of (by decide) (ca1 rfl (ca1 rfl ca0)) (Nat.le_of_ble_eq_true rfl) ?_
  intro Z X hR
  show V G Z σ 0 [some (.ref (G.2.2.1 155)), some (.int x)] []
  refine v_iload_n X dX4_rows_0 rfl ?_
  refine v_cals X (c_isSlot G _) cs_X4_55 (by decide) rfl (by rfl) (Nat.le_of_ble_eq_true rfl) dX4_rows_1 (fun r τ9 hq => ?_)
  obtain ⟨e9, rfl⟩ := hq
  rw [e9]
  refine v_if_ne (tgt := 9) X dX4_rows_4 (by decide) (fun h4 => ?_) (fun h4 => ?_)
  · skip
    obtain ⟨a, a6, rfl, aN⟩ := slot_t (bI_nz.mp h4)
    have aP := hA.1 a (by omega)
    refine v_aload_n X dX4_rows_9 rfl ?_
    refine v_iload_n X dX4_rows_10 rfl ?_
    refine v_cali X (c_isEmpty G a6 aP) cv_X4_71 obX4 rfl (by decide) rfl (by rfl) (Nat.le_of_ble_eq_true rfl) dX4_rows_11 (fun r τ9 hq => ?_)
    obtain ⟨e9, rfl⟩ := hq
    rw [e9]
    refine v_if_eq (tgt := 20) X dX4_rows_14 (by decide) (fun h14 => ?_) (fun h14 => ?_)
    · skip
      have a0 : ¬ (A.1 a).length = 0 := of_decide_eq_false (bI_z.mp h14)
      have ap : 0 < (A.1 a).length := by omega
      refine v_aload_n X dX4_rows_20 rfl ?_
      refine v_getr X fl_X4_10 shX4_0 dX4_rows_21 ?_
      refine v_getr X fl_X4_74 (shX2_0 (by first | assumption | omega)) dX4_rows_24 ?_
      refine v_iload_n X dX4_rows_27 rfl ?_
      refine v_aaldE X (arX2_0 (by first | assumption | omega)) (Or.inl rfl) rfl (by first | assumption | omega) dX4_rows_28 ?_
      refine v_refe (show _ = 7 * a from by omega) ?_
      refine v_cali X (c_isTrueByRows G (j := a) (by omega) aP.1) cv_X4_113 (obX1 (by first | assumption | omega)) rfl (by decide) rfl (by rfl) (Nat.le_of_ble_eq_true rfl) dX4_rows_29 (fun r τ9 hq => ?_)
      obtain ⟨e9, rfl⟩ := hq
      rw [e9]
      refine v_if_eq (tgt := 39) X dX4_rows_32 (by decide) (fun h32 => ?_) (fun h32 => ?_)
      · skip
        have hb : rowT (A.1 a) = false := bI_z.mp h32
        refine v_iconst (v := nI 0) X dX4_rows_39 (by decide) ?_
        refine v_ret X hR dX4_rows_40 rfl ?_
        have e : sp_rows (nI a) A = (bI (rowT (A.1 a)), A) := by simp only [sp_rows, aN]; rw [if_neg a0]
        rw [e]
        exact ⟨by rw [hb]; rfl, hA, mO.rfl⟩
      · skip
        have hb : rowT (A.1 a) = true := bI_nz.mp h32
        refine v_iconst (v := nI 1) X dX4_rows_35 (by decide) ?_
        refine v_goto (tgt := 40) X dX4_rows_36 (by decide) ?_
        refine v_ret X hR dX4_rows_40 rfl ?_
        have e : sp_rows (nI a) A = (bI (rowT (A.1 a)), A) := by simp only [sp_rows, aN]; rw [if_neg a0]
        rw [e]
        exact ⟨by rw [hb]; rfl, hA, mO.rfl⟩
    · skip
      have a0 : (A.1 a).length = 0 := of_decide_eq_true (bI_nz.mp h14)
      refine v_bipush (v := (-3)) X dX4_rows_17 (by decide) ?_
      refine v_ret X hR dX4_rows_19 rfl ?_
      have e : sp_rows (nI a) A = (-3, A) := by simp only [sp_rows, aN]; rw [if_pos a0]
      rw [e]
      exact ⟨rfl, hA, mO.rfl⟩
  · skip
    have an := slot_f (bI_z.mp h4)
    refine v_iconst (v := (-1)) X dX4_rows_7 (by decide) ?_
    refine v_ret X hR dX4_rows_8 rfl ?_
    have e : sp_rows x A = (-1, A) := by simp [sp_rows, an]
    rw [e]
    exact ⟨rfl, hA, mO.rfl⟩

theorem addP_pos (P : Sen) (q : Pt) : 0 < (addP P q).length := by
  have := idx_lt P q
  omega
theorem prP_pos (A B : Sen) (t : Nat) : 0 < (prP A B t).length := addP_pos _ _
set_option maxHeartbeats 4000000 in
set_option maxRecDepth 100000 in
theorem x_follows (G : GT) {σ : Sg} {A : ASt} (hA : cR σ A) (x y : Int32) : MC G yX4_follows cX4_follows 3 .int 5 [.ref (G.2.2.1 155), .int x, .int y] σ (fun r τ => r = (sp_follows x y A).1 ∧ cR τ (sp_follows x y A).2 ∧ mO σ τ) := by
  refine MC_of (by decide) (ca1 rfl (ca1 rfl (ca1 rfl ca0))) (Nat.le_of_ble_eq_true rfl) ?_
  intro Z X hR
  show V G Z σ 0 [some (.ref (G.2.2.1 155)), some (.int x), some (.int y)] []
  refine v_iload_n X dX4_follows_0 rfl ?_
  refine v_cals X (c_isSlot G _) cs_X4_55 (by decide) rfl (by rfl) (Nat.le_of_ble_eq_true rfl) dX4_follows_1 (fun r τ9 hq => ?_)
  obtain ⟨e9, rfl⟩ := hq
  rw [e9]
  refine v_if_eq (tgt := 14) X dX4_follows_4 (by decide) (fun h4 => ?_) (fun h4 => ?_)
  · skip
    have an := slot_f (bI_z.mp h4)
    refine v_iconst (v := (-1)) X dX4_follows_14 (by decide) ?_
    refine v_ret X hR dX4_follows_15 rfl ?_
    have e : sp_follows x y A = (-1, A) := by simp [sp_follows, an]
    rw [e]
    exact ⟨rfl, hA, mO.rfl⟩
  · skip
    obtain ⟨a, a6, rfl, aN⟩ := slot_t (bI_nz.mp h4)
    have aP := hA.1 a (by omega)
    refine v_iload_n X dX4_follows_7 rfl ?_
    refine v_cals X (c_isSlot G _) cs_X4_55 (by decide) rfl (by rfl) (Nat.le_of_ble_eq_true rfl) dX4_follows_8 (fun r τ9 hq => ?_)
    obtain ⟨e9, rfl⟩ := hq
    rw [e9]
    refine v_if_ne (tgt := 16) X dX4_follows_11 (by decide) (fun h11 => ?_) (fun h11 => ?_)
    · skip
      obtain ⟨b, b6, rfl, bN⟩ := slot_t (bI_nz.mp h11)
      have bP := hA.1 b (by omega)
      refine v_aload_n X dX4_follows_16 rfl ?_
      refine v_iload_n X dX4_follows_17 rfl ?_
      refine v_cali X (c_isEmpty G a6 aP) cv_X4_71 obX4 rfl (by decide) rfl (by rfl) (Nat.le_of_ble_eq_true rfl) dX4_follows_18 (fun r τ9 hq => ?_)
      obtain ⟨e9, rfl⟩ := hq
      rw [e9]
      refine v_if_ne (tgt := 32) X dX4_follows_21 (by decide) (fun h21 => ?_) (fun h21 => ?_)
      · skip
        have a0 : (A.1 a).length = 0 := of_decide_eq_true (bI_nz.mp h21)
        refine v_bipush (v := (-3)) X dX4_follows_32 (by decide) ?_
        refine v_ret X hR dX4_follows_34 rfl ?_
        have e : sp_follows (nI a) (nI b) A = (-3, A) := by simp only [sp_follows, aN, bN]; rw [if_pos (Or.inl a0)]
        rw [e]
        exact ⟨rfl, hA, mO.rfl⟩
      · skip
        have a0 : ¬ (A.1 a).length = 0 := of_decide_eq_false (bI_z.mp h21)
        have ap : 0 < (A.1 a).length := by omega
        refine v_aload_n X dX4_follows_24 rfl ?_
        refine v_iload_n X dX4_follows_25 rfl ?_
        refine v_cali X (c_isEmpty G b6 bP) cv_X4_71 obX4 rfl (by decide) rfl (by rfl) (Nat.le_of_ble_eq_true rfl) dX4_follows_26 (fun r τ9 hq => ?_)
        obtain ⟨e9, rfl⟩ := hq
        rw [e9]
        refine v_if_eq (tgt := 35) X dX4_follows_29 (by decide) (fun h29 => ?_) (fun h29 => ?_)
        · skip
          have b0 : ¬ (A.1 b).length = 0 := of_decide_eq_false (bI_z.mp h29)
          have bp : 0 < (A.1 b).length := by omega
          refine v_aload_n X dX4_follows_35 rfl ?_
          refine v_getr X fl_X4_37 shX4_5 dX4_follows_36 ?_
          refine v_iconst (v := nI 4) X dX4_follows_39 (by decide) ?_
          refine v_aload_n X dX4_follows_40 rfl ?_
          refine v_getr X fl_X4_10 shX4_0 dX4_follows_41 ?_
          refine v_getr X fl_X4_74 (shX2_0 (by first | assumption | omega)) dX4_follows_44 ?_
          refine v_iload_n X dX4_follows_47 rfl ?_
          refine v_aaldE X (arX2_0 (by first | assumption | omega)) (Or.inl rfl) rfl (by first | assumption | omega) dX4_follows_48 ?_
          refine v_refe (show _ = 7 * a from by omega) ?_
          refine v_aload_n X dX4_follows_49 rfl ?_
          refine v_getr X fl_X4_10 shX4_0 dX4_follows_50 ?_
          refine v_getr X fl_X4_74 (shX2_0 (by first | assumption | omega)) dX4_follows_53 ?_
          refine v_iload_n X dX4_follows_56 rfl ?_
          refine v_aaldE X (arX2_0 (by first | assumption | omega)) (Or.inl rfl) rfl (by first | assumption | omega) dX4_follows_57 ?_
          refine v_refe (show _ = 7 * b from by omega) ?_
          refine v_calv X (c_becomePair G (j := 18) (by decide) (by omega) (by omega) (by omega) (by omega) aP.1 aP.2 bP.1 ap bp (t := 4) (by decide)) cv_X4_78 (obX1 (by first | assumption | omega)) rfl (by decide) rfl (by rfl) (Nat.le_of_ble_eq_true rfl) dX4_follows_58 (fun τ hp => ?_)
          obtain ⟨o1, D, lg, g1⟩ := hp
          have hA1 := cR_off hA o1
          have hm1 : mO σ τ := fun i hi => o1 i (by omega)
          refine v_aload_n X dX4_follows_61 rfl ?_
          refine v_getr X fl_X4_37 shX4_5 dX4_follows_62 ?_
          refine v_geti X fl_X4_63 (shX1_1 (by first | assumption | omega)) dX4_follows_65 ?_
          rw [g1.2.1]
          refine v_if_eq (tgt := 74) X dX4_follows_68 (by decide) (fun h68 => ?_) (fun h68 => ?_)
          · skip
            have hlg := bI_z.mp h68
            have hDS : D = prP (A.1 a) (A.1 b) 4 := by
              rcases g1.2.2 with z | z
              · exact z.2
              · rw [hlg] at z; cases z.1
            have hz18 : hz τ 18 D := ⟨g1.1, by rw [g1.2.1, hlg]⟩
            have hle := g1.1.1
            rw [hDS] at hz18 hle
            refine v_aload_n X dX4_follows_74 rfl ?_
            refine v_aload_n X dX4_follows_75 rfl ?_
            refine v_getr X fl_X4_37 shX4_5 dX4_follows_76 ?_
            refine v_cali X (c_isPlain G (i := 18) (by omega) hA1 hz18 (prP_pos _ _ _)) cv_X4_109 obX4 rfl (by decide) rfl (by rfl) (Nat.le_of_ble_eq_true rfl) dX4_follows_79 (fun r τ2 hp2 => ?_)
            obtain ⟨rfl, q1, q2, -⟩ := hp2
            refine v_if_eq (tgt := 89) X dX4_follows_82 (by decide) (fun h82 => ?_) (fun h82 => ?_)
            · skip
              have hb := bI_z.mp h82
              refine v_iconst (v := nI 0) X dX4_follows_89 (by decide) ?_
              refine v_ret X hR dX4_follows_90 rfl ?_
              have e : sp_follows (nI a) (nI b) A = (bI (pln (prP (A.1 a) (A.1 b) 4)), A) := by simp only [sp_follows, aN, bN]; rw [if_neg (by omega), if_neg (by omega)]
              rw [e]
              exact ⟨by rw [hb]; rfl, q1, hm1.trans q2⟩
            · skip
              have hb := bI_nz.mp h82
              refine v_iconst (v := nI 1) X dX4_follows_85 (by decide) ?_
              refine v_goto (tgt := 90) X dX4_follows_86 (by decide) ?_
              refine v_ret X hR dX4_follows_90 rfl ?_
              have e : sp_follows (nI a) (nI b) A = (bI (pln (prP (A.1 a) (A.1 b) 4)), A) := by simp only [sp_follows, aN, bN]; rw [if_neg (by omega), if_neg (by omega)]
              rw [e]
              exact ⟨by rw [hb]; rfl, q1, hm1.trans q2⟩
          · skip
            have hlg := bI_nz.mp h68
            have hgt : 11 < (prP (A.1 a) (A.1 b) 4).length := by
              rcases g1.2.2 with z | z
              · rw [hlg] at z; cases z.1
              · exact z.2.2
            refine v_bipush (v := (-4)) X dX4_follows_71 (by decide) ?_
            refine v_ret X hR dX4_follows_73 rfl ?_
            have e : sp_follows (nI a) (nI b) A = (-4, A) := by simp only [sp_follows, aN, bN]; rw [if_neg (by omega), if_pos hgt]
            rw [e]
            exact ⟨rfl, hA1, hm1⟩
        · skip
          have b0 : (A.1 b).length = 0 := of_decide_eq_true (bI_nz.mp h29)
          refine v_bipush (v := (-3)) X dX4_follows_32 (by decide) ?_
          refine v_ret X hR dX4_follows_34 rfl ?_
          have e : sp_follows (nI a) (nI b) A = (-3, A) := by simp only [sp_follows, aN, bN]; rw [if_pos (Or.inr b0)]
          rw [e]
          exact ⟨rfl, hA, mO.rfl⟩
    · skip
      have bn := slot_f (bI_z.mp h11)
      refine v_iconst (v := (-1)) X dX4_follows_14 (by decide) ?_
      refine v_ret X hR dX4_follows_15 rfl ?_
      have e : sp_follows (nI a) y A = (-1, A) := by simp [sp_follows, aN, bn]
      rw [e]
      exact ⟨rfl, hA, mO.rfl⟩

theorem set_out {x : Int32} {n : Nat} (hn : n ≤ 11) : ((x.toUInt32 >>> ((nI n).toUInt32 &&& Int32.toUInt32 31)).toInt32 = 0) ↔ (¬ x < 0 ∧ ¬ nI (2 ^ n) ≤ x) := by
  have hp : 2 ^ n ≤ 2 ^ 11 := Nat.pow_le_pow_right (by decide) hn
  constructor
  · intro h
    have hb : ∀ i, n ≤ i → i < 32 → bt x i = false := by
      intro i h1 h2
      have h3 := b_ushr n (by omega) x (i - n)
      rw [h, b_0, show n + (i - n) = i by omega] at h3
      exact h3.symm
    have h0 : ¬ x < 0 := by
      intro z
      have h31 := hb 31 (by omega) (by decide)
      have hz : x.toBitVec.toInt < 0 := Int32.lt_iff_toInt_lt.mp z
      rw [BitVec.toInt_neg_iff] at hz
      have hz2 := BitVec.msb_eq_true_iff_two_mul_ge.mpr hz
      rw [BitVec.msb_eq_getLsbD_last] at hz2
      have h31 : x.toBitVec.getLsbD (32 - 1) = false := h31
      rw [h31] at hz2
      cases hz2
    refine ⟨h0, fun z => ?_⟩
    obtain ⟨j, hj, rfl⟩ := nI_of h0
    have hle := nI_lem (by omega) hj z
    have hlt : j < 2 ^ n := by
      apply Nat.lt_pow_two_of_testBit
      intro i hi
      rcases Nat.lt_or_ge i 32 with q | q
      · rw [← bt_nI q]; exact hb i hi q
      · exact nb_lt (n := 31) hj (by omega)
    omega
  · rintro ⟨h1, h2⟩
    obtain ⟨j, hj, rfl, -⟩ := ix_of (n := 2 ^ n) (by omega) h1 h2
    refine b_ext (fun i hi => ?_)
    rw [b_ushr n (by omega), b_0]
    rcases Nat.lt_or_ge (n + i) 32 with q | q
    · rw [bt_nI q]; exact nb_lt hj (by omega)
    · exact b_big q
set_option maxHeartbeats 4000000 in
set_option maxRecDepth 100000 in
theorem x_from (G : GT) {σ : Sg} {A : ASt} (hA : cR σ A) (x y z : Int32) : MC G yX4_from cX4_from 5 .int 4 [.ref (G.2.2.1 155), .int x, .int y, .int z] σ (fun r τ => r = (sp_from x y z A).1 ∧ cR τ (sp_from x y z A).2 ∧ mO σ τ) := by
  refine MC_of (by decide) (ca1 rfl (ca1 rfl (ca1 rfl (ca1 rfl ca0)))) (Nat.le_of_ble_eq_true rfl) ?_
  intro Z X hR
  show V G Z σ 0 [some (.ref (G.2.2.1 155)), some (.int x), some (.int y), some (.int z), none] []
  refine v_iload_n X dX4_from_0 rfl ?_
  refine v_cals X (c_isSlot G _) cs_X4_55 (by decide) rfl (by rfl) (Nat.le_of_ble_eq_true rfl) dX4_from_1 (fun r τ9 hq => ?_)
  obtain ⟨e9, rfl⟩ := hq
  rw [e9]
  refine v_if_ne (tgt := 9) X dX4_from_4 (by decide) (fun h4 => ?_) (fun h4 => ?_)
  · skip
    obtain ⟨a, a6, rfl, aN⟩ := slot_t (bI_nz.mp h4)
    have aP := hA.1 a (by omega)
    refine v_aload_n X dX4_from_9 rfl ?_
    refine v_iload_n X dX4_from_10 rfl ?_
    refine v_cali X (c_isEmpty G a6 aP) cv_X4_71 obX4 rfl (by decide) rfl (by rfl) (Nat.le_of_ble_eq_true rfl) dX4_from_11 (fun r τ9 hq => ?_)
    obtain ⟨e9, rfl⟩ := hq
    rw [e9]
    refine v_if_eq (tgt := 20) X dX4_from_14 (by decide) (fun h14 => ?_) (fun h14 => ?_)
    · skip
      have a0 : ¬ (A.1 a).length = 0 := of_decide_eq_false (bI_z.mp h14)
      have ap : 0 < (A.1 a).length := by omega
      refine v_aload_n X dX4_from_20 rfl ?_
      refine v_getr X fl_X4_10 shX4_0 dX4_from_21 ?_
      refine v_getr X fl_X4_74 (shX2_0 (by first | assumption | omega)) dX4_from_24 ?_
      refine v_iload_n X dX4_from_27 rfl ?_
      refine v_aaldE X (arX2_0 (by first | assumption | omega)) (Or.inl rfl) rfl (by first | assumption | omega) dX4_from_28 ?_
      refine v_refe (show _ = 7 * a from by omega) ?_
      refine v_astore X dX4_from_29 (Nat.le_of_ble_eq_true rfl) ?_
      show V G Z _ 31 [_, _, _, _, _] _
      refine v_aload X dX4_from_31 rfl ?_
      refine v_iload_n X dX4_from_33 rfl ?_
      refine v_cali X (c_hasPart G (j := a) (by omega) _) cv_X4_82 (obX1 (by first | assumption | omega)) rfl (by decide) rfl (by rfl) (Nat.le_of_ble_eq_true rfl) dX4_from_34 (fun r τ9 hq => ?_)
      obtain ⟨e9, rfl⟩ := hq
      rw [e9, aP.1.2.2.1]
      have a11 := aP.1.1
      refine v_if_eq (tgt := 50) X dX4_from_37 (by decide) (fun h37 => ?_) (fun h37 => ?_)
      · skip
        have hz1 := of_decide_eq_false (bI_z.mp h37)
        have hz2 : z < 0 ∨ nI (A.1 a).length ≤ z := by
          rcases Decidable.em (z < 0) with q | q
          · exact Or.inl q
          · rcases Decidable.em (nI (A.1 a).length ≤ z) with q2 | q2
            · exact Or.inr q2
            · exact absurd ⟨q, q2⟩ hz1
        refine v_bipush (v := (-2)) X dX4_from_50 (by decide) ?_
        refine v_ret X hR dX4_from_52 rfl ?_
        have e : sp_from (nI a) y z A = (-2, A) := by simp only [sp_from, aN]; rw [if_neg a0, if_pos (hz2.elim Or.inl (fun q => Or.inr (Or.inl q)))]
        rw [e]
        exact ⟨rfl, hA, mO.rfl⟩
      · skip
        have hz1 := of_decide_eq_true (bI_nz.mp h37)
        obtain ⟨k, hk, rfl, hkn⟩ := ix_of (by omega) hz1.1 hz1.2
        refine v_iload_n X dX4_from_40 rfl ?_
        refine v_aload X dX4_from_41 rfl ?_
        refine v_geti X fl_X4_117 (shX1_0 (by first | assumption | omega)) dX4_from_43 ?_
        rw [aP.1.2.2.1]
        refine v_iushr X dX4_from_46 ?_
        refine v_if_eq (tgt := 53) X dX4_from_47 (by decide) (fun h47 => ?_) (fun h47 => ?_)
        · skip
          have hy1 := (set_out a11).mp h47
          have hp2 : 2 ^ (A.1 a).length ≤ 2 ^ 11 := Nat.pow_le_pow_right (by decide) a11
          obtain ⟨s, hs, rfl, hsn⟩ := ix_of (n := 2 ^ (A.1 a).length) (by omega) hy1.1 hy1.2
          refine v_aload_n X dX4_from_53 rfl ?_
          refine v_getr X fl_X4_44 shX4_6 dX4_from_54 ?_
          refine v_aload X dX4_from_57 rfl ?_
          obtain ⟨F, hF⟩ := hA.2.2.2.2.2
          refine v_calv X (c_turnTo G (i := a) (by omega) hF aP ap) cv_X4_120 obX0 rfl (by decide) rfl (by rfl) (Nat.le_of_ble_eq_true rfl) dX4_from_59 (fun τ1 hp => ?_)
          obtain ⟨b1, b2⟩ := hp
          obtain ⟨f, e, c1, c2⟩ := b2.2 ap
          have hm : mO σ τ1 := fun i hi => b1 i (by omega)
          have hcr := cR_fT hA b1 b2
          have al := aP.1.1
          refine v_aload_n X dX4_from_62 rfl ?_
          refine v_getr X fl_X4_44 shX4_6 dX4_from_63 ?_
          refine v_iload_n X dX4_from_66 rfl ?_
          refine v_iload_n X dX4_from_67 rfl ?_
          refine v_cali X (c_forces G c1 c2 (s := s) (k := k) (by omega) (by omega)) cv_X4_124 obX0 rfl (by decide) rfl (by rfl) (Nat.le_of_ble_eq_true rfl) dX4_from_68 (fun r τ9 hq => ?_)
          obtain ⟨e9, rfl⟩ := hq
          rw [e9]
          refine v_if_eq (tgt := 78) X dX4_from_71 (by decide) (fun h71 => ?_) (fun h71 => ?_)
          · skip
            have hb := bI_z.mp h71
            refine v_iconst (v := nI 0) X dX4_from_78 (by decide) ?_
            refine v_ret X hR dX4_from_79 rfl ?_
            have e : sp_from (nI a) (nI s) (nI k) A = (bI (frc (wlK (A.1 a)) s k), A) := by simp only [sp_from, aN]; rw [if_neg a0, if_neg (by rintro (q | q | q | q) <;> first | exact hz1.1 q | exact hz1.2 q | exact hy1.1 q | exact hy1.2 q), hsn, hkn]
            rw [e]
            exact ⟨by rw [hb]; rfl, hcr, hm⟩
          · skip
            have hb := bI_nz.mp h71
            refine v_iconst (v := nI 1) X dX4_from_74 (by decide) ?_
            refine v_goto (tgt := 79) X dX4_from_75 (by decide) ?_
            refine v_ret X hR dX4_from_79 rfl ?_
            have e : sp_from (nI a) (nI s) (nI k) A = (bI (frc (wlK (A.1 a)) s k), A) := by simp only [sp_from, aN]; rw [if_neg a0, if_neg (by rintro (q | q | q | q) <;> first | exact hz1.1 q | exact hz1.2 q | exact hy1.1 q | exact hy1.2 q), hsn, hkn]
            rw [e]
            exact ⟨by rw [hb]; rfl, hcr, hm⟩
        · skip
          have hy1 := mt (set_out a11).mpr h47
          have hy2 : y < 0 ∨ nI (2 ^ (A.1 a).length) ≤ y := by
            rcases Decidable.em (y < 0) with q | q
            · exact Or.inl q
            · rcases Decidable.em (nI (2 ^ (A.1 a).length) ≤ y) with q2 | q2
              · exact Or.inr q2
              · exact absurd ⟨q, q2⟩ hy1
          refine v_bipush (v := (-2)) X dX4_from_50 (by decide) ?_
          refine v_ret X hR dX4_from_52 rfl ?_
          have e : sp_from (nI a) y (nI k) A = (-2, A) := by simp only [sp_from, aN]; rw [if_neg a0, if_pos (Or.inr (Or.inr hy2))]
          rw [e]
          exact ⟨rfl, hA, mO.rfl⟩
    · skip
      have a0 : (A.1 a).length = 0 := of_decide_eq_true (bI_nz.mp h14)
      refine v_bipush (v := (-3)) X dX4_from_17 (by decide) ?_
      refine v_ret X hR dX4_from_19 rfl ?_
      have e : sp_from (nI a) y z A = (-3, A) := by simp only [sp_from, aN]; rw [if_pos a0]
      rw [e]
      exact ⟨rfl, hA, mO.rfl⟩
  · skip
    have an := slot_f (bI_z.mp h4)
    refine v_iconst (v := (-1)) X dX4_from_7 (by decide) ?_
    refine v_ret X hR dX4_from_8 rfl ?_
    have e : sp_from x y z A = (-1, A) := by simp [sp_from, an]
    rw [e]
    exact ⟨rfl, hA, mO.rfl⟩

