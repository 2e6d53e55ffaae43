theorem ctB_split {f g h : Nat → Bool} : ∀ {n : Nat}, (∀ k, k < n → (f k = true ↔ (g k = true ∨ h k = true)) ∧ ¬ (g k = true ∧ h k = true)) → ctB f n = ctB g n + ctB h n
  | 0, _ => rfl
  | n + 1, hk => by
    have ih := ctB_split (n := n) (fun k h => hk k (by omega))
    have h1 := hk n (by omega)
    rw [ctB, ctB, ctB, ih]
    cases hf : f n <;> cases hg : g n <;> cases hh : h n <;> simp [hf, hg, hh] at h1 ⊢ <;> omega
set_option maxHeartbeats 4000000 in
set_option maxRecDepth 100000 in
theorem c_countHeld (G : GT) {σ : Sg} {A : ASt} (hA : cR σ A) : MC G yX4_countHeld cX4_countHeld 3 .int 1 [.ref (G.2.2.1 155)] σ (fun r τ => r = nI (ctB (fun s => decide (0 < (A.1 s).length)) 6) ∧ cR τ A ∧ mO σ τ) := by
  refine MC_of (by decide) (ca1 rfl ca0) (Nat.le_of_ble_eq_true rfl) ?_
  intro Z X hR
  show V G Z σ 0 [some (.ref (G.2.2.1 155)), none, none] []
  have loop : ∀ (n s : Nat) (τ : Sg), 6 - s < n → s ≤ 6 → cR τ A → mO σ τ → V G Z τ 4 [some (.ref (G.2.2.1 155)), some (.int (nI (ctB (fun s => decide (0 < (A.1 s).length)) s))), some (.int (nI s))] [] := by
    intro n
    induction n with
    | zero => intro s τ h; omega
    | succ n ih =>
      intro s τ hn hsl hA hm
      refine v_iload_n X dX4_countHeld_4 rfl ?_
      refine v_bipush (v := nI 6) X dX4_countHeld_5 (by decide) ?_
      refine v_icmp_ge (tgt := 27) X dX4_countHeld_7 (by decide) (fun h7 => ?_) (fun h7 => ?_)
      · skip
        have hs := nI_lem (a := 6) (by decide) (by omega) h7
        have hs : s = 6 := by omega
        subst hs
        refine v_iload_n X dX4_countHeld_27 rfl ?_
        refine v_ret X hR dX4_countHeld_28 rfl ?_
        exact ⟨rfl, hA, hm⟩
      · skip
        have s6 := nI_len (a := 6) (by decide) (by omega) h7
        have sP := hA.1 s (by omega)
        refine v_aload_n X dX4_countHeld_10 rfl ?_
        refine v_iload_n X dX4_countHeld_11 rfl ?_
        refine v_cali X (c_isEmpty G s6 sP) cv_X4_71 obX4 rfl (by decide) rfl (by rfl) (Nat.le_of_ble_eq_true rfl) dX4_countHeld_12 (fun r τ9 hq => ?_)
        obtain ⟨e9, rfl⟩ := hq
        rw [e9]
        refine v_if_ne (tgt := 21) X dX4_countHeld_15 (by decide) (fun h15 => ?_) (fun h15 => ?_)
        · skip
          have s0 : (A.1 s).length = 0 := of_decide_eq_true (bI_nz.mp h15)
          have hc : (decide (0 < (A.1 s).length)) = false := by rw [decide_eq_false (by omega)]
          refine v_iincE X dX4_countHeld_21 rfl (nI_inc s) ?_
          show V G Z _ 24 [_, _, _] _
          refine v_goto (tgt := 4) X dX4_countHeld_24 (by decide) ?_
          have ihk := ih (s + 1) _ (by omega) (by omega) hA hm
          rw [ctB, hc] at ihk
          exact ihk
        · skip
          have s0 : ¬ (A.1 s).length = 0 := of_decide_eq_false (bI_z.mp h15)
          have sp : 0 < (A.1 s).length := by omega
          have hc : (decide (0 < (A.1 s).length)) = true := decide_eq_true sp
          refine v_iincE X dX4_countHeld_18 rfl (nI_inc _) ?_
          show V G Z _ 21 [_, _, _] _
          refine v_iincE X dX4_countHeld_21 rfl (nI_inc s) ?_
          show V G Z _ 24 [_, _, _] _
          refine v_goto (tgt := 4) X dX4_countHeld_24 (by decide) ?_
          have ihk := ih (s + 1) _ (by omega) (by omega) hA hm
          rw [ctB, hc] at ihk
          exact ihk
  refine v_iconst (v := nI 0) X dX4_countHeld_0 (by decide) ?_
  refine v_istore_n X dX4_countHeld_1 (Nat.le_of_ble_eq_true rfl) ?_
  show V G Z _ 2 [_, _, _] _
  refine v_iconst (v := nI 0) X dX4_countHeld_2 (by decide) ?_
  refine v_istore_n X dX4_countHeld_3 (Nat.le_of_ble_eq_true rfl) ?_
  show V G Z _ 4 [_, _, _] _
  exact loop 7 0 σ (by omega) (by omega) hA mO.rfl
set_option maxHeartbeats 4000000 in
set_option maxRecDepth 100000 in
theorem c_countPlain (G : GT) {σ : Sg} {A : ASt} (hA : cR σ A) : MC G yX4_countPlain cX4_countPlain 3 .int 5 [.ref (G.2.2.1 155)] σ (fun r τ => r = nI (ctB (fun s => decide (0 < (A.1 s).length) && pln (A.1 s)) 6) ∧ cR τ A ∧ mO σ τ) := by
  refine MC_of (by decide) (ca1 rfl ca0) (Nat.le_of_ble_eq_true rfl) ?_
  intro Z X hR
  show V G Z σ 0 [some (.ref (G.2.2.1 155)), none, none] []
  have loop : ∀ (n s : Nat) (τ : Sg), 6 - s < n → s ≤ 6 → cR τ A → mO σ τ → V G Z τ 4 [some (.ref (G.2.2.1 155)), some (.int (nI (ctB (fun s => decide (0 < (A.1 s).length) && pln (A.1 s)) s))), some (.int (nI s))] [] := by
    intro n
    induction n with
    | zero => intro s τ h; omega
    | succ n ih =>
      intro s τ hn hsl hA hm
      refine v_iload_n X dX4_countPlain_4 rfl ?_
      refine v_bipush (v := nI 6) X dX4_countPlain_5 (by decide) ?_
      refine v_icmp_ge (tgt := 43) X dX4_countPlain_7 (by decide) (fun h7 => ?_) (fun h7 => ?_)
      · skip
        have hs := nI_lem (a := 6) (by decide) (by omega) h7
        have hs : s = 6 := by omega
        subst hs
        refine v_iload_n X dX4_countPlain_43 rfl ?_
        refine v_ret X hR dX4_countPlain_44 rfl ?_
        exact ⟨rfl, hA, hm⟩
      · skip
        have s6 := nI_len (a := 6) (by decide) (by omega) h7
        have sP := hA.1 s (by omega)
        refine v_aload_n X dX4_countPlain_10 rfl ?_
        refine v_iload_n X dX4_countPlain_11 rfl ?_
        refine v_cali X (c_isEmpty G s6 sP) cv_X4_71 obX4 rfl (by decide) rfl (by rfl) (Nat.le_of_ble_eq_true rfl) dX4_countPlain_12 (fun r τ9 hq => ?_)
        obtain ⟨e9, rfl⟩ := hq
        rw [e9]
        refine v_if_ne (tgt := 37) X dX4_countPlain_15 (by decide) (fun h15 => ?_) (fun h15 => ?_)
        · skip
          have s0 : (A.1 s).length = 0 := of_decide_eq_true (bI_nz.mp h15)
          have hc : (decide (0 < (A.1 s).length) && pln (A.1 s)) = false := by rw [decide_eq_false (by omega)]; rfl
          refine v_iincE X dX4_countPlain_37 rfl (nI_inc s) ?_
          show V G Z _ 40 [_, _, _] _
          refine v_goto (tgt := 4) X dX4_countPlain_40 (by decide) ?_
          have ihk := ih (s + 1) _ (by omega) (by omega) hA hm
          rw [ctB, hc] at ihk
          exact ihk
        · skip
          have s0 : ¬ (A.1 s).length = 0 := of_decide_eq_false (bI_z.mp h15)
          have sp : 0 < (A.1 s).length := by omega
          refine v_aload_n X dX4_countPlain_18 rfl ?_
          refine v_aload_n X dX4_countPlain_19 rfl ?_
          refine v_getr X fl_X4_10 shX4_0 dX4_countPlain_20 ?_
          refine v_getr X fl_X4_74 (shX2_0 (by first | assumption | omega)) dX4_countPlain_23 ?_
          refine v_iload_n X dX4_countPlain_26 rfl ?_
          refine v_aaldE X (arX2_0 (by first | assumption | omega)) (Or.inl rfl) rfl (by first | assumption | omega) dX4_countPlain_27 ?_
          refine v_refe (show _ = 7 * s from by omega) ?_
          refine v_cali X (c_isPlain G (i := s) (by omega) hA sP sp) cv_X4_109 obX4 rfl (by decide) rfl (by rfl) (Nat.le_of_ble_eq_true rfl) dX4_countPlain_28 (fun r τ2 hp2 => ?_)
          obtain ⟨rfl, q1, q2, -⟩ := hp2
          refine v_if_eq (tgt := 37) X dX4_countPlain_31 (by decide) (fun h31 => ?_) (fun h31 => ?_)
          · skip
            have hc : (decide (0 < (A.1 s).length) && pln (A.1 s)) = false := by rw [bI_z.mp h31]; simp
            refine v_iincE X dX4_countPlain_37 rfl (nI_inc s) ?_
            show V G Z _ 40 [_, _, _] _
            refine v_goto (tgt := 4) X dX4_countPlain_40 (by decide) ?_
            have ihk := ih (s + 1) _ (by omega) (by omega) q1 (hm.trans q2)
            rw [ctB, hc] at ihk
            exact ihk
          · skip
            have hc : (decide (0 < (A.1 s).length) && pln (A.1 s)) = true := by rw [bI_nz.mp h31, decide_eq_true sp]; rfl
            refine v_iincE X dX4_countPlain_34 rfl (nI_inc _) ?_
            show V G Z _ 37 [_, _, _] _
            refine v_iincE X dX4_countPlain_37 rfl (nI_inc s) ?_
            show V G Z _ 40 [_, _, _] _
            refine v_goto (tgt := 4) X dX4_countPlain_40 (by decide) ?_
            have ihk := ih (s + 1) _ (by omega) (by omega) q1 (hm.trans q2)
            rw [ctB, hc] at ihk
            exact ihk
  refine v_iconst (v := nI 0) X dX4_countPlain_0 (by decide) ?_
  refine v_istore_n X dX4_countPlain_1 (Nat.le_of_ble_eq_true rfl) ?_
  show V G Z _ 2 [_, _, _] _
  refine v_iconst (v := nI 0) X dX4_countPlain_2 (by decide) ?_
  refine v_istore_n X dX4_countPlain_3 (Nat.le_of_ble_eq_true rfl) ?_
  show V G Z _ 4 [_, _, _] _
  exact loop 7 0 σ (by omega) (by omega) hA mO.rfl
set_option maxHeartbeats 4000000 in
set_option maxRecDepth 100000 in
theorem c_countTrueByRows (G : GT) {σ : Sg} {A : ASt} (hA : cR σ A) : MC G yX4_countTrueByRows cX4_countTrueByRows 3 .int 2 [.ref (G.2.2.1 155)] σ (fun r τ => r = nI (ctB (fun s => decide (0 < (A.1 s).length) && rowT (A.1 s)) 6) ∧ cR τ A ∧ mO σ τ) := by
  refine MC_of (by decide) (ca1 rfl ca0) (Nat.le_of_ble_eq_true rfl) ?_
  intro Z X hR
  show V G Z σ 0 [some (.ref (G.2.2.1 155)), none, none] []
  have loop : ∀ (n s : Nat) (τ : Sg), 6 - s < n → s ≤ 6 → cR τ A → mO σ τ → V G Z τ 4 [some (.ref (G.2.2.1 155)), some (.int (nI (ctB (fun s => decide (0 < (A.1 s).length) && rowT (A.1 s)) s))), some (.int (nI s))] [] := by
    intro n
    induction n with
    | zero => intro s τ h; omega
    | succ n ih =>
      intro s τ hn hsl hA hm
      refine v_iload_n X dX4_countTrueByRows_4 rfl ?_
      refine v_bipush (v := nI 6) X dX4_countTrueByRows_5 (by decide) ?_
      refine v_icmp_ge (tgt := 42) X dX4_countTrueByRows_7 (by decide) (fun h7 => ?_) (fun h7 => ?_)
      · skip
        have hs := nI_lem (a := 6) (by decide) (by omega) h7
        have hs : s = 6 := by omega
        subst hs
        refine v_iload_n X dX4_countTrueByRows_42 rfl ?_
        refine v_ret X hR dX4_countTrueByRows_43 rfl ?_
        exact ⟨rfl, hA, hm⟩
      · skip
        have s6 := nI_len (a := 6) (by decide) (by omega) h7
        have sP := hA.1 s (by omega)
        refine v_aload_n X dX4_countTrueByRows_10 rfl ?_
        refine v_iload_n X dX4_countTrueByRows_11 rfl ?_
        refine v_cali X (c_isEmpty G s6 sP) cv_X4_71 obX4 rfl (by decide) rfl (by rfl) (Nat.le_of_ble_eq_true rfl) dX4_countTrueByRows_12 (fun r τ9 hq => ?_)
        obtain ⟨e9, rfl⟩ := hq
        rw [e9]
        refine v_if_ne (tgt := 36) X dX4_countTrueByRows_15 (by decide) (fun h15 => ?_) (fun h15 => ?_)
        · skip
          have s0 : (A.1 s).length = 0 := of_decide_eq_true (bI_nz.mp h15)
          have hc : (decide (0 < (A.1 s).length) && rowT (A.1 s)) = false := by rw [decide_eq_false (by omega)]; rfl
          refine v_iincE X dX4_countTrueByRows_36 rfl (nI_inc s) ?_
          show V G Z _ 39 [_, _, _] _
          refine v_goto (tgt := 4) X dX4_countTrueByRows_39 (by decide) ?_
          have ihk := ih (s + 1) _ (by omega) (by omega) hA hm
          rw [ctB, hc] at ihk
          exact ihk
        · skip
          have s0 : ¬ (A.1 s).length = 0 := of_decide_eq_false (bI_z.mp h15)
          have sp : 0 < (A.1 s).length := by omega
          refine v_aload_n X dX4_countTrueByRows_18 rfl ?_
          refine v_getr X fl_X4_10 shX4_0 dX4_countTrueByRows_19 ?_
          refine v_getr X fl_X4_74 (shX2_0 (by first | assumption | omega)) dX4_countTrueByRows_22 ?_
          refine v_iload_n X dX4_countTrueByRows_25 rfl ?_
          refine v_aaldE X (arX2_0 (by first | assumption | omega)) (Or.inl rfl) rfl (by first | assumption | omega) dX4_countTrueByRows_26 ?_
          refine v_refe (show _ = 7 * s from by omega) ?_
          refine v_cali X (c_isTrueByRows G (j := s) (by omega) sP.1) cv_X4_113 (obX1 (by first | assumption | omega)) rfl (by decide) rfl (by rfl) (Nat.le_of_ble_eq_true rfl) dX4_countTrueByRows_27 (fun r τ9 hq => ?_)
          obtain ⟨e9, hr9⟩ := hq
          rw [e9]
          have hr9 : r = bI (rowT (A.1 s)) := hr9
          subst hr9
          refine v_if_eq (tgt := 36) X dX4_countTrueByRows_30 (by decide) (fun h30 => ?_) (fun h30 => ?_)
          · skip
            have hc : (decide (0 < (A.1 s).length) && rowT (A.1 s)) = false := by rw [bI_z.mp h30]; simp
            refine v_iincE X dX4_countTrueByRows_36 rfl (nI_inc s) ?_
            show V G Z _ 39 [_, _, _] _
            refine v_goto (tgt := 4) X dX4_countTrueByRows_39 (by decide) ?_
            have ihk := ih (s + 1) _ (by omega) (by omega) hA hm
            rw [ctB, hc] at ihk
            exact ihk
          · skip
            have hc : (decide (0 < (A.1 s).length) && rowT (A.1 s)) = true := by rw [bI_nz.mp h30, decide_eq_true sp]; rfl
            refine v_iincE X dX4_countTrueByRows_33 rfl (nI_inc _) ?_
            show V G Z _ 36 [_, _, _] _
            refine v_iincE X dX4_countTrueByRows_36 rfl (nI_inc s) ?_
            show V G Z _ 39 [_, _, _] _
            refine v_goto (tgt := 4) X dX4_countTrueByRows_39 (by decide) ?_
            have ihk := ih (s + 1) _ (by omega) (by omega) hA hm
            rw [ctB, hc] at ihk
            exact ihk
  refine v_iconst (v := nI 0) X dX4_countTrueByRows_0 (by decide) ?_
  refine v_istore_n X dX4_countTrueByRows_1 (Nat.le_of_ble_eq_true rfl) ?_
  show V G Z _ 2 [_, _, _] _
  refine v_iconst (v := nI 0) X dX4_countTrueByRows_2 (by decide) ?_
  refine v_istore_n X dX4_countTrueByRows_3 (Nat.le_of_ble_eq_true rfl) ?_
  show V G Z _ 4 [_, _, _] _
  exact loop 7 0 σ (by omega) (by omega) hA mO.rfl
theorem sw_6 (x : Int32) : (x.toInt < 0 ∨ 5 < x.toInt) ∨ ∃ j, j < 6 ∧ x = nI j := by
  rcases pk_ix x (n := 6) (by decide) with h | h | z
  · left; left; exact lt0_iff.mpr h
  · left; right
    have := Int32.le_iff_toInt_le.mp h
    rw [nI_toInt (by decide)] at this
    omega
  · exact Or.inr z
theorem sub_10 (x : Int32) : (sN (x - nI 10) = none ∧ (x < nI 10 ∨ nI 15 < x)) ∨ ∃ j, j < 6 ∧ x - nI 10 = nI j ∧ x = nI (10 + j) := by
  rcases sN_of (x - nI 10) with ⟨h1, h2⟩ | ⟨j, h1, h2, h3⟩
  · refine Or.inl ⟨h1, ?_⟩
    rcases Decidable.em (x < nI 10) with q | q
    · exact Or.inl q
    · right
      rcases Decidable.em (nI 15 < x) with q2 | q2
      · exact q2
      · exfalso
        have g1 := Int32.le_iff_toInt_le.mp (nlt_le q)
        have g2 := Int32.le_iff_toInt_le.mp (nlt_le q2)
        rw [nI_toInt (by decide)] at g1 g2
        obtain ⟨k, hk⟩ : ∃ k, k < 6 ∧ x = nI (10 + k) := ⟨(x.toInt - 10).toNat, by omega, Int32.toInt_inj.mp (by rw [nI_toInt (by omega)]; omega)⟩
        obtain ⟨hk1, rfl⟩ := hk
        rw [pk_sub (by omega), show 10 + k - 10 = k by omega, sN_nI hk1] at h1
        cases h1
  · refine Or.inr ⟨j, h1, h2, ?_⟩
    have := congrArg (fun y => y + nI 10) h2
    simp only [Int32.sub_add_cancel] at this
    rw [this, nI_add, Nat.add_comm]
set_option maxHeartbeats 4000000 in
set_option maxRecDepth 100000 in
theorem x_count (G : GT) {σ : Sg} {A : ASt} (hA : cR σ A) (x : Int32) : MC G yX4_count cX4_count 2 .int 6 [.ref (G.2.2.1 155), .int x] σ (fun r τ => r = (sp_count x A).1 ∧ cR τ (sp_count x A).2 ∧ mO σ τ) := by
  refine MC_of (by decide) (ca1 rfl (ca1 rfl ca0)) (Nat.le_of_ble_eq_true rfl) ?_
  intro Z X hR
  show V G Z σ 0 [some (.ref (G.2.2.1 155)), some (.int x)] []
  refine v_iload_n X dX4_count_0 rfl ?_
  rcases sw_6 x with hx | ⟨j, hj, rfl⟩
  · refine v_tabOut (tgt := 81) X dX4_count_1 hx (by decide) ?_
    have hx4 : ¬ x = 4 := by rintro rfl; rcases hx with q | q <;> exact absurd q (by decide)
    have hx5 : ¬ x = 5 := by rintro rfl; rcases hx with q | q <;> exact absurd q (by decide)
    have hx3 : x < 0 ∨ nI 3 < x := hx.elim (fun q => Or.inl (lt0_iff.mp q)) (fun q => Or.inr ((gt_iff (n := 3) (by decide)).mp (by omega)))
    refine v_iload_n X dX4_count_81 rfl ?_
    refine v_bipush (v := nI 10) X dX4_count_82 (by decide) ?_
    refine v_isub X dX4_count_84 ?_
    refine v_cals X (c_isSlot G _) cs_X4_55 (by decide) rfl (by rfl) (Nat.le_of_ble_eq_true rfl) dX4_count_85 (fun r τ9 hq => ?_)
    obtain ⟨e9, rfl⟩ := hq
    rw [e9]
    refine v_if_eq (tgt := 109) X dX4_count_88 (by decide) (fun h88 => ?_) (fun h88 => ?_)
    · skip
      have hn := slot_f (bI_z.mp h88)
      have hr : x < nI 10 ∨ nI 15 < x := by
        rcases sub_10 x with ⟨-, q⟩ | ⟨j, j1, j2, j3⟩
        · exact q
        · rw [j2, sN_nI j1] at hn; cases hn
      refine v_bipush (v := (-2)) X dX4_count_109 (by decide) ?_
      refine v_ret X hR dX4_count_111 rfl ?_
      have e : sp_count x A = (-2, A) := by rw [sp_count, if_neg hx4, if_neg hx5, if_neg (fun q => q hr), if_pos hx3]
      rw [e]
      exact ⟨rfl, hA, mO.rfl⟩
    · skip
      obtain ⟨j, j6, j2, rfl⟩ : ∃ j, j < 6 ∧ x - nI 10 = nI j ∧ x = nI (10 + j) := by
        rcases sub_10 x with ⟨q, -⟩ | q
        · rw [q] at h88; exact absurd rfl h88
        · exact q
      have jP := hA.1 j (by omega)
      refine v_aload_n X dX4_count_91 rfl ?_
      refine v_getr X fl_X4_10 shX4_0 dX4_count_92 ?_
      refine v_getr X fl_X4_74 (shX2_0 (by first | assumption | omega)) dX4_count_95 ?_
      refine v_iload_n X dX4_count_98 rfl ?_
      refine v_bipush (v := nI 10) X dX4_count_99 (by decide) ?_
      refine v_isub X dX4_count_101 ?_
      refine v_top j2 ?_
      refine v_aaldE X (arX2_0 (by first | assumption | omega)) (Or.inl rfl) rfl (by first | assumption | omega) dX4_count_102 ?_
      refine v_refe (show _ = 7 * j from by omega) ?_
      refine v_geti X fl_X4_117 (shX1_0 (by first | assumption | omega)) dX4_count_103 ?_
      refine v_goto (tgt := 111) X dX4_count_106 (by decide) ?_
      refine v_ret X hR dX4_count_111 rfl ?_
      rw [jP.1.2.2.1]
      have e : sp_count (nI (10 + j)) A = (nI (A.1 j).length, A) := by rw [sp_count, if_neg hx4, if_neg hx5, if_pos (fun q => q.elim (nI_nlt (by omega) (by omega)) (nI_nlt (by omega) (by omega))), nI_toInt (by omega), show ((10 + j : Nat) : Int).toNat - 10 = j by omega]
      rw [e]
      exact ⟨rfl, hA, mO.rfl⟩
  · rcases (show j = 0 ∨ j = 1 ∨ j = 2 ∨ j = 3 ∨ j = 4 ∨ j = 5 by omega) with rfl | rfl | rfl | rfl | rfl | rfl
    · refine v_tabIn (off := 39) (tgt := 40) X dX4_count_1 (by decide) (by decide) (by decide) (by decide) ?_
      refine v_aload_n X dX4_count_40 rfl ?_
      refine v_cali X (c_countHeld G hA) cv_X4_164 obX4 rfl (by decide) rfl (by rfl) (Nat.le_of_ble_eq_true rfl) dX4_count_41 (fun r τ hp => ?_)
      obtain ⟨rfl, q1, q2⟩ := hp
      refine v_ret X hR dX4_count_44 rfl ?_
      have e : sp_count (nI 0) A = (nI (cnt A.1 (nI 0)), A) := by rfl
      rw [e]
      exact ⟨rfl, q1, q2⟩
    · refine v_tabIn (off := 44) (tgt := 45) X dX4_count_1 (by decide) (by decide) (by decide) (by decide) ?_
      refine v_aload_n X dX4_count_45 rfl ?_
      refine v_cali X (c_countPlain G hA) cv_X4_167 obX4 rfl (by decide) rfl (by rfl) (Nat.le_of_ble_eq_true rfl) dX4_count_46 (fun r τ hp => ?_)
      obtain ⟨rfl, q1, q2⟩ := hp
      refine v_ret X hR dX4_count_49 rfl ?_
      have e : sp_count (nI 1) A = (nI (cnt A.1 (nI 1)), A) := by rfl
      rw [e]
      exact ⟨rfl, q1, q2⟩
    · refine v_tabIn (off := 49) (tgt := 50) X dX4_count_1 (by decide) (by decide) (by decide) (by decide) ?_
      refine v_aload_n X dX4_count_50 rfl ?_
      refine v_cali X (c_countTrueByRows G hA) cv_X4_170 obX4 rfl (by decide) rfl (by rfl) (Nat.le_of_ble_eq_true rfl) dX4_count_51 (fun r τ hp => ?_)
      obtain ⟨rfl, q1, q2⟩ := hp
      refine v_aload_n X dX4_count_54 rfl ?_
      refine v_cali X (c_countPlain G q1) cv_X4_167 obX4 rfl (by decide) rfl (by rfl) (Nat.le_of_ble_eq_true rfl) dX4_count_55 (fun r2 τ2 hp2 => ?_)
      obtain ⟨rfl, q3, q4⟩ := hp2
      refine v_isub X dX4_count_58 ?_
      have hsp := ctB_split (n := 6) (f := fun s => decide (0 < (A.1 s).length) && rowT (A.1 s)) (g := fun s => decide (0 < (A.1 s).length) && pln (A.1 s)) (h := fun s => decide (0 < (A.1 s).length) && (rowT (A.1 s) && !pln (A.1 s))) (fun k _ => by
        have hpl : pln (A.1 k) = true → rowT (A.1 k) = true := fun z => ((Bool.and_eq_true _ _).mp z).1
        cases hd : decide (0 < (A.1 k).length) <;> cases hr : rowT (A.1 k) <;> cases hq : pln (A.1 k) <;> simp [hr, hq] at hpl ⊢)
      refine v_top (y := nI (cnt A.1 (nI 2))) (by rw [hsp, pk_sub (by omega), Nat.add_sub_cancel_left]; rfl) ?_
      refine v_ret X hR dX4_count_59 rfl ?_
      have e : sp_count (nI 2) A = (nI (cnt A.1 (nI 2)), A) := by rfl
      rw [e]
      exact ⟨rfl, q3, q2.trans q4⟩
    · refine v_tabIn (off := 59) (tgt := 60) X dX4_count_1 (by decide) (by decide) (by decide) (by decide) ?_
      refine v_aload_n X dX4_count_60 rfl ?_
      refine v_getr X fl_X4_10 shX4_0 dX4_count_61 ?_
      refine v_cali X (c_countUnlike G (a := 0) (by decide) (PS := A.1) (fun x hx => by have := (hA.1 x (by omega)).1; rw [show 6 * 0 + x = x by omega]; exact this)) cv_X4_173 (obX2 (by first | assumption | omega)) rfl (by decide) rfl (by rfl) (Nat.le_of_ble_eq_true rfl) dX4_count_64 (fun r τ9 hq => ?_)
      obtain ⟨e9, rfl⟩ := hq
      rw [e9]
      refine v_ret X hR dX4_count_67 rfl ?_
      have e : sp_count (nI 3) A = (nI (cnt A.1 (nI 3)), A) := by rfl
      rw [e]
      exact ⟨rfl, hA, mO.rfl⟩
    · refine v_tabIn (off := 67) (tgt := 68) X dX4_count_1 (by decide) (by decide) (by decide) (by decide) ?_
      refine v_aload_n X dX4_count_68 rfl ?_
      refine v_getr X fl_X4_27 shX4_3 dX4_count_69 ?_
      refine v_geti X fl_X4_48 shX3_0 dX4_count_72 ?_
      rw [hA.2.1.2.1]
      refine v_ret X hR dX4_count_75 rfl ?_
      have e : sp_count (nI 4) A = (nI A.2.1.length, A) := by rfl
      rw [e]
      exact ⟨rfl, hA, mO.rfl⟩
    · refine v_tabIn (off := 75) (tgt := 76) X dX4_count_1 (by decide) (by decide) (by decide) (by decide) ?_
      refine v_aload_n X dX4_count_76 rfl ?_
      refine v_geti X fl_X4_20 shX4_2 dX4_count_77 ?_
      rw [hA.2.2.2.1]
      refine v_ret X hR dX4_count_80 rfl ?_
      have e : sp_count (nI 5) A = (nI A.2.2.2, A) := by rfl
      rw [e]
      exact ⟨rfl, hA, mO.rfl⟩
