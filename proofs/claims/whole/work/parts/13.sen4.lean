set_option maxHeartbeats 4000000 in
set_option maxRecDepth 100000 in
theorem c_rowsOf (G : GT) {σ : Sg} {j : Nat} (hj : j < 20) {P : Sen} (hP : hs σ j P) {q : Pt} (hq : okp P.length q) : MC G yX1_rowsOf cX1_rowsOf 4 .int 0 [.ref (G.2.2.1 (7 * j)), .int (pK q), .int (pA q), .int (pB q)] σ (fun r τ => τ = σ ∧ r = rwV (rwL P) q) := by
  refine MC_of (by decide) (ca1 rfl (ca1 rfl (ca1 rfl (ca1 rfl ca0)))) (Nat.le_of_ble_eq_true rfl) ?_
  intro Z X hR
  show V G Z σ 0 [some (.ref (G.2.2.1 (7 * j))), some (.int (pK q)), some (.int (pA q)), some (.int (pB q))] []
  obtain ⟨p1, p2, p3, p4, p5⟩ := hP
  obtain ⟨t, a, b⟩ := q
  rcases hq with ⟨h0, ha, hb⟩ | ⟨h0, ha, hb⟩ | ⟨h1, h2, ha, hb⟩
  · simp only at h0 ha hb
    subst h0; subst hb
    show V G Z σ 0 [some (.ref (G.2.2.1 (7 * j))), some (.int (nI 0)), some (.int (nI a)), some (.int (-6))] []
    refine v_iload_n X dX1_rowsOf_0 rfl ?_
    refine v_tabIn (off := 35) (tgt := 36) X dX1_rowsOf_1 (by decide) (by decide) (by decide) (by decide) ?_
    refine v_atoms X fs_X1_50 dX1_rowsOf_36 ?_
    refine v_iload_n X dX1_rowsOf_39 rfl ?_
    refine v_taldE X rfl (by first | assumption | omega) dX1_rowsOf_40 ?_
    refine v_ret X hR dX1_rowsOf_41 rfl ?_
    exact ⟨rfl, rfl⟩
  · simp only at h0 ha hb
    subst h0; subst ha; subst hb
    show V G Z σ 0 [some (.ref (G.2.2.1 (7 * j))), some (.int (nI 1)), some (.int (-6)), some (.int (-6))] []
    refine v_iload_n X dX1_rowsOf_0 rfl ?_
    refine v_tabIn (off := 88) (tgt := 89) X dX1_rowsOf_1 (by decide) (by decide) (by decide) (by decide) ?_
    refine v_iconst (v := nI 0) X dX1_rowsOf_89 (by decide) ?_
    refine v_ret X hR dX1_rowsOf_90 rfl ?_
    exact ⟨rfl, rfl⟩
  · simp only at h1 h2 ha hb
    have e1 : pA (t, a, b) = nI a := if_neg (show ¬ t = 1 by omega)
    have e2 : pB (t, a, b) = nI b := if_neg (show ¬ t < 2 by omega)
    have e0 : pK (t, a, b) = nI t := rfl
    rw [e0, e1, e2]
    have ra := (p5 a ha).2
    have rb := (p5 b hb).2
    have ht : t = 2 ∨ t = 3 ∨ t = 4 := by omega
    rcases ht with rfl | rfl | rfl
    · skip
      refine v_iload_n X dX1_rowsOf_0 rfl ?_
      refine v_tabIn (off := 41) (tgt := 42) X dX1_rowsOf_1 (by decide) (by decide) (by decide) (by decide) ?_
      refine v_aload_n X dX1_rowsOf_42 rfl ?_
      refine v_getr X fl_X1_32 (shX1_6 (by first | assumption | omega)) dX1_rowsOf_43 ?_
      refine v_iload_n X dX1_rowsOf_46 rfl ?_
      refine v_ialdE X (arX1_6 (by first | assumption | omega)) rfl (by first | assumption | omega) dX1_rowsOf_47 ?_
      refine v_aload_n X dX1_rowsOf_48 rfl ?_
      refine v_getr X fl_X1_32 (shX1_6 (by first | assumption | omega)) dX1_rowsOf_49 ?_
      refine v_iload_n X dX1_rowsOf_52 rfl ?_
      refine v_ialdE X (arX1_6 (by first | assumption | omega)) rfl (by first | assumption | omega) dX1_rowsOf_53 ?_
      refine v_iand X dX1_rowsOf_54 ?_
      refine v_ret X hR dX1_rowsOf_55 rfl ?_
      exact ⟨rfl, by rw [ra, rb]; rfl⟩
    · skip
      refine v_iload_n X dX1_rowsOf_0 rfl ?_
      refine v_tabIn (off := 55) (tgt := 56) X dX1_rowsOf_1 (by decide) (by decide) (by decide) (by decide) ?_
      refine v_aload_n X dX1_rowsOf_56 rfl ?_
      refine v_getr X fl_X1_32 (shX1_6 (by first | assumption | omega)) dX1_rowsOf_57 ?_
      refine v_iload_n X dX1_rowsOf_60 rfl ?_
      refine v_ialdE X (arX1_6 (by first | assumption | omega)) rfl (by first | assumption | omega) dX1_rowsOf_61 ?_
      refine v_aload_n X dX1_rowsOf_62 rfl ?_
      refine v_getr X fl_X1_32 (shX1_6 (by first | assumption | omega)) dX1_rowsOf_63 ?_
      refine v_iload_n X dX1_rowsOf_66 rfl ?_
      refine v_ialdE X (arX1_6 (by first | assumption | omega)) rfl (by first | assumption | omega) dX1_rowsOf_67 ?_
      refine v_ior X dX1_rowsOf_68 ?_
      refine v_ret X hR dX1_rowsOf_69 rfl ?_
      exact ⟨rfl, by rw [ra, rb]; rfl⟩
    · skip
      refine v_iload_n X dX1_rowsOf_0 rfl ?_
      refine v_tabIn (off := 69) (tgt := 70) X dX1_rowsOf_1 (by decide) (by decide) (by decide) (by decide) ?_
      refine v_aload_n X dX1_rowsOf_70 rfl ?_
      refine v_getr X fl_X1_32 (shX1_6 (by first | assumption | omega)) dX1_rowsOf_71 ?_
      refine v_iload_n X dX1_rowsOf_74 rfl ?_
      refine v_ialdE X (arX1_6 (by first | assumption | omega)) rfl (by first | assumption | omega) dX1_rowsOf_75 ?_
      refine v_iconst (v := (-1)) X dX1_rowsOf_76 (by decide) ?_
      refine v_ixor X dX1_rowsOf_77 ?_
      refine v_ldci X ck_X1_53 dX1_rowsOf_78 ?_
      refine v_iand X dX1_rowsOf_80 ?_
      refine v_aload_n X dX1_rowsOf_81 rfl ?_
      refine v_getr X fl_X1_32 (shX1_6 (by first | assumption | omega)) dX1_rowsOf_82 ?_
      refine v_iload_n X dX1_rowsOf_85 rfl ?_
      refine v_ialdE X (arX1_6 (by first | assumption | omega)) rfl (by first | assumption | omega) dX1_rowsOf_86 ?_
      refine v_ior X dX1_rowsOf_87 ?_
      refine v_ret X hR dX1_rowsOf_88 rfl ?_
      exact ⟨rfl, by rw [ra, rb]; rfl⟩
theorem hs_snoc {σ τ : Sg} {j : Nat} {P : Sen} {q : Pt} (hP : hs σ j P) (hl : P.length < 11) (hq : okp P.length q) (h0 : τ (7 * j) 0 = nI (P.length + 1))
    (hx : ∀ x, x < P.length → τ (7 * j + 1) x = σ (7 * j + 1) x ∧ τ (7 * j + 2) x = σ (7 * j + 2) x ∧ τ (7 * j + 3) x = σ (7 * j + 3) x ∧ τ (7 * j + 4) x = σ (7 * j + 4) x ∧ τ (7 * j + 5) x = σ (7 * j + 5) x)
    (h1 : τ (7 * j + 1) P.length = pK q) (h2 : τ (7 * j + 2) P.length = pA q) (h3 : τ (7 * j + 3) P.length = pB q) (h4 : τ (7 * j + 4) P.length = nI (if q.1 < 2 then 1 else (lnL P).getD q.2.1 0 + (lnL P).getD q.2.2 0 + 3)) (h5 : τ (7 * j + 5) P.length = rwV (rwL P) q) : hs τ j (P ++ [q]) := by
  obtain ⟨p1, p2, p3, p4, p5⟩ := hP
  have hlen : (P ++ [q]).length = P.length + 1 := by simp
  refine ⟨by omega, ?_, by rw [hlen]; exact h0, fun k p hk => ?_, fun k hk => ?_⟩
  · have := wf_addP p2 hq
    by_cases hm : q ∈ P
    · intro k p hk
      rw [List.getElem?_append] at hk
      split at hk
      · exact p2 k p hk
      · have : k - P.length = 0 := by
          rcases Nat.eq_zero_or_pos (k - P.length) with h | h
          · exact h
          · rw [List.getElem?_eq_none (by simp; omega)] at hk; cases hk
        rw [this] at hk
        have hk : q = p := by simpa using hk
        subst hk
        exact hq.mono (by omega)
    · rw [addP_new hm] at this; exact this
  · rw [List.getElem?_append] at hk
    split at hk
    · rename_i hlt
      obtain ⟨a1, a2, a3, -⟩ := hx k hlt
      rw [a1, a2, a3]
      exact p4 k p hk
    · have : k - P.length = 0 := by
        rcases Nat.eq_zero_or_pos (k - P.length) with h | h
        · exact h
        · rw [List.getElem?_eq_none (by simp; omega)] at hk; cases hk
      rw [this] at hk
      have hk : q = p := by simpa using hk
      subst hk
      have e : k = P.length := by omega
      subst e
      exact ⟨h1, h2, h3⟩
  · rw [hlen] at hk
    rw [lnL_app, rwL_app]
    unfold lnS rwS
    rcases Nat.lt_or_ge k P.length with h | h
    · obtain ⟨-, -, -, a4, a5⟩ := hx k h
      rw [a4, a5]
      simp only [List.getD_eq_getElem?_getD]
      rw [List.getElem?_append_left (by rw [lnL_len]; exact h), List.getElem?_append_left (by rw [rwL_len]; exact h)]
      have := p5 k h
      simpa only [List.getD_eq_getElem?_getD] using this
    · have e : k = P.length := by omega
      subst e
      rw [h4, h5]
      simp only [List.getD_eq_getElem?_getD]
      rw [List.getElem?_append_right (by rw [lnL_len]; exact Nat.le_refl _), List.getElem?_append_right (by rw [rwL_len]; exact Nat.le_refl _), lnL_len, rwL_len, Nat.sub_self]
      simp
set_option maxHeartbeats 4000000 in
set_option maxRecDepth 100000 in
theorem c_add (G : GT) {σ : Sg} {j : Nat} (hj : j < 20) {P : Sen} (hP : hs σ j P) {q : Pt} (hq : okp P.length q) : MC G yX1_add cX1_add 5 .int 1 [.ref (G.2.2.1 (7 * j)), .int (pK q), .int (pA q), .int (pB q)] σ (fun r τ => offS j σ τ ∧ τ (7 * j + 6) = σ (7 * j + 6) ∧ ((q ∈ P ∧ τ = σ ∧ r = nI (P.idxOf q)) ∨ (q ∉ P ∧ P.length = 11 ∧ τ = s2 σ (7 * j) 1 (nI 1) ∧ r = nI 0) ∨ (q ∉ P ∧ P.length < 11 ∧ hs τ j (P ++ [q]) ∧ τ (7 * j) 1 = σ (7 * j) 1 ∧ r = nI P.length))) := by
  refine MC_of (by decide) (ca1 rfl (ca1 rfl (ca1 rfl (ca1 rfl ca0)))) (Nat.le_of_ble_eq_true rfl) ?_
  intro Z X hR
  show V G Z σ 0 [some (.ref (G.2.2.1 (7 * j))), some (.int (pK q)), some (.int (pA q)), some (.int (pB q)), none] []
  have hP0 := hP
  obtain ⟨p1, p2, p3, p4, p5⟩ := hP
  have big : q ∉ P → P.length = 11 → ∀ lo, V G Z σ 52 [some (.ref (G.2.2.1 (7 * j))), some (.int (pK q)), some (.int (pA q)), some (.int (pB q)), lo] [] := by
    intro hm hl lo
    refine v_aload_n X dX1_add_52 rfl ?_
    refine v_iconst (v := nI 1) X dX1_add_53 (by decide) ?_
    refine v_puti X fw_X1_15 (shX1_1 (by first | assumption | omega)) dX1_add_54 rfl rfl ?_
    refine v_iconst (v := nI 0) X dX1_add_57 (by decide) ?_
    refine v_ret X hR dX1_add_58 rfl ?_
    exact ⟨offS.rfl.s2 (by omega) (by omega), by rw [s2_nc (by omega)], Or.inr (Or.inl ⟨hm, hl, rfl, rfl⟩)⟩
  have loop : ∀ (n k : Nat), P.length - k < n → k ≤ P.length → (∀ x, x < k → P[x]? ≠ some q) → V G Z σ 3 [some (.ref (G.2.2.1 (7 * j))), some (.int (pK q)), some (.int (pA q)), some (.int (pB q)), some (.int (nI k))] [] := by
    intro n
    induction n with
    | zero => intro k h; omega
    | succ n ih =>
      intro k hn hkl hin
      refine v_iload X dX1_add_3 rfl ?_
      refine v_aload_n X dX1_add_5 rfl ?_
      refine v_geti X fl_X1_9 (shX1_0 (by first | assumption | omega)) dX1_add_6 ?_
      refine v_top p3 ?_
      refine v_icmp_ge (tgt := 33) X dX1_add_9 (by decide) (fun h9 => ?_) (fun h9 => ?_)
      · skip
        have hk := nI_lem (by omega) (by omega) h9
        have hnm : q ∉ P := not_mem_of (fun x hx => hin x (by omega))
        refine v_aload_n X dX1_add_33 rfl ?_
        refine v_geti X fl_X1_9 (shX1_0 (by first | assumption | omega)) dX1_add_34 ?_
        refine v_bipush (v := nI 11) X dX1_add_37 (by decide) ?_
        rw [p3]
        refine v_icmp_ge (tgt := 52) X dX1_add_39 (by decide) (fun h39 => ?_) (fun h39 => ?_)
        · skip
          exact big hnm (by have := nI_lem (a := 11) (by decide) (by omega) h39; omega) _
        · skip
          have hl11 : P.length < 11 := nI_len (a := 11) (by decide) (by omega) h39
          refine v_aload_n X dX1_add_42 rfl ?_
          refine v_iload_n X dX1_add_43 rfl ?_
          refine v_iload_n X dX1_add_44 rfl ?_
          refine v_iload_n X dX1_add_45 rfl ?_
          refine v_cali X (c_canStand G hj p1 p3 hq) cv_X1_42 (obX1 (by first | assumption | omega)) rfl (by decide) rfl (by rfl) (Nat.le_of_ble_eq_true rfl) dX1_add_46 (fun r τ hp => ?_)
          obtain ⟨rfl, rfl⟩ := hp
          refine v_if_ne (tgt := 59) X dX1_add_49 (by decide) (fun h49 => ?_) (fun h49 => ?_)
          · skip
            refine v_aload_n X dX1_add_59 rfl ?_
            refine v_getr X fl_X1_19 (shX1_2 (by first | assumption | omega)) dX1_add_60 ?_
            refine v_aload_n X dX1_add_63 rfl ?_
            refine v_geti X fl_X1_9 (shX1_0 (by first | assumption | omega)) dX1_add_64 ?_
            refine v_iload_n X dX1_add_67 rfl ?_
            refine v_iastE X (arX1_2 (by first | assumption | omega)) p3 hl11 dX1_add_68 ?_
            refine v_aload_n X dX1_add_69 rfl ?_
            refine v_getr X fl_X1_23 (shX1_3 (by first | assumption | omega)) dX1_add_70 ?_
            refine v_aload_n X dX1_add_73 rfl ?_
            refine v_geti X fl_X1_9 (shX1_0 (by first | assumption | omega)) dX1_add_74 ?_
            refine v_iload_n X dX1_add_77 rfl ?_
            rw [s2_nc (by omega)]
            refine v_iastE X (arX1_3 (by first | assumption | omega)) p3 hl11 dX1_add_78 ?_
            refine v_aload_n X dX1_add_79 rfl ?_
            refine v_getr X fl_X1_26 (shX1_4 (by first | assumption | omega)) dX1_add_80 ?_
            refine v_aload_n X dX1_add_83 rfl ?_
            refine v_geti X fl_X1_9 (shX1_0 (by first | assumption | omega)) dX1_add_84 ?_
            refine v_iload_n X dX1_add_87 rfl ?_
            repeat rw [s2_nc (by omega)]
            refine v_iastE X (arX1_4 (by first | assumption | omega)) p3 hl11 dX1_add_88 ?_
            refine v_aload_n X dX1_add_89 rfl ?_
            refine v_getr X fl_X1_29 (shX1_5 (by first | assumption | omega)) dX1_add_90 ?_
            refine v_aload_n X dX1_add_93 rfl ?_
            refine v_geti X fl_X1_9 (shX1_0 (by first | assumption | omega)) dX1_add_94 ?_
            have e0 : ∀ x, (s2 (s2 (s2 τ (7 * j + 1) P.length (pK q)) (7 * j + 2) P.length (pA q)) (7 * j + 3) P.length (pB q)) (7 * j) x = τ (7 * j) x := fun x => by repeat rw [s2_nc (by omega)]
            rw [e0, p3]
            have mid : ∀ v : Int32, v = nI (if q.1 < 2 then 1 else (lnL P).getD q.2.1 0 + (lnL P).getD q.2.2 0 + 3) → V G Z (s2 (s2 (s2 τ (7 * j + 1) P.length (pK q)) (7 * j + 2) P.length (pA q)) (7 * j + 3) P.length (pB q)) 121 [some (.ref (G.2.2.1 (7 * j))), some (.int (pK q)), some (.int (pA q)), some (.int (pB q)), some (.int (nI k))] [.int v, .int (nI P.length), .ref (G.2.2.1 (7 * j + 4))] := by
              intro v hv
              refine v_iastE X (arX1_5 (by first | assumption | omega)) rfl hl11 dX1_add_121 ?_
              refine v_aload_n X dX1_add_122 rfl ?_
              refine v_getr X fl_X1_32 (shX1_6 (by first | assumption | omega)) dX1_add_123 ?_
              refine v_aload_n X dX1_add_126 rfl ?_
              refine v_geti X fl_X1_9 (shX1_0 (by first | assumption | omega)) dX1_add_127 ?_
              rw [s2_nc (by omega), e0, p3]
              have hP4 : hs (s2 (s2 (s2 (s2 τ (7 * j + 1) P.length (pK q)) (7 * j + 2) P.length (pA q)) (7 * j + 3) P.length (pB q)) (7 * j + 4) P.length v) j P := by
                refine ⟨p1, p2, by rw [s2_nc (by omega), e0]; exact p3, fun x p hx => ?_, fun x hx => ?_⟩
                · have hxl : x ≠ P.length := by have := (List.getElem?_eq_some_iff.mp hx).1; omega
                  simp only [s2_ap, hxl, and_false, if_false]
                  exact p4 x p hx
                · have hxl : x ≠ P.length := by omega
                  simp only [s2_ap, hxl, and_false, if_false]
                  exact p5 x hx
              refine v_aload_n X dX1_add_130 rfl ?_
              refine v_iload_n X dX1_add_131 rfl ?_
              refine v_iload_n X dX1_add_132 rfl ?_
              refine v_iload_n X dX1_add_133 rfl ?_
              refine v_cali X (c_rowsOf G hj hP4 hq) cv_X1_46 (obX1 (by first | assumption | omega)) rfl (by decide) rfl (by rfl) (Nat.le_of_ble_eq_true rfl) dX1_add_134 (fun r υ hp => ?_)
              obtain ⟨rfl, rfl⟩ := hp
              refine v_iastE X (arX1_6 (by first | assumption | omega)) rfl hl11 dX1_add_137 ?_
              refine v_aload_n X dX1_add_138 rfl ?_
              refine v_dup X dX1_add_139 rfl ?_
              refine v_geti X fl_X1_9 (shX1_0 (by first | assumption | omega)) dX1_add_140 ?_
              rw [s2_nc (by omega), s2_nc (by omega), e0, p3]
              refine v_iconst (v := nI 1) X dX1_add_143 (by decide) ?_
              refine v_iadd X dX1_add_144 ?_
              refine v_top (nI_add P.length 1) ?_
              refine v_puti X fw_X1_9 (shX1_0 (by first | assumption | omega)) dX1_add_145 rfl rfl ?_
              refine v_aload_n X dX1_add_148 rfl ?_
              refine v_geti X fl_X1_9 (shX1_0 (by first | assumption | omega)) dX1_add_149 ?_
              refine v_top (s2_at _ _ _ _) ?_
              refine v_iconst (v := nI 1) X dX1_add_152 (by decide) ?_
              refine v_isub X dX1_add_153 ?_
              refine v_top (y := nI P.length) (by rw [nI_s1 (by omega)]; rfl) ?_
              refine v_ret X hR dX1_add_154 rfl ?_
              refine ⟨((((((offS.rfl.s2 (by omega) (by omega)).s2 (by omega) (by omega)).s2 (by omega) (by omega)).s2 (by omega) (by omega)).s2 (by omega) (by omega)).s2 (by omega) (by omega)), by repeat rw [s2_nc (by omega)], Or.inr (Or.inr ⟨hnm, hl11, ?_, ?_, rfl⟩)⟩
              · refine hs_snoc hP0 hl11 hq (s2_at _ _ _ _) (fun x hx => ?_) ?_ ?_ ?_ ?_ ?_
                · have hxl : x ≠ P.length := by omega
                  simp [s2_ap, hxl]
                · simp [s2_ap]
                · simp [s2_ap]
                · simp [s2_ap]
                · simp [s2_ap]; exact hv
                · simp [s2_ap]
              · simp [s2_ap]
            refine v_iload_n X dX1_add_97 rfl ?_
            refine v_iconst (v := nI 2) X dX1_add_98 (by decide) ?_
            refine v_icmp_ge (tgt := 106) X dX1_add_99 (by decide) (fun h99 => ?_) (fun h99 => ?_)
            · skip
              have h2 : ¬ q.1 < 2 := by have := nI_lem (a := 2) (by decide) (by have := hq.k4; omega) h99; omega
              obtain ⟨t, a, b⟩ := q
              rcases hq with ⟨z, -⟩ | ⟨z, -⟩ | ⟨g1, g2, ga, gb⟩
              · simp only at z h2; omega
              · simp only at z h2; omega
              simp only at g1 g2 ga gb h2
              have e1 : pA (t, a, b) = nI a := if_neg (show ¬ t = 1 by omega)
              have e2 : pB (t, a, b) = nI b := if_neg (show ¬ t < 2 by omega)
              refine v_aload_n X dX1_add_106 rfl ?_
              refine v_getr X fl_X1_29 (shX1_5 (by first | assumption | omega)) dX1_add_107 ?_
              refine v_iload_n X dX1_add_110 rfl ?_
              refine v_ialdE X (arX1_5 (by first | assumption | omega)) e1 (show a < 11 by omega) dX1_add_111 ?_
              refine v_aload_n X dX1_add_112 rfl ?_
              refine v_getr X fl_X1_29 (shX1_5 (by first | assumption | omega)) dX1_add_113 ?_
              refine v_iload_n X dX1_add_116 rfl ?_
              refine v_ialdE X (arX1_5 (by first | assumption | omega)) e2 (show b < 11 by omega) dX1_add_117 ?_
              refine v_iadd X dX1_add_118 ?_
              refine v_iconst (v := nI 3) X dX1_add_119 (by decide) ?_
              refine v_iadd X dX1_add_120 ?_
              refine mid _ ?_
              rw [if_neg h2]
              have r4 : ∀ x, (s2 (s2 (s2 τ (7 * j + 1) P.length (pK (t, a, b))) (7 * j + 2) P.length (pA (t, a, b))) (7 * j + 3) P.length (pB (t, a, b))) (7 * j + 4) x = τ (7 * j + 4) x := fun x => by repeat rw [s2_nc (by omega)]
              rw [r4, r4, (p5 a ga).1, (p5 b gb).1, nI_add, nI_add]
            · skip
              have h2 : q.1 < 2 := nI_len (a := 2) (by decide) (by have := hq.k4; omega) h99
              refine v_iconst (v := nI 1) X dX1_add_102 (by decide) ?_
              refine v_goto (tgt := 121) X dX1_add_103 (by decide) ?_
              exact mid _ (by rw [if_pos h2])
          · skip
            exact absurd h49 (by decide)
      · skip
        have hk := nI_len (by omega) (by omega) h9
        have hk11 : k < 11 := by omega
        refine v_aload_n X dX1_add_12 rfl ?_
        refine v_iload X dX1_add_13 rfl ?_
        refine v_iload_n X dX1_add_15 rfl ?_
        refine v_iload_n X dX1_add_16 rfl ?_
        refine v_iload_n X dX1_add_17 rfl ?_
        refine v_cali X (c_isAt G hj hk11 _ _ _) cv_X1_38 (obX1 (by first | assumption | omega)) rfl (by decide) rfl (by rfl) (Nat.le_of_ble_eq_true rfl) dX1_add_18 (fun r τ hp => ?_)
        obtain ⟨rfl, rfl⟩ := hp
        obtain ⟨p, hp⟩ : ∃ p, P[k]? = some p := ⟨P[k], List.getElem?_eq_getElem hk⟩
        obtain ⟨a1, a2, a3⟩ := p4 k p hp
        rw [a1, a2, a3]
        have hpe := pt_eq ((p2 k p hp).mono (k' := P.length) (by omega)) hq (by omega)
        refine v_if_eq (tgt := 27) X dX1_add_21 (by decide) (fun h21 => ?_) (fun h21 => ?_)
        · skip
          have e : ¬ p = q := fun z => of_decide_eq_false (bI_z.mp h21) (hpe.mpr z)
          refine v_iincE X dX1_add_27 rfl (nI_inc k) ?_
          show V G Z _ 30 [_, _, _, _, _] _
          refine v_goto (tgt := 3) X dX1_add_30 (by decide) ?_
          exact ih (k + 1) (by omega) (by omega) (fun x hx => by
            rcases Nat.lt_or_ge x k with h | h
            · exact hin x h
            · rw [show x = k by omega, hp]; exact fun z => e (Option.some.inj z))
        · skip
          have e : p = q := hpe.mp (of_decide_eq_true (bI_nz.mp h21))
          subst e
          refine v_iload X dX1_add_24 rfl ?_
          refine v_ret X hR dX1_add_26 rfl ?_
          exact ⟨offS.rfl, rfl, Or.inl ⟨List.mem_of_getElem? hp, rfl, by rw [idx_first hp hin]⟩⟩
  refine v_iconst (v := nI 0) X dX1_add_0 (by decide) ?_
  refine v_istore X dX1_add_1 (Nat.le_of_ble_eq_true rfl) ?_
  show V G Z _ 3 [_, _, _, _, _] _
  exact loop (P.length + 1) 0 (by omega) (by omega) (fun x h => by omega)
