/-- the parser's state, as the reference holds it -/
def mP (τ : Sg) (st : PS) : Prop := wsI τ st.1 st.2.1 ∧ (st.2.2.1 = true → τ 156 15 = nI 0) ∧ (st.2.2.1 = false → wlI τ st.1 st.2.1 st.2.2.2)
theorem mP_fin {τ : Sg} {P : Sen} {stk : Stk} {q : Pt} (h1 : wsI τ (fnA stk (addP P q) ((addP P q).idxOf q)).1 (fnA stk (addP P q) ((addP P q).idxOf q)).2.1) (h2 : wlI τ (fnA stk (addP P q) ((addP P q).idxOf q)).1 (fnA stk (addP P q) ((addP P q).idxOf q)).2.1 (fnA stk (addP P q) ((addP P q).idxOf q)).2.2) : mP τ (fnS stk P q) := ⟨h1, (fun z => by cases z), fun _ => h2⟩
theorem wsI_p {σ τ : Sg} {P P' : Sen} {stk : Stk} (h : wsI σ P stk) (hw : wS τ P') (ho : pO σ τ) (hl : P.length ≤ P'.length) (hs : stk.length < 64) : wsI τ P' stk := by
  obtain ⟨a1, a2, a3, a4⟩ := h
  exact ⟨hw, by rw [ho.2 14 (by decide)]; exact a2, mk_cong (σ := σ) 64 (fun x _ => by rw [ho.1 165 (by decide) (by decide) (by decide) (by decide)]) (fun x _ => by rw [ho.1 166 (by decide) (by decide) (by decide) (by decide)]) (fun x _ => by rw [ho.1 167 (by decide) (by decide) (by decide) (by decide)]) stk hs a3, a4.mono hl⟩
def szS (st : PS) : Nat := st.1.length + 2 * st.2.1.length
set_option maxHeartbeats 4000000 in
set_option maxRecDepth 100000 in
theorem m_begins (G : GT) {σ : Sg} {P : Sen} {stk : Stk} {l s : Nat} (h : wsI σ P stk) (hn : σ 156 15 = nI 0) (hb : P.length + 2 * stk.length ≤ 117) (hs7 : s < 127) : MC G yX5_begins cX5_begins 2 .boolean 2 [.ref (G.2.2.1 156), .int (nI s)] σ (fun r τ => kO σ τ ∧ ((bgA s P stk l = none ∧ r = nI 0) ∨ ∃ st', bgA s P stk l = some st' ∧ r = nI 1 ∧ mP τ st' ∧ szS st' ≤ P.length + 2 * stk.length + 3)) := by
  refine MC_of (by decide) (ca1 rfl (ca1 rfl ca0)) (Nat.le_of_ble_eq_true rfl) ?_
  intro Z X hR
  show V G Z σ 0 [some (.ref (G.2.2.1 156)), some (.int (nI s))] []
  refine v_iload_n X dX5_begins_0 rfl ?_
  refine v_bipush (v := nI 112) X dX5_begins_1 (by decide) ?_
  refine v_bipush (v := nI 115) X dX5_begins_3 (by decide) ?_
  refine v_cals X (m_in G _ _ _) cs_X5_69 (by decide) rfl (by rfl) (Nat.le_of_ble_eq_true rfl) dX5_begins_5 (fun r τ9 hq => ?_)
  obtain ⟨e9, rfl⟩ := hq
  rw [e9]
  refine v_if_eq (tgt := 28) X dX5_begins_8 (by decide) (fun h8 => ?_) (fun h8 => ?_)
  · skip
    have hno : ¬ (112 ≤ s ∧ s ≤ 115) := by
      intro z
      exact of_decide_eq_false (bI_z.mp h8) ⟨nI_nlt z.1 (by omega), nI_nlt z.2 (by decide)⟩
    refine v_iload_n X dX5_begins_28 rfl ?_
    refine v_bipush (v := nI 70) X dX5_begins_29 (by decide) ?_
    refine v_icmp_ne (tgt := 49) X dX5_begins_31 (by decide) (fun h31 => ?_) (fun h31 => ?_)
    · skip
      have n3 := nI_eqn (by omega) (by omega) h31
      refine v_iload_n X dX5_begins_49 rfl ?_
      refine v_bipush (v := nI 45) X dX5_begins_50 (by decide) ?_
      refine v_icmp_eq (tgt := 61) X dX5_begins_52 (by decide) (fun h52 => ?_) (fun h52 => ?_)
      · skip
        have n4 := nI_eqm (by omega) (by omega) h52
        subst n4
        refine v_aload_n X dX5_begins_61 rfl ?_
        refine v_iload_n X dX5_begins_62 rfl ?_
        refine v_bipush (v := nI 45) X dX5_begins_63 (by decide) ?_
        refine v_icmp_ne (tgt := 72) X dX5_begins_65 (by decide) (fun h65 => ?_) (fun h65 => ?_)
        · skip
          exact absurd rfl h65
        · skip
          refine v_iconst (v := nI 1) X dX5_begins_68 (by decide) ?_
          refine v_goto (tgt := 73) X dX5_begins_69 (by decide) ?_
          refine v_calv X (m_push G (t := 1) (n := stk.length + 1) (by omega) h.2.1) cv_X5_93 obX5 rfl (by decide) rfl (by rfl) (Nat.le_of_ble_eq_true rfl) dX5_begins_73 (fun τ hp => ?_)
          subst hp
          refine v_iconst (v := nI 1) X dX5_begins_76 (by decide) ?_
          refine v_ret X hR dX5_begins_77 rfl ?_
          refine ⟨(kO.rfl.s2 (by omega)).s2 (by omega), Or.inr ⟨(P, (0, 0) :: stk, true, l), by rw [bgA, if_neg (by decide), if_pos rfl], rfl, ⟨⟨?_, ?_, ?_, ?_⟩, fun _ => ?_, fun z => by cases z⟩, ?_⟩⟩
          · exact wS_cong h.1 (by rw [s2_ap, if_neg (by decide), s2_nc (by decide)]) (by rw [s2_nc (by decide), s2_nc (by decide)]) (by rw [s2_nc (by decide), s2_nc (by decide)]) (by rw [s2_nc (by decide), s2_nc (by decide)])
          · exact s2_at _ _ _ _
          · refine ⟨by rw [s2_nc (by decide), s2_at]; rfl, fun z => absurd z (by decide), ?_⟩
            exact mk_cong (σ := σ) (stk.length + 1) (fun x hx => by rw [s2_nc (by decide), s2_ap, if_neg (by omega)]) (fun x _ => by rw [s2_nc (by decide), s2_nc (by decide)]) (fun x _ => by rw [s2_nc (by decide), s2_nc (by decide)]) stk (by omega) h.2.2.1
          · intro e he
            rcases List.mem_cons.mp he with rfl | he
            · exact ⟨by decide, fun z => absurd z (by decide)⟩
            · exact h.2.2.2 e he
          · rw [s2_ap, if_neg (by decide), s2_nc (by decide)]; exact hn
          · simp [szS]; omega
      · skip
        have n4 := nI_eqn (by omega) (by omega) h52
        refine v_iload_n X dX5_begins_55 rfl ?_
        refine v_bipush (v := nI 40) X dX5_begins_56 (by decide) ?_
        refine v_icmp_ne (tgt := 78) X dX5_begins_58 (by decide) (fun h58 => ?_) (fun h58 => ?_)
        · skip
          have n5 := nI_eqn (by omega) (by omega) h58
          refine v_iconst (v := nI 0) X dX5_begins_78 (by decide) ?_
          refine v_ret X hR dX5_begins_79 rfl ?_
          exact ⟨kO.rfl, Or.inl ⟨by rw [bgA, if_neg n5, if_neg n4, if_neg n3, if_neg hno], rfl⟩⟩
        · skip
          have n5 := nI_eqm (by omega) (by omega) h58
          subst n5
          refine v_aload_n X dX5_begins_61 rfl ?_
          refine v_iload_n X dX5_begins_62 rfl ?_
          refine v_bipush (v := nI 45) X dX5_begins_63 (by decide) ?_
          refine v_icmp_ne (tgt := 72) X dX5_begins_65 (by decide) (fun h65 => ?_) (fun h65 => ?_)
          · skip
            refine v_iconst (v := nI 2) X dX5_begins_72 (by decide) ?_
            refine v_calv X (m_push G (t := 2) (n := stk.length + 1) (by omega) h.2.1) cv_X5_93 obX5 rfl (by decide) rfl (by rfl) (Nat.le_of_ble_eq_true rfl) dX5_begins_73 (fun τ hp => ?_)
            subst hp
            refine v_iconst (v := nI 1) X dX5_begins_76 (by decide) ?_
            refine v_ret X hR dX5_begins_77 rfl ?_
            refine ⟨(kO.rfl.s2 (by omega)).s2 (by omega), Or.inr ⟨(P, (1, 0) :: stk, true, l), by rw [bgA, if_pos rfl], rfl, ⟨⟨?_, ?_, ?_, ?_⟩, fun _ => ?_, fun z => by cases z⟩, ?_⟩⟩
            · exact wS_cong h.1 (by rw [s2_ap, if_neg (by decide), s2_nc (by decide)]) (by rw [s2_nc (by decide), s2_nc (by decide)]) (by rw [s2_nc (by decide), s2_nc (by decide)]) (by rw [s2_nc (by decide), s2_nc (by decide)])
            · exact s2_at _ _ _ _
            · refine ⟨by rw [s2_nc (by decide), s2_at]; rfl, fun z => absurd z (by decide), ?_⟩
              exact mk_cong (σ := σ) (stk.length + 1) (fun x hx => by rw [s2_nc (by decide), s2_ap, if_neg (by omega)]) (fun x _ => by rw [s2_nc (by decide), s2_nc (by decide)]) (fun x _ => by rw [s2_nc (by decide), s2_nc (by decide)]) stk (by omega) h.2.2.1
            · intro e he
              rcases List.mem_cons.mp he with rfl | he
              · exact ⟨by decide, fun z => absurd z (by decide)⟩
              · exact h.2.2.2 e he
            · rw [s2_ap, if_neg (by decide), s2_nc (by decide)]; exact hn
            · simp [szS]; omega
          · skip
            exact absurd (nI_eqm (by decide) (by decide) h65) (by decide)
    · skip
      have n3 := nI_eqm (by omega) (by omega) h31
      subst n3
      refine v_aload_n X dX5_begins_34 rfl ?_
      refine v_aload_n X dX5_begins_35 rfl ?_
      refine v_iconst (v := nI 1) X dX5_begins_36 (by decide) ?_
      refine v_bipush (v := (-6)) X dX5_begins_37 (by decide) ?_
      refine v_bipush (v := (-6)) X dX5_begins_39 (by decide) ?_
      refine v_cali X (m_partOf G (q := (1, 0, 0)) h.1 (by omega) (Or.inr (Or.inl ⟨rfl, rfl, rfl⟩))) cv_X5_82 obX5 rfl (by decide) rfl (by rfl) (Nat.le_of_ble_eq_true rfl) dX5_begins_41 (fun r1 τ1 hp1 => ?_)
      obtain ⟨rfl, d1, d2⟩ := hp1
      have hle1 := addP_le P (1, 0, 0)
      have hle2 := addP_le1 P (1, 0, 0)
      have hT := wsI_p h d1 d2 hle1 (by omega)
      refine v_calv X (m_complete G hT (idx_lt _ _) (by omega)) cv_X5_89 obX5 rfl (by decide) rfl (by rfl) (Nat.le_of_ble_eq_true rfl) dX5_begins_44 (fun τ2 hp2 => ?_)
      obtain ⟨g1, g2, g3, g4⟩ := hp2
      refine v_iconst (v := nI 1) X dX5_begins_47 (by decide) ?_
      refine v_ret X hR dX5_begins_48 rfl ?_
      exact ⟨(kO.rfl.p d2).trans g1, Or.inr ⟨_, by rw [bgA, if_neg (by decide), if_neg (by decide), if_pos rfl], rfl, mP_fin g2 g3, by show (fnA _ _ _).1.length + 2 * (fnA _ _ _).2.1.length ≤ _; omega⟩⟩
  · skip
    have hyes : 112 ≤ s ∧ s ≤ 115 := by
      obtain ⟨q1, q2⟩ := of_decide_eq_true (bI_nz.mp h8)
      exact ⟨nI_ltn (by omega) (by decide) q1, nI_ltn (by decide) (by omega) q2⟩
    refine v_aload_n X dX5_begins_11 rfl ?_
    refine v_aload_n X dX5_begins_12 rfl ?_
    refine v_iconst (v := nI 0) X dX5_begins_13 (by decide) ?_
    refine v_iload_n X dX5_begins_14 rfl ?_
    refine v_bipush (v := nI 112) X dX5_begins_15 (by decide) ?_
    refine v_isub X dX5_begins_17 ?_
    refine v_top (pk_sub hyes.1) ?_
    refine v_bipush (v := (-6)) X dX5_begins_18 (by decide) ?_
    refine v_cali X (m_partOf G (q := (0, s - 112, 0)) h.1 (by omega) (Or.inl ⟨rfl, by show s - 112 < 4; omega, rfl⟩)) cv_X5_82 obX5 rfl (by decide) rfl (by rfl) (Nat.le_of_ble_eq_true rfl) dX5_begins_20 (fun r1 τ1 hp1 => ?_)
    obtain ⟨rfl, d1, d2⟩ := hp1
    have hle1 := addP_le P (0, s - 112, 0)
    have hle2 := addP_le1 P (0, s - 112, 0)
    have hT := wsI_p h d1 d2 hle1 (by omega)
    refine v_calv X (m_complete G hT (idx_lt _ _) (by omega)) cv_X5_89 obX5 rfl (by decide) rfl (by rfl) (Nat.le_of_ble_eq_true rfl) dX5_begins_23 (fun τ2 hp2 => ?_)
    obtain ⟨g1, g2, g3, g4⟩ := hp2
    refine v_iconst (v := nI 1) X dX5_begins_26 (by decide) ?_
    refine v_ret X hR dX5_begins_27 rfl ?_
    exact ⟨(kO.rfl.p d2).trans g1, Or.inr ⟨_, by rw [bgA, if_neg (by omega), if_neg (by omega), if_neg (by omega), if_pos hyes], rfl, mP_fin g2 g3, by show (fnA _ _ _).1.length + 2 * (fnA _ _ _).2.1.length ≤ _; omega⟩⟩
set_option maxHeartbeats 4000000 in
set_option maxRecDepth 100000 in
theorem m_reads (G : GT) {σ : Sg} {st : PS} {s : Nat} (h : mP σ st) (hz : nzS st) (hb : szS st ≤ 117) (hs7 : s < 127) : MC G yX5_reads cX5_reads 3 .boolean 3 [.ref (G.2.2.1 156), .int (nI s)] σ (fun r τ => kO σ τ ∧ ((stA s st = none ∧ r = nI 0) ∨ ∃ st', stA s st = some st' ∧ r = nI 1 ∧ mP τ st' ∧ szS st' ≤ szS st + 3)) := by
  refine MC_of (by decide) (ca1 rfl (ca1 rfl ca0)) (Nat.le_of_ble_eq_true rfl) ?_
  intro Z X hR
  show V G Z σ 0 [some (.ref (G.2.2.1 156)), some (.int (nI s)), none] []
  obtain ⟨P, stk, w, l⟩ := st
  obtain ⟨h1, h2, h3⟩ := h
  simp only [szS] at hb
  simp only at h1 h2 h3
  have hz : w = false → ∀ e r, stk = e :: r → ¬ e.1 = 0 := hz
  cases w with
  | true =>
    have h2 := h2 rfl
    rw [show stA s (P, stk, true, l) = bgA s P stk l from rfl] at hR
    refine v_aload_n X dX5_reads_0 rfl ?_
    refine v_geti X fl_X5_86 shX5_15 dX5_reads_1 ?_
    rw [h2]
    refine v_tabIn (off := 28) (tgt := 32) X dX5_reads_4 (by decide) (by decide) (by decide) (by decide) ?_
    refine v_aload_n X dX5_reads_32 rfl ?_
    refine v_iload_n X dX5_reads_33 rfl ?_
    refine v_cali X (m_begins G (l := l) h1 h2 hb hs7) cv_X5_96 obX5 rfl (by decide) rfl (by rfl) (Nat.le_of_ble_eq_true rfl) dX5_reads_34 (fun r τ hp => ?_)
    obtain ⟨q1, q2⟩ := hp
    refine v_ret X hR dX5_reads_37 (by rcases q2 with ⟨-, rfl⟩ | ⟨_, -, rfl, -⟩ <;> rfl) ?_
    exact ⟨q1, q2⟩
  | false =>
    obtain ⟨g1, g2, g3, g4⟩ := h3 rfl
    rw [show stA s (P, stk, false, l) = goA s P stk l from rfl] at hR
    cases stk with
    | nil =>
      refine v_aload_n X dX5_reads_0 rfl ?_
      refine v_geti X fl_X5_86 shX5_15 dX5_reads_1 ?_
      rw [g3]
      refine v_tabOut (tgt := 158) X dX5_reads_4 (Or.inr (by decide)) (by decide) ?_
      refine v_iconst (v := nI 0) X dX5_reads_158 (by decide) ?_
      refine v_ret X hR dX5_reads_159 rfl ?_
      exact ⟨kO.rfl, Or.inl ⟨rfl, rfl⟩⟩
    | cons e r =>
      obtain ⟨t, a⟩ := e
      have hn0 : ¬ t = 0 := hz rfl (t, a) r rfl
      obtain ⟨a1, a2, a3, a4⟩ := h1
      obtain ⟨c1, c2, c3⟩ := a3
      have a44 := a4 (t, a) List.mem_cons_self
      simp only [List.length_cons] at a2 hb a44
      rw [goA_cons] at hR
      by_cases ht : t = 1
      · have g3 : σ 156 15 = nI 1 := by rw [g3, mNx, if_pos ht]
        have g4 := g4 (t, a) r rfl ht
        rw [if_pos ht] at hR
        have sg : ∀ (k : Nat), k < 3 → s = (if k = 0 then 38 else if k = 1 then 124 else 62) → V G Z σ 70 [some (.ref (G.2.2.1 156)), some (.int (nI s)), none] [.int (nI (2 + k))] := by
          intro k hk hsk
          refine v_istore_n X dX5_reads_70 (Nat.le_of_ble_eq_true rfl) ?_
          show V G Z _ 71 [_, _, _] _
          refine v_iload_n X dX5_reads_71 rfl ?_
          refine v_if_ge (tgt := 77) X dX5_reads_72 (by decide) (fun h72 => ?_) (fun h72 => ?_)
          · skip
            refine v_aload_n X dX5_reads_77 rfl ?_
            refine v_getr X fl_X5_44 shX5_13 dX5_reads_78 ?_
            refine v_aload_n X dX5_reads_81 rfl ?_
            refine v_geti X fl_X5_79 shX5_14 dX5_reads_82 ?_
            refine v_iconst (v := nI 1) X dX5_reads_85 (by decide) ?_
            refine v_isub X dX5_reads_86 ?_
            refine v_iload_n X dX5_reads_87 rfl ?_
            refine v_iastE X arX5_13 (show _ = nI (r.length + 1) from by rw [a2, nI_s1 (by omega)]; rfl) (show r.length + 1 < 64 by omega) dX5_reads_88 ?_
            refine v_aload_n X dX5_reads_89 rfl ?_
            refine v_getr X fl_X5_38 shX5_11 dX5_reads_90 ?_
            refine v_aload_n X dX5_reads_93 rfl ?_
            refine v_geti X fl_X5_79 shX5_14 dX5_reads_94 ?_
            refine v_iconst (v := nI 1) X dX5_reads_97 (by decide) ?_
            refine v_isub X dX5_reads_98 ?_
            refine v_iconst (v := nI 3) X dX5_reads_99 (by decide) ?_
            refine v_iastE X arX5_11 (show _ = nI (r.length + 1) from by rw [s2_nc (by decide), a2, nI_s1 (by omega)]; rfl) (show r.length + 1 < 64 by omega) dX5_reads_100 ?_
            refine v_aload_n X dX5_reads_101 rfl ?_
            refine v_iconst (v := nI 0) X dX5_reads_102 (by decide) ?_
            refine v_puti X fw_X5_86 shX5_15 dX5_reads_103 rfl rfl ?_
            refine v_iconst (v := nI 1) X dX5_reads_106 (by decide) ?_
            refine v_ret X hR dX5_reads_107 rfl ?_
            refine ⟨((kO.rfl.s2 (by omega)).s2 (by omega)).s2 (by omega), Or.inr ⟨(P, (2 + k, l) :: r, true, l), ?_, rfl, ⟨⟨?_, ?_, ?_, ?_⟩, fun _ => s2_at _ _ _ _, fun z => by cases z⟩, ?_⟩⟩
            · rcases (show k = 0 ∨ k = 1 ∨ k = 2 by omega) with rfl | rfl | rfl
              · have hsk : s = 38 := hsk
                rw [if_pos hsk]
              · have hsk : s = 124 := hsk
                rw [if_neg (by omega), if_pos hsk]
              · have hsk : s = 62 := hsk
                rw [if_neg (by omega), if_neg (by omega), if_pos hsk]
            · exact wS_cong a1 (by rw [s2_ap, if_neg (by decide), s2_nc (by decide), s2_nc (by decide)]) (by rw [s2_nc (by decide), s2_nc (by decide), s2_nc (by decide)]) (by rw [s2_nc (by decide), s2_nc (by decide), s2_nc (by decide)]) (by rw [s2_nc (by decide), s2_nc (by decide), s2_nc (by decide)])
            · rw [s2_ap, if_neg (by decide), s2_nc (by decide), s2_nc (by decide)]; exact a2
            · refine ⟨?_, fun _ => ⟨?_, ?_⟩, ?_⟩
              · rw [s2_nc (by decide), s2_at, show opn (2 + k) = 3 from by rw [opn, if_neg (by omega), if_neg (by omega)]]
              · rw [s2_nc (by decide), s2_nc (by decide), s2_at]
              · rw [s2_nc (by decide), s2_nc (by decide), s2_nc (by decide)]; exact g4
              · exact mk_cong (σ := σ) (r.length + 1) (fun x hx => by rw [s2_nc (by decide), s2_ap, if_neg (by omega), s2_nc (by decide)]) (fun x _ => by rw [s2_nc (by decide), s2_nc (by decide), s2_nc (by decide)]) (fun x hx => by rw [s2_nc (by decide), s2_nc (by decide), s2_ap, if_neg (by omega)]) r (by omega) c3
            · intro e' he
              rcases List.mem_cons.mp he with rfl | he
              · exact ⟨by show 2 + k ≤ 4; omega, fun _ => g2⟩
              · exact a4 e' (List.mem_cons_of_mem _ he)
            · simp [szS]
          · skip
            exact absurd (nI_pos' (by omega)) h72
        refine v_aload_n X dX5_reads_0 rfl ?_
        refine v_geti X fl_X5_86 shX5_15 dX5_reads_1 ?_
        rw [g3]
        refine v_tabIn (off := 34) (tgt := 38) X dX5_reads_4 (by decide) (by decide) (by decide) (by decide) ?_
        refine v_iload_n X dX5_reads_38 rfl ?_
        refine v_bipush (v := nI 38) X dX5_reads_39 (by decide) ?_
        refine v_icmp_ne (tgt := 48) X dX5_reads_41 (by decide) (fun h41 => ?_) (fun h41 => ?_)
        · skip
          have n1 := nI_eqn (by omega) (by decide) h41
          refine v_iload_n X dX5_reads_48 rfl ?_
          refine v_bipush (v := nI 124) X dX5_reads_49 (by decide) ?_
          refine v_icmp_ne (tgt := 58) X dX5_reads_51 (by decide) (fun h51 => ?_) (fun h51 => ?_)
          · skip
            have n2 := nI_eqn (by omega) (by decide) h51
            refine v_iload_n X dX5_reads_58 rfl ?_
            refine v_bipush (v := nI 62) X dX5_reads_59 (by decide) ?_
            refine v_icmp_ne (tgt := 68) X dX5_reads_61 (by decide) (fun h61 => ?_) (fun h61 => ?_)
            · skip
              have n3 := nI_eqn (by omega) (by decide) h61
              refine v_bipush (v := (-6)) X dX5_reads_68 (by decide) ?_
              refine v_istore_n X dX5_reads_70 (Nat.le_of_ble_eq_true rfl) ?_
              show V G Z _ 71 [_, _, _] _
              refine v_iload_n X dX5_reads_71 rfl ?_
              refine v_if_ge (tgt := 77) X dX5_reads_72 (by decide) (fun h72 => ?_) (fun h72 => ?_)
              · skip
                exact absurd h72 (by decide)
              · skip
                refine v_iconst (v := nI 0) X dX5_reads_75 (by decide) ?_
                refine v_ret X hR dX5_reads_76 rfl ?_
                exact ⟨kO.rfl, Or.inl ⟨by rw [if_neg n1, if_neg n2, if_neg n3], rfl⟩⟩
            · skip
              have n3 := nI_eqm (by omega) (by decide) h61
              refine v_iconst (v := nI 4) X dX5_reads_64 (by decide) ?_
              refine v_goto (tgt := 70) X dX5_reads_65 (by decide) ?_
              exact sg 2 (by decide) n3
          · skip
            have n2 := nI_eqm (by omega) (by decide) h51
            refine v_iconst (v := nI 3) X dX5_reads_54 (by decide) ?_
            refine v_goto (tgt := 70) X dX5_reads_55 (by decide) ?_
            exact sg 1 (by decide) n2
        · skip
          have n1 := nI_eqm (by omega) (by decide) h41
          refine v_iconst (v := nI 2) X dX5_reads_44 (by decide) ?_
          refine v_goto (tgt := 70) X dX5_reads_45 (by decide) ?_
          exact sg 0 (by decide) n1
      · have g3 : σ 156 15 = nI 2 := by rw [g3, mNx, if_neg ht]
        have ht2 : 2 ≤ t := by omega
        obtain ⟨c21, c22⟩ := c2 ht2
        simp only at c21 c22
        rw [if_neg ht] at hR
        have al := a44.2 ht2
        have hT0 : wsI (s2 σ 156 14 (nI (r.length + 1))) P r := ⟨wS_cong a1 (by rw [s2_ap, if_neg (by decide)]) (s2_nc (by decide)) (s2_nc (by decide)) (s2_nc (by decide)), s2_at _ _ _ _, mk_cong (σ := σ) 64 (fun x _ => by rw [s2_nc (by decide)]) (fun x _ => by rw [s2_nc (by decide)]) (fun x _ => by rw [s2_nc (by decide)]) r (by omega) c3, a4.tail⟩
        refine v_aload_n X dX5_reads_0 rfl ?_
        refine v_geti X fl_X5_86 shX5_15 dX5_reads_1 ?_
        rw [g3]
        refine v_tabIn (off := 104) (tgt := 108) X dX5_reads_4 (by decide) (by decide) (by decide) (by decide) ?_
        refine v_iload_n X dX5_reads_108 rfl ?_
        refine v_bipush (v := nI 41) X dX5_reads_109 (by decide) ?_
        refine v_icmp_eq (tgt := 116) X dX5_reads_111 (by decide) (fun h111 => ?_) (fun h111 => ?_)
        · skip
          have hs41 := nI_eqm (by omega) (by decide) h111
          subst hs41
          refine v_aload_n X dX5_reads_116 rfl ?_
          refine v_dup X dX5_reads_117 rfl ?_
          refine v_geti X fl_X5_79 shX5_14 dX5_reads_118 ?_
          rw [a2]
          refine v_iconst (v := nI 1) X dX5_reads_121 (by decide) ?_
          refine v_isub X dX5_reads_122 ?_
          refine v_top (y := nI (r.length + 1)) (by rw [nI_s1 (by omega)]; rfl) ?_
          refine v_puti X fw_X5_79 shX5_14 dX5_reads_123 rfl rfl ?_
          refine v_aload_n X dX5_reads_126 rfl ?_
          refine v_aload_n X dX5_reads_127 rfl ?_
          refine v_aload_n X dX5_reads_128 rfl ?_
          refine v_getr X fl_X5_44 shX5_13 dX5_reads_129 ?_
          refine v_aload_n X dX5_reads_132 rfl ?_
          refine v_geti X fl_X5_79 shX5_14 dX5_reads_133 ?_
          refine v_ialdE X arX5_13 (s2_at _ _ _ _) (show r.length + 1 < 64 by omega) dX5_reads_136 ?_
          refine v_aload_n X dX5_reads_137 rfl ?_
          refine v_getr X fl_X5_41 shX5_12 dX5_reads_138 ?_
          refine v_aload_n X dX5_reads_141 rfl ?_
          refine v_geti X fl_X5_79 shX5_14 dX5_reads_142 ?_
          refine v_ialdE X arX5_12 (s2_at _ _ _ _) (show r.length + 1 < 64 by omega) dX5_reads_145 ?_
          refine v_aload_n X dX5_reads_146 rfl ?_
          refine v_geti X fl_X5_76 shX5_16 dX5_reads_147 ?_
          have q0 : s2 σ 156 14 (nI (r.length + 1)) 167 (r.length + 1) = nI t := by rw [s2_nc (by decide)]; exact c21
          have q1 : s2 σ 156 14 (nI (r.length + 1)) 166 (r.length + 1) = nI a := by rw [s2_nc (by decide)]; exact c22
          have q2 : s2 σ 156 14 (nI (r.length + 1)) 156 16 = nI l := by rw [s2_ap, if_neg (by decide)]; exact g1
          rw [q0, q1, q2]
          have z1 : pA (t, a, l) = nI a := if_neg (show ¬ t = 1 by omega)
          have z2 : pB (t, a, l) = nI l := if_neg (show ¬ t < 2 by omega)
          rw [← z1, ← z2]
          show V G Z _ 150 _ [_, _, .int (pK (t, a, l)), _, _]
          refine v_cali X (m_partOf G (q := (t, a, l)) hT0.1 (by omega) (Or.inr (Or.inr ⟨ht2, a44.1, al, g2⟩))) cv_X5_82 obX5 rfl (by decide) rfl (by rfl) (Nat.le_of_ble_eq_true rfl) dX5_reads_150 (fun r1 τ1 hp1 => ?_)
          obtain ⟨rfl, d1, d2⟩ := hp1
          have hle1 := addP_le P (t, a, l)
          have hle2 := addP_le1 P (t, a, l)
          have hT := wsI_p hT0 d1 d2 hle1 (by omega)
          refine v_calv X (m_complete G hT (idx_lt _ _) (by omega)) cv_X5_89 obX5 rfl (by decide) rfl (by rfl) (Nat.le_of_ble_eq_true rfl) dX5_reads_153 (fun τ2 hp2 => ?_)
          obtain ⟨k1, k2, k3, k4⟩ := hp2
          refine v_iconst (v := nI 1) X dX5_reads_156 (by decide) ?_
          refine v_ret X hR dX5_reads_157 rfl ?_
          exact ⟨((kO.rfl.s2 (by omega)).p d2).trans k1, Or.inr ⟨_, if_pos rfl, rfl, mP_fin k2 k3, by simp only [szS, List.length_cons]; show (fnA _ _ _).1.length + 2 * (fnA _ _ _).2.1.length ≤ _; omega⟩⟩
        · skip
          have hs41 := nI_eqn (by omega) (by decide) h111
          refine v_iconst (v := nI 0) X dX5_reads_114 (by decide) ?_
          refine v_ret X hR dX5_reads_115 rfl ?_
          exact ⟨kO.rfl, Or.inl ⟨if_neg hs41, rfl⟩⟩
