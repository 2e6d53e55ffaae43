/-! THE REFERENCE's STATE -/
def tM (σ : Sg) (tx : List Nat) : Prop := tx.length ≤ 40 ∧ σ 156 5 = nI tx.length ∧ ∀ i s, tx[i]? = some s → s < 127 ∧ σ 161 i = nI s
def mR (σ : Sg) (A : ASt) : Prop := (∀ i, i < 18 → mS σ i (A.1 i)) ∧ tM σ A.2.1 ∧ σ 156 6 = A.2.2.1 ∧ (∀ k, k < 2 → σ 174 k = bI (A.2.2.2.testBit k)) ∧ A.2.2.2 < 4
def cO (σ τ : Sg) : Prop := ∀ i, i < 156 → τ i = σ i
theorem cO.rfl {σ : Sg} : cO σ σ := fun _ _ => by rfl
theorem cO.trans {σ τ υ : Sg} (h1 : cO σ τ) (h2 : cO τ υ) : cO σ υ := fun i h => (h2 i h).trans (h1 i h)
theorem kO.c {σ τ : Sg} (h : kO σ τ) : cO σ τ := fun i hi => h.1 i (Or.inl hi)
theorem tM_kO {σ τ : Sg} {tx : List Nat} (h : tM σ tx) (ho : kO σ τ) : tM τ tx := ⟨h.1, by rw [ho.2.1]; exact h.2.1, fun i s hs => by rw [ho.1 161 (by omega)]; exact h.2.2 i s hs⟩
theorem mR_kO {σ τ : Sg} {A : ASt} (h : mR σ A) (ho : kO σ τ) : mR τ A := ⟨fun i hi => mS_kO (h.1 i hi) ho, tM_kO h.2.1 ho, by rw [ho.2.2]; exact h.2.2.1, fun k hk => by rw [ho.1 174 (by omega)]; exact h.2.2.2.1 k hk, h.2.2.2.2⟩
theorem pO.k {σ τ : Sg} (h : pO σ τ) : kO σ τ := kO.rfl.p h
theorem mR_slot {σ τ : Sg} {A : ASt} {t : Nat} {P : Sen} (ht : t < 18) (h : mR σ A) (hP : mS τ t P) (h1 : ∀ i, i < 157 ∨ 161 ≤ i → τ i = σ i) (h2 : ∀ j Q, j < 18 → j ≠ t → mS σ j Q → mS τ j Q) : mR τ (stS A.1 t P, A.2) := by
  obtain ⟨a1, a2, a3, a4, a5⟩ := h
  refine ⟨fun i hi => ?_, ⟨a2.1, by rw [h1 156 (by omega)]; exact a2.2.1, fun i s hs => by rw [h1 161 (by omega)]; exact a2.2.2 i s hs⟩, by rw [h1 156 (by omega)]; exact a3, fun k hk => by rw [h1 174 (by omega)]; exact a4 k hk, a5⟩
  show mS τ i (if i = t then P else A.1 i)
  by_cases e : i = t
  · rw [if_pos e, e]; exact hP
  · rw [if_neg e]; exact h2 i _ hi e (a1 i hi)
set_option maxHeartbeats 4000000 in
set_option maxRecDepth 100000 in
theorem m_readText (G : GT) {σ : Sg} {tx : List Nat} (ht : tM σ tx) : MC G yX5_readText cX5_readText 2 .int 4 [.ref (G.2.2.1 156)] σ (fun r τ => kO σ τ ∧ ((∃ i, prs tx = .inl i ∧ r = nI i) ∨ ∃ S : Sen, prs tx = .inr S ∧ r = -6 ∧ wS τ S)) := by
  refine MC_of (by decide) (ca1 rfl ca0) (Nat.le_of_ble_eq_true rfl) ?_
  intro Z X hR
  show V G Z σ 0 [some (.ref (G.2.2.1 156)), none] []
  have ht0 := ht
  obtain ⟨t1, t2, t3⟩ := ht
  have loop : ∀ (n i : Nat) (τ : Sg) (st : PS), tx.length - i < n → i ≤ tx.length → kO σ τ → mP τ st → nzS st → szS st ≤ 3 * i → psL tx 0 ([], [], true, 0) = psL (tx.drop i) i st → V G Z τ 22 [some (.ref (G.2.2.1 156)), some (.int (nI i))] [] := by
    intro n
    induction n with
    | zero => intro i τ st h; omega
    | succ n ih =>
      intro i τ st hn hil g1 g2 g3 g5 g4
      have e5 : τ 156 5 = nI tx.length := by rw [g1.2.1]; exact t2
      refine v_iload_n X dX5_readText_22 rfl ?_
      refine v_aload_n X dX5_readText_23 rfl ?_
      refine v_geti X fl_X5_100 shX5_5 dX5_readText_24 ?_
      rw [e5]
      refine v_icmp_ge (tgt := 51) X dX5_readText_27 (by decide) (fun h27 => ?_) (fun h27 => ?_)
      · skip
        have hi := nI_lem (by omega) (by omega) h27
        have hi : i = tx.length := by omega
        subst hi
        rw [List.drop_length] at g4
        obtain ⟨⟨P, stk, w, l⟩, rfl⟩ : ∃ s2, s2 = st := ⟨st, rfl⟩
        obtain ⟨k1, k2, k3⟩ := g2
        simp only at k1 k2 k3
        refine v_aload_n X dX5_readText_51 rfl ?_
        refine v_geti X fl_X5_86 shX5_15 dX5_readText_52 ?_
        refine v_iconst (v := nI 3) X dX5_readText_55 (by decide) ?_
        refine v_icmp_ne (tgt := 64) X dX5_readText_56 (by decide) (fun h56 => ?_) (fun h56 => ?_)
        · skip
          have hf : w = true ∨ stk ≠ [] := by
            cases w with
            | true => exact Or.inl rfl
            | false =>
              right
              rintro rfl
              exact h56 (k3 rfl).2.2.1
          refine v_aload_n X dX5_readText_64 rfl ?_
          refine v_geti X fl_X5_100 shX5_5 dX5_readText_65 ?_
          refine v_ret X hR dX5_readText_68 rfl ?_
          rw [e5]
          refine ⟨g1, Or.inl ⟨tx.length, ?_, rfl⟩⟩
          rw [prs, g4]
          exact if_pos hf
        · skip
          have hf : ¬ (w = true ∨ stk ≠ []) := by
            rintro (rfl | z)
            · rw [k2 rfl] at h56; exact absurd h56 (by decide)
            · cases w with
              | true => rw [k2 rfl] at h56; exact absurd h56 (by decide)
              | false =>
                rw [(k3 rfl).2.2.1] at h56
                cases stk with
                | nil => exact z rfl
                | cons e r =>
                  rw [mNx] at h56
                  split at h56 <;> exact absurd h56 (by decide)
          refine v_bipush (v := (-6)) X dX5_readText_59 (by decide) ?_
          refine v_goto (tgt := 68) X dX5_readText_61 (by decide) ?_
          refine v_ret X hR dX5_readText_68 rfl ?_
          refine ⟨g1, Or.inr ⟨P, ?_, rfl, k1.1⟩⟩
          rw [prs, g4]
          exact if_neg hf
      · skip
        have hi := nI_len (by omega) (by omega) h27
        obtain ⟨s, hs⟩ : ∃ s, tx[i]? = some s := ⟨tx[i], List.getElem?_eq_getElem hi⟩
        obtain ⟨s1, s2⟩ := t3 i s hs
        have es : τ 161 i = nI s := by rw [g1.1 161 (by omega)]; exact s2
        have hdrop : tx.drop i = s :: tx.drop (i + 1) := by
          have := List.drop_eq_getElem_cons hi
          rw [(List.getElem?_eq_some_iff.mp hs).2] at this
          exact this
        rw [hdrop, psL] at g4
        refine v_aload_n X dX5_readText_30 rfl ?_
        refine v_aload_n X dX5_readText_31 rfl ?_
        refine v_getr X fl_X5_22 shX5_4 dX5_readText_32 ?_
        refine v_iload_n X dX5_readText_35 rfl ?_
        refine v_ialdE X arX5_4 rfl (show i < 40 by omega) dX5_readText_36 ?_
        rw [es]
        refine v_cali X (m_reads G g2 g3 (by omega) s1) cv_X5_103 obX5 rfl (by decide) rfl (by rfl) (Nat.le_of_ble_eq_true rfl) dX5_readText_37 (fun r υ hp => ?_)
        obtain ⟨o1, hr⟩ := hp
        refine v_if_ne (tgt := 45) X dX5_readText_40 (by decide) (fun h40 => ?_) (fun h40 => ?_)
        · skip
          obtain ⟨st', h1, h2, h2b⟩ : ∃ st', stA s st = some st' ∧ mP υ st' ∧ szS st' ≤ szS st + 3 := by
            rcases hr with ⟨-, z⟩ | ⟨st', z1, -, z2⟩
            · exact absurd z h40
            · exact ⟨st', z1, z2⟩
          rw [h1] at g4
          refine v_iincE X dX5_readText_45 rfl (nI_inc i) ?_
          show V G Z _ 48 [_, _] _
          refine v_goto (tgt := 22) X dX5_readText_48 (by decide) ?_
          exact ih (i + 1) υ st' (by omega) (by omega) (g1.trans o1) h2 (stA_nz h1) (by omega) g4
        · skip
          have h1 : stA s st = none := by
            rcases hr with ⟨z, -⟩ | ⟨st', z1, z2, -⟩
            · exact z
            · rw [z2] at h40; exact absurd h40 (by decide)
          rw [h1] at g4
          refine v_iload_n X dX5_readText_43 rfl ?_
          refine v_ret X hR dX5_readText_44 rfl ?_
          refine ⟨g1.trans o1, Or.inl ⟨i, ?_, rfl⟩⟩
          rw [prs, g4]
  refine v_aload_n X dX5_readText_0 rfl ?_
  refine v_iconst (v := nI 0) X dX5_readText_1 (by decide) ?_
  refine v_puti X fw_X5_73 shX5_7 dX5_readText_2 rfl rfl ?_
  refine v_aload_n X dX5_readText_5 rfl ?_
  refine v_iconst (v := nI 0) X dX5_readText_6 (by decide) ?_
  refine v_puti X fw_X5_79 shX5_14 dX5_readText_7 rfl rfl ?_
  refine v_aload_n X dX5_readText_10 rfl ?_
  refine v_iconst (v := nI 0) X dX5_readText_11 (by decide) ?_
  refine v_calv X (m_push G (t := 0) (n := 0) (by decide) (s2_at _ _ _ _)) cv_X5_93 obX5 rfl (by decide) rfl (by rfl) (Nat.le_of_ble_eq_true rfl) dX5_readText_12 (fun τ hp => ?_)
  subst hp
  refine v_aload_n X dX5_readText_15 rfl ?_
  refine v_iconst (v := nI 0) X dX5_readText_16 (by decide) ?_
  refine v_puti X fw_X5_86 shX5_15 dX5_readText_17 rfl rfl ?_
  refine v_iconst (v := nI 0) X dX5_readText_20 (by decide) ?_
  refine v_istore_n X dX5_readText_21 (Nat.le_of_ble_eq_true rfl) ?_
  show V G Z _ 22 [_, _] _
  refine loop (tx.length + 1) 0 _ ([], [], true, 0) (by omega) (by omega) ?_ ?_ (fun z => by cases z) (Nat.le_refl _) rfl
  · exact ((((kO.rfl.s2 (by omega)).s2 (by omega)).s2 (by omega)).s2 (by omega)).s2 (by omega)
  · refine ⟨⟨⟨Nat.zero_le _, fun q p h => by simp at h, ?_, fun q p h => by simp at h⟩, ?_, ?_, fun e h => by cases h⟩, fun _ => s2_at _ _ _ _, fun z => by cases z⟩
    · simp [s2_ap]
    · simp [s2_ap]
    · show _ = nI 0
      simp [s2_ap]
theorem in_f {x a b : Int32} (h : decide (¬ x < a ∧ ¬ b < x) = false) : x < a ∨ b < x := by
  have h := of_decide_eq_false h
  rcases Decidable.em (x < a) with q | q
  · exact Or.inl q
  · rcases Decidable.em (b < x) with q2 | q2
    · exact Or.inr q2
    · exact absurd ⟨q, q2⟩ h
theorem in_t {x a b : Int32} (h : decide (¬ x < a ∧ ¬ b < x) = true) : ¬ (x < a ∨ b < x) := fun z => z.elim (of_decide_eq_true h).1 (of_decide_eq_true h).2
theorem mR_text {σ : Sg} {A : ASt} {tx : List Nat} {f : Nat → Int32} (h : mR σ A) (ht : tx.length ≤ 40) (hf : ∀ i s, tx[i]? = some s → s < 127 ∧ f i = nI s) : mR (s2 (s1 σ 161 f) 156 5 (nI tx.length)) (A.1, tx, A.2.2) := by
  obtain ⟨a1, a2, a3, a4, a5⟩ := h
  have e1 : ∀ i, i ≠ 161 → s1 σ 161 f i = σ i := fun i hi => if_neg hi
  refine ⟨fun i hi => ⟨(a1 i hi).1, (a1 i hi).2.1, by rw [s2_nc (by decide), e1 157 (by decide)]; exact (a1 i hi).2.2.1, fun k p hk => ?_⟩, ⟨ht, s2_at _ _ _ _, fun i s hs => ?_⟩, ?_, fun k hk => ?_, a5⟩
  · rw [s2_nc (by decide), s2_nc (by decide), s2_nc (by decide), e1 158 (by decide), e1 159 (by decide), e1 160 (by decide)]
    exact (a1 i hi).2.2.2 k p hk
  · rw [s2_nc (by decide), show s1 σ 161 f 161 = f from if_pos rfl]
    exact hf i s hs
  · rw [s2_ap, if_neg (by decide), e1 156 (by decide)]; exact a3
  · rw [s2_nc (by decide), e1 174 (by decide)]; exact a4 k hk
theorem s1_id (σ : Sg) (i : Nat) : s1 σ i (σ i) = σ := by
  funext j
  show (if j = i then σ i else σ j) = σ j
  split
  · rename_i h; rw [h]
  · rfl
theorem mR_wipe {σ : Sg} {A : ASt} (h : mR σ A) : mR (s2 σ 156 5 (nI 0)) (A.1, [], A.2.2) := by
  have := mR_text (tx := []) (f := σ 161) h (Nat.zero_le _) (fun i s hs => by simp at hs)
  rw [s1_id] at this
  exact this
theorem mR_fault {σ : Sg} {A : ASt} {v : Int32} (h : mR σ A) : mR (s2 σ 156 6 v) (A.1, A.2.1, v, A.2.2.2) := by
  obtain ⟨a1, a2, a3, a4, a5⟩ := h
  refine ⟨fun i hi => ⟨(a1 i hi).1, (a1 i hi).2.1, by rw [s2_nc (by decide)]; exact (a1 i hi).2.2.1, fun k p hk => ?_⟩, ⟨a2.1, by rw [s2_ap, if_neg (by decide)]; exact a2.2.1, fun i s hs => by rw [s2_nc (by decide)]; exact a2.2.2 i s hs⟩, s2_at _ _ _ _, fun k hk => by rw [s2_nc (by decide)]; exact a4 k hk, a5⟩
  rw [s2_nc (by decide), s2_nc (by decide), s2_nc (by decide)]
  exact (a1 i hi).2.2.2 k p hk
set_option maxHeartbeats 4000000 in
set_option maxRecDepth 100000 in
theorem y_say (G : GT) {σ : Sg} {A : ASt} (hA : mR σ A) (x : Int32) : MC G yX5_say cX5_say 2 .int 1 [.ref (G.2.2.1 156), .int x] σ (fun r τ => r = (sp_say x A).1 ∧ mR τ (sp_say x A).2 ∧ cO σ τ) := by
  refine MC_of (by decide) (ca1 rfl (ca1 rfl ca0)) (Nat.le_of_ble_eq_true rfl) ?_
  intro Z X hR
  show V G Z σ 0 [some (.ref (G.2.2.1 156)), some (.int x)] []
  refine v_iload_n X dX5_say_0 rfl ?_
  refine v_bipush (v := nI 33) X dX5_say_1 (by decide) ?_
  refine v_bipush (v := nI 126) X dX5_say_3 (by decide) ?_
  refine v_cals X (m_in G _ _ _) cs_X5_69 (by decide) rfl (by rfl) (Nat.le_of_ble_eq_true rfl) dX5_say_5 (fun r τ9 hq => ?_)
  obtain ⟨e9, rfl⟩ := hq
  rw [e9]
  refine v_if_ne (tgt := 14) X dX5_say_8 (by decide) (fun h8 => ?_) (fun h8 => ?_)
  · skip
    have hr := in_t (bI_nz.mp h8)
    have hl := hA.2.1.1
    refine v_aload_n X dX5_say_14 rfl ?_
    refine v_geti X fl_X5_100 shX5_5 dX5_say_15 ?_
    rw [hA.2.1.2.1]
    refine v_bipush (v := nI 40) X dX5_say_18 (by decide) ?_
    refine v_icmp_ne (tgt := 26) X dX5_say_20 (by decide) (fun h20 => ?_) (fun h20 => ?_)
    · skip
      have hl2 : A.2.1.length < 40 := by
        have := nI_eqn (b := 40) (by omega) (by decide) h20
        omega
      refine v_aload_n X dX5_say_26 rfl ?_
      refine v_getr X fl_X5_22 shX5_4 dX5_say_27 ?_
      refine v_aload_n X dX5_say_30 rfl ?_
      refine v_geti X fl_X5_100 shX5_5 dX5_say_31 ?_
      refine v_iload_n X dX5_say_34 rfl ?_
      refine v_iastE X arX5_4 hA.2.1.2.1 hl2 dX5_say_35 ?_
      refine v_aload_n X dX5_say_36 rfl ?_
      refine v_dup X dX5_say_37 rfl ?_
      refine v_geti X fl_X5_100 shX5_5 dX5_say_38 ?_
      rw [s2_nc (by decide), hA.2.1.2.1]
      refine v_iconst (v := nI 1) X dX5_say_41 (by decide) ?_
      refine v_iadd X dX5_say_42 ?_
      refine v_top (nI_add A.2.1.length 1) ?_
      refine v_puti X fw_X5_100 shX5_5 dX5_say_43 rfl rfl ?_
      refine v_aload_n X dX5_say_46 rfl ?_
      refine v_geti X fl_X5_100 shX5_5 dX5_say_47 ?_
      rw [s2_at]
      refine v_ret X hR dX5_say_50 rfl ?_
      obtain ⟨j, hj, hxj⟩ : ∃ j, j < 127 ∧ x = nI j := by
        obtain ⟨j, hj, e, -⟩ := ix_of (x := x) (n := 127) (by decide) (fun z => hr (Or.inl (Int32.lt_of_lt_of_le z (by decide)))) (fun z => hr (Or.inr (Int32.lt_of_lt_of_le (by decide) z)))
        exact ⟨j, hj, e⟩
      have hxn : x.toInt.toNat = j := by rw [hxj, nI_toInt (by omega)]; rfl
      have e : sp_say x A = (nI (A.2.1.length + 1), (A.1, A.2.1 ++ [j], A.2.2)) := by rw [sp_say, if_neg hr, if_neg (by omega), hxn]
      rw [e]
      refine ⟨rfl, ?_, fun i hi => by rw [s2_nc (by omega), s2_nc (by omega)]⟩
      have := mR_text (tx := A.2.1 ++ [j]) (f := upd (σ 161) A.2.1.length x) hA (by simp; omega) (fun i s hs => ?_)
      · rw [List.length_append] at this
        exact this
      · rw [List.getElem?_append] at hs
        split at hs
        · rename_i hlt
          rw [upd, if_neg (by omega)]
          exact hA.2.1.2.2 i s hs
        · have h0 : i - A.2.1.length = 0 := by
            rcases Nat.eq_zero_or_pos (i - A.2.1.length) with z | z
            · exact z
            · rw [List.getElem?_eq_none (by simp; omega)] at hs; cases hs
          rw [h0] at hs
          have hs : j = s := by simpa using hs
          subst hs
          rw [upd, if_pos (by omega)]
          exact ⟨hj, hxj⟩
    · skip
      have hl2 : A.2.1.length = 40 := nI_eqm (b := 40) (by omega) (by decide) h20
      refine v_bipush (v := (-4)) X dX5_say_23 (by decide) ?_
      refine v_ret X hR dX5_say_25 rfl ?_
      have e : sp_say x A = (-4, A) := by rw [sp_say, if_neg hr, if_pos (by omega)]
      rw [e]
      exact ⟨rfl, hA, cO.rfl⟩
  · skip
    have hr := in_f (bI_z.mp h8)
    refine v_bipush (v := (-2)) X dX5_say_11 (by decide) ?_
    refine v_ret X hR dX5_say_13 rfl ?_
    have e : sp_say x A = (-2, A) := by rw [sp_say, if_pos hr]
    rw [e]
    exact ⟨rfl, hA, cO.rfl⟩

set_option maxHeartbeats 4000000 in
set_option maxRecDepth 100000 in
theorem y_wipe (G : GT) {σ : Sg} {A : ASt} (hA : mR σ A)  : MC G yX5_wipe cX5_wipe 2 .int 0 [.ref (G.2.2.1 156)] σ (fun r τ => r = (sp_wipe A).1 ∧ mR τ (sp_wipe A).2 ∧ cO σ τ) := by
  refine MC_of (by decide) (ca1 rfl ca0) (Nat.le_of_ble_eq_true rfl) ?_
  intro Z X hR
  show V G Z σ 0 [some (.ref (G.2.2.1 156)), none] []
  refine v_aload_n X dX5_wipe_0 rfl ?_
  refine v_geti X fl_X5_100 shX5_5 dX5_wipe_1 ?_
  rw [hA.2.1.2.1]
  refine v_istore_n X dX5_wipe_4 (Nat.le_of_ble_eq_true rfl) ?_
  show V G Z _ 5 [_, _] _
  refine v_aload_n X dX5_wipe_5 rfl ?_
  refine v_iconst (v := nI 0) X dX5_wipe_6 (by decide) ?_
  refine v_puti X fw_X5_100 shX5_5 dX5_wipe_7 rfl rfl ?_
  refine v_iload_n X dX5_wipe_10 rfl ?_
  refine v_ret X hR dX5_wipe_11 rfl ?_
  exact ⟨rfl, mR_wipe hA, fun i hi => s2_nc (by omega)⟩

set_option maxHeartbeats 4000000 in
set_option maxRecDepth 100000 in
theorem y_fault (G : GT) {σ : Sg} {A : ASt} (hA : mR σ A)  : MC G yX5_fault cX5_fault 1 .int 0 [.ref (G.2.2.1 156)] σ (fun r τ => r = (sp_fault A).1 ∧ mR τ (sp_fault A).2 ∧ cO σ τ) := by
  refine MC_of (by decide) (ca1 rfl ca0) (Nat.le_of_ble_eq_true rfl) ?_
  intro Z X hR
  show V G Z σ 0 [some (.ref (G.2.2.1 156))] []
  refine v_aload_n X dX5_fault_0 rfl ?_
  refine v_geti X fl_X5_25 shX5_6 dX5_fault_1 ?_
  rw [hA.2.2.1]
  refine v_ret X hR dX5_fault_4 rfl ?_
  exact ⟨rfl, hA, cO.rfl⟩

set_option maxHeartbeats 4000000 in
set_option maxRecDepth 100000 in
theorem y_read (G : GT) {σ : Sg} {A : ASt} (hA : mR σ A) (x : Int32) : MC G yX5_read cX5_read 3 .int 5 [.ref (G.2.2.1 156), .int x] σ (fun r τ => r = (sp_read x A).1 ∧ mR τ (sp_read x A).2 ∧ cO σ τ) := by
  refine MC_of (by decide) (ca1 rfl (ca1 rfl ca0)) (Nat.le_of_ble_eq_true rfl) ?_
  intro Z X hR
  show V G Z σ 0 [some (.ref (G.2.2.1 156)), some (.int x), none] []
  refine v_iload_n X dX5_read_0 rfl ?_
  refine v_cals X (m_isSlot G _) cs_X5_106 (by decide) rfl (by rfl) (Nat.le_of_ble_eq_true rfl) dX5_read_1 (fun r τ9 hq => ?_)
  obtain ⟨e9, rfl⟩ := hq
  rw [e9]
  refine v_if_ne (tgt := 9) X dX5_read_4 (by decide) (fun h4 => ?_) (fun h4 => ?_)
  · skip
    obtain ⟨t, t6, rfl, tN⟩ := slot_t (bI_nz.mp h4)
    have tP := hA.1 t (by omega)
    refine v_aload_n X dX5_read_9 rfl ?_
    refine v_cali X (m_readText G hA.2.1) cv_X5_109 obX5 rfl (by decide) rfl (by rfl) (Nat.le_of_ble_eq_true rfl) dX5_read_10 (fun r τ hp => ?_)
    obtain ⟨o1, hp⟩ := hp
    have hA1 := mR_kO hA o1
    have hm1 := o1.c
    refine v_istore_n X dX5_read_13 (Nat.le_of_ble_eq_true rfl) ?_
    show V G Z _ 14 [_, _, _] _
    refine v_iload_n X dX5_read_14 rfl ?_
    refine v_if_lt (tgt := 26) X dX5_read_15 (by decide) (fun h15 => ?_) (fun h15 => ?_)
    · skip
      obtain ⟨S, g1, g2⟩ : ∃ S : Sen, prs A.2.1 = .inr S ∧ wS τ S := by
        rcases hp with ⟨i, z1, z2⟩ | ⟨S, z1, -, z3⟩
        · rw [z2] at h15
          exact absurd h15 (nI_pos (prs_lt hA.2.1.1 z1))
        · exact ⟨S, z1, z3⟩
      have hS7 := g2.1
      refine v_aload_n X dX5_read_26 rfl ?_
      refine v_geti X fl_X5_73 shX5_7 dX5_read_27 ?_
      refine v_bipush (v := nI 11) X dX5_read_30 (by decide) ?_
      rw [g2.2.2.1]
      refine v_icmp_le (tgt := 38) X dX5_read_32 (by decide) (fun h32 => ?_) (fun h32 => ?_)
      · skip
        have hle := nI_lem (b := 11) (by omega) (by decide) h32
        refine v_aload_n X dX5_read_38 rfl ?_
        refine v_iconst (v := nI 0) X dX5_read_39 (by decide) ?_
        refine v_puti X fw_X5_100 shX5_5 dX5_read_40 rfl rfl ?_
        refine v_aload_n X dX5_read_43 rfl ?_
        refine v_iload_n X dX5_read_44 rfl ?_
        have hw : wS (s2 τ 156 5 (nI 0)) S := wS_cong g2 (by rw [s2_ap, if_neg (by decide)]) (s2_nc (by decide)) (s2_nc (by decide)) (s2_nc (by decide))
        refine v_cali X (m_keep G (s := t) (by omega) hw hle) cv_X5_113 obX5 rfl (by decide) rfl (by rfl) (Nat.le_of_ble_eq_true rfl) dX5_read_45 (fun r τ2 hp2 => ?_)
        obtain ⟨rfl, q1, q2, q3⟩ := hp2
        refine v_ret X hR dX5_read_48 rfl ?_
        have e : sp_read (nI t) A = (nI S.length, (stS A.1 t S, [], A.2.2)) := by simp [sp_read, tN, g1]; omega
        rw [e]
        exact ⟨rfl, mR_slot (by omega) (mR_wipe hA1) q1 q2 q3, (hm1.trans (fun j hj => s2_nc (by omega))).trans (fun i hi => q2 i (by omega))⟩
      · skip
        have hgt := nI_len (b := 11) (by omega) (by decide) h32
        refine v_bipush (v := (-4)) X dX5_read_35 (by decide) ?_
        refine v_ret X hR dX5_read_37 rfl ?_
        have e : sp_read (nI t) A = (-4, A) := by simp [sp_read, tN, g1, hgt]
        rw [e]
        exact ⟨rfl, hA1, hm1⟩
    · skip
      obtain ⟨i, g1, rfl⟩ : ∃ i, prs A.2.1 = .inl i ∧ r = nI i := by
        rcases hp with z | ⟨S, z1, z2, -⟩
        · exact z
        · rw [z2] at h15; exact absurd (by decide) h15
      refine v_aload_n X dX5_read_18 rfl ?_
      refine v_iload_n X dX5_read_19 rfl ?_
      refine v_puti X fw_X5_25 shX5_6 dX5_read_20 rfl rfl ?_
      refine v_bipush (v := (-7)) X dX5_read_23 (by decide) ?_
      refine v_ret X hR dX5_read_25 rfl ?_
      have e : sp_read (nI t) A = (-7, (A.1, A.2.1, nI i, A.2.2.2)) := by simp [sp_read, tN, g1]
      rw [e]
      exact ⟨rfl, mR_fault hA1, hm1.trans (fun j hj => s2_nc (by omega))⟩
  · skip
    have tn := slot_f (bI_z.mp h4)
    refine v_iconst (v := (-1)) X dX5_read_7 (by decide) ?_
    refine v_ret X hR dX5_read_8 rfl ?_
    have e : sp_read x A = (-1, A) := by simp [sp_read, tn]
    rw [e]
    exact ⟨rfl, hA, cO.rfl⟩

