/-- the text is read: the place of the fault, or the parts -/
def psL : List Nat → Nat → PS → Nat ⊕ PS
  | [], _, st => .inr st
  | s :: r, i, st => match stA s st with
    | none => .inl i
    | some st' => psL r (i + 1) st'
def prs (tx : List Nat) : Nat ⊕ Sen := match psL tx 0 ([], [], true, 0) with
  | .inl i => .inl i
  | .inr st => if st.2.2.1 = true ∨ st.2.1 ≠ [] then .inl tx.length else .inr st.1
/-- a sentence is whole: what is open is no - -/
def nzS (st : PS) : Prop := st.2.2.1 = false → ∀ e r, st.2.1 = e :: r → ¬ e.1 = 0
theorem fnA_nz : ∀ (stk : Stk) (P : Sen) (l : Nat), ∀ e r, (fnA stk P l).2.1 = e :: r → ¬ e.1 = 0
  | [], P, l, e, r, h => by simp [fnA] at h
  | (t, a) :: r', P, l, e, r, h => by
    rw [fnA] at h
    by_cases ht : t = 0
    · rw [if_pos ht] at h
      exact fnA_nz r' _ _ e r h
    · rw [if_neg ht] at h
      simp only [List.cons.injEq] at h
      rw [← h.1]; exact ht
theorem fnS_nz (stk : Stk) (P : Sen) (q : Pt) : nzS (fnS stk P q) := fun _ e r h => fnA_nz stk _ _ e r h
theorem stA_nz {s : Nat} {st st' : PS} (h : stA s st = some st') : nzS st' := by
  unfold stA at h
  by_cases hw : st.2.2.1 = true
  · rw [if_pos hw] at h
    unfold bgA at h
    split at h
    · cases h; intro z; cases z
    · split at h
      · cases h; intro z; cases z
      · split at h
        · cases h; exact fnS_nz _ _ _
        · split at h
          · cases h; exact fnS_nz _ _ _
          · cases h
  · rw [if_neg hw] at h
    unfold goA at h
    split at h
    · cases h
    · split at h
      · split at h
        · cases h; intro z; cases z
        · split at h
          · cases h; intro z; cases z
          · split at h
            · cases h; intro z; cases z
            · cases h
      · split at h
        · cases h; exact fnS_nz _ _ _
        · cases h
/-- THE TEXT of the class -/
def tX (σ : Sg) (tx : List Nat) : Prop := tx.length ≤ 40 ∧ σ 147 0 = nI tx.length ∧ ∀ i s, tx[i]? = some s → s < 127 ∧ σ 148 i = nI s
set_option maxHeartbeats 4000000 in
set_option maxRecDepth 100000 in
theorem c_parseInto (G : GT) {σ : Sg} {tx : List Nat} (ht : tX σ tx) : MC G yX3_parseInto cX3_parseInto 4 .int 5 [.ref (G.2.2.1 147), .ref (G.2.2.1 (7 * 18))] σ (fun r τ => tR σ τ ∧ ((∃ i, prs tx = .inl i ∧ r = nI i) ∨ ∃ (S D : Sen) (lg : Bool), prs tx = .inr S ∧ r = -6 ∧ dS τ 18 S D lg)) := by
  refine MC_of (by decide) (ca1 rfl (ca1 rfl ca0)) (Nat.le_of_ble_eq_true rfl) ?_
  intro Z X hR
  show V G Z σ 0 [some (.ref (G.2.2.1 147)), some (.ref (G.2.2.1 (7 * 18))), none, none] []
  obtain ⟨t1, t2, t3⟩ := ht
  have loop : ∀ (n i : Nat) (τ : Sg) (st : PS) (l3 : Option Value), tx.length - i < n → i ≤ tx.length → tR σ τ → pI τ st i → nzS st → psL tx 0 ([], [], true, 0) = psL (tx.drop i) i st → V G Z τ 16 [some (.ref (G.2.2.1 147)), some (.ref (G.2.2.1 (7 * 18))), some (.int (nI i)), l3] [] := by
    intro n
    induction n with
    | zero => intro i τ st l3 h; omega
    | succ n ih =>
      intro i τ st l3 hn hil g1 g2 g3 g4
      obtain ⟨D, lg, cst, d1, d2, d3, d4⟩ := g2
      have e0 : τ 147 0 = nI tx.length := by rw [g1.2]; exact t2
      have rest : i < tx.length → ∀ (r : Int32) (υ : Sg) (s : Nat), tx[i]? = some s → tR τ υ → ((stA s st = none ∧ r = nI 0) ∨ ∃ st', stA s st = some st' ∧ r = nI 1 ∧ pI υ st' (i + 1)) → V G Z υ 56 [some (.ref (G.2.2.1 147)), some (.ref (G.2.2.1 (7 * 18))), some (.int (nI i)), l3] [.int r] := by
        intro hi r υ s hs o1 hr
        have hdrop : tx.drop i = s :: tx.drop (i + 1) := by
          have := List.drop_eq_getElem_cons hi
          rw [(List.getElem?_eq_some_iff.mp hs).2] at this
          exact this
        rw [hdrop, psL] at g4
        refine v_istore_n X dX3_parseInto_56 (Nat.le_of_ble_eq_true rfl) ?_
        show V G Z _ 57 [_, _, _, _] _
        refine v_iload_n X dX3_parseInto_57 rfl ?_
        refine v_if_ne (tgt := 63) X dX3_parseInto_58 (by decide) (fun h58 => ?_) (fun h58 => ?_)
        · skip
          obtain ⟨st', h1, h2⟩ : ∃ st', stA s st = some st' ∧ pI υ st' (i + 1) := by
            rcases hr with ⟨-, z⟩ | ⟨st', z1, -, z2⟩
            · exact absurd z h58
            · exact ⟨st', z1, z2⟩
          rw [h1] at g4
          refine v_iincE X dX3_parseInto_63 rfl (nI_inc i) ?_
          show V G Z _ 66 [_, _, _, _] _
          refine v_goto (tgt := 16) X dX3_parseInto_66 (by decide) ?_
          exact ih (i + 1) υ st' _ (by omega) (by omega) (g1.trans o1) h2 (stA_nz h1) g4
        · skip
          have h1 : stA s st = none := by
            rcases hr with ⟨z, -⟩ | ⟨st', z1, z2, -⟩
            · exact z
            · rw [z2] at h58; exact absurd h58 (by decide)
          rw [h1] at g4
          refine v_iload_n X dX3_parseInto_61 rfl ?_
          refine v_ret X hR dX3_parseInto_62 rfl ?_
          refine ⟨g1.trans o1, Or.inl ⟨i, ?_, rfl⟩⟩
          rw [prs, g4]
      refine v_iload_n X dX3_parseInto_16 rfl ?_
      refine v_aload_n X dX3_parseInto_17 rfl ?_
      refine v_geti X fl_X3_9 shX3_0 dX3_parseInto_18 ?_
      rw [e0]
      refine v_icmp_ge (tgt := 69) X dX3_parseInto_21 (by decide) (fun h21 => ?_) (fun h21 => ?_)
      · skip
        have hi := nI_lem (by omega) (by omega) h21
        have hi : i = tx.length := by omega
        subst hi
        rw [List.drop_length] at g4
        refine v_aload_n X dX3_parseInto_69 rfl ?_
        refine v_geti X fl_X3_28 shX3_5 dX3_parseInto_70 ?_
        rw [d2]
        refine v_if_ne (tgt := 83) X dX3_parseInto_73 (by decide) (fun h73 => ?_) (fun h73 => ?_)
        · skip
          have hw := bI_nz.mp h73
          refine v_aload_n X dX3_parseInto_83 rfl ?_
          refine v_geti X fl_X3_9 shX3_0 dX3_parseInto_84 ?_
          rw [e0]
          refine v_goto (tgt := 92) X dX3_parseInto_87 (by decide) ?_
          refine v_ret X hR dX3_parseInto_92 rfl ?_
          refine ⟨g1, Or.inl ⟨tx.length, ?_, rfl⟩⟩
          rw [prs, g4]
          exact if_pos (Or.inl hw)
        · skip
          have hw := bI_z.mp h73
          refine v_aload_n X dX3_parseInto_76 rfl ?_
          refine v_geti X fl_X3_25 shX3_4 dX3_parseInto_77 ?_
          rw [d1.2.1]
          refine v_if_le (tgt := 90) X dX3_parseInto_80 (by decide) (fun h80 => ?_) (fun h80 => ?_)
          · skip
            refine v_bipush (v := (-6)) X dX3_parseInto_90 (by decide) ?_
            refine v_ret X hR dX3_parseInto_92 rfl ?_
            refine ⟨g1, Or.inr ⟨st.1, D, lg, ?_, rfl, d1.1⟩⟩
            rw [prs, g4]
            refine if_neg (fun z => ?_)
            rcases z with z | z
            · rw [hw] at z; cases z
            · have h0 := nI_l0 (by omega) h80
              have := skR_len _ _ d1.2.2.2
              exact z (List.length_eq_zero_iff.mp (by omega))
          · skip
            refine v_aload_n X dX3_parseInto_83 rfl ?_
            refine v_geti X fl_X3_9 shX3_0 dX3_parseInto_84 ?_
            rw [e0]
            refine v_goto (tgt := 92) X dX3_parseInto_87 (by decide) ?_
            refine v_ret X hR dX3_parseInto_92 rfl ?_
            refine ⟨g1, Or.inl ⟨tx.length, ?_, rfl⟩⟩
            rw [prs, g4]
            refine if_pos (Or.inr (fun z => ?_))
            have := skR_len _ _ d1.2.2.2
            rw [z] at this
            rw [← this] at h80
            exact h80 (by decide)
      · skip
        have hi := nI_len (by omega) (by omega) h21
        obtain ⟨s, hs⟩ : ∃ s, tx[i]? = some s := ⟨tx[i], List.getElem?_eq_getElem hi⟩
        obtain ⟨s1, s2⟩ := t3 i s hs
        have es : τ 148 i = nI s := by rw [g1.1 148 (by omega) (by decide) (by decide) (by decide)]; exact s2
        refine v_aload_n X dX3_parseInto_24 rfl ?_
        refine v_geti X fl_X3_28 shX3_5 dX3_parseInto_25 ?_
        rw [d2]
        refine v_if_eq (tgt := 45) X dX3_parseInto_28 (by decide) (fun h28 => ?_) (fun h28 => ?_)
        · skip
          have hw := bI_z.mp h28
          refine v_aload_n X dX3_parseInto_45 rfl ?_
          refine v_aload_n X dX3_parseInto_46 rfl ?_
          refine v_aload_n X dX3_parseInto_47 rfl ?_
          refine v_getr X fl_X3_15 shX3_1 dX3_parseInto_48 ?_
          refine v_iload_n X dX3_parseInto_51 rfl ?_
          refine v_ialdE X arX3_1 rfl (by first | assumption | omega) dX3_parseInto_52 ?_
          rw [es]
          refine v_cali X (c_goOn G (l := st.2.2.2) d1 (d3 hw) (g3 hw) (by omega) s1) cv_X3_44 obX3 rfl (by decide) rfl (by rfl) (Nat.le_of_ble_eq_true rfl) dX3_parseInto_53 (fun r υ hp => ?_)
          obtain ⟨o1, hp⟩ := hp
          refine rest hi r υ s hs o1 ?_
          rw [stA, if_neg (by rw [hw]; decide)]
          rcases hp with z | ⟨st', z1, z2, D', lg', cst', z3, z4, z5, z6⟩
          · exact Or.inl z
          · exact Or.inr ⟨st', z1, z2, D', lg', cst', z3, z4, z5, by omega⟩
        · skip
          have hw := bI_nz.mp h28
          refine v_aload_n X dX3_parseInto_31 rfl ?_
          refine v_aload_n X dX3_parseInto_32 rfl ?_
          refine v_aload_n X dX3_parseInto_33 rfl ?_
          refine v_getr X fl_X3_15 shX3_1 dX3_parseInto_34 ?_
          refine v_iload_n X dX3_parseInto_37 rfl ?_
          refine v_ialdE X arX3_1 rfl (by first | assumption | omega) dX3_parseInto_38 ?_
          rw [es]
          refine v_cali X (c_begin G (l := st.2.2.2) d1 (by rw [d2, hw]) (by omega) s1) cv_X3_40 obX3 rfl (by decide) rfl (by rfl) (Nat.le_of_ble_eq_true rfl) dX3_parseInto_39 (fun r υ hp => ?_)
          obtain ⟨o1, hp⟩ := hp
          refine v_goto (tgt := 56) X dX3_parseInto_42 (by decide) ?_
          refine rest hi r υ s hs o1 ?_
          rw [stA, if_pos hw]
          rcases hp with z | ⟨st', z1, z2, D', lg', cst', z3, z4, z5, z6⟩
          · exact Or.inl z
          · exact Or.inr ⟨st', z1, z2, D', lg', cst', z3, z4, z5, by omega⟩
  refine v_aload_n X dX3_parseInto_0 rfl ?_
  refine v_calv X (c_clear G (j := 18) (by decide)) cv_X3_35 (obX1 (by first | assumption | omega)) rfl (by decide) rfl (by rfl) (Nat.le_of_ble_eq_true rfl) dX3_parseInto_1 (fun τ hp => ?_)
  subst hp
  refine v_aload_n X dX3_parseInto_4 rfl ?_
  refine v_iconst (v := nI 0) X dX3_parseInto_5 (by decide) ?_
  refine v_puti X fw_X3_25 shX3_4 dX3_parseInto_6 rfl rfl ?_
  refine v_aload_n X dX3_parseInto_9 rfl ?_
  refine v_iconst (v := nI 1) X dX3_parseInto_10 (by decide) ?_
  refine v_puti X fw_X3_28 shX3_5 dX3_parseInto_11 rfl rfl ?_
  refine v_iconst (v := nI 0) X dX3_parseInto_14 (by decide) ?_
  refine v_istore_n X dX3_parseInto_15 (Nat.le_of_ble_eq_true rfl) ?_
  show V G Z _ 16 [_, _, _, _] _
  refine loop (tx.length + 1) 0 _ ([], [], true, 0) _ (by omega) (by omega) ?_ ?_ (fun z => by cases z) rfl
  · refine ((tR.S tR.rfl ?_).s2 (by omega)).s2 (by omega)
    exact (offS.rfl.s2 (by omega) (by omega)).s2 (by omega) (by omega)
  · refine ⟨[], false, [], ⟨⟨⟨Nat.zero_le _, fun q p h => by simp at h, ?_, fun q p h => by simp at h, fun q h => absurd h (Nat.not_lt_zero _)⟩, ?_, Or.inl ⟨rfl, rfl⟩⟩, ?_, trivial, trivial⟩, s2_at _ _ _ _, (fun z => by cases z), Nat.le_refl _⟩
    · rw [s2_nc (by omega), s2_nc (by omega), s2_ap, if_neg (by decide), s2_at]; rfl
    · rw [s2_nc (by omega), s2_nc (by omega), s2_at]; rfl
    · rw [s2_ap, if_neg (by decide), s2_at]; rfl
