def vO (σ τ : Sg) : Prop := (∀ i, i ≠ 156 → i ≠ 171 → i ≠ 172 → i ≠ 173 → τ i = σ i) ∧ ∀ f, f ≠ 22 → τ 156 f = σ 156 f
theorem vO.rfl {σ : Sg} : vO σ σ := ⟨fun _ _ _ _ _ => by rfl, fun _ _ => by rfl⟩
theorem vO.trans {σ τ υ : Sg} (h1 : vO σ τ) (h2 : vO τ υ) : vO σ υ := ⟨fun i a b c d => (h2.1 i a b c d).trans (h1.1 i a b c d), fun f hf => (h2.2 f hf).trans (h1.2 f hf)⟩
theorem vO.s2 {σ τ : Sg} {i k : Nat} {x : Int32} (h : vO σ τ) (hi : (i = 156 ∧ k = 22) ∨ i = 171 ∨ i = 172 ∨ i = 173) : vO σ (s2 τ i k x) := by
  refine ⟨fun q a b c d => ?_, fun f hf => ?_⟩
  · rw [s2_nc (by omega)]; exact h.1 q a b c d
  · rw [s2_ap, if_neg (by omega)]; exact h.2 f hf
theorem vO.k {σ τ : Sg} (h : vO σ τ) : kO σ τ := ⟨fun i hi => h.1 i (by omega) (by omega) (by omega) (by omega), h.2 5 (by decide), h.2 6 (by decide)⟩
theorem wS_vO {σ τ : Sg} {P : Sen} (h : wS σ P) (ho : vO σ τ) : wS τ P := wS_cong h (ho.2 7 (by decide)) (ho.1 162 (by decide) (by decide) (by decide) (by decide)) (ho.1 163 (by decide) (by decide) (by decide) (by decide)) (ho.1 164 (by decide) (by decide) (by decide) (by decide))
theorem bI_inj {a b : Bool} : bI a = bI b ↔ a = b := by cases a <;> cases b <;> decide
set_option maxHeartbeats 4000000 in
set_option maxRecDepth 100000 in
theorem m_isClosed (G : GT) {σ : Sg} {P : Sen} (hP : wS σ P) (hl : P.length ≤ 11) (w : Nat) : MC G yX5_isClosed cX5_isClosed 8 .boolean 1 [.ref (G.2.2.1 156), .int (nI w)] σ (fun r τ => τ = σ ∧ r = bI (clP P P.length w)) := by
  refine MC_of (by decide) (ca1 rfl (ca1 rfl ca0)) (Nat.le_of_ble_eq_true rfl) ?_
  intro Z X hR
  show V G Z σ 0 [some (.ref (G.2.2.1 156)), some (.int (nI w)), none, none, none, none, none, none] []
  obtain ⟨p1, p2, p3, p4⟩ := hP
  have loop : ∀ (n k : Nat) (l4 l5 l6 l7 : Option Value), P.length - k < n → k ≤ P.length → V G Z σ 4 [some (.ref (G.2.2.1 156)), some (.int (nI w)), some (.int (bI (clP P k w))), some (.int (nI k)), l4, l5, l6, l7] [] := by
    intro n
    induction n with
    | zero => intro k l4 l5 l6 l7 h; omega
    | succ n ih =>
      intro k l4 l5 l6 l7 hn hkl
      refine v_iload_n X dX5_isClosed_4 rfl ?_
      refine v_aload_n X dX5_isClosed_5 rfl ?_
      refine v_geti X fl_X5_73 shX5_7 dX5_isClosed_6 ?_
      rw [p3]
      refine v_icmp_ge (tgt := 182) X dX5_isClosed_9 (by decide) (fun h9 => ?_) (fun h9 => ?_)
      · skip
        have hk := nI_lem (by omega) (by omega) h9
        have hk : k = P.length := by omega
        subst hk
        refine v_iload_n X dX5_isClosed_182 rfl ?_
        refine v_ret X hR dX5_isClosed_183 (bI_nar _) ?_
        exact ⟨rfl, rfl⟩
      · skip
        have hk := nI_len (by omega) (by omega) h9
        obtain ⟨p, hp⟩ : ∃ p, P[k]? = some p := ⟨P[k], List.getElem?_eq_getElem hk⟩
        obtain ⟨e1, e2, e3⟩ := p4 k p hp
        have e1 : σ 162 k = nI p.1 := e1
        have hk4 := (p2 k p hp).k4
        have hcs := clP_succ P k w
        rw [getD_of hp] at hcs
        have nxt : ∀ (v : Int32) (l5 l6 l7 : Option Value), v = bI (clP P (k + 1) w) → V G Z σ 176 [some (.ref (G.2.2.1 156)), some (.int (nI w)), some (.int v), some (.int (nI k)), some (.int (bI (w.testBit k))), l5, l6, l7] [] := by
          intro v l5 l6 l7 hv
          subst hv
          refine v_iincE X dX5_isClosed_176 rfl (nI_inc k) ?_
          show V G Z _ 179 [_, _, _, _, _, _, _, _] _
          refine v_goto (tgt := 4) X dX5_isClosed_179 (by decide) ?_
          exact ih (k + 1) _ _ _ _ (by omega) (by omega)
        refine v_iload_n X dX5_isClosed_12 rfl ?_
        refine v_iload_n X dX5_isClosed_13 rfl ?_
        refine v_cals X (m_has G w (k := k) (by omega)) cs_X5_134 (by decide) rfl (by rfl) (Nat.le_of_ble_eq_true rfl) dX5_isClosed_14 (fun r τ9 hq => ?_)
        obtain ⟨e9, rfl⟩ := hq
        rw [e9]
        refine v_istore X dX5_isClosed_17 (Nat.le_of_ble_eq_true rfl) ?_
        show V G Z _ 19 [_, _, _, _, _, _, _, _] _
        refine v_aload_n X dX5_isClosed_19 rfl ?_
        refine v_getr X fl_X5_29 shX5_8 dX5_isClosed_20 ?_
        refine v_iload_n X dX5_isClosed_23 rfl ?_
        refine v_ialdE X arX5_8 rfl (show k < 128 by omega) dX5_isClosed_24 ?_
        refine v_iconst (v := nI 1) X dX5_isClosed_25 (by decide) ?_
        rw [e1]
        refine v_icmp_ne (tgt := 47) X dX5_isClosed_26 (by decide) (fun h26 => ?_) (fun h26 => ?_)
        · skip
          have n1 := nI_eqn (by omega) (by decide) h26
          refine v_aload_n X dX5_isClosed_47 rfl ?_
          refine v_getr X fl_X5_29 shX5_8 dX5_isClosed_48 ?_
          refine v_iload_n X dX5_isClosed_51 rfl ?_
          refine v_ialdE X arX5_8 rfl (show k < 128 by omega) dX5_isClosed_52 ?_
          refine v_iconst (v := nI 1) X dX5_isClosed_53 (by decide) ?_
          rw [e1]
          refine v_icmp_le (tgt := 176) X dX5_isClosed_54 (by decide) (fun h54 => ?_) (fun h54 => ?_)
          · skip
            have n0 : p.1 = 0 := by have := nI_lem (b := 1) (by omega) (by decide) h54; omega
            exact nxt _ _ _ _ (by rw [hcs, cl1, if_pos n0, Bool.and_true])
          · skip
            have h2 : ¬ p.1 < 2 := by have := nI_len (b := 1) (by omega) (by decide) h54; omega
            obtain ⟨ha, hb, -⟩ := wf_pair p2 hp h2
            have e2 : σ 163 k = nI p.2.1 := by rw [e2]; exact if_neg (by omega)
            have e3 : σ 164 k = nI p.2.2 := by rw [e3]; exact if_neg h2
            have due : ∀ (d : Bool) (l7 : Option Value), cl1 p k w = (w.testBit k == d) → V G Z σ 157 [some (.ref (G.2.2.1 156)), some (.int (nI w)), some (.int (bI (clP P k w))), some (.int (nI k)), some (.int (bI (w.testBit k))), some (.int (bI (w.testBit p.2.1))), some (.int (bI (w.testBit p.2.2))), l7] [.int (bI d)] := by
              intro d l7 hd
              refine v_istore X dX5_isClosed_157 (Nat.le_of_ble_eq_true rfl) ?_
              show V G Z _ 159 [_, _, _, _, _, _, _, _] _
              refine v_iload_n X dX5_isClosed_159 rfl ?_
              refine v_if_eq (tgt := 174) X dX5_isClosed_160 (by decide) (fun h160 => ?_) (fun h160 => ?_)
              · skip
                have hi := bI_z.mp h160
                refine v_iconst (v := nI 0) X dX5_isClosed_174 (by decide) ?_
                refine v_istore_n X dX5_isClosed_175 (Nat.le_of_ble_eq_true rfl) ?_
                show V G Z _ 176 [_, _, _, _, _, _, _, _] _
                exact nxt _ _ _ _ (by rw [hcs, hi]; rfl)
              · skip
                have hi := bI_nz.mp h160
                refine v_iload X dX5_isClosed_163 rfl ?_
                refine v_iload X dX5_isClosed_165 rfl ?_
                refine v_icmp_ne (tgt := 174) X dX5_isClosed_167 (by decide) (fun h167 => ?_) (fun h167 => ?_)
                · skip
                  have hne : ¬ w.testBit k = d := fun z => h167 (by rw [z])
                  refine v_iconst (v := nI 0) X dX5_isClosed_174 (by decide) ?_
                  refine v_istore_n X dX5_isClosed_175 (Nat.le_of_ble_eq_true rfl) ?_
                  show V G Z _ 176 [_, _, _, _, _, _, _, _] _
                  exact nxt _ _ _ _ (by rw [hcs, hd, beq_false_of_ne hne]; simp; rfl)
                · skip
                  have heq : w.testBit k = d := bI_inj.mp h167
                  refine v_iconst (v := nI 1) X dX5_isClosed_170 (by decide) ?_
                  refine v_goto (tgt := 175) X dX5_isClosed_171 (by decide) ?_
                  refine v_istore_n X dX5_isClosed_175 (Nat.le_of_ble_eq_true rfl) ?_
                  show V G Z _ 176 [_, _, _, _, _, _, _, _] _
                  exact nxt _ _ _ _ (by rw [hcs, hd, hi, heq]; simp; rfl)
            refine v_iload_n X dX5_isClosed_57 rfl ?_
            refine v_aload_n X dX5_isClosed_58 rfl ?_
            refine v_getr X fl_X5_32 shX5_9 dX5_isClosed_59 ?_
            refine v_iload_n X dX5_isClosed_62 rfl ?_
            refine v_ialdE X arX5_9 rfl (show k < 128 by omega) dX5_isClosed_63 ?_
            rw [e2]
            refine v_cals X (m_has G w (k := p.2.1) (by omega)) cs_X5_134 (by decide) rfl (by rfl) (Nat.le_of_ble_eq_true rfl) dX5_isClosed_64 (fun r τ9 hq => ?_)
            obtain ⟨e9, rfl⟩ := hq
            rw [e9]
            refine v_istore X dX5_isClosed_67 (Nat.le_of_ble_eq_true rfl) ?_
            show V G Z _ 69 [_, _, _, _, _, _, _, _] _
            refine v_iload_n X dX5_isClosed_69 rfl ?_
            refine v_aload_n X dX5_isClosed_70 rfl ?_
            refine v_getr X fl_X5_35 shX5_10 dX5_isClosed_71 ?_
            refine v_iload_n X dX5_isClosed_74 rfl ?_
            refine v_ialdE X arX5_10 rfl (show k < 128 by omega) dX5_isClosed_75 ?_
            rw [e3]
            refine v_cals X (m_has G w (k := p.2.2) (by omega)) cs_X5_134 (by decide) rfl (by rfl) (Nat.le_of_ble_eq_true rfl) dX5_isClosed_76 (fun r τ9 hq => ?_)
            obtain ⟨e9, rfl⟩ := hq
            rw [e9]
            refine v_istore X dX5_isClosed_79 (Nat.le_of_ble_eq_true rfl) ?_
            show V G Z _ 81 [_, _, _, _, _, _, _, _] _
            refine v_aload_n X dX5_isClosed_81 rfl ?_
            refine v_getr X fl_X5_29 shX5_8 dX5_isClosed_82 ?_
            refine v_iload_n X dX5_isClosed_85 rfl ?_
            refine v_ialdE X arX5_8 rfl (show k < 128 by omega) dX5_isClosed_86 ?_
            refine v_iconst (v := nI 2) X dX5_isClosed_87 (by decide) ?_
            rw [e1]
            refine v_icmp_ne (tgt := 109) X dX5_isClosed_88 (by decide) (fun h88 => ?_) (fun h88 => ?_)
            · skip
              have n2 := nI_eqn (by omega) (by decide) h88
              refine v_aload_n X dX5_isClosed_109 rfl ?_
              refine v_getr X fl_X5_29 shX5_8 dX5_isClosed_110 ?_
              refine v_iload_n X dX5_isClosed_113 rfl ?_
              refine v_ialdE X arX5_8 rfl (show k < 128 by omega) dX5_isClosed_114 ?_
              refine v_iconst (v := nI 3) X dX5_isClosed_115 (by decide) ?_
              rw [e1]
              refine v_icmp_ne (tgt := 137) X dX5_isClosed_116 (by decide) (fun h116 => ?_) (fun h116 => ?_)
              · skip
                have n3 := nI_eqn (by omega) (by decide) h116
                have hc1 : cl1 p k w = (w.testBit k == (w.testBit p.2.2 || (w.testBit k && !w.testBit p.2.1))) := by rw [cl1, if_neg (by omega), if_neg (by omega), if_neg n2, if_neg n3]
                refine v_iload X dX5_isClosed_137 rfl ?_
                refine v_if_ne (tgt := 152) X dX5_isClosed_139 (by decide) (fun h139 => ?_) (fun h139 => ?_)
                · skip
                  have bb := bI_nz.mp h139
                  refine v_iconst (v := nI 1) X dX5_isClosed_152 (by decide) ?_
                  refine v_goto (tgt := 157) X dX5_isClosed_153 (by decide) ?_
                  exact due true _ (by rw [hc1, bb]; simp)
                · skip
                  have bb := bI_z.mp h139
                  refine v_iload X dX5_isClosed_142 rfl ?_
                  refine v_if_eq (tgt := 156) X dX5_isClosed_144 (by decide) (fun h144 => ?_) (fun h144 => ?_)
                  · skip
                    have bo := bI_z.mp h144
                    refine v_iconst (v := nI 0) X dX5_isClosed_156 (by decide) ?_
                    exact due false _ (by rw [hc1, bb, bo]; simp)
                  · skip
                    have bo := bI_nz.mp h144
                    refine v_iload X dX5_isClosed_147 rfl ?_
                    refine v_if_ne (tgt := 156) X dX5_isClosed_149 (by decide) (fun h149 => ?_) (fun h149 => ?_)
                    · skip
                      have ba := bI_nz.mp h149
                      refine v_iconst (v := nI 0) X dX5_isClosed_156 (by decide) ?_
                      exact due false _ (by rw [hc1, bb, bo, ba]; simp)
                    · skip
                      have ba := bI_z.mp h149
                      refine v_iconst (v := nI 1) X dX5_isClosed_152 (by decide) ?_
                      refine v_goto (tgt := 157) X dX5_isClosed_153 (by decide) ?_
                      exact due true _ (by rw [hc1, bb, bo, ba]; simp)
              · skip
                have n3 := nI_eqm (by omega) (by decide) h116
                have hc1 : cl1 p k w = (w.testBit k == (w.testBit p.2.1 || w.testBit p.2.2)) := by rw [cl1, if_neg (by omega), if_neg (by omega), if_neg n2, if_pos n3]
                refine v_iload X dX5_isClosed_119 rfl ?_
                refine v_if_ne (tgt := 129) X dX5_isClosed_121 (by decide) (fun h121 => ?_) (fun h121 => ?_)
                · skip
                  have ba := bI_nz.mp h121
                  refine v_iconst (v := nI 1) X dX5_isClosed_129 (by decide) ?_
                  refine v_goto (tgt := 157) X dX5_isClosed_130 (by decide) ?_
                  exact due true _ (by rw [hc1, ba]; simp)
                · skip
                  have ba := bI_z.mp h121
                  refine v_iload X dX5_isClosed_124 rfl ?_
                  refine v_if_eq (tgt := 133) X dX5_isClosed_126 (by decide) (fun h126 => ?_) (fun h126 => ?_)
                  · skip
                    have bb := bI_z.mp h126
                    refine v_iconst (v := nI 0) X dX5_isClosed_133 (by decide) ?_
                    refine v_goto (tgt := 157) X dX5_isClosed_134 (by decide) ?_
                    exact due false _ (by rw [hc1, ba, bb]; simp)
                  · skip
                    have bb := bI_nz.mp h126
                    refine v_iconst (v := nI 1) X dX5_isClosed_129 (by decide) ?_
                    refine v_goto (tgt := 157) X dX5_isClosed_130 (by decide) ?_
                    exact due true _ (by rw [hc1, ba, bb]; simp)
            · skip
              have n2 := nI_eqm (by omega) (by decide) h88
              have hc1 : cl1 p k w = (w.testBit k == (w.testBit p.2.1 && w.testBit p.2.2)) := by rw [cl1, if_neg (by omega), if_neg (by omega), if_pos n2]
              refine v_iload X dX5_isClosed_91 rfl ?_
              refine v_if_eq (tgt := 105) X dX5_isClosed_93 (by decide) (fun h93 => ?_) (fun h93 => ?_)
              · skip
                have ba := bI_z.mp h93
                refine v_iconst (v := nI 0) X dX5_isClosed_105 (by decide) ?_
                refine v_goto (tgt := 157) X dX5_isClosed_106 (by decide) ?_
                exact due false _ (by rw [hc1, ba]; simp)
              · skip
                have ba := bI_nz.mp h93
                refine v_iload X dX5_isClosed_96 rfl ?_
                refine v_if_eq (tgt := 105) X dX5_isClosed_98 (by decide) (fun h98 => ?_) (fun h98 => ?_)
                · skip
                  have bb := bI_z.mp h98
                  refine v_iconst (v := nI 0) X dX5_isClosed_105 (by decide) ?_
                  refine v_goto (tgt := 157) X dX5_isClosed_106 (by decide) ?_
                  exact due false _ (by rw [hc1, ba, bb]; simp)
                · skip
                  have bb := bI_nz.mp h98
                  refine v_iconst (v := nI 1) X dX5_isClosed_101 (by decide) ?_
                  refine v_goto (tgt := 157) X dX5_isClosed_102 (by decide) ?_
                  exact due true _ (by rw [hc1, ba, bb]; simp)
        · skip
          have n1 := nI_eqm (by omega) (by decide) h26
          have hc1 : cl1 p k w = !w.testBit k := by rw [cl1, if_neg (by omega), if_pos n1]
          refine v_iload_n X dX5_isClosed_29 rfl ?_
          refine v_if_eq (tgt := 42) X dX5_isClosed_30 (by decide) (fun h30 => ?_) (fun h30 => ?_)
          · skip
            have hi := bI_z.mp h30
            refine v_iconst (v := nI 0) X dX5_isClosed_42 (by decide) ?_
            refine v_istore_n X dX5_isClosed_43 (Nat.le_of_ble_eq_true rfl) ?_
            show V G Z _ 44 [_, _, _, _, _, _, _, _] _
            refine v_goto (tgt := 176) X dX5_isClosed_44 (by decide) ?_
            exact nxt _ _ _ _ (by rw [hcs, hi]; rfl)
          · skip
            have hi := bI_nz.mp h30
            refine v_iload X dX5_isClosed_33 rfl ?_
            refine v_if_ne (tgt := 42) X dX5_isClosed_35 (by decide) (fun h35 => ?_) (fun h35 => ?_)
            · skip
              have ho := bI_nz.mp h35
              refine v_iconst (v := nI 0) X dX5_isClosed_42 (by decide) ?_
              refine v_istore_n X dX5_isClosed_43 (Nat.le_of_ble_eq_true rfl) ?_
              show V G Z _ 44 [_, _, _, _, _, _, _, _] _
              refine v_goto (tgt := 176) X dX5_isClosed_44 (by decide) ?_
              exact nxt _ _ _ _ (by rw [hcs, hc1, ho]; simp; rfl)
            · skip
              have ho := bI_z.mp h35
              refine v_iconst (v := nI 1) X dX5_isClosed_38 (by decide) ?_
              refine v_goto (tgt := 43) X dX5_isClosed_39 (by decide) ?_
              refine v_istore_n X dX5_isClosed_43 (Nat.le_of_ble_eq_true rfl) ?_
              show V G Z _ 44 [_, _, _, _, _, _, _, _] _
              refine v_goto (tgt := 176) X dX5_isClosed_44 (by decide) ?_
              exact nxt _ _ _ _ (by rw [hcs, hc1, ho, hi]; rfl)
  refine v_iconst (v := nI 1) X dX5_isClosed_0 (by decide) ?_
  refine v_istore_n X dX5_isClosed_1 (Nat.le_of_ble_eq_true rfl) ?_
  show V G Z _ 2 [_, _, _, _, _, _, _, _] _
  refine v_iconst (v := nI 0) X dX5_isClosed_2 (by decide) ?_
  refine v_istore_n X dX5_isClosed_3 (Nat.le_of_ble_eq_true rfl) ?_
  show V G Z _ 4 [_, _, _, _, _, _, _, _] _
  exact loop (P.length + 1) 0 _ _ _ _ (by omega) (by omega)
/-- the reference's rows: the sets L, and which are gone -/
def gI (τ : Sg) (L : List Nat) (g : Nat → Bool) : Prop := L.length ≤ 2048 ∧ τ 156 22 = nI L.length ∧ arr (τ 171) L ∧ ∀ x w, L[x]? = some w → τ 172 x = bI (g w)
theorem nb_sub {a b : Nat} (ha : a < 2 ^ 31) : nI a &&& (nI b ^^^ (-1)) = 0 ↔ sbs a b = true := by
  rw [nb_not]
  constructor
  · intro h
    have h0 : dif a b = 0 := nI_eqm (b := 0) (Nat.lt_of_le_of_lt (dif_le _ _) ha) (by decide) h
    rw [sbs_iff]
    intro i hi
    have := dif_zero_bit.mp h0 i
    rw [dif_bit, hi] at this
    cases hb : b.testBit i with
    | true => rfl
    | false => rw [hb] at this; cases this
  · intro h
    have h0 : dif a b = 0 := dif_zero_bit.mpr (fun k => by
      rw [dif_bit]
      cases hk : a.testBit k with
      | false => rfl
      | true => rw [sbs_iff.mp h k hk]; rfl)
    rw [h0]; rfl
set_option maxHeartbeats 4000000 in
set_option maxRecDepth 100000 in
theorem m_isNeeded (G : GT) {σ : Sg} {P : Sen} (hP : wS σ P) (hl : P.length ≤ 11) {L : List Nat} {g : Nat → Bool} (hg : gI σ L g) {w : Nat} (hw : w < 2 ^ 31) : MC G yX5_isNeeded cX5_isNeeded 5 .boolean 1 [.ref (G.2.2.1 156), .int (nI w)] σ (fun r τ => τ = σ ∧ ∃ b : Bool, r = bI b ∧ (b = true ↔ ndd P L g w)) := by
  refine MC_of (by decide) (ca1 rfl (ca1 rfl ca0)) (Nat.le_of_ble_eq_true rfl) ?_
  intro Z X hR
  show V G Z σ 0 [some (.ref (G.2.2.1 156)), some (.int (nI w)), none, none, none] []
  obtain ⟨p1, p2, p3, p4⟩ := hP
  obtain ⟨g1, g2, g3, g4⟩ := hg
  have loop : ∀ (n k : Nat) (l3 l4 : Option Value), P.length - k < n → k ≤ P.length → (∀ x, x < k → lk P w x = true → ∃ v ∈ L, g v = false ∧ sbs w v = true ∧ rft P v x = true) → V G Z σ 2 [some (.ref (G.2.2.1 156)), some (.int (nI w)), some (.int (nI k)), l3, l4] [] := by
    intro n
    induction n with
    | zero => intro k l3 l4 h; omega
    | succ n ih =>
      intro k l3 l4 hn hkl hin
      refine v_iload_n X dX5_isNeeded_2 rfl ?_
      refine v_aload_n X dX5_isNeeded_3 rfl ?_
      refine v_geti X fl_X5_73 shX5_7 dX5_isNeeded_4 ?_
      rw [p3]
      refine v_icmp_ge (tgt := 132) X dX5_isNeeded_7 (by decide) (fun h7 => ?_) (fun h7 => ?_)
      · skip
        have hk := nI_lem (by omega) (by omega) h7
        refine v_iconst (v := nI 1) X dX5_isNeeded_132 (by decide) ?_
        refine v_ret X hR dX5_isNeeded_133 rfl ?_
        exact ⟨rfl, true, rfl, fun _ x hx => hin x (by have := (lk_iff.mp hx).1; omega) hx, fun _ => rfl⟩
      · skip
        have hk := nI_len (by omega) (by omega) h7
        obtain ⟨p, hp⟩ : ∃ p, P[k]? = some p := ⟨P[k], List.getElem?_eq_getElem hk⟩
        obtain ⟨e1, e2, e3⟩ := p4 k p hp
        have e1 : σ 162 k = nI p.1 := e1
        have hk4 := (p2 k p hp).k4
        refine v_aload_n X dX5_isNeeded_10 rfl ?_
        refine v_getr X fl_X5_29 shX5_8 dX5_isNeeded_11 ?_
        refine v_iload_n X dX5_isNeeded_14 rfl ?_
        refine v_ialdE X arX5_8 rfl (show k < 128 by omega) dX5_isNeeded_15 ?_
        refine v_iconst (v := nI 4) X dX5_isNeeded_16 (by decide) ?_
        rw [e1]
        refine v_icmp_ne (tgt := 126) X dX5_isNeeded_17 (by decide) (fun h17 => ?_) (fun h17 => ?_)
        · skip
          have hno : ¬ lk P w k = true := fun z => by
            have := (lk_iff.mp z).2.1
            rw [getD_of hp] at this
            exact h17 (by rw [this])
          refine v_iincE X dX5_isNeeded_126 rfl (nI_inc k) ?_
          show V G Z _ 129 [_, _, _, _, _] _
          refine v_goto (tgt := 2) X dX5_isNeeded_129 (by decide) ?_
          exact ih (k + 1) _ _ (by omega) (by omega) (fun x hx hlx => by
            rcases Nat.lt_or_ge x k with z | z
            · exact hin x z hlx
            · rw [show x = k by omega] at hlx; exact absurd hlx hno)
        · skip
          have n4 := nI_eqm (by omega) (by decide) h17
          obtain ⟨ha, hb, -⟩ := wf_pair p2 hp (by omega)
          have e2 : σ 163 k = nI p.2.1 := by rw [e2]; exact if_neg (by omega)
          have e3 : σ 164 k = nI p.2.2 := by rw [e3]; exact if_neg (by omega)
          refine v_iload_n X dX5_isNeeded_20 rfl ?_
          refine v_iload_n X dX5_isNeeded_21 rfl ?_
          refine v_cals X (m_has G w (k := k) (by omega)) cs_X5_134 (by decide) rfl (by rfl) (Nat.le_of_ble_eq_true rfl) dX5_isNeeded_22 (fun r τ9 hq => ?_)
          obtain ⟨e9, rfl⟩ := hq
          rw [e9]
          refine v_if_ne (tgt := 126) X dX5_isNeeded_25 (by decide) (fun h25 => ?_) (fun h25 => ?_)
          · skip
            have hno : ¬ lk P w k = true := fun z => by
              have := (lk_iff.mp z).2.2
              rw [bI_nz.mp h25] at this
              cases this
            refine v_iincE X dX5_isNeeded_126 rfl (nI_inc k) ?_
            show V G Z _ 129 [_, _, _, _, _] _
            refine v_goto (tgt := 2) X dX5_isNeeded_129 (by decide) ?_
            exact ih (k + 1) _ _ (by omega) (by omega) (fun x hx hlx => by
              rcases Nat.lt_or_ge x k with z | z
              · exact hin x z hlx
              · rw [show x = k by omega] at hlx; exact absurd hlx hno)
          · skip
            have hlk : lk P w k = true := lk_iff.mpr ⟨hk, by rw [getD_of hp]; exact n4, bI_z.mp h25⟩
            have inner : ∀ (n2 y : Nat) (b : Bool), L.length - y < n2 → y ≤ L.length → (b = true → ∃ v ∈ L, g v = false ∧ sbs w v = true ∧ rft P v k = true) → (b = false → ∀ x v, x < y → L[x]? = some v → ¬ (g v = false ∧ sbs w v = true ∧ rft P v k = true)) → V G Z σ 33 [some (.ref (G.2.2.1 156)), some (.int (nI w)), some (.int (nI k)), some (.int (bI b)), some (.int (nI y))] [] := by
              intro n2
              induction n2 with
              | zero => intro y b h; omega
              | succ n2 ih2 =>
                intro y b hn2 hyl hbt hbf
                have out : (b = true ∨ y = L.length) → V G Z σ 120 [some (.ref (G.2.2.1 156)), some (.int (nI w)), some (.int (nI k)), some (.int (bI b)), some (.int (nI y))] [] := by
                  intro hbo
                  refine v_iload_n X dX5_isNeeded_120 rfl ?_
                  refine v_if_ne (tgt := 126) X dX5_isNeeded_121 (by decide) (fun h121 => ?_) (fun h121 => ?_)
                  · skip
                    have hb := bI_nz.mp h121
                    refine v_iincE X dX5_isNeeded_126 rfl (nI_inc k) ?_
                    show V G Z _ 129 [_, _, _, _, _] _
                    refine v_goto (tgt := 2) X dX5_isNeeded_129 (by decide) ?_
                    exact ih (k + 1) _ _ (by omega) (by omega) (fun x hx hlx => by
                      rcases Nat.lt_or_ge x k with z | z
                      · exact hin x z hlx
                      · rw [show x = k by omega]; exact hbt hb)
                  · skip
                    have hb := bI_z.mp h121
                    have hy : y = L.length := by
                      rcases hbo with z | z
                      · rw [hb] at z; cases z
                      · exact z
                    refine v_iconst (v := nI 0) X dX5_isNeeded_124 (by decide) ?_
                    refine v_ret X hR dX5_isNeeded_125 rfl ?_
                    refine ⟨rfl, false, rfl, (fun z => by cases z), fun z => ?_⟩
                    obtain ⟨v, v1, v2⟩ := z k hlk
                    obtain ⟨x, hx⟩ := List.getElem?_of_mem v1
                    exact absurd v2 (hbf hb x v (by have := (List.getElem?_eq_some_iff.mp hx).1; omega) hx)
                refine v_iload X dX5_isNeeded_33 rfl ?_
                refine v_aload_n X dX5_isNeeded_35 rfl ?_
                refine v_geti X fl_X5_138 shX5_22 dX5_isNeeded_36 ?_
                rw [g2]
                refine v_icmp_ge (tgt := 120) X dX5_isNeeded_39 (by decide) (fun h39 => ?_) (fun h39 => ?_)
                · skip
                  have hy := nI_lem (by omega) (by omega) h39
                  exact out (Or.inr (by omega))
                · skip
                  have hy := nI_len (by omega) (by omega) h39
                  obtain ⟨v, hv⟩ : ∃ v, L[y]? = some v := ⟨L[y], List.getElem?_eq_getElem hy⟩
                  have ev := g3 y v hv
                  have eg := g4 y v hv
                  refine v_iload_n X dX5_isNeeded_42 rfl ?_
                  refine v_if_ne (tgt := 120) X dX5_isNeeded_43 (by decide) (fun h43 => ?_) (fun h43 => ?_)
                  · skip
                    exact out (Or.inl (bI_nz.mp h43))
                  · skip
                    have hb := bI_z.mp h43
                    subst hb
                    refine v_aload_n X dX5_isNeeded_46 rfl ?_
                    refine v_getr X fl_X5_59 shX5_21 dX5_isNeeded_47 ?_
                    refine v_iload X dX5_isNeeded_50 rfl ?_
                    refine v_zaldE X arX5_21 rfl (show y < 2048 by omega) dX5_isNeeded_52 ?_
                    rw [eg]
                    refine v_if_ne (tgt := 112) X dX5_isNeeded_53 (by decide) (fun h53 => ?_) (fun h53 => ?_)
                    · skip
                      have c1 := bI_nz.mp h53
                      refine v_iconst (v := nI 0) X dX5_isNeeded_112 (by decide) ?_
                      refine v_istore_n X dX5_isNeeded_113 (Nat.le_of_ble_eq_true rfl) ?_
                      show V G Z _ 114 [_, _, _, _, _] _
                      refine v_iincE X dX5_isNeeded_114 rfl (nI_inc y) ?_
                      show V G Z _ 117 [_, _, _, _, _] _
                      refine v_goto (tgt := 33) X dX5_isNeeded_117 (by decide) ?_
                      refine ih2 (y + 1) false (by omega) (by omega) (fun z => by cases z) (fun _ x v' hx hx' => ?_)
                      rcases Nat.lt_or_ge x y with z | z
                      · exact hbf rfl x v' z hx'
                      · rw [show x = y by omega, hv] at hx'
                        cases hx'
                        exact fun z => by rw [z.1] at c1; cases c1
                    · skip
                      have c1 := bI_z.mp h53
                      refine v_iload_n X dX5_isNeeded_56 rfl ?_
                      refine v_aload_n X dX5_isNeeded_57 rfl ?_
                      refine v_getr X fl_X5_56 shX5_20 dX5_isNeeded_58 ?_
                      refine v_iload X dX5_isNeeded_61 rfl ?_
                      refine v_ialdE X arX5_20 rfl (show y < 2048 by omega) dX5_isNeeded_63 ?_
                      rw [ev]
                      refine v_iconst (v := (-1)) X dX5_isNeeded_64 (by decide) ?_
                      refine v_ixor X dX5_isNeeded_65 ?_
                      refine v_iand X dX5_isNeeded_66 ?_
                      refine v_if_ne (tgt := 112) X dX5_isNeeded_67 (by decide) (fun h67 => ?_) (fun h67 => ?_)
                      · skip
                        have c2 := h67
                        refine v_iconst (v := nI 0) X dX5_isNeeded_112 (by decide) ?_
                        refine v_istore_n X dX5_isNeeded_113 (Nat.le_of_ble_eq_true rfl) ?_
                        show V G Z _ 114 [_, _, _, _, _] _
                        refine v_iincE X dX5_isNeeded_114 rfl (nI_inc y) ?_
                        show V G Z _ 117 [_, _, _, _, _] _
                        refine v_goto (tgt := 33) X dX5_isNeeded_117 (by decide) ?_
                        refine ih2 (y + 1) false (by omega) (by omega) (fun z => by cases z) (fun _ x v' hx hx' => ?_)
                        rcases Nat.lt_or_ge x y with z | z
                        · exact hbf rfl x v' z hx'
                        · rw [show x = y by omega, hv] at hx'
                          cases hx'
                          exact fun z => c2 ((nb_sub hw).mpr z.2.1)
                      · skip
                        have c2 := (nb_sub hw).mp h67
                        refine v_aload_n X dX5_isNeeded_70 rfl ?_
                        refine v_getr X fl_X5_56 shX5_20 dX5_isNeeded_71 ?_
                        refine v_iload X dX5_isNeeded_74 rfl ?_
                        refine v_ialdE X arX5_20 rfl (show y < 2048 by omega) dX5_isNeeded_76 ?_
                        refine v_aload_n X dX5_isNeeded_77 rfl ?_
                        refine v_getr X fl_X5_32 shX5_9 dX5_isNeeded_78 ?_
                        refine v_iload_n X dX5_isNeeded_81 rfl ?_
                        refine v_ialdE X arX5_9 rfl (show k < 128 by omega) dX5_isNeeded_82 ?_
                        rw [ev, e2]
                        refine v_cals X (m_has G v (k := p.2.1) (by omega)) cs_X5_134 (by decide) rfl (by rfl) (Nat.le_of_ble_eq_true rfl) dX5_isNeeded_83 (fun r τ9 hq => ?_)
                        obtain ⟨e9, rfl⟩ := hq
                        rw [e9]
                        refine v_if_eq (tgt := 112) X dX5_isNeeded_86 (by decide) (fun h86 => ?_) (fun h86 => ?_)
                        · skip
                          have c3 := bI_z.mp h86
                          refine v_iconst (v := nI 0) X dX5_isNeeded_112 (by decide) ?_
                          refine v_istore_n X dX5_isNeeded_113 (Nat.le_of_ble_eq_true rfl) ?_
                          show V G Z _ 114 [_, _, _, _, _] _
                          refine v_iincE X dX5_isNeeded_114 rfl (nI_inc y) ?_
                          show V G Z _ 117 [_, _, _, _, _] _
                          refine v_goto (tgt := 33) X dX5_isNeeded_117 (by decide) ?_
                          refine ih2 (y + 1) false (by omega) (by omega) (fun z => by cases z) (fun _ x v' hx hx' => ?_)
                          rcases Nat.lt_or_ge x y with z | z
                          · exact hbf rfl x v' z hx'
                          · rw [show x = y by omega, hv] at hx'
                            cases hx'
                            exact fun z => by have := ((Bool.and_eq_true _ _).mp z.2.2).1; rw [getD_of hp, c3] at this; cases this
                        · skip
                          have c3 := bI_nz.mp h86
                          refine v_aload_n X dX5_isNeeded_89 rfl ?_
                          refine v_getr X fl_X5_56 shX5_20 dX5_isNeeded_90 ?_
                          refine v_iload X dX5_isNeeded_93 rfl ?_
                          refine v_ialdE X arX5_20 rfl (show y < 2048 by omega) dX5_isNeeded_95 ?_
                          refine v_aload_n X dX5_isNeeded_96 rfl ?_
                          refine v_getr X fl_X5_35 shX5_10 dX5_isNeeded_97 ?_
                          refine v_iload_n X dX5_isNeeded_100 rfl ?_
                          refine v_ialdE X arX5_10 rfl (show k < 128 by omega) dX5_isNeeded_101 ?_
                          rw [ev, e3]
                          refine v_cals X (m_has G v (k := p.2.2) (by omega)) cs_X5_134 (by decide) rfl (by rfl) (Nat.le_of_ble_eq_true rfl) dX5_isNeeded_102 (fun r τ9 hq => ?_)
                          obtain ⟨e9, rfl⟩ := hq
                          rw [e9]
                          refine v_if_ne (tgt := 112) X dX5_isNeeded_105 (by decide) (fun h105 => ?_) (fun h105 => ?_)
                          · skip
                            have c4 : (!v.testBit p.2.2) = false := by rw [bI_nz.mp h105]; rfl
                            refine v_iconst (v := nI 0) X dX5_isNeeded_112 (by decide) ?_
                            refine v_istore_n X dX5_isNeeded_113 (Nat.le_of_ble_eq_true rfl) ?_
                            show V G Z _ 114 [_, _, _, _, _] _
                            refine v_iincE X dX5_isNeeded_114 rfl (nI_inc y) ?_
                            show V G Z _ 117 [_, _, _, _, _] _
                            refine v_goto (tgt := 33) X dX5_isNeeded_117 (by decide) ?_
                            refine ih2 (y + 1) false (by omega) (by omega) (fun z => by cases z) (fun _ x v' hx hx' => ?_)
                            rcases Nat.lt_or_ge x y with z | z
                            · exact hbf rfl x v' z hx'
                            · rw [show x = y by omega, hv] at hx'
                              cases hx'
                              exact fun z => by have := ((Bool.and_eq_true _ _).mp z.2.2).2; rw [getD_of hp, c4] at this; cases this
                          · skip
                            have c4 := bI_z.mp h105
                            refine v_iconst (v := nI 1) X dX5_isNeeded_108 (by decide) ?_
                            refine v_goto (tgt := 113) X dX5_isNeeded_109 (by decide) ?_
                            refine v_istore_n X dX5_isNeeded_113 (Nat.le_of_ble_eq_true rfl) ?_
                            show V G Z _ 114 [_, _, _, _, _] _
                            refine v_iincE X dX5_isNeeded_114 rfl (nI_inc y) ?_
                            show V G Z _ 117 [_, _, _, _, _] _
                            refine v_goto (tgt := 33) X dX5_isNeeded_117 (by decide) ?_
                            refine ih2 (y + 1) true (by omega) (by omega) (fun _ => ⟨v, List.mem_of_getElem? hv, c1, c2, ?_⟩) (fun z => by cases z)
                            rw [rft, getD_of hp, c3, c4]; rfl
            refine v_iconst (v := nI 0) X dX5_isNeeded_28 (by decide) ?_
            refine v_istore_n X dX5_isNeeded_29 (Nat.le_of_ble_eq_true rfl) ?_
            show V G Z _ 30 [_, _, _, _, _] _
            refine v_iconst (v := nI 0) X dX5_isNeeded_30 (by decide) ?_
            refine v_istore X dX5_isNeeded_31 (Nat.le_of_ble_eq_true rfl) ?_
            show V G Z _ 33 [_, _, _, _, _] _
            exact inner (L.length + 1) 0 false (by omega) (by omega) (fun z => by cases z) (fun _ x v h => by omega)
  refine v_iconst (v := nI 0) X dX5_isNeeded_0 (by decide) ?_
  refine v_istore_n X dX5_isNeeded_1 (Nat.le_of_ble_eq_true rfl) ?_
  show V G Z _ 2 [_, _, _, _, _] _
  exact loop (P.length + 1) 0 _ _ (by omega) (by omega) (fun x h => by omega)
