theorem all_go {f : Nat → Bool} {n : Nat} {b c : Bool} (hb : b = (List.range n).all f) (hc : c = (b && f n)) : c = (List.range (n + 1)).all f := by rw [all_succ, ← hb, hc]
theorem wI_at {τ : Sg} {P : Sen} (h : wI τ P) {y : Nat} (hy : y < (wlK P).length) : τ 171 y = nI (kw (wlK P) y) := h.2.2 y _ (kw_map _ hy)
set_option maxHeartbeats 4000000 in
set_option maxRecDepth 100000 in
theorem m_isInAll (G : GT) {σ : Sg} {P : Sen} (hP : wS σ P) (hl : P.length ≤ 11) {s k : Nat} (hs : s < 2 ^ 31) (hk : k < 32) : MC G yX5_isInAll cX5_isInAll 5 .boolean 3 [.ref (G.2.2.1 156), .int (nI s), .int (nI k)] σ (fun r τ => vO σ τ ∧ r = bI (frc (wlK P) s k)) := by
  refine MC_of (by decide) (ca1 rfl (ca1 rfl (ca1 rfl ca0))) (Nat.le_of_ble_eq_true rfl) ?_
  intro Z X hR
  show V G Z σ 0 [some (.ref (G.2.2.1 156)), some (.int (nI s)), some (.int (nI k)), none, none] []
  refine v_aload_n X dX5_isInAll_0 rfl ?_
  refine v_calv X (m_layWorlds G hP hl) cv_X5_147 obX5 rfl (by decide) rfl (by rfl) (Nat.le_of_ble_eq_true rfl) dX5_isInAll_1 (fun τ1 hp1 => ?_)
  obtain ⟨w1, w2⟩ := hp1
  have hK := w2.1
  have loop : ∀ (n y : Nat) (b : Bool), (wlK P).length - y < n → y ≤ (wlK P).length → b = (List.range y).all (fun i => !sbs s (kw (wlK P) i) || (kw (wlK P) i).testBit k) → V G Z τ1 9 [some (.ref (G.2.2.1 156)), some (.int (nI s)), some (.int (nI k)), some (.int (bI b)), some (.int (nI y))] [] := by
    intro n
    induction n with
    | zero => intro y b h; omega
    | succ n ih =>
      intro y b hn hyl hb
      refine v_iload X dX5_isInAll_9 rfl ?_
      refine v_aload_n X dX5_isInAll_11 rfl ?_
      refine v_geti X fl_X5_138 shX5_22 dX5_isInAll_12 ?_
      rw [w2.2.1]
      refine v_icmp_ge (tgt := 62) X dX5_isInAll_15 (by decide) (fun h15 => ?_) (fun h15 => ?_)
      · skip
        have hy := nI_lem (by omega) (by omega) h15
        have hy : y = (wlK P).length := by omega
        subst hy
        refine v_iload_n X dX5_isInAll_62 rfl ?_
        refine v_ret X hR dX5_isInAll_63 (bI_nar _) ?_
        exact ⟨w1, by rw [hb]; rfl⟩
      · skip
        have hy := nI_len (by omega) (by omega) h15
        refine v_iload_n X dX5_isInAll_18 rfl ?_
        refine v_if_eq (tgt := 54) X dX5_isInAll_19 (by decide) (fun h19 => ?_) (fun h19 => ?_)
        · skip
          have c0 := bI_z.mp h19
          refine v_iconst (v := nI 0) X dX5_isInAll_54 (by decide) ?_
          refine v_istore_n X dX5_isInAll_55 (Nat.le_of_ble_eq_true rfl) ?_
          show V G Z _ 56 [_, _, _, _, _] _
          refine v_iincE X dX5_isInAll_56 rfl (nI_inc y) ?_
          show V G Z _ 59 [_, _, _, _, _] _
          refine v_goto (tgt := 9) X dX5_isInAll_59 (by decide) ?_
          exact ih (y + 1) false (by omega) (by omega) (all_go hb (by show _ = (b && (!sbs s (kw (wlK P) y) || (kw (wlK P) y).testBit k)); simp [c0]))
        · skip
          have c0 := bI_nz.mp h19
          refine v_iload_n X dX5_isInAll_22 rfl ?_
          refine v_aload_n X dX5_isInAll_23 rfl ?_
          refine v_getr X fl_X5_56 shX5_20 dX5_isInAll_24 ?_
          refine v_iload X dX5_isInAll_27 rfl ?_
          refine v_ialdE X arX5_20 rfl (show y < 2048 by omega) dX5_isInAll_29 ?_
          rw [wI_at w2 hy]
          refine v_iconst (v := (-1)) X dX5_isInAll_30 (by decide) ?_
          refine v_ixor X dX5_isInAll_31 ?_
          refine v_iand X dX5_isInAll_32 ?_
          refine v_if_ne (tgt := 50) X dX5_isInAll_33 (by decide) (fun h33 => ?_) (fun h33 => ?_)
          · skip
            have c1 : sbs s (kw (wlK P) y) = false := by
              cases z : sbs s (kw (wlK P) y) with
              | false => rfl
              | true => exact absurd ((nb_sub hs).mpr z) h33
            refine v_iconst (v := nI 1) X dX5_isInAll_50 (by decide) ?_
            refine v_goto (tgt := 55) X dX5_isInAll_51 (by decide) ?_
            refine v_istore_n X dX5_isInAll_55 (Nat.le_of_ble_eq_true rfl) ?_
            show V G Z _ 56 [_, _, _, _, _] _
            refine v_iincE X dX5_isInAll_56 rfl (nI_inc y) ?_
            show V G Z _ 59 [_, _, _, _, _] _
            refine v_goto (tgt := 9) X dX5_isInAll_59 (by decide) ?_
            exact ih (y + 1) true (by omega) (by omega) (all_go hb (by show _ = (b && (!sbs s (kw (wlK P) y) || (kw (wlK P) y).testBit k)); simp [c0, c1]))
          · skip
            have c1 := (nb_sub hs).mp h33
            refine v_aload_n X dX5_isInAll_36 rfl ?_
            refine v_getr X fl_X5_56 shX5_20 dX5_isInAll_37 ?_
            refine v_iload X dX5_isInAll_40 rfl ?_
            refine v_ialdE X arX5_20 rfl (show y < 2048 by omega) dX5_isInAll_42 ?_
            refine v_iload_n X dX5_isInAll_43 rfl ?_
            rw [wI_at w2 hy]
            refine v_cals X (m_has G (kw (wlK P) y) hk) cs_X5_134 (by decide) rfl (by rfl) (Nat.le_of_ble_eq_true rfl) dX5_isInAll_44 (fun r τ9 hq => ?_)
            obtain ⟨e9, rfl⟩ := hq
            rw [e9]
            refine v_if_eq (tgt := 54) X dX5_isInAll_47 (by decide) (fun h47 => ?_) (fun h47 => ?_)
            · skip
              have c2 := bI_z.mp h47
              refine v_iconst (v := nI 0) X dX5_isInAll_54 (by decide) ?_
              refine v_istore_n X dX5_isInAll_55 (Nat.le_of_ble_eq_true rfl) ?_
              show V G Z _ 56 [_, _, _, _, _] _
              refine v_iincE X dX5_isInAll_56 rfl (nI_inc y) ?_
              show V G Z _ 59 [_, _, _, _, _] _
              refine v_goto (tgt := 9) X dX5_isInAll_59 (by decide) ?_
              exact ih (y + 1) false (by omega) (by omega) (all_go hb (by show _ = (b && (!sbs s (kw (wlK P) y) || (kw (wlK P) y).testBit k)); simp [c0, c1, c2]))
            · skip
              have c2 := bI_nz.mp h47
              refine v_iconst (v := nI 1) X dX5_isInAll_50 (by decide) ?_
              refine v_goto (tgt := 55) X dX5_isInAll_51 (by decide) ?_
              refine v_istore_n X dX5_isInAll_55 (Nat.le_of_ble_eq_true rfl) ?_
              show V G Z _ 56 [_, _, _, _, _] _
              refine v_iincE X dX5_isInAll_56 rfl (nI_inc y) ?_
              show V G Z _ 59 [_, _, _, _, _] _
              refine v_goto (tgt := 9) X dX5_isInAll_59 (by decide) ?_
              exact ih (y + 1) true (by omega) (by omega) (all_go hb (by show _ = (b && (!sbs s (kw (wlK P) y) || (kw (wlK P) y).testBit k)); simp [c0, c1, c2]))
  refine v_iconst (v := nI 1) X dX5_isInAll_4 (by decide) ?_
  refine v_istore_n X dX5_isInAll_5 (Nat.le_of_ble_eq_true rfl) ?_
  show V G Z _ 6 [_, _, _, _, _] _
  refine v_iconst (v := nI 0) X dX5_isInAll_6 (by decide) ?_
  refine v_istore X dX5_isInAll_7 (Nat.le_of_ble_eq_true rfl) ?_
  show V G Z _ 9 [_, _, _, _, _] _
  exact loop ((wlK P).length + 1) 0 true (by omega) (by omega) rfl
set_option maxHeartbeats 4000000 in
set_option maxRecDepth 100000 in
theorem m_isPlain (G : GT) {σ : Sg} {s : Nat} (hs : s < 18) {P : Sen} (hP : mS σ s P) (h0 : 0 < P.length) : MC G yX5_isPlain cX5_isPlain 2 .boolean 4 [.ref (G.2.2.1 156), .int (nI s)] σ (fun r τ => kO σ τ ∧ r = bI (pln P)) := by
  refine MC_of (by decide) (ca1 rfl (ca1 rfl ca0)) (Nat.le_of_ble_eq_true rfl) ?_
  intro Z X hR
  show V G Z σ 0 [some (.ref (G.2.2.1 156)), some (.int (nI s))] []
  refine v_aload_n X dX5_isPlain_0 rfl ?_
  refine v_iload_n X dX5_isPlain_1 rfl ?_
  refine v_calv X (m_look G hs hP) cv_X5_117 obX5 rfl (by decide) rfl (by rfl) (Nat.le_of_ble_eq_true rfl) dX5_isPlain_2 (fun τ1 hp1 => ?_)
  obtain ⟨q1, q2⟩ := hp1
  have hl := hP.1
  refine v_aload_n X dX5_isPlain_5 rfl ?_
  refine v_iconst (v := nI 0) X dX5_isPlain_6 (by decide) ?_
  refine v_aload_n X dX5_isPlain_7 rfl ?_
  refine v_geti X fl_X5_73 shX5_7 dX5_isPlain_8 ?_
  rw [q1.2.2.1]
  refine v_iconst (v := nI 1) X dX5_isPlain_11 (by decide) ?_
  refine v_isub X dX5_isPlain_12 ?_
  refine v_top (nI_s1 h0) ?_
  refine v_cali X (m_isInAll G q1 hP.1 (s := 0) (k := P.length - 1) (by decide) (by omega)) cv_X5_150 obX5 rfl (by decide) rfl (by rfl) (Nat.le_of_ble_eq_true rfl) dX5_isPlain_13 (fun r τ2 hp2 => ?_)
  obtain ⟨w1, rfl⟩ := hp2
  refine v_ret X hR dX5_isPlain_16 (bI_nar _) ?_
  exact ⟨q2.k.trans w1.k, by rw [pln_frc hP.2.1 h0]⟩

set_option maxHeartbeats 4000000 in
set_option maxRecDepth 100000 in
theorem y_plain (G : GT) {σ : Sg} {A : ASt} (hA : mR σ A) (x : Int32) : MC G yX5_plain cX5_plain 2 .int 5 [.ref (G.2.2.1 156), .int x] σ (fun r τ => r = (sp_plain x A).1 ∧ mR τ (sp_plain x A).2 ∧ cO σ τ) := by
  refine MC_of (by decide) (ca1 rfl (ca1 rfl ca0)) (Nat.le_of_ble_eq_true rfl) ?_
  intro Z X hR
  show V G Z σ 0 [some (.ref (G.2.2.1 156)), some (.int x)] []
  refine v_iload_n X dX5_plain_0 rfl ?_
  refine v_cals X (m_isSlot G _) cs_X5_106 (by decide) rfl (by rfl) (Nat.le_of_ble_eq_true rfl) dX5_plain_1 (fun r τ9 hq => ?_)
  obtain ⟨e9, rfl⟩ := hq
  rw [e9]
  refine v_if_ne (tgt := 9) X dX5_plain_4 (by decide) (fun h4 => ?_) (fun h4 => ?_)
  · skip
    obtain ⟨a, a6, rfl, aN⟩ := slot_t (bI_nz.mp h4)
    have aP := hA.1 a (by omega)
    refine v_aload_n X dX5_plain_9 rfl ?_
    refine v_iload_n X dX5_plain_10 rfl ?_
    refine v_cali X (m_isEmpty G (s := a) (by omega) aP) cv_X5_120 obX5 rfl (by decide) rfl (by rfl) (Nat.le_of_ble_eq_true rfl) dX5_plain_11 (fun r τ9 hq => ?_)
    obtain ⟨e9, rfl⟩ := hq
    rw [e9]
    refine v_if_eq (tgt := 22) X dX5_plain_14 (by decide) (fun h14 => ?_) (fun h14 => ?_)
    · skip
      have a0 : ¬ (A.1 a).length = 0 := of_decide_eq_false (bI_z.mp h14)
      have ap : 0 < (A.1 a).length := by omega
      refine v_aload_n X dX5_plain_22 rfl ?_
      refine v_iload_n X dX5_plain_23 rfl ?_
      refine v_cali X (m_isPlain G (s := a) (by omega) aP ap) cv_X5_153 obX5 rfl (by decide) rfl (by rfl) (Nat.le_of_ble_eq_true rfl) dX5_plain_24 (fun r τ2 hp2 => ?_)
      obtain ⟨o1, rfl⟩ := hp2
      have hA1 := mR_kO hA o1
      refine v_if_eq (tgt := 34) X dX5_plain_27 (by decide) (fun h27 => ?_) (fun h27 => ?_)
      · skip
        have hb := bI_z.mp h27
        refine v_iconst (v := nI 0) X dX5_plain_34 (by decide) ?_
        refine v_ret X hR dX5_plain_35 rfl ?_
        have e : sp_plain (nI a) A = (nI 0, A) := by simp only [sp_plain, aN]; rw [if_neg a0, hb]; rfl
        rw [e]
        exact ⟨rfl, hA1, o1.c⟩
      · skip
        have hb := bI_nz.mp h27
        refine v_iconst (v := nI 1) X dX5_plain_30 (by decide) ?_
        refine v_goto (tgt := 35) X dX5_plain_31 (by decide) ?_
        refine v_ret X hR dX5_plain_35 rfl ?_
        have e : sp_plain (nI a) A = (nI 1, A) := by simp only [sp_plain, aN]; rw [if_neg a0, hb]; rfl
        rw [e]
        exact ⟨rfl, hA1, o1.c⟩
    · skip
      have a0 : (A.1 a).length = 0 := of_decide_eq_true (bI_nz.mp h14)
      refine v_bipush (v := (-3)) X dX5_plain_17 (by decide) ?_
      refine v_goto (tgt := 35) X dX5_plain_19 (by decide) ?_
      refine v_ret X hR dX5_plain_35 rfl ?_
      have e : sp_plain (nI a) A = (-3, A) := by simp only [sp_plain, aN]; exact if_pos a0
      rw [e]
      exact ⟨rfl, hA, cO.rfl⟩
  · skip
    have an := slot_f (bI_z.mp h4)
    refine v_iconst (v := (-1)) X dX5_plain_7 (by decide) ?_
    refine v_ret X hR dX5_plain_8 rfl ?_
    have e : sp_plain x A = (-1, A) := by simp [sp_plain, an]
    rw [e]
    exact ⟨rfl, hA, cO.rfl⟩

set_option maxHeartbeats 4000000 in
set_option maxRecDepth 100000 in
theorem m_isTrue (G : GT) {σ : Sg} {P : Sen} (hP : wS σ P) (hl : P.length ≤ 11) (h0 : 0 < P.length) {j : Nat} (hj : j < 16) : MC G yX5_isTrue cX5_isTrue 7 .boolean 1 [.ref (G.2.2.1 156), .int (nI j)] σ (fun r τ => τ = σ ∧ r = bI (rwB P j (P.length - 1))) := by
  refine MC_of (by decide) (ca1 rfl (ca1 rfl ca0)) (Nat.le_of_ble_eq_true rfl) ?_
  intro Z X hR
  show V G Z σ 0 [some (.ref (G.2.2.1 156)), some (.int (nI j)), none, none, none, none, none] []
  obtain ⟨p1, p2, p3, p4⟩ := hP
  have loop : ∀ (n k : Nat) (l4 l5 l6 : Option Value), P.length - k < n → k ≤ P.length → V G Z σ 4 [some (.ref (G.2.2.1 156)), some (.int (nI j)), some (.int (nI (rset P j k))), some (.int (nI k)), l4, l5, l6] [] := by
    intro n
    induction n with
    | zero => intro k l4 l5 l6 h; omega
    | succ n ih =>
      intro k l4 l5 l6 hn hkl
      refine v_iload_n X dX5_isTrue_4 rfl ?_
      refine v_aload_n X dX5_isTrue_5 rfl ?_
      refine v_geti X fl_X5_73 shX5_7 dX5_isTrue_6 ?_
      rw [p3]
      refine v_icmp_ge (tgt := 198) X dX5_isTrue_9 (by decide) (fun h9 => ?_) (fun h9 => ?_)
      · skip
        have hk := nI_lem (by omega) (by omega) h9
        have hk : k = P.length := by omega
        subst hk
        refine v_iload_n X dX5_isTrue_198 rfl ?_
        refine v_aload_n X dX5_isTrue_199 rfl ?_
        refine v_geti X fl_X5_73 shX5_7 dX5_isTrue_200 ?_
        rw [p3]
        refine v_iconst (v := nI 1) X dX5_isTrue_203 (by decide) ?_
        refine v_isub X dX5_isTrue_204 ?_
        refine v_top (nI_s1 h0) ?_
        refine v_cals X (m_has G (rset P j P.length) (k := P.length - 1) (by omega)) cs_X5_134 (by decide) rfl (by rfl) (Nat.le_of_ble_eq_true rfl) dX5_isTrue_205 (fun r τ9 hq => ?_)
        obtain ⟨e9, rfl⟩ := hq
        rw [e9]
        refine v_ret X hR dX5_isTrue_208 (bI_nar _) ?_
        exact ⟨rfl, by rw [rset_bit, decide_eq_true (by omega)]; rfl⟩
      · skip
        have hk := nI_len (by omega) (by omega) h9
        obtain ⟨p, hp⟩ : ∃ p, P[k]? = some p := ⟨P[k], List.getElem?_eq_getElem hk⟩
        obtain ⟨e1, e2, e3⟩ := p4 k p hp
        have e1 : σ 162 k = nI p.1 := e1
        have hok := p2 k p hp
        have hk4 := hok.k4
        have hr := rwB_rec p2 hp hj
        have nxt : ∀ (v : Bool) (a b : Option Value) (l6 : Option Value), v = rwB P j k → V G Z σ 175 [some (.ref (G.2.2.1 156)), some (.int (nI j)), some (.int (nI (rset P j k))), some (.int (nI k)), a, b, l6] [.int (bI v)] := by
          intro v a b l6 hv
          refine v_istore X dX5_isTrue_175 (Nat.le_of_ble_eq_true rfl) ?_
          show V G Z _ 177 [_, _, _, _, _, _, _] _
          refine v_iload_n X dX5_isTrue_177 rfl ?_
          refine v_iload X dX5_isTrue_178 rfl ?_
          refine v_if_eq (tgt := 189) X dX5_isTrue_180 (by decide) (fun h180 => ?_) (fun h180 => ?_)
          · skip
            have hvz := bI_z.mp h180
            refine v_iconst (v := nI 0) X dX5_isTrue_189 (by decide) ?_
            refine v_ior X dX5_isTrue_190 ?_
            refine v_top (nb_or _ _) ?_
            refine v_istore_n X dX5_isTrue_191 (Nat.le_of_ble_eq_true rfl) ?_
            show V G Z _ 192 [_, _, _, _, _, _, _] _
            refine v_iincE X dX5_isTrue_192 rfl (nI_inc k) ?_
            show V G Z _ 195 [_, _, _, _, _, _, _] _
            refine v_goto (tgt := 4) X dX5_isTrue_195 (by decide) ?_
            have ihk := ih (k + 1) a b (some (.int (bI v))) (by omega) (by omega)
            rw [rset, ← hv, if_neg (by rw [hvz]; decide)] at ihk
            rw [Nat.or_zero]
            exact ihk
          · skip
            have hvz := bI_nz.mp h180
            refine v_iconst (v := nI 1) X dX5_isTrue_183 (by decide) ?_
            refine v_iload_n X dX5_isTrue_184 rfl ?_
            refine v_ishl X dX5_isTrue_185 ?_
            refine v_top (nb_shl (by omega)) ?_
            refine v_goto (tgt := 190) X dX5_isTrue_186 (by decide) ?_
            refine v_ior X dX5_isTrue_190 ?_
            refine v_top (nb_or _ _) ?_
            refine v_istore_n X dX5_isTrue_191 (Nat.le_of_ble_eq_true rfl) ?_
            show V G Z _ 192 [_, _, _, _, _, _, _] _
            refine v_iincE X dX5_isTrue_192 rfl (nI_inc k) ?_
            show V G Z _ 195 [_, _, _, _, _, _, _] _
            refine v_goto (tgt := 4) X dX5_isTrue_195 (by decide) ?_
            have ihk := ih (k + 1) a b (some (.int (bI v))) (by omega) (by omega)
            rw [rset, ← hv, if_pos hvz] at ihk
            exact ihk
        have mid : ∀ (a b : Bool) (l6 : Option Value), (2 ≤ p.1 → a = rwB P j p.2.1 ∧ b = rwB P j p.2.2) → V G Z σ 72 [some (.ref (G.2.2.1 156)), some (.int (nI j)), some (.int (nI (rset P j k))), some (.int (nI k)), some (.int (bI a)), some (.int (bI b)), l6] [] := by
          intro a b l6 hab
          refine v_aload_n X dX5_isTrue_72 rfl ?_
          refine v_getr X fl_X5_29 shX5_8 dX5_isTrue_73 ?_
          refine v_iload_n X dX5_isTrue_76 rfl ?_
          refine v_ialdE X arX5_8 rfl (show k < 128 by omega) dX5_isTrue_77 ?_
          rw [e1]
          refine v_if_ne (tgt := 94) X dX5_isTrue_78 (by decide) (fun h78 => ?_) (fun h78 => ?_)
          · skip
            have n0 : ¬ p.1 = 0 := fun z => h78 (by rw [z]; rfl)
            refine v_aload_n X dX5_isTrue_94 rfl ?_
            refine v_getr X fl_X5_29 shX5_8 dX5_isTrue_95 ?_
            refine v_iload_n X dX5_isTrue_98 rfl ?_
            refine v_ialdE X arX5_8 rfl (show k < 128 by omega) dX5_isTrue_99 ?_
            refine v_iconst (v := nI 2) X dX5_isTrue_100 (by decide) ?_
            rw [e1]
            refine v_icmp_ne (tgt := 122) X dX5_isTrue_101 (by decide) (fun h101 => ?_) (fun h101 => ?_)
            · skip
              have n2 := nI_eqn (by omega) (by decide) h101
              refine v_aload_n X dX5_isTrue_122 rfl ?_
              refine v_getr X fl_X5_29 shX5_8 dX5_isTrue_123 ?_
              refine v_iload_n X dX5_isTrue_126 rfl ?_
              refine v_ialdE X arX5_8 rfl (show k < 128 by omega) dX5_isTrue_127 ?_
              refine v_iconst (v := nI 3) X dX5_isTrue_128 (by decide) ?_
              rw [e1]
              refine v_icmp_ne (tgt := 150) X dX5_isTrue_129 (by decide) (fun h129 => ?_) (fun h129 => ?_)
              · skip
                have n3 := nI_eqn (by omega) (by decide) h129
                refine v_aload_n X dX5_isTrue_150 rfl ?_
                refine v_getr X fl_X5_29 shX5_8 dX5_isTrue_151 ?_
                refine v_iload_n X dX5_isTrue_154 rfl ?_
                refine v_ialdE X arX5_8 rfl (show k < 128 by omega) dX5_isTrue_155 ?_
                refine v_iconst (v := nI 4) X dX5_isTrue_156 (by decide) ?_
                rw [e1]
                refine v_icmp_ne (tgt := 174) X dX5_isTrue_157 (by decide) (fun h157 => ?_) (fun h157 => ?_)
                · skip
                  have n4 := nI_eqn (by omega) (by decide) h157
                  refine v_iconst (v := nI 0) X dX5_isTrue_174 (by decide) ?_
                  exact nxt false _ _ _ (by rw [hr, if_neg n0, if_neg n2, if_neg n3, if_neg n4])
                · skip
                  have n4 := nI_eqm (by omega) (by decide) h157
                  obtain ⟨ea, eb⟩ := hab (by omega)
                  refine v_iload X dX5_isTrue_160 rfl ?_
                  refine v_if_eq (tgt := 170) X dX5_isTrue_162 (by decide) (fun h162 => ?_) (fun h162 => ?_)
                  · skip
                    have za := bI_z.mp h162
                    refine v_iconst (v := nI 1) X dX5_isTrue_170 (by decide) ?_
                    refine v_goto (tgt := 175) X dX5_isTrue_171 (by decide) ?_
                    exact nxt true _ _ _ (by rw [hr, if_neg n0, if_neg n2, if_neg n3, if_pos n4, ← ea, ← eb]; simp [za])
                  · skip
                    have za := bI_nz.mp h162
                    refine v_iload X dX5_isTrue_165 rfl ?_
                    refine v_if_eq (tgt := 174) X dX5_isTrue_167 (by decide) (fun h167 => ?_) (fun h167 => ?_)
                    · skip
                      have zb := bI_z.mp h167
                      refine v_iconst (v := nI 0) X dX5_isTrue_174 (by decide) ?_
                      exact nxt false _ _ _ (by rw [hr, if_neg n0, if_neg n2, if_neg n3, if_pos n4, ← ea, ← eb]; simp [za, zb])
                    · skip
                      have zb := bI_nz.mp h167
                      refine v_iconst (v := nI 1) X dX5_isTrue_170 (by decide) ?_
                      refine v_goto (tgt := 175) X dX5_isTrue_171 (by decide) ?_
                      exact nxt true _ _ _ (by rw [hr, if_neg n0, if_neg n2, if_neg n3, if_pos n4, ← ea, ← eb]; simp [za, zb])
              · skip
                have n3 := nI_eqm (by omega) (by decide) h129
                obtain ⟨ea, eb⟩ := hab (by omega)
                refine v_iload X dX5_isTrue_132 rfl ?_
                refine v_if_ne (tgt := 142) X dX5_isTrue_134 (by decide) (fun h134 => ?_) (fun h134 => ?_)
                · skip
                  have za := bI_nz.mp h134
                  refine v_iconst (v := nI 1) X dX5_isTrue_142 (by decide) ?_
                  refine v_goto (tgt := 175) X dX5_isTrue_143 (by decide) ?_
                  exact nxt true _ _ _ (by rw [hr, if_neg n0, if_neg n2, if_pos n3, ← ea, ← eb]; simp [za])
                · skip
                  have za := bI_z.mp h134
                  refine v_iload X dX5_isTrue_137 rfl ?_
                  refine v_if_eq (tgt := 146) X dX5_isTrue_139 (by decide) (fun h139 => ?_) (fun h139 => ?_)
                  · skip
                    have zb := bI_z.mp h139
                    refine v_iconst (v := nI 0) X dX5_isTrue_146 (by decide) ?_
                    refine v_goto (tgt := 175) X dX5_isTrue_147 (by decide) ?_
                    exact nxt false _ _ _ (by rw [hr, if_neg n0, if_neg n2, if_pos n3, ← ea, ← eb]; simp [za, zb])
                  · skip
                    have zb := bI_nz.mp h139
                    refine v_iconst (v := nI 1) X dX5_isTrue_142 (by decide) ?_
                    refine v_goto (tgt := 175) X dX5_isTrue_143 (by decide) ?_
                    exact nxt true _ _ _ (by rw [hr, if_neg n0, if_neg n2, if_pos n3, ← ea, ← eb]; simp [za, zb])
            · skip
              have n2 := nI_eqm (by omega) (by decide) h101
              obtain ⟨ea, eb⟩ := hab (by omega)
              refine v_iload X dX5_isTrue_104 rfl ?_
              refine v_if_eq (tgt := 118) X dX5_isTrue_106 (by decide) (fun h106 => ?_) (fun h106 => ?_)
              · skip
                have za := bI_z.mp h106
                refine v_iconst (v := nI 0) X dX5_isTrue_118 (by decide) ?_
                refine v_goto (tgt := 175) X dX5_isTrue_119 (by decide) ?_
                exact nxt false _ _ _ (by rw [hr, if_neg n0, if_pos n2, ← ea, ← eb]; simp [za])
              · skip
                have za := bI_nz.mp h106
                refine v_iload X dX5_isTrue_109 rfl ?_
                refine v_if_eq (tgt := 118) X dX5_isTrue_111 (by decide) (fun h111 => ?_) (fun h111 => ?_)
                · skip
                  have zb := bI_z.mp h111
                  refine v_iconst (v := nI 0) X dX5_isTrue_118 (by decide) ?_
                  refine v_goto (tgt := 175) X dX5_isTrue_119 (by decide) ?_
                  exact nxt false _ _ _ (by rw [hr, if_neg n0, if_pos n2, ← ea, ← eb]; simp [za, zb])
                · skip
                  have zb := bI_nz.mp h111
                  refine v_iconst (v := nI 1) X dX5_isTrue_114 (by decide) ?_
                  refine v_goto (tgt := 175) X dX5_isTrue_115 (by decide) ?_
                  exact nxt true _ _ _ (by rw [hr, if_neg n0, if_pos n2, ← ea, ← eb]; simp [za, zb])
          · skip
            have n0 : p.1 = 0 := nI_eqm (b := 0) (by omega) (by decide) h78
            have ha4 : p.2.1 < 4 := by rcases hok with ⟨-, q, -⟩ | ⟨q, -⟩ | ⟨q, -⟩ <;> omega
            have e2 : σ 163 k = nI p.2.1 := by rw [e2]; exact if_neg (by omega)
            refine v_iload_n X dX5_isTrue_81 rfl ?_
            refine v_aload_n X dX5_isTrue_82 rfl ?_
            refine v_getr X fl_X5_32 shX5_9 dX5_isTrue_83 ?_
            refine v_iload_n X dX5_isTrue_86 rfl ?_
            refine v_ialdE X arX5_9 rfl (show k < 128 by omega) dX5_isTrue_87 ?_
            rw [e2]
            refine v_cals X (m_has G j (k := p.2.1) (by omega)) cs_X5_134 (by decide) rfl (by rfl) (Nat.le_of_ble_eq_true rfl) dX5_isTrue_88 (fun r τ9 hq => ?_)
            obtain ⟨e9, rfl⟩ := hq
            rw [e9]
            refine v_goto (tgt := 175) X dX5_isTrue_91 (by decide) ?_
            exact nxt _ _ _ _ (by rw [hr, if_pos n0])
        refine v_aload_n X dX5_isTrue_12 rfl ?_
        refine v_getr X fl_X5_29 shX5_8 dX5_isTrue_13 ?_
        refine v_iload_n X dX5_isTrue_16 rfl ?_
        refine v_ialdE X arX5_8 rfl (show k < 128 by omega) dX5_isTrue_17 ?_
        refine v_iconst (v := nI 1) X dX5_isTrue_18 (by decide) ?_
        rw [e1]
        refine v_icmp_le (tgt := 39) X dX5_isTrue_19 (by decide) (fun h19 => ?_) (fun h19 => ?_)
        · skip
          have h2 : ¬ 2 ≤ p.1 := by have := nI_lem (b := 1) (by omega) (by decide) h19; omega
          refine v_iconst (v := nI 0) X dX5_isTrue_39 (by decide) ?_
          refine v_istore X dX5_isTrue_40 (Nat.le_of_ble_eq_true rfl) ?_
          show V G Z _ 42 [_, _, _, _, _, _, _] _
          refine v_aload_n X dX5_isTrue_42 rfl ?_
          refine v_getr X fl_X5_29 shX5_8 dX5_isTrue_43 ?_
          refine v_iload_n X dX5_isTrue_46 rfl ?_
          refine v_ialdE X arX5_8 rfl (show k < 128 by omega) dX5_isTrue_47 ?_
          refine v_iconst (v := nI 1) X dX5_isTrue_48 (by decide) ?_
          rw [e1]
          refine v_icmp_le (tgt := 69) X dX5_isTrue_49 (by decide) (fun h49 => ?_) (fun h49 => ?_)
          · skip
            refine v_iconst (v := nI 0) X dX5_isTrue_69 (by decide) ?_
            refine v_istore X dX5_isTrue_70 (Nat.le_of_ble_eq_true rfl) ?_
            show V G Z _ 72 [_, _, _, _, _, _, _] _
            exact mid false false _ (fun z => by omega)
          · skip
            exact absurd (nI_len (b := 1) (by omega) (by decide) h49) (by omega)
        · skip
          have h2 : 2 ≤ p.1 := by have := nI_len (b := 1) (by omega) (by decide) h19; omega
          obtain ⟨ha, hb, -⟩ := wf_pair p2 hp (by omega)
          have e2' : σ 163 k = nI p.2.1 := by rw [e2]; exact if_neg (by omega)
          have e3' : σ 164 k = nI p.2.2 := by rw [e3]; exact if_neg (by omega)
          have ra : (rset P j k).testBit p.2.1 = rwB P j p.2.1 := by rw [rset_bit, decide_eq_true ha]; rfl
          have rb : (rset P j k).testBit p.2.2 = rwB P j p.2.2 := by rw [rset_bit, decide_eq_true hb]; rfl
          refine v_iload_n X dX5_isTrue_22 rfl ?_
          refine v_aload_n X dX5_isTrue_23 rfl ?_
          refine v_getr X fl_X5_32 shX5_9 dX5_isTrue_24 ?_
          refine v_iload_n X dX5_isTrue_27 rfl ?_
          refine v_ialdE X arX5_9 rfl (show k < 128 by omega) dX5_isTrue_28 ?_
          rw [e2']
          refine v_cals X (m_has G (rset P j k) (k := p.2.1) (by omega)) cs_X5_134 (by decide) rfl (by rfl) (Nat.le_of_ble_eq_true rfl) dX5_isTrue_29 (fun r τ9 hq => ?_)
          obtain ⟨e9, rfl⟩ := hq
          rw [e9]
          refine v_if_eq (tgt := 39) X dX5_isTrue_32 (by decide) (fun h32 => ?_) (fun h32 => ?_)
          · skip
            have va := bI_z.mp h32
            refine v_iconst (v := nI 0) X dX5_isTrue_39 (by decide) ?_
            refine v_istore X dX5_isTrue_40 (Nat.le_of_ble_eq_true rfl) ?_
            show V G Z _ 42 [_, _, _, _, _, _, _] _
            refine v_aload_n X dX5_isTrue_42 rfl ?_
            refine v_getr X fl_X5_29 shX5_8 dX5_isTrue_43 ?_
            refine v_iload_n X dX5_isTrue_46 rfl ?_
            refine v_ialdE X arX5_8 rfl (show k < 128 by omega) dX5_isTrue_47 ?_
            refine v_iconst (v := nI 1) X dX5_isTrue_48 (by decide) ?_
            rw [e1]
            refine v_icmp_le (tgt := 69) X dX5_isTrue_49 (by decide) (fun h49 => ?_) (fun h49 => ?_)
            · skip
              exact absurd (nI_lem (b := 1) (by omega) (by decide) h49) (by omega)
            · skip
              refine v_iload_n X dX5_isTrue_52 rfl ?_
              refine v_aload_n X dX5_isTrue_53 rfl ?_
              refine v_getr X fl_X5_35 shX5_10 dX5_isTrue_54 ?_
              refine v_iload_n X dX5_isTrue_57 rfl ?_
              refine v_ialdE X arX5_10 rfl (show k < 128 by omega) dX5_isTrue_58 ?_
              rw [e3']
              refine v_cals X (m_has G (rset P j k) (k := p.2.2) (by omega)) cs_X5_134 (by decide) rfl (by rfl) (Nat.le_of_ble_eq_true rfl) dX5_isTrue_59 (fun r τ9 hq => ?_)
              obtain ⟨e9, rfl⟩ := hq
              rw [e9]
              refine v_if_eq (tgt := 69) X dX5_isTrue_62 (by decide) (fun h62 => ?_) (fun h62 => ?_)
              · skip
                have vb := bI_z.mp h62
                refine v_iconst (v := nI 0) X dX5_isTrue_69 (by decide) ?_
                refine v_istore X dX5_isTrue_70 (Nat.le_of_ble_eq_true rfl) ?_
                show V G Z _ 72 [_, _, _, _, _, _, _] _
                exact mid false false _ (fun _ => ⟨by rw [← ra, va], by rw [← rb, vb]⟩)
              · skip
                have vb := bI_nz.mp h62
                refine v_iconst (v := nI 1) X dX5_isTrue_65 (by decide) ?_
                refine v_goto (tgt := 70) X dX5_isTrue_66 (by decide) ?_
                refine v_istore X dX5_isTrue_70 (Nat.le_of_ble_eq_true rfl) ?_
                show V G Z _ 72 [_, _, _, _, _, _, _] _
                exact mid false true _ (fun _ => ⟨by rw [← ra, va], by rw [← rb, vb]⟩)
          · skip
            have va := bI_nz.mp h32
            refine v_iconst (v := nI 1) X dX5_isTrue_35 (by decide) ?_
            refine v_goto (tgt := 40) X dX5_isTrue_36 (by decide) ?_
            refine v_istore X dX5_isTrue_40 (Nat.le_of_ble_eq_true rfl) ?_
            show V G Z _ 42 [_, _, _, _, _, _, _] _
            refine v_aload_n X dX5_isTrue_42 rfl ?_
            refine v_getr X fl_X5_29 shX5_8 dX5_isTrue_43 ?_
            refine v_iload_n X dX5_isTrue_46 rfl ?_
            refine v_ialdE X arX5_8 rfl (show k < 128 by omega) dX5_isTrue_47 ?_
            refine v_iconst (v := nI 1) X dX5_isTrue_48 (by decide) ?_
            rw [e1]
            refine v_icmp_le (tgt := 69) X dX5_isTrue_49 (by decide) (fun h49 => ?_) (fun h49 => ?_)
            · skip
              exact absurd (nI_lem (b := 1) (by omega) (by decide) h49) (by omega)
            · skip
              refine v_iload_n X dX5_isTrue_52 rfl ?_
              refine v_aload_n X dX5_isTrue_53 rfl ?_
              refine v_getr X fl_X5_35 shX5_10 dX5_isTrue_54 ?_
              refine v_iload_n X dX5_isTrue_57 rfl ?_
              refine v_ialdE X arX5_10 rfl (show k < 128 by omega) dX5_isTrue_58 ?_
              rw [e3']
              refine v_cals X (m_has G (rset P j k) (k := p.2.2) (by omega)) cs_X5_134 (by decide) rfl (by rfl) (Nat.le_of_ble_eq_true rfl) dX5_isTrue_59 (fun r τ9 hq => ?_)
              obtain ⟨e9, rfl⟩ := hq
              rw [e9]
              refine v_if_eq (tgt := 69) X dX5_isTrue_62 (by decide) (fun h62 => ?_) (fun h62 => ?_)
              · skip
                have vb := bI_z.mp h62
                refine v_iconst (v := nI 0) X dX5_isTrue_69 (by decide) ?_
                refine v_istore X dX5_isTrue_70 (Nat.le_of_ble_eq_true rfl) ?_
                show V G Z _ 72 [_, _, _, _, _, _, _] _
                exact mid true false _ (fun _ => ⟨by rw [← ra, va], by rw [← rb, vb]⟩)
              · skip
                have vb := bI_nz.mp h62
                refine v_iconst (v := nI 1) X dX5_isTrue_65 (by decide) ?_
                refine v_goto (tgt := 70) X dX5_isTrue_66 (by decide) ?_
                refine v_istore X dX5_isTrue_70 (Nat.le_of_ble_eq_true rfl) ?_
                show V G Z _ 72 [_, _, _, _, _, _, _] _
                exact mid true true _ (fun _ => ⟨by rw [← ra, va], by rw [← rb, vb]⟩)
  refine v_iconst (v := nI 0) X dX5_isTrue_0 (by decide) ?_
  refine v_istore_n X dX5_isTrue_1 (Nat.le_of_ble_eq_true rfl) ?_
  show V G Z _ 2 [_, _, _, _, _, _, _] _
  refine v_iconst (v := nI 0) X dX5_isTrue_2 (by decide) ?_
  refine v_istore_n X dX5_isTrue_3 (Nat.le_of_ble_eq_true rfl) ?_
  show V G Z _ 4 [_, _, _, _, _, _, _] _
  exact loop (P.length + 1) 0 _ _ _ (by omega) (by omega)
set_option maxHeartbeats 4000000 in
set_option maxRecDepth 100000 in
theorem m_isTrueByRows (G : GT) {σ : Sg} {s : Nat} (hs : s < 18) {P : Sen} (hP : mS σ s P) (h0 : 0 < P.length) : MC G yX5_isTrueByRows cX5_isTrueByRows 4 .boolean 2 [.ref (G.2.2.1 156), .int (nI s)] σ (fun r τ => kO σ τ ∧ r = bI (rowT P)) := by
  refine MC_of (by decide) (ca1 rfl (ca1 rfl ca0)) (Nat.le_of_ble_eq_true rfl) ?_
  intro Z X hR
  show V G Z σ 0 [some (.ref (G.2.2.1 156)), some (.int (nI s)), none, none] []
  refine v_aload_n X dX5_isTrueByRows_0 rfl ?_
  refine v_iload_n X dX5_isTrueByRows_1 rfl ?_
  refine v_calv X (m_look G hs hP) cv_X5_117 obX5 rfl (by decide) rfl (by rfl) (Nat.le_of_ble_eq_true rfl) dX5_isTrueByRows_2 (fun τ1 hp1 => ?_)
  obtain ⟨q1, q2⟩ := hp1
  have loop : ∀ (n y : Nat) (b : Bool), 16 - y < n → y ≤ 16 → b = (List.range y).all (fun j => rwB P j (P.length - 1)) → V G Z τ1 9 [some (.ref (G.2.2.1 156)), some (.int (nI s)), some (.int (bI b)), some (.int (nI y))] [] := by
    intro n
    induction n with
    | zero => intro y b h; omega
    | succ n ih =>
      intro y b hn hyl hb
      refine v_iload_n X dX5_isTrueByRows_9 rfl ?_
      refine v_bipush (v := nI 16) X dX5_isTrueByRows_10 (by decide) ?_
      refine v_icmp_ge (tgt := 39) X dX5_isTrueByRows_12 (by decide) (fun h12 => ?_) (fun h12 => ?_)
      · skip
        have hy := nI_lem (a := 16) (by omega) (by omega) h12
        have hy : y = 16 := by omega
        subst hy
        refine v_iload_n X dX5_isTrueByRows_39 rfl ?_
        refine v_ret X hR dX5_isTrueByRows_40 (bI_nar _) ?_
        exact ⟨q2.k, by rw [hb, rowT_iff hP.2.1 h0]⟩
      · skip
        have hy := nI_len (a := 16) (by omega) (by omega) h12
        refine v_iload_n X dX5_isTrueByRows_15 rfl ?_
        refine v_if_eq (tgt := 31) X dX5_isTrueByRows_16 (by decide) (fun h16 => ?_) (fun h16 => ?_)
        · skip
          have c0 := bI_z.mp h16
          refine v_iconst (v := nI 0) X dX5_isTrueByRows_31 (by decide) ?_
          refine v_istore_n X dX5_isTrueByRows_32 (Nat.le_of_ble_eq_true rfl) ?_
          show V G Z _ 33 [_, _, _, _] _
          refine v_iincE X dX5_isTrueByRows_33 rfl (nI_inc y) ?_
          show V G Z _ 36 [_, _, _, _] _
          refine v_goto (tgt := 9) X dX5_isTrueByRows_36 (by decide) ?_
          exact ih (y + 1) false (by omega) (by omega) (all_go hb (by show _ = (b && rwB P y (P.length - 1)); simp [c0]))
        · skip
          have c0 := bI_nz.mp h16
          refine v_aload_n X dX5_isTrueByRows_19 rfl ?_
          refine v_iload_n X dX5_isTrueByRows_20 rfl ?_
          refine v_cali X (m_isTrue G q1 hP.1 h0 (j := y) (by omega)) cv_X5_156 obX5 rfl (by decide) rfl (by rfl) (Nat.le_of_ble_eq_true rfl) dX5_isTrueByRows_21 (fun r τ9 hq => ?_)
          obtain ⟨e9, rfl⟩ := hq
          rw [e9]
          refine v_if_eq (tgt := 31) X dX5_isTrueByRows_24 (by decide) (fun h24 => ?_) (fun h24 => ?_)
          · skip
            have c1 := bI_z.mp h24
            refine v_iconst (v := nI 0) X dX5_isTrueByRows_31 (by decide) ?_
            refine v_istore_n X dX5_isTrueByRows_32 (Nat.le_of_ble_eq_true rfl) ?_
            show V G Z _ 33 [_, _, _, _] _
            refine v_iincE X dX5_isTrueByRows_33 rfl (nI_inc y) ?_
            show V G Z _ 36 [_, _, _, _] _
            refine v_goto (tgt := 9) X dX5_isTrueByRows_36 (by decide) ?_
            exact ih (y + 1) false (by omega) (by omega) (all_go hb (by show _ = (b && rwB P y (P.length - 1)); simp [c0, c1]))
          · skip
            have c1 := bI_nz.mp h24
            refine v_iconst (v := nI 1) X dX5_isTrueByRows_27 (by decide) ?_
            refine v_goto (tgt := 32) X dX5_isTrueByRows_28 (by decide) ?_
            refine v_istore_n X dX5_isTrueByRows_32 (Nat.le_of_ble_eq_true rfl) ?_
            show V G Z _ 33 [_, _, _, _] _
            refine v_iincE X dX5_isTrueByRows_33 rfl (nI_inc y) ?_
            show V G Z _ 36 [_, _, _, _] _
            refine v_goto (tgt := 9) X dX5_isTrueByRows_36 (by decide) ?_
            exact ih (y + 1) true (by omega) (by omega) (all_go hb (by show _ = (b && rwB P y (P.length - 1)); simp [c0, c1]))
  refine v_iconst (v := nI 1) X dX5_isTrueByRows_5 (by decide) ?_
  refine v_istore_n X dX5_isTrueByRows_6 (Nat.le_of_ble_eq_true rfl) ?_
  show V G Z _ 7 [_, _, _, _] _
  refine v_iconst (v := nI 0) X dX5_isTrueByRows_7 (by decide) ?_
  refine v_istore_n X dX5_isTrueByRows_8 (Nat.le_of_ble_eq_true rfl) ?_
  show V G Z _ 9 [_, _, _, _] _
  exact loop 17 0 true (by omega) (by omega) rfl
set_option maxHeartbeats 4000000 in
set_option maxRecDepth 100000 in
theorem y_rows (G : GT) {σ : Sg} {A : ASt} (hA : mR σ A) (x : Int32) : MC G yX5_rows cX5_rows 2 .int 3 [.ref (G.2.2.1 156), .int x] σ (fun r τ => r = (sp_rows x A).1 ∧ mR τ (sp_rows x A).2 ∧ cO σ τ) := by
  refine MC_of (by decide) (ca1 rfl (ca1 rfl ca0)) (Nat.le_of_ble_eq_true rfl) ?_
  intro Z X hR
  show V G Z σ 0 [some (.ref (G.2.2.1 156)), some (.int x)] []
  refine v_iload_n X dX5_rows_0 rfl ?_
  refine v_cals X (m_isSlot G _) cs_X5_106 (by decide) rfl (by rfl) (Nat.le_of_ble_eq_true rfl) dX5_rows_1 (fun r τ9 hq => ?_)
  obtain ⟨e9, rfl⟩ := hq
  rw [e9]
  refine v_if_ne (tgt := 9) X dX5_rows_4 (by decide) (fun h4 => ?_) (fun h4 => ?_)
  · skip
    obtain ⟨a, a6, rfl, aN⟩ := slot_t (bI_nz.mp h4)
    have aP := hA.1 a (by omega)
    refine v_aload_n X dX5_rows_9 rfl ?_
    refine v_iload_n X dX5_rows_10 rfl ?_
    refine v_cali X (m_isEmpty G (s := a) (by omega) aP) cv_X5_120 obX5 rfl (by decide) rfl (by rfl) (Nat.le_of_ble_eq_true rfl) dX5_rows_11 (fun r τ9 hq => ?_)
    obtain ⟨e9, rfl⟩ := hq
    rw [e9]
    refine v_if_eq (tgt := 22) X dX5_rows_14 (by decide) (fun h14 => ?_) (fun h14 => ?_)
    · skip
      have a0 : ¬ (A.1 a).length = 0 := of_decide_eq_false (bI_z.mp h14)
      have ap : 0 < (A.1 a).length := by omega
      refine v_aload_n X dX5_rows_22 rfl ?_
      refine v_iload_n X dX5_rows_23 rfl ?_
      refine v_cali X (m_isTrueByRows G (s := a) (by omega) aP ap) cv_X5_159 obX5 rfl (by decide) rfl (by rfl) (Nat.le_of_ble_eq_true rfl) dX5_rows_24 (fun r τ2 hp2 => ?_)
      obtain ⟨o1, rfl⟩ := hp2
      have hA1 := mR_kO hA o1
      refine v_if_eq (tgt := 34) X dX5_rows_27 (by decide) (fun h27 => ?_) (fun h27 => ?_)
      · skip
        have hb := bI_z.mp h27
        refine v_iconst (v := nI 0) X dX5_rows_34 (by decide) ?_
        refine v_ret X hR dX5_rows_35 rfl ?_
        have e : sp_rows (nI a) A = (nI 0, A) := by simp only [sp_rows, aN]; rw [if_neg a0, hb]; rfl
        rw [e]
        exact ⟨rfl, hA1, o1.c⟩
      · skip
        have hb := bI_nz.mp h27
        refine v_iconst (v := nI 1) X dX5_rows_30 (by decide) ?_
        refine v_goto (tgt := 35) X dX5_rows_31 (by decide) ?_
        refine v_ret X hR dX5_rows_35 rfl ?_
        have e : sp_rows (nI a) A = (nI 1, A) := by simp only [sp_rows, aN]; rw [if_neg a0, hb]; rfl
        rw [e]
        exact ⟨rfl, hA1, o1.c⟩
    · skip
      have a0 : (A.1 a).length = 0 := of_decide_eq_true (bI_nz.mp h14)
      refine v_bipush (v := (-3)) X dX5_rows_17 (by decide) ?_
      refine v_goto (tgt := 35) X dX5_rows_19 (by decide) ?_
      refine v_ret X hR dX5_rows_35 rfl ?_
      have e : sp_rows (nI a) A = (-3, A) := by simp only [sp_rows, aN]; exact if_pos a0
      rw [e]
      exact ⟨rfl, hA, cO.rfl⟩
  · skip
    have an := slot_f (bI_z.mp h4)
    refine v_iconst (v := (-1)) X dX5_rows_7 (by decide) ?_
    refine v_ret X hR dX5_rows_8 rfl ?_
    have e : sp_rows x A = (-1, A) := by simp [sp_rows, an]
    rw [e]
    exact ⟨rfl, hA, cO.rfl⟩

set_option maxHeartbeats 4000000 in
set_option maxRecDepth 100000 in
theorem y_follows (G : GT) {σ : Sg} {A : ASt} (hA : mR σ A) (x y : Int32) : MC G yX5_follows cX5_follows 3 .int 4 [.ref (G.2.2.1 156), .int x, .int y] σ (fun r τ => r = (sp_follows x y A).1 ∧ mR τ (sp_follows x y A).2 ∧ cO σ τ) := by
  refine MC_of (by decide) (ca1 rfl (ca1 rfl (ca1 rfl ca0))) (Nat.le_of_ble_eq_true rfl) ?_
  intro Z X hR
  show V G Z σ 0 [some (.ref (G.2.2.1 156)), some (.int x), some (.int y)] []
  refine v_iload_n X dX5_follows_0 rfl ?_
  refine v_cals X (m_isSlot G _) cs_X5_106 (by decide) rfl (by rfl) (Nat.le_of_ble_eq_true rfl) dX5_follows_1 (fun r τ9 hq => ?_)
  obtain ⟨e9, rfl⟩ := hq
  rw [e9]
  refine v_if_eq (tgt := 14) X dX5_follows_4 (by decide) (fun h4 => ?_) (fun h4 => ?_)
  · skip
    have an := slot_f (bI_z.mp h4)
    refine v_iconst (v := (-1)) X dX5_follows_14 (by decide) ?_
    refine v_ret X hR dX5_follows_15 rfl ?_
    have e : sp_follows x y A = (-1, A) := by simp [sp_follows, an]
    rw [e]
    exact ⟨rfl, hA, cO.rfl⟩
  · skip
    obtain ⟨a, a6, rfl, aN⟩ := slot_t (bI_nz.mp h4)
    have aP := hA.1 a (by omega)
    refine v_iload_n X dX5_follows_7 rfl ?_
    refine v_cals X (m_isSlot G _) cs_X5_106 (by decide) rfl (by rfl) (Nat.le_of_ble_eq_true rfl) dX5_follows_8 (fun r τ9 hq => ?_)
    obtain ⟨e9, rfl⟩ := hq
    rw [e9]
    refine v_if_ne (tgt := 16) X dX5_follows_11 (by decide) (fun h11 => ?_) (fun h11 => ?_)
    · skip
      obtain ⟨b, b6, rfl, bN⟩ := slot_t (bI_nz.mp h11)
      have bP := hA.1 b (by omega)
      refine v_aload_n X dX5_follows_16 rfl ?_
      refine v_iload_n X dX5_follows_17 rfl ?_
      refine v_cali X (m_isEmpty G (s := a) (by omega) aP) cv_X5_120 obX5 rfl (by decide) rfl (by rfl) (Nat.le_of_ble_eq_true rfl) dX5_follows_18 (fun r τ9 hq => ?_)
      obtain ⟨e9, rfl⟩ := hq
      rw [e9]
      refine v_if_ne (tgt := 32) X dX5_follows_21 (by decide) (fun h21 => ?_) (fun h21 => ?_)
      · skip
        have a0 : (A.1 a).length = 0 := of_decide_eq_true (bI_nz.mp h21)
        refine v_bipush (v := (-3)) X dX5_follows_32 (by decide) ?_
        refine v_ret X hR dX5_follows_34 rfl ?_
        have e : sp_follows (nI a) (nI b) A = (-3, A) := by simp only [sp_follows, aN, bN]; exact if_pos (Or.inl a0)
        rw [e]
        exact ⟨rfl, hA, cO.rfl⟩
      · skip
        have a0 : ¬ (A.1 a).length = 0 := of_decide_eq_false (bI_z.mp h21)
        have ap : 0 < (A.1 a).length := by omega
        refine v_aload_n X dX5_follows_24 rfl ?_
        refine v_iload_n X dX5_follows_25 rfl ?_
        refine v_cali X (m_isEmpty G (s := b) (by omega) bP) cv_X5_120 obX5 rfl (by decide) rfl (by rfl) (Nat.le_of_ble_eq_true rfl) dX5_follows_26 (fun r τ9 hq => ?_)
        obtain ⟨e9, rfl⟩ := hq
        rw [e9]
        refine v_if_eq (tgt := 35) X dX5_follows_29 (by decide) (fun h29 => ?_) (fun h29 => ?_)
        · skip
          have b0 : ¬ (A.1 b).length = 0 := of_decide_eq_false (bI_z.mp h29)
          have bp : 0 < (A.1 b).length := by omega
          refine v_aload_n X dX5_follows_35 rfl ?_
          refine v_iload_n X dX5_follows_36 rfl ?_
          refine v_iload_n X dX5_follows_37 rfl ?_
          refine v_iconst (v := nI 4) X dX5_follows_38 (by decide) ?_
          refine v_calv X (m_put G (t := 4) (show a < 18 by omega) (show b < 18 by omega) aP bP ap bp (by omega)) cv_X5_123 obX5 rfl (by decide) rfl (by rfl) (Nat.le_of_ble_eq_true rfl) dX5_follows_39 (fun τ hp => ?_)
          obtain ⟨o1, g1⟩ := hp
          have hA1 := mR_kO hA o1
          have hm1 := o1.c
          have hg := g1.1
          have hp0 : 0 < (prP (A.1 a) (A.1 b) 4).length := prP_pos _ _ _
          refine v_aload_n X dX5_follows_42 rfl ?_
          refine v_geti X fl_X5_73 shX5_7 dX5_follows_43 ?_
          refine v_bipush (v := nI 11) X dX5_follows_46 (by decide) ?_
          rw [g1.2.2.1]
          refine v_icmp_le (tgt := 56) X dX5_follows_48 (by decide) (fun h48 => ?_) (fun h48 => ?_)
          · skip
            have hle := nI_lem (b := 11) (by omega) (by decide) h48
            refine v_aload_n X dX5_follows_56 rfl ?_
            refine v_iconst (v := nI 0) X dX5_follows_57 (by decide) ?_
            refine v_aload_n X dX5_follows_58 rfl ?_
            refine v_geti X fl_X5_73 shX5_7 dX5_follows_59 ?_
            rw [g1.2.2.1]
            refine v_iconst (v := nI 1) X dX5_follows_62 (by decide) ?_
            refine v_isub X dX5_follows_63 ?_
            refine v_top (nI_s1 hp0) ?_
            refine v_cali X (m_isInAll G g1 hle (s := 0) (k := (prP (A.1 a) (A.1 b) 4).length - 1) (by decide) (by omega)) cv_X5_150 obX5 rfl (by decide) rfl (by rfl) (Nat.le_of_ble_eq_true rfl) dX5_follows_64 (fun r τ2 hp2 => ?_)
            obtain ⟨w1, rfl⟩ := hp2
            rw [pln_frc g1.2.1 hp0]
            refine v_if_eq (tgt := 74) X dX5_follows_67 (by decide) (fun h67 => ?_) (fun h67 => ?_)
            · skip
              have hb := bI_z.mp h67
              refine v_iconst (v := nI 0) X dX5_follows_74 (by decide) ?_
              refine v_ret X hR dX5_follows_75 rfl ?_
              have e : sp_follows (nI a) (nI b) A = (nI 0, A) := by simp only [sp_follows, aN, bN]; refine (if_neg (by omega)).trans ((if_neg (by omega)).trans ?_); rw [hb]; rfl
              rw [e]
              exact ⟨rfl, mR_kO hA1 w1.k, hm1.trans w1.k.c⟩
            · skip
              have hb := bI_nz.mp h67
              refine v_iconst (v := nI 1) X dX5_follows_70 (by decide) ?_
              refine v_goto (tgt := 75) X dX5_follows_71 (by decide) ?_
              refine v_ret X hR dX5_follows_75 rfl ?_
              have e : sp_follows (nI a) (nI b) A = (nI 1, A) := by simp only [sp_follows, aN, bN]; refine (if_neg (by omega)).trans ((if_neg (by omega)).trans ?_); rw [hb]; rfl
              rw [e]
              exact ⟨rfl, mR_kO hA1 w1.k, hm1.trans w1.k.c⟩
          · skip
            have hgt := nI_len (b := 11) (by omega) (by decide) h48
            refine v_bipush (v := (-4)) X dX5_follows_51 (by decide) ?_
            refine v_goto (tgt := 75) X dX5_follows_53 (by decide) ?_
            refine v_ret X hR dX5_follows_75 rfl ?_
            have e : sp_follows (nI a) (nI b) A = (-4, A) := by simp only [sp_follows, aN, bN]; exact (if_neg (by omega)).trans (if_pos hgt)
            rw [e]
            exact ⟨rfl, hA1, hm1⟩
        · skip
          have b0 : (A.1 b).length = 0 := of_decide_eq_true (bI_nz.mp h29)
          refine v_bipush (v := (-3)) X dX5_follows_32 (by decide) ?_
          refine v_ret X hR dX5_follows_34 rfl ?_
          have e : sp_follows (nI a) (nI b) A = (-3, A) := by simp only [sp_follows, aN, bN]; exact if_pos (Or.inr b0)
          rw [e]
          exact ⟨rfl, hA, cO.rfl⟩
    · skip
      have bn := slot_f (bI_z.mp h11)
      refine v_iconst (v := (-1)) X dX5_follows_14 (by decide) ?_
      refine v_ret X hR dX5_follows_15 rfl ?_
      have e : sp_follows (nI a) y A = (-1, A) := by simp [sp_follows, aN, bn]
      rw [e]
      exact ⟨rfl, hA, cO.rfl⟩

set_option maxHeartbeats 4000000 in
set_option maxRecDepth 100000 in
theorem y_from (G : GT) {σ : Sg} {A : ASt} (hA : mR σ A) (x y z : Int32) : MC G yX5_from cX5_from 4 .int 4 [.ref (G.2.2.1 156), .int x, .int y, .int z] σ (fun r τ => r = (sp_from x y z A).1 ∧ mR τ (sp_from x y z A).2 ∧ cO σ τ) := by
  refine MC_of (by decide) (ca1 rfl (ca1 rfl (ca1 rfl (ca1 rfl ca0)))) (Nat.le_of_ble_eq_true rfl) ?_
  intro Z X hR
  show V G Z σ 0 [some (.ref (G.2.2.1 156)), some (.int x), some (.int y), some (.int z)] []
  refine v_iload_n X dX5_from_0 rfl ?_
  refine v_cals X (m_isSlot G _) cs_X5_106 (by decide) rfl (by rfl) (Nat.le_of_ble_eq_true rfl) dX5_from_1 (fun r τ9 hq => ?_)
  obtain ⟨e9, rfl⟩ := hq
  rw [e9]
  refine v_if_ne (tgt := 9) X dX5_from_4 (by decide) (fun h4 => ?_) (fun h4 => ?_)
  · skip
    obtain ⟨a, a6, rfl, aN⟩ := slot_t (bI_nz.mp h4)
    have aP := hA.1 a (by omega)
    refine v_aload_n X dX5_from_9 rfl ?_
    refine v_iload_n X dX5_from_10 rfl ?_
    refine v_cali X (m_isEmpty G (s := a) (by omega) aP) cv_X5_120 obX5 rfl (by decide) rfl (by rfl) (Nat.le_of_ble_eq_true rfl) dX5_from_11 (fun r τ9 hq => ?_)
    obtain ⟨e9, rfl⟩ := hq
    rw [e9]
    refine v_if_eq (tgt := 20) X dX5_from_14 (by decide) (fun h14 => ?_) (fun h14 => ?_)
    · skip
      have a0 : ¬ (A.1 a).length = 0 := of_decide_eq_false (bI_z.mp h14)
      have ap : 0 < (A.1 a).length := by omega
      have a11 := aP.1
      have hpw : 2 ^ (A.1 a).length ≤ 2048 := Nat.le_trans (Nat.pow_le_pow_right (by decide) a11) (by decide)
      refine v_iload_n X dX5_from_20 rfl ?_
      refine v_iconst (v := nI 0) X dX5_from_21 (by decide) ?_
      refine v_aload_n X dX5_from_22 rfl ?_
      refine v_getr X fl_X5_7 shX5_0 dX5_from_23 ?_
      refine v_iload_n X dX5_from_26 rfl ?_
      refine v_ialdE X arX5_0 rfl (show a < 18 by omega) dX5_from_27 ?_
      rw [aP.2.2.1]
      refine v_iconst (v := nI 1) X dX5_from_28 (by decide) ?_
      refine v_isub X dX5_from_29 ?_
      refine v_top (nI_s1 ap) ?_
      refine v_cals X (m_in G _ _ _) cs_X5_69 (by decide) rfl (by rfl) (Nat.le_of_ble_eq_true rfl) dX5_from_30 (fun r τ9 hq => ?_)
      obtain ⟨e9, rfl⟩ := hq
      rw [e9]
      refine v_if_eq (tgt := 54) X dX5_from_33 (by decide) (fun h33 => ?_) (fun h33 => ?_)
      · skip
        have hy := in_out ap (by omega) (in_f (bI_z.mp h33))
        refine v_bipush (v := (-2)) X dX5_from_54 (by decide) ?_
        refine v_ret X hR dX5_from_56 rfl ?_
        have e : sp_from (nI a) y z A = (-2, A) := by simp only [sp_from, aN]; exact (if_neg a0).trans (if_pos (hy.elim Or.inl (fun q => Or.inr (Or.inl q))))
        rw [e]
        exact ⟨rfl, hA, cO.rfl⟩
      · skip
        obtain ⟨k, hk, rfl, hkn, hkr⟩ := in_ix ap (by omega) (in_t (bI_nz.mp h33))
        refine v_iload_n X dX5_from_36 rfl ?_
        refine v_iconst (v := nI 0) X dX5_from_37 (by decide) ?_
        refine v_iconst (v := nI 1) X dX5_from_38 (by decide) ?_
        refine v_aload_n X dX5_from_39 rfl ?_
        refine v_getr X fl_X5_7 shX5_0 dX5_from_40 ?_
        refine v_iload_n X dX5_from_43 rfl ?_
        refine v_ialdE X arX5_0 rfl (show a < 18 by omega) dX5_from_44 ?_
        rw [aP.2.2.1]
        refine v_ishl X dX5_from_45 ?_
        refine v_top (nb_shl (by omega)) ?_
        refine v_iconst (v := nI 1) X dX5_from_46 (by decide) ?_
        refine v_isub X dX5_from_47 ?_
        refine v_top (nI_s1 (show 0 < 2 ^ (A.1 a).length from Nat.two_pow_pos _)) ?_
        refine v_cals X (m_in G _ _ _) cs_X5_69 (by decide) rfl (by rfl) (Nat.le_of_ble_eq_true rfl) dX5_from_48 (fun r τ9 hq => ?_)
        obtain ⟨e9, rfl⟩ := hq
        rw [e9]
        refine v_if_ne (tgt := 57) X dX5_from_51 (by decide) (fun h51 => ?_) (fun h51 => ?_)
        · skip
          obtain ⟨s, hs, rfl, hsn, hsr⟩ := in_ix (show 0 < 2 ^ (A.1 a).length from Nat.two_pow_pos _) (by omega) (in_t (bI_nz.mp h51))
          have hnr : ¬ (nI k < 0 ∨ nI (A.1 a).length ≤ nI k ∨ nI s < 0 ∨ nI (2 ^ (A.1 a).length) ≤ nI s) := by
            rintro (q | q | q)
            · exact hkr (Or.inl q)
            · exact hkr (Or.inr q)
            · exact hsr q
          refine v_aload_n X dX5_from_57 rfl ?_
          refine v_iload_n X dX5_from_58 rfl ?_
          refine v_calv X (m_look G (s := a) (by omega) aP) cv_X5_117 obX5 rfl (by decide) rfl (by rfl) (Nat.le_of_ble_eq_true rfl) dX5_from_59 (fun τ1 hp1 => ?_)
          obtain ⟨q1, q2⟩ := hp1
          have hA1 := mR_kO hA q2.k
          refine v_aload_n X dX5_from_62 rfl ?_
          refine v_iload_n X dX5_from_63 rfl ?_
          refine v_iload_n X dX5_from_64 rfl ?_
          refine v_cali X (m_isInAll G q1 a11 (s := s) (k := k) (by omega) (by omega)) cv_X5_150 obX5 rfl (by decide) rfl (by rfl) (Nat.le_of_ble_eq_true rfl) dX5_from_65 (fun r τ2 hp2 => ?_)
          obtain ⟨w1, rfl⟩ := hp2
          refine v_if_eq (tgt := 75) X dX5_from_68 (by decide) (fun h68 => ?_) (fun h68 => ?_)
          · skip
            have hb := bI_z.mp h68
            refine v_iconst (v := nI 0) X dX5_from_75 (by decide) ?_
            refine v_ret X hR dX5_from_76 rfl ?_
            have e : sp_from (nI a) (nI s) (nI k) A = (nI 0, A) := by simp only [sp_from, aN]; refine (if_neg a0).trans ((if_neg hnr).trans ?_); rw [hkn, hsn, hb]; rfl
            rw [e]
            exact ⟨rfl, mR_kO hA1 w1.k, q2.k.c.trans w1.k.c⟩
          · skip
            have hb := bI_nz.mp h68
            refine v_iconst (v := nI 1) X dX5_from_71 (by decide) ?_
            refine v_goto (tgt := 76) X dX5_from_72 (by decide) ?_
            refine v_ret X hR dX5_from_76 rfl ?_
            have e : sp_from (nI a) (nI s) (nI k) A = (nI 1, A) := by simp only [sp_from, aN]; refine (if_neg a0).trans ((if_neg hnr).trans ?_); rw [hkn, hsn, hb]; rfl
            rw [e]
            exact ⟨rfl, mR_kO hA1 w1.k, q2.k.c.trans w1.k.c⟩
        · skip
          have hz := in_out (show 0 < 2 ^ (A.1 a).length from Nat.two_pow_pos _) (by omega) (in_f (bI_z.mp h51))
          refine v_bipush (v := (-2)) X dX5_from_54 (by decide) ?_
          refine v_ret X hR dX5_from_56 rfl ?_
          have e : sp_from (nI a) y (nI k) A = (-2, A) := by simp only [sp_from, aN]; exact (if_neg a0).trans (if_pos (Or.inr (Or.inr hz)))
          rw [e]
          exact ⟨rfl, hA, cO.rfl⟩
    · skip
      have a0 : (A.1 a).length = 0 := of_decide_eq_true (bI_nz.mp h14)
      refine v_bipush (v := (-3)) X dX5_from_17 (by decide) ?_
      refine v_ret X hR dX5_from_19 rfl ?_
      have e : sp_from (nI a) y z A = (-3, A) := by simp only [sp_from, aN]; exact if_pos a0
      rw [e]
      exact ⟨rfl, hA, cO.rfl⟩
  · skip
    have an := slot_f (bI_z.mp h4)
    refine v_iconst (v := (-1)) X dX5_from_7 (by decide) ?_
    refine v_ret X hR dX5_from_8 rfl ?_
    have e : sp_from x y z A = (-1, A) := by simp [sp_from, an]
    rw [e]
    exact ⟨rfl, hA, cO.rfl⟩

