set_option maxHeartbeats 4000000 in
set_option maxRecDepth 100000 in
theorem c_isTrueByRows (G : GT) {σ : Sg} {j : Nat} (hj : j < 20) {P : Sen} (hP : hs σ j P) : MC G yX1_isTrueByRows cX1_isTrueByRows 1 .boolean 1 [.ref (G.2.2.1 (7 * j))] σ (fun r τ => τ = σ ∧ r = bI (decide (0 < P.length ∧ (rwL P).getD (P.length - 1) 0 = 65535))) := by
  refine MC_of (by decide) (ca1 rfl ca0) (Nat.le_of_ble_eq_true rfl) ?_
  intro Z X hR
  show V G Z σ 0 [some (.ref (G.2.2.1 (7 * j)))] []
  obtain ⟨p1, p2, p3, p4, p5⟩ := hP
  refine v_aload_n X dX1_isTrueByRows_0 rfl ?_
  refine v_geti X fl_X1_9 (shX1_0 (by first | assumption | omega)) dX1_isTrueByRows_1 ?_
  refine v_top p3 ?_
  refine v_if_le (tgt := 25) X dX1_isTrueByRows_4 (by decide) (fun h4 => ?_) (fun h4 => ?_)
  · skip
    have h0 := nI_l0 (by omega) h4
    refine v_iconst (v := nI 0) X dX1_isTrueByRows_25 (by decide) ?_
    refine v_ret X hR dX1_isTrueByRows_26 rfl ?_
    exact ⟨rfl, bI_f (fun q => by omega)⟩
  · skip
    have h0 := nI_n0 (by omega) h4
    refine v_aload_n X dX1_isTrueByRows_7 rfl ?_
    refine v_getr X fl_X1_32 (shX1_6 (by first | assumption | omega)) dX1_isTrueByRows_8 ?_
    refine v_aload_n X dX1_isTrueByRows_11 rfl ?_
    refine v_cali X (c_root G hj) cv_X1_61 (obX1 (by first | assumption | omega)) rfl (by decide) rfl (by rfl) (Nat.le_of_ble_eq_true rfl) dX1_isTrueByRows_12 (fun r τ hp => ?_)
    obtain ⟨rfl, rfl⟩ := hp
    refine v_ialdE X (arX1_6 (by first | assumption | omega)) (by rw [p3, nI_s1 h0]) (show P.length - 1 < 11 by omega) dX1_isTrueByRows_15 ?_
    refine v_ldci X ck_X1_53 dX1_isTrueByRows_16 ?_
    rw [(p5 (P.length - 1) (by omega)).2]
    refine v_icmp_ne (tgt := 25) X dX1_isTrueByRows_18 (by decide) (fun h18 => ?_) (fun h18 => ?_)
    · skip
      refine v_iconst (v := nI 0) X dX1_isTrueByRows_25 (by decide) ?_
      refine v_ret X hR dX1_isTrueByRows_26 rfl ?_
      exact ⟨rfl, bI_f (fun q => h18 q.2)⟩
    · skip
      refine v_iconst (v := nI 1) X dX1_isTrueByRows_21 (by decide) ?_
      refine v_goto (tgt := 26) X dX1_isTrueByRows_22 (by decide) ?_
      refine v_ret X hR dX1_isTrueByRows_26 rfl ?_
      exact ⟨rfl, bI_t ⟨h0, h18⟩⟩

set_option maxHeartbeats 4000000 in
set_option maxRecDepth 100000 in
theorem c_signs (G : GT) {σ : Sg} {j : Nat} (hj : j < 20) {P : Sen} (hP : hs σ j P) : MC G yX1_signs cX1_signs 1 .int 1 [.ref (G.2.2.1 (7 * j))] σ (fun r τ => τ = σ ∧ r = nI (sgN P)) := by
  refine MC_of (by decide) (ca1 rfl ca0) (Nat.le_of_ble_eq_true rfl) ?_
  intro Z X hR
  show V G Z σ 0 [some (.ref (G.2.2.1 (7 * j)))] []
  obtain ⟨p1, p2, p3, p4, p5⟩ := hP
  refine v_aload_n X dX1_signs_0 rfl ?_
  refine v_geti X fl_X1_9 (shX1_0 (by first | assumption | omega)) dX1_signs_1 ?_
  refine v_top p3 ?_
  refine v_if_le (tgt := 19) X dX1_signs_4 (by decide) (fun h4 => ?_) (fun h4 => ?_)
  · skip
    have h0 := nI_l0 (by omega) h4
    refine v_iconst (v := nI 0) X dX1_signs_19 (by decide) ?_
    refine v_ret X hR dX1_signs_20 rfl ?_
    exact ⟨rfl, by rw [sgN, if_neg (by omega)]⟩
  · skip
    have h0 := nI_n0 (by omega) h4
    refine v_aload_n X dX1_signs_7 rfl ?_
    refine v_getr X fl_X1_29 (shX1_5 (by first | assumption | omega)) dX1_signs_8 ?_
    refine v_aload_n X dX1_signs_11 rfl ?_
    refine v_cali X (c_root G hj) cv_X1_61 (obX1 (by first | assumption | omega)) rfl (by decide) rfl (by rfl) (Nat.le_of_ble_eq_true rfl) dX1_signs_12 (fun r τ hp => ?_)
    obtain ⟨rfl, rfl⟩ := hp
    refine v_ialdE X (arX1_5 (by first | assumption | omega)) (by rw [p3, nI_s1 h0]) (show P.length - 1 < 11 by omega) dX1_signs_15 ?_
    refine v_goto (tgt := 20) X dX1_signs_16 (by decide) ?_
    refine v_ret X hR dX1_signs_20 rfl ?_
    exact ⟨rfl, by rw [sgN, if_pos h0, (p5 (P.length - 1) (by omega)).1]⟩

theorem str_3 : ∀ a, a < 4 → (strI 3).2.2.2.getD a 0 = nI (112 + a) := by decide
theorem str_0 : ∀ a, a < 4 → (strI 0).2.2.2.getD a 0 = nI (112 + a) := by decide
theorem str_2 : ∀ t, t < 5 → 2 ≤ t → (strI 2).2.2.2.getD (t - 2) 0 = if t = 2 then 38 else if t = 3 then 124 else 62 := by decide
set_option maxHeartbeats 4000000 in
set_option maxRecDepth 100000 in
theorem c_signAt (G : GT) {σ : Sg} {j : Nat} (hj : j < 20) {P : Sen} (hP : hs σ j P) (h0 : 0 < P.length) (place : Int32) : MC G yX1_signAt cX1_signAt 7 .int 4 [.ref (G.2.2.1 (7 * j)), .int place] σ (fun r τ => τ = σ ∧ ((place < 0 ∧ r = -6) ∨ (nI (sgN P) ≤ place ∧ r = -6) ∨ ∃ a, a < sgN P ∧ place = nI a ∧ r = sgA P 11 (P.length - 1) a)) := by
  refine MC_of (by decide) (ca1 rfl (ca1 rfl ca0)) (Nat.le_of_ble_eq_true rfl) ?_
  intro Z X hR
  show V G Z σ 0 [some (.ref (G.2.2.1 (7 * j))), some (.int place), none, none, none, none, none] []
  have hP0 := hP
  obtain ⟨p1, p2, p3, p4, p5⟩ := hP
  have loop : ∀ (f k a d : Nat) (l5 l6 : Option Value) (a0 : Nat), d + f = 11 → k < f → k < P.length → a < (lnL P).getD k 0 → (a0 < sgN P ∧ place = nI a0 ∧ sgA P f k a = sgA P 11 (P.length - 1) a0) → V G Z σ 25 [some (.ref (G.2.2.1 (7 * j))), some (.int place), some (.int (nI k)), some (.int (nI a)), some (.int (nI d)), l5, l6] [] := by
    intro f
    induction f with
    | zero => intro k a d l5 l6 a0 h1 h2; omega
    | succ f ih =>
      intro k a d l5 l6 a0 hd hkf hk ha hres
      obtain ⟨r1, r2, r3⟩ := hres
      obtain ⟨p, hp⟩ : ∃ p, P[k]? = some p := ⟨P[k], List.getElem?_eq_getElem hk⟩
      have hD : P.getD k (1, 0, 0) = p := by rw [List.getD_eq_getElem?_getD, hp]; rfl
      have hok := p2 k p hp
      have hrec := lnL_rec p2 hp
      have hlt := lnL_lt p2 p1 hk
      obtain ⟨e1, e2, e3⟩ := p4 k p hp
      have e1 : σ (7 * j + 1) k = nI p.1 := e1
      have hk4 := hok.k4
      have out : p.1 < 2 → V G Z σ 150 [some (.ref (G.2.2.1 (7 * j))), some (.int place), some (.int (nI k)), some (.int (nI a)), some (.int (nI d)), l5, l6] [] := by
        intro h2
        rw [sgA, hD, if_pos h2] at r3
        refine v_aload_n X dX1_signAt_150 rfl ?_
        refine v_getr X fl_X1_19 (shX1_2 (by first | assumption | omega)) dX1_signAt_151 ?_
        refine v_iload_n X dX1_signAt_154 rfl ?_
        refine v_ialdE X (arX1_2 (by first | assumption | omega)) rfl (by first | assumption | omega) dX1_signAt_155 ?_
        rw [e1]
        refine v_if_ne (tgt := 173) X dX1_signAt_156 (by decide) (fun h156 => ?_) (fun h156 => ?_)
        · skip
          have z : ¬ p.1 = 0 := fun z => h156 (by rw [z]; rfl)
          rw [if_neg z] at r3
          refine v_bipush (v := nI 70) X dX1_signAt_173 (by decide) ?_
          refine v_ret X hR dX1_signAt_175 rfl ?_
          exact ⟨rfl, Or.inr (Or.inr ⟨a0, r1, r2, r3⟩)⟩
        · skip
          have z : p.1 = 0 := nI_eqm (b := 0) (by omega) (by omega) h156
          rw [if_pos z] at r3
          have ha4 : p.2.1 < 4 := by
            rcases hok with ⟨-, q, -⟩ | ⟨q, -⟩ | ⟨q, -⟩ <;> omega
          have e2 : σ (7 * j + 2) k = nI p.2.1 := by rw [e2, pA, if_neg (by omega)]
          refine v_ldcs (i := 3) X (by decide) rfl rfl dX1_signAt_159 ?_
          refine v_aload_n X dX1_signAt_161 rfl ?_
          refine v_getr X fl_X1_23 (shX1_3 (by first | assumption | omega)) dX1_signAt_162 ?_
          refine v_iload_n X dX1_signAt_165 rfl ?_
          refine v_ialdE X (arX1_3 (by first | assumption | omega)) rfl (by first | assumption | omega) dX1_signAt_166 ?_
          rw [e2]
          refine v_calz X (i := 3) (by decide) (c_charAt G (k := p.2.1) (by decide) ha4) cv_X1_77 rfl (by decide) rfl (by rfl) (Nat.le_of_ble_eq_true rfl) dX1_signAt_167 (fun r τ hp => ?_)
          obtain ⟨rfl, rfl⟩ := hp
          rw [str_3 _ ha4]
          refine v_goto (tgt := 175) X dX1_signAt_170 (by decide) ?_
          refine v_ret X hR dX1_signAt_175 rfl ?_
          exact ⟨rfl, Or.inr (Or.inr ⟨a0, r1, r2, r3⟩)⟩
      refine v_iload X dX1_signAt_25 rfl ?_
      refine v_bipush (v := nI 11) X dX1_signAt_27 (by decide) ?_
      refine v_icmp_ge (tgt := 150) X dX1_signAt_29 (by decide) (fun h29 => ?_) (fun h29 => ?_)
      · skip
        exact absurd (nI_lem (a := 11) (by decide) (by omega) h29) (by omega)
      · skip
        refine v_aload_n X dX1_signAt_32 rfl ?_
        refine v_getr X fl_X1_19 (shX1_2 (by first | assumption | omega)) dX1_signAt_33 ?_
        refine v_iload_n X dX1_signAt_36 rfl ?_
        refine v_ialdE X (arX1_2 (by first | assumption | omega)) rfl (by first | assumption | omega) dX1_signAt_37 ?_
        refine v_iconst (v := nI 2) X dX1_signAt_38 (by decide) ?_
        rw [e1]
        refine v_icmp_lt (tgt := 150) X dX1_signAt_39 (by decide) (fun h39 => ?_) (fun h39 => ?_)
        · skip
          exact out (nI_ltm (b := 2) (by omega) (by decide) h39)
        · skip
          have h2 : ¬ p.1 < 2 := by have := nI_ltn (b := 2) (by omega) (by decide) h39; omega
          rw [if_neg h2] at hrec
          rw [sgA, hD, if_neg h2] at r3
          have hab : p.2.1 < k ∧ p.2.2 < k := by
            rcases hok with ⟨q, -⟩ | ⟨q, -⟩ | ⟨-, -, q1, q2⟩
            · omega
            · omega
            · exact ⟨q1, q2⟩
          have e2 : σ (7 * j + 2) k = nI p.2.1 := by rw [e2, pA, if_neg (by omega)]
          have e3 : σ (7 * j + 3) k = nI p.2.2 := by rw [e3, pB, if_neg h2]
          have la := (p5 p.2.1 (by omega)).1
          have lb := (p5 p.2.2 (by omega)).1
          refine v_aload_n X dX1_signAt_42 rfl ?_
          refine v_getr X fl_X1_29 (shX1_5 (by first | assumption | omega)) dX1_signAt_43 ?_
          refine v_aload_n X dX1_signAt_46 rfl ?_
          refine v_getr X fl_X1_23 (shX1_3 (by first | assumption | omega)) dX1_signAt_47 ?_
          refine v_iload_n X dX1_signAt_50 rfl ?_
          refine v_ialdE X (arX1_3 (by first | assumption | omega)) rfl (by first | assumption | omega) dX1_signAt_51 ?_
          refine v_ialdE X (arX1_5 (by first | assumption | omega)) e2 (show p.2.1 < 11 by omega) dX1_signAt_52 ?_
          rw [la]
          refine v_iconst (v := nI 1) X dX1_signAt_53 (by decide) ?_
          refine v_iadd X dX1_signAt_54 ?_
          refine v_top (nI_add _ _) ?_
          refine v_istore X dX1_signAt_55 (Nat.le_of_ble_eq_true rfl) ?_
          show V G Z _ 57 [_, _, _, _, _, _, _] _
          refine v_iload X dX1_signAt_57 rfl ?_
          refine v_aload_n X dX1_signAt_59 rfl ?_
          refine v_getr X fl_X1_29 (shX1_5 (by first | assumption | omega)) dX1_signAt_60 ?_
          refine v_aload_n X dX1_signAt_63 rfl ?_
          refine v_getr X fl_X1_26 (shX1_4 (by first | assumption | omega)) dX1_signAt_64 ?_
          refine v_iload_n X dX1_signAt_67 rfl ?_
          refine v_ialdE X (arX1_4 (by first | assumption | omega)) rfl (by first | assumption | omega) dX1_signAt_68 ?_
          refine v_ialdE X (arX1_5 (by first | assumption | omega)) e3 (show p.2.2 < 11 by omega) dX1_signAt_69 ?_
          rw [lb]
          refine v_iadd X dX1_signAt_70 ?_
          refine v_top (nI_add _ _) ?_
          refine v_iconst (v := nI 1) X dX1_signAt_71 (by decide) ?_
          refine v_iadd X dX1_signAt_72 ?_
          refine v_top (nI_add _ _) ?_
          refine v_istore X dX1_signAt_73 (Nat.le_of_ble_eq_true rfl) ?_
          show V G Z _ 75 [_, _, _, _, _, _, _] _
          refine v_iload_n X dX1_signAt_75 rfl ?_
          refine v_if_ne (tgt := 82) X dX1_signAt_76 (by decide) (fun h76 => ?_) (fun h76 => ?_)
          · skip
            have za : ¬ a = 0 := fun z => h76 (by rw [z]; rfl)
            rw [if_neg za] at r3
            refine v_iload_n X dX1_signAt_82 rfl ?_
            refine v_iload X dX1_signAt_83 rfl ?_
            refine v_icmp_ne (tgt := 102) X dX1_signAt_85 (by decide) (fun h85 => ?_) (fun h85 => ?_)
            · skip
              have zb := nI_eqn (by omega) (by omega) h85
              rw [if_neg zb] at r3
              refine v_iload_n X dX1_signAt_102 rfl ?_
              refine v_iload X dX1_signAt_103 rfl ?_
              refine v_icmp_ne (tgt := 111) X dX1_signAt_105 (by decide) (fun h105 => ?_) (fun h105 => ?_)
              · skip
                have zc := nI_eqn (by omega) (by omega) h105
                rw [if_neg (by omega)] at r3
                refine v_iload_n X dX1_signAt_111 rfl ?_
                refine v_iload X dX1_signAt_112 rfl ?_
                refine v_icmp_ge (tgt := 130) X dX1_signAt_114 (by decide) (fun h114 => ?_) (fun h114 => ?_)
                · skip
                  have zd := nI_lem (by omega) (by omega) h114
                  rw [if_neg (by omega)] at r3
                  refine v_iload_n X dX1_signAt_130 rfl ?_
                  refine v_iload X dX1_signAt_131 rfl ?_
                  refine v_iconst (v := nI 1) X dX1_signAt_133 (by decide) ?_
                  refine v_iadd X dX1_signAt_134 ?_
                  refine v_top (nI_add _ _) ?_
                  refine v_isub X dX1_signAt_135 ?_
                  refine v_top (pk_sub (by omega)) ?_
                  refine v_istore_n X dX1_signAt_136 (Nat.le_of_ble_eq_true rfl) ?_
                  show V G Z _ 137 [_, _, _, _, _, _, _] _
                  refine v_aload_n X dX1_signAt_137 rfl ?_
                  refine v_getr X fl_X1_26 (shX1_4 (by first | assumption | omega)) dX1_signAt_138 ?_
                  refine v_iload_n X dX1_signAt_141 rfl ?_
                  refine v_ialdE X (arX1_4 (by first | assumption | omega)) rfl (by first | assumption | omega) dX1_signAt_142 ?_
                  rw [e3]
                  refine v_istore_n X dX1_signAt_143 (Nat.le_of_ble_eq_true rfl) ?_
                  show V G Z _ 144 [_, _, _, _, _, _, _] _
                  refine v_iincE X dX1_signAt_144 rfl (nI_inc d) ?_
                  show V G Z _ 147 [_, _, _, _, _, _, _] _
                  refine v_goto (tgt := 25) X dX1_signAt_147 (by decide) ?_
                  refine ih p.2.2 _ (d + 1) _ _ a0 (by omega) (by omega) (by omega) (by omega) ⟨r1, r2, ?_⟩
                  rw [show ∀ x y : Nat, a - (x + 1 + 1) = a - x - 2 from fun x y => by omega] <;> first | exact r3 | exact 0
                · skip
                  have zd := nI_len (by omega) (by omega) h114
                  rw [if_pos (by omega)] at r3
                  refine v_iincE X dX1_signAt_117 rfl (nI_dec (by omega)) ?_
                  show V G Z _ 120 [_, _, _, _, _, _, _] _
                  refine v_aload_n X dX1_signAt_120 rfl ?_
                  refine v_getr X fl_X1_23 (shX1_3 (by first | assumption | omega)) dX1_signAt_121 ?_
                  refine v_iload_n X dX1_signAt_124 rfl ?_
                  refine v_ialdE X (arX1_3 (by first | assumption | omega)) rfl (by first | assumption | omega) dX1_signAt_125 ?_
                  rw [e2]
                  refine v_istore_n X dX1_signAt_126 (Nat.le_of_ble_eq_true rfl) ?_
                  show V G Z _ 127 [_, _, _, _, _, _, _] _
                  refine v_goto (tgt := 144) X dX1_signAt_127 (by decide) ?_
                  refine v_iincE X dX1_signAt_144 rfl (nI_inc d) ?_
                  show V G Z _ 147 [_, _, _, _, _, _, _] _
                  refine v_goto (tgt := 25) X dX1_signAt_147 (by decide) ?_
                  exact ih p.2.1 (a - 1) (d + 1) _ _ a0 (by omega) (by omega) (by omega) (by omega) ⟨r1, r2, r3⟩
              · skip
                have zc := nI_eqm (by omega) (by omega) h105
                rw [if_pos (by omega)] at r3
                refine v_bipush (v := nI 41) X dX1_signAt_108 (by decide) ?_
                refine v_ret X hR dX1_signAt_110 rfl ?_
                exact ⟨rfl, Or.inr (Or.inr ⟨a0, r1, r2, r3⟩)⟩
            · skip
              have zb := nI_eqm (by omega) (by omega) h85
              rw [if_pos zb] at r3
              refine v_ldcs (i := 2) X (by decide) rfl rfl dX1_signAt_88 ?_
              refine v_aload_n X dX1_signAt_90 rfl ?_
              refine v_getr X fl_X1_19 (shX1_2 (by first | assumption | omega)) dX1_signAt_91 ?_
              refine v_iload_n X dX1_signAt_94 rfl ?_
              refine v_ialdE X (arX1_2 (by first | assumption | omega)) rfl (by first | assumption | omega) dX1_signAt_95 ?_
              refine v_iconst (v := nI 2) X dX1_signAt_96 (by decide) ?_
              refine v_isub X dX1_signAt_97 ?_
              refine v_top (y := nI (p.1 - 2)) (by rw [e1, pk_sub (by omega)]) ?_
              refine v_calz X (i := 2) (by decide) (c_charAt G (k := p.1 - 2) (by decide) (show p.1 - 2 < 3 by omega)) cv_X1_77 rfl (by decide) rfl (by rfl) (Nat.le_of_ble_eq_true rfl) dX1_signAt_98 (fun r τ hp => ?_)
              obtain ⟨rfl, rfl⟩ := hp
              rw [str_2 _ (by omega) (by omega)]
              refine v_ret X hR dX1_signAt_101 rfl ?_
              exact ⟨rfl, Or.inr (Or.inr ⟨a0, r1, r2, r3⟩)⟩
          · skip
            have za : a = 0 := nI_eqm (b := 0) (by omega) (by decide) h76
            rw [if_pos za] at r3
            refine v_bipush (v := nI 40) X dX1_signAt_79 (by decide) ?_
            refine v_ret X hR dX1_signAt_81 rfl ?_
            exact ⟨rfl, Or.inr (Or.inr ⟨a0, r1, r2, r3⟩)⟩
  refine v_iload_n X dX1_signAt_0 rfl ?_
  refine v_if_lt (tgt := 12) X dX1_signAt_1 (by decide) (fun h1 => ?_) (fun h1 => ?_)
  · skip
    refine v_bipush (v := (-6)) X dX1_signAt_12 (by decide) ?_
    refine v_ret X hR dX1_signAt_14 rfl ?_
    exact ⟨rfl, Or.inl ⟨h1, rfl⟩⟩
  · skip
    refine v_iload_n X dX1_signAt_4 rfl ?_
    refine v_aload_n X dX1_signAt_5 rfl ?_
    refine v_cali X (c_signs G hj hP0) cv_X1_72 (obX1 (by first | assumption | omega)) rfl (by decide) rfl (by rfl) (Nat.le_of_ble_eq_true rfl) dX1_signAt_6 (fun r τ hp => ?_)
    obtain ⟨rfl, rfl⟩ := hp
    refine v_icmp_lt (tgt := 15) X dX1_signAt_9 (by decide) (fun h9 => ?_) (fun h9 => ?_)
    · skip
      have hb : sgN P < 4096 := by rw [sgN, if_pos h0]; exact lnL_lt p2 p1 (by omega)
      obtain ⟨a, ha⟩ : ∃ a, a < sgN P ∧ place = nI a := by
        rcases pk_ix place (n := sgN P) (by omega) with z | z | ⟨a, z1, z2⟩
        · exact absurd z h1
        · exact absurd h9 (Int32.not_lt.mpr z)
        · exact ⟨a, z1, z2⟩
      refine v_aload_n X dX1_signAt_15 rfl ?_
      refine v_cali X (c_root G hj) cv_X1_61 (obX1 (by first | assumption | omega)) rfl (by decide) rfl (by rfl) (Nat.le_of_ble_eq_true rfl) dX1_signAt_16 (fun r τ hp => ?_)
      obtain ⟨rfl, rfl⟩ := hp
      refine v_top (y := nI (P.length - 1)) (by rw [p3, nI_s1 h0]) ?_
      refine v_istore_n X dX1_signAt_19 (Nat.le_of_ble_eq_true rfl) ?_
      show V G Z _ 20 [_, _, _, _, _, _, _] _
      refine v_iload_n X dX1_signAt_20 rfl ?_
      refine v_istore_n X dX1_signAt_21 (Nat.le_of_ble_eq_true rfl) ?_
      show V G Z _ 22 [_, _, _, _, _, _, _] _
      refine v_iconst (v := nI 0) X dX1_signAt_22 (by decide) ?_
      refine v_istore X dX1_signAt_23 (Nat.le_of_ble_eq_true rfl) ?_
      show V G Z _ 25 [_, _, _, _, _, _, _] _
      obtain ⟨ha1, rfl⟩ := ha
      exact loop 11 (P.length - 1) a 0 _ _ a (by omega) (by omega) (by omega) (by rw [sgN, if_pos h0] at ha1; exact ha1) ⟨ha1, rfl, rfl⟩
    · skip
      refine v_bipush (v := (-6)) X dX1_signAt_12 (by decide) ?_
      refine v_ret X hR dX1_signAt_14 rfl ?_
      exact ⟨rfl, Or.inr (Or.inl ⟨Int32.not_lt.mp h9, rfl⟩)⟩
