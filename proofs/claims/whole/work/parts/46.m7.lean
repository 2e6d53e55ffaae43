def lnA (τ : Sg) (P : Sen) (n : Nat) : Prop := ∀ x, x < n → τ 170 x = nI ((lnL P).getD x 0)
set_option maxHeartbeats 4000000 in
set_option maxRecDepth 100000 in
theorem m_signAt (G : GT) {σ : Sg} {P : Sen} (hP : wS σ P) (hl : P.length ≤ 11) (hL : lnA σ P P.length) (h0 : 0 < P.length) {a0 : Nat} (ha0 : a0 < (lnL P).getD (P.length - 1) 0) : MC G yX5_signAt cX5_signAt 6 .int 0 [.ref (G.2.2.1 156), .int (nI a0)] σ (fun r τ => τ = σ ∧ r = sgA P 11 (P.length - 1) a0) := by
  refine MC_of (by decide) (ca1 rfl (ca1 rfl ca0)) (Nat.le_of_ble_eq_true rfl) ?_
  intro Z X hR
  show V G Z σ 0 [some (.ref (G.2.2.1 156)), some (.int (nI a0)), none, none, none, none] []
  obtain ⟨p1, p2, p3, p4⟩ := hP
  have loop : ∀ (f k a : Nat) (l4 l5 : Option Value), k < f → k < P.length → a < (lnL P).getD k 0 → sgA P f k a = sgA P 11 (P.length - 1) a0 → V G Z σ 9 [some (.ref (G.2.2.1 156)), some (.int (nI a0)), some (.int (nI k)), some (.int (nI a)), l4, l5] [] := by
    intro f
    induction f with
    | zero => intro k a l4 l5 h; omega
    | succ f ih =>
      intro k a l4 l5 hkf hk ha r3
      obtain ⟨p, hp⟩ : ∃ p, P[k]? = some p := ⟨P[k], List.getElem?_eq_getElem hk⟩
      have hD := getD_of hp
      have hok := p2 k p hp
      have hrec := lnL_rec p2 hp
      have hlt := lnL_lt p2 hl hk
      obtain ⟨e1, e2, e3⟩ := p4 k p hp
      have e1 : σ 162 k = nI p.1 := e1
      have hk4 := hok.k4
      refine v_aload_n X dX5_signAt_9 rfl ?_
      refine v_getr X fl_X5_29 shX5_8 dX5_signAt_10 ?_
      refine v_iload_n X dX5_signAt_13 rfl ?_
      refine v_ialdE X arX5_8 rfl (show k < 128 by omega) dX5_signAt_14 ?_
      refine v_iconst (v := nI 1) X dX5_signAt_15 (by decide) ?_
      rw [e1]
      refine v_icmp_le (tgt := 150) X dX5_signAt_16 (by decide) (fun h16 => ?_) (fun h16 => ?_)
      · skip
        have h2 : p.1 < 2 := by have := nI_lem (b := 1) (by omega) (by decide) h16; omega
        rw [sgA, hD, if_pos h2] at r3
        refine v_aload_n X dX5_signAt_150 rfl ?_
        refine v_getr X fl_X5_29 shX5_8 dX5_signAt_151 ?_
        refine v_iload_n X dX5_signAt_154 rfl ?_
        refine v_ialdE X arX5_8 rfl (show k < 128 by omega) dX5_signAt_155 ?_
        refine v_iconst (v := nI 1) X dX5_signAt_156 (by decide) ?_
        rw [e1]
        refine v_icmp_ne (tgt := 165) X dX5_signAt_157 (by decide) (fun h157 => ?_) (fun h157 => ?_)
        · skip
          have z : p.1 = 0 := by have := nI_eqn (by omega) (by decide) h157; omega
          rw [if_pos z] at r3
          have e2 : σ 163 k = nI p.2.1 := by rw [e2]; exact if_neg (by omega)
          refine v_bipush (v := nI 112) X dX5_signAt_165 (by decide) ?_
          refine v_aload_n X dX5_signAt_167 rfl ?_
          refine v_getr X fl_X5_32 shX5_9 dX5_signAt_168 ?_
          refine v_iload_n X dX5_signAt_171 rfl ?_
          refine v_ialdE X arX5_9 rfl (show k < 128 by omega) dX5_signAt_172 ?_
          refine v_iadd X dX5_signAt_173 ?_
          refine v_ret X hR dX5_signAt_174 rfl ?_
          exact ⟨rfl, by rw [e2, nI_add]; exact r3⟩
        · skip
          have z : ¬ p.1 = 0 := by have := nI_eqm (by omega) (by decide) h157; omega
          rw [if_neg z] at r3
          refine v_bipush (v := nI 70) X dX5_signAt_160 (by decide) ?_
          refine v_goto (tgt := 174) X dX5_signAt_162 (by decide) ?_
          refine v_ret X hR dX5_signAt_174 rfl ?_
          exact ⟨rfl, r3⟩
      · skip
        have h2 : ¬ p.1 < 2 := by have := nI_len (b := 1) (by omega) (by decide) h16; omega
        rw [if_neg h2] at hrec
        rw [sgA, hD, if_neg h2] at r3
        obtain ⟨hab1, hab2, -⟩ := wf_pair p2 hp h2
        have e2 : σ 163 k = nI p.2.1 := by rw [e2]; exact if_neg (by omega)
        have e3 : σ 164 k = nI p.2.2 := by rw [e3]; exact if_neg h2
        have la := hL p.2.1 (by omega)
        have lk := hL k hk
        refine v_aload_n X dX5_signAt_19 rfl ?_
        refine v_getr X fl_X5_53 shX5_19 dX5_signAt_20 ?_
        refine v_aload_n X dX5_signAt_23 rfl ?_
        refine v_getr X fl_X5_32 shX5_9 dX5_signAt_24 ?_
        refine v_iload_n X dX5_signAt_27 rfl ?_
        refine v_ialdE X arX5_9 rfl (show k < 128 by omega) dX5_signAt_28 ?_
        refine v_ialdE X arX5_19 e2 (show p.2.1 < 16 by omega) dX5_signAt_29 ?_
        rw [la]
        refine v_istore X dX5_signAt_30 (Nat.le_of_ble_eq_true rfl) ?_
        show V G Z _ 32 [_, _, _, _, _, _] _
        refine v_iload_n X dX5_signAt_32 rfl ?_
        refine v_if_ne (tgt := 39) X dX5_signAt_33 (by decide) (fun h33 => ?_) (fun h33 => ?_)
        · skip
          have za : ¬ a = 0 := fun z => h33 (by rw [z]; rfl)
          rw [if_neg za] at r3
          refine v_iload_n X dX5_signAt_39 rfl ?_
          refine v_iload X dX5_signAt_40 rfl ?_
          refine v_iconst (v := nI 1) X dX5_signAt_42 (by decide) ?_
          refine v_iadd X dX5_signAt_43 ?_
          refine v_top (nI_add _ _) ?_
          refine v_icmp_ne (tgt := 80) X dX5_signAt_44 (by decide) (fun h44 => ?_) (fun h44 => ?_)
          · skip
            have zb := nI_eqn (by omega) (by omega) h44
            rw [if_neg zb] at r3
            refine v_iload_n X dX5_signAt_80 rfl ?_
            refine v_aload_n X dX5_signAt_81 rfl ?_
            refine v_getr X fl_X5_53 shX5_19 dX5_signAt_82 ?_
            refine v_iload_n X dX5_signAt_85 rfl ?_
            refine v_ialdE X arX5_19 rfl (show k < 16 by omega) dX5_signAt_86 ?_
            rw [lk]
            refine v_iconst (v := nI 1) X dX5_signAt_87 (by decide) ?_
            refine v_isub X dX5_signAt_88 ?_
            refine v_top (nI_s1 (by omega)) ?_
            refine v_icmp_ne (tgt := 95) X dX5_signAt_89 (by decide) (fun h89 => ?_) (fun h89 => ?_)
            · skip
              have zc := nI_eqn (by omega) (by omega) h89
              rw [if_neg (by omega)] at r3
              refine v_iload_n X dX5_signAt_95 rfl ?_
              refine v_iload X dX5_signAt_96 rfl ?_
              refine v_icmp_gt (tgt := 105) X dX5_signAt_98 (by decide) (fun h98 => ?_) (fun h98 => ?_)
              · skip
                have zd := nI_ltm (by omega) (by omega) h98
                rw [if_neg (by omega)] at r3
                refine v_iconst (v := nI 0) X dX5_signAt_105 (by decide) ?_
                refine v_istore X dX5_signAt_106 (Nat.le_of_ble_eq_true rfl) ?_
                show V G Z _ 108 [_, _, _, _, _, _] _
                refine v_iload X dX5_signAt_108 rfl ?_
                refine v_if_eq (tgt := 119) X dX5_signAt_110 (by decide) (fun h110 => ?_) (fun h110 => ?_)
                · skip
                  refine v_iload_n X dX5_signAt_119 rfl ?_
                  refine v_iload X dX5_signAt_120 rfl ?_
                  refine v_isub X dX5_signAt_122 ?_
                  refine v_iconst (v := nI 2) X dX5_signAt_123 (by decide) ?_
                  refine v_isub X dX5_signAt_124 ?_
                  refine v_top (y := nI (a - (lnL P).getD p.2.1 0 - 2)) (by rw [pk_sub (by omega), pk_sub (by omega)]) ?_
                  refine v_istore_n X dX5_signAt_125 (Nat.le_of_ble_eq_true rfl) ?_
                  show V G Z _ 126 [_, _, _, _, _, _] _
                  refine v_iload X dX5_signAt_126 rfl ?_
                  refine v_if_eq (tgt := 140) X dX5_signAt_128 (by decide) (fun h128 => ?_) (fun h128 => ?_)
                  · skip
                    refine v_aload_n X dX5_signAt_140 rfl ?_
                    refine v_getr X fl_X5_35 shX5_10 dX5_signAt_141 ?_
                    refine v_iload_n X dX5_signAt_144 rfl ?_
                    refine v_ialdE X arX5_10 rfl (show k < 128 by omega) dX5_signAt_145 ?_
                    rw [e3]
                    refine v_istore_n X dX5_signAt_146 (Nat.le_of_ble_eq_true rfl) ?_
                    show V G Z _ 147 [_, _, _, _, _, _] _
                    refine v_goto (tgt := 9) X dX5_signAt_147 (by decide) ?_
                    exact ih p.2.2 _ _ _ (by omega) (by omega) (by omega) r3
                  · skip
                    exact absurd rfl h128
                · skip
                  exact absurd rfl h110
              · skip
                have zd := nI_ltn (by omega) (by omega) h98
                rw [if_pos (by omega)] at r3
                refine v_iconst (v := nI 1) X dX5_signAt_101 (by decide) ?_
                refine v_goto (tgt := 106) X dX5_signAt_102 (by decide) ?_
                refine v_istore X dX5_signAt_106 (Nat.le_of_ble_eq_true rfl) ?_
                show V G Z _ 108 [_, _, _, _, _, _] _
                refine v_iload X dX5_signAt_108 rfl ?_
                refine v_if_eq (tgt := 119) X dX5_signAt_110 (by decide) (fun h110 => ?_) (fun h110 => ?_)
                · skip
                  exact absurd h110 (by decide)
                · skip
                  refine v_iload_n X dX5_signAt_113 rfl ?_
                  refine v_iconst (v := nI 1) X dX5_signAt_114 (by decide) ?_
                  refine v_isub X dX5_signAt_115 ?_
                  refine v_goto (tgt := 125) X dX5_signAt_116 (by decide) ?_
                  refine v_top (pk_sub (by omega)) ?_
                  refine v_istore_n X dX5_signAt_125 (Nat.le_of_ble_eq_true rfl) ?_
                  show V G Z _ 126 [_, _, _, _, _, _] _
                  refine v_iload X dX5_signAt_126 rfl ?_
                  refine v_if_eq (tgt := 140) X dX5_signAt_128 (by decide) (fun h128 => ?_) (fun h128 => ?_)
                  · skip
                    exact absurd h128 (by decide)
                  · skip
                    refine v_aload_n X dX5_signAt_131 rfl ?_
                    refine v_getr X fl_X5_32 shX5_9 dX5_signAt_132 ?_
                    refine v_iload_n X dX5_signAt_135 rfl ?_
                    refine v_ialdE X arX5_9 rfl (show k < 128 by omega) dX5_signAt_136 ?_
                    refine v_goto (tgt := 146) X dX5_signAt_137 (by decide) ?_
                    rw [e2]
                    refine v_istore_n X dX5_signAt_146 (Nat.le_of_ble_eq_true rfl) ?_
                    show V G Z _ 147 [_, _, _, _, _, _] _
                    refine v_goto (tgt := 9) X dX5_signAt_147 (by decide) ?_
                    exact ih p.2.1 (a - 1) _ _ (by omega) (by omega) (by omega) r3
            · skip
              have zc := nI_eqm (by omega) (by omega) h89
              rw [if_pos (by omega)] at r3
              refine v_bipush (v := nI 41) X dX5_signAt_92 (by decide) ?_
              refine v_ret X hR dX5_signAt_94 rfl ?_
              exact ⟨rfl, r3⟩
          · skip
            have zb := nI_eqm (by omega) (by omega) h44
            rw [if_pos zb] at r3
            refine v_aload_n X dX5_signAt_47 rfl ?_
            refine v_getr X fl_X5_29 shX5_8 dX5_signAt_48 ?_
            refine v_iload_n X dX5_signAt_51 rfl ?_
            refine v_ialdE X arX5_8 rfl (show k < 128 by omega) dX5_signAt_52 ?_
            refine v_iconst (v := nI 2) X dX5_signAt_53 (by decide) ?_
            rw [e1]
            refine v_icmp_ne (tgt := 62) X dX5_signAt_54 (by decide) (fun h54 => ?_) (fun h54 => ?_)
            · skip
              have y1 := nI_eqn (by omega) (by decide) h54
              rw [if_neg y1] at r3
              refine v_aload_n X dX5_signAt_62 rfl ?_
              refine v_getr X fl_X5_29 shX5_8 dX5_signAt_63 ?_
              refine v_iload_n X dX5_signAt_66 rfl ?_
              refine v_ialdE X arX5_8 rfl (show k < 128 by omega) dX5_signAt_67 ?_
              refine v_iconst (v := nI 3) X dX5_signAt_68 (by decide) ?_
              rw [e1]
              refine v_icmp_ne (tgt := 77) X dX5_signAt_69 (by decide) (fun h69 => ?_) (fun h69 => ?_)
              · skip
                have y2 := nI_eqn (by omega) (by decide) h69
                rw [if_neg y2] at r3
                refine v_bipush (v := nI 62) X dX5_signAt_77 (by decide) ?_
                refine v_ret X hR dX5_signAt_79 rfl ?_
                exact ⟨rfl, r3⟩
              · skip
                have y2 := nI_eqm (by omega) (by decide) h69
                rw [if_pos y2] at r3
                refine v_bipush (v := nI 124) X dX5_signAt_72 (by decide) ?_
                refine v_goto (tgt := 79) X dX5_signAt_74 (by decide) ?_
                refine v_ret X hR dX5_signAt_79 rfl ?_
                exact ⟨rfl, r3⟩
            · skip
              have y1 := nI_eqm (by omega) (by decide) h54
              rw [if_pos y1] at r3
              refine v_bipush (v := nI 38) X dX5_signAt_57 (by decide) ?_
              refine v_goto (tgt := 79) X dX5_signAt_59 (by decide) ?_
              refine v_ret X hR dX5_signAt_79 rfl ?_
              exact ⟨rfl, r3⟩
        · skip
          have za : a = 0 := nI_eqm (b := 0) (by omega) (by decide) h33
          rw [if_pos za] at r3
          refine v_bipush (v := nI 40) X dX5_signAt_36 (by decide) ?_
          refine v_ret X hR dX5_signAt_38 rfl ?_
          exact ⟨rfl, r3⟩
  refine v_aload_n X dX5_signAt_0 rfl ?_
  refine v_geti X fl_X5_73 shX5_7 dX5_signAt_1 ?_
  rw [p3]
  refine v_iconst (v := nI 1) X dX5_signAt_4 (by decide) ?_
  refine v_isub X dX5_signAt_5 ?_
  refine v_top (nI_s1 h0) ?_
  refine v_istore_n X dX5_signAt_6 (Nat.le_of_ble_eq_true rfl) ?_
  show V G Z _ 7 [_, _, _, _, _, _] _
  refine v_iload_n X dX5_signAt_7 rfl ?_
  refine v_istore_n X dX5_signAt_8 (Nat.le_of_ble_eq_true rfl) ?_
  show V G Z _ 9 [_, _, _, _, _, _] _
  exact loop 11 (P.length - 1) a0 _ _ (by omega) (by omega) ha0 rfl
set_option maxHeartbeats 4000000 in
set_option maxRecDepth 100000 in
theorem y_sign (G : GT) {σ : Sg} {A : ASt} (hA : mR σ A) (x y : Int32) : MC G yX5_sign cX5_sign 4 .int 2 [.ref (G.2.2.1 156), .int x, .int y] σ (fun r τ => r = (sp_sign x y A).1 ∧ mR τ (sp_sign x y A).2 ∧ cO σ τ) := by
  refine MC_of (by decide) (ca1 rfl (ca1 rfl (ca1 rfl ca0))) (Nat.le_of_ble_eq_true rfl) ?_
  intro Z X hR
  show V G Z σ 0 [some (.ref (G.2.2.1 156)), some (.int x), some (.int y), none] []
  refine v_iload_n X dX5_sign_0 rfl ?_
  refine v_cals X (m_isSlot G _) cs_X5_106 (by decide) rfl (by rfl) (Nat.le_of_ble_eq_true rfl) dX5_sign_1 (fun r τ9 hq => ?_)
  obtain ⟨e9, rfl⟩ := hq
  rw [e9]
  refine v_if_ne (tgt := 9) X dX5_sign_4 (by decide) (fun h4 => ?_) (fun h4 => ?_)
  · skip
    obtain ⟨a, a6, rfl, aN⟩ := slot_t (bI_nz.mp h4)
    have aP := hA.1 a (by omega)
    refine v_iload_n X dX5_sign_9 rfl ?_
    refine v_iconst (v := (-1)) X dX5_sign_10 (by decide) ?_
    refine v_icmp_ge (tgt := 17) X dX5_sign_11 (by decide) (fun h11 => ?_) (fun h11 => ?_)
    · skip
      have hy := le_nl h11
      refine v_aload_n X dX5_sign_17 rfl ?_
      refine v_iload_n X dX5_sign_18 rfl ?_
      refine v_cali X (m_isEmpty G (s := a) (by omega) aP) cv_X5_120 obX5 rfl (by decide) rfl (by rfl) (Nat.le_of_ble_eq_true rfl) dX5_sign_19 (fun r τ9 hq => ?_)
      obtain ⟨e9, rfl⟩ := hq
      rw [e9]
      refine v_if_eq (tgt := 28) X dX5_sign_22 (by decide) (fun h22 => ?_) (fun h22 => ?_)
      · skip
        have a0 : ¬ (A.1 a).length = 0 := of_decide_eq_false (bI_z.mp h22)
        have ap : 0 < (A.1 a).length := by omega
        have a11 := aP.1
        refine v_aload_n X dX5_sign_28 rfl ?_
        refine v_iload_n X dX5_sign_29 rfl ?_
        refine v_calv X (m_look G (s := a) (by omega) aP) cv_X5_117 obX5 rfl (by decide) rfl (by rfl) (Nat.le_of_ble_eq_true rfl) dX5_sign_30 (fun τ0 hp => ?_)
        obtain ⟨d1, d2⟩ := hp
        obtain ⟨P, hPe⟩ : ∃ P, P = A.1 a := ⟨_, rfl⟩
        rw [← hPe] at a0 ap a11 d1
        have hw := d1.2.1
        have loop : ∀ (n k : Nat) (τ : Sg), P.length - k < n → k ≤ P.length → kO σ τ → wS τ P → lnA τ P k → V G Z τ 35 [some (.ref (G.2.2.1 156)), some (.int (nI a)), some (.int y), some (.int (nI k))] [] := by
          intro n
          induction n with
          | zero => intro k τ h; omega
          | succ n ih =>
            intro k τ hn hkl g1 g2 g3
            have hA1 := mR_kO hA g1
            obtain ⟨-, -, q3, q4⟩ := id g2
            refine v_iload_n X dX5_sign_35 rfl ?_
            refine v_aload_n X dX5_sign_36 rfl ?_
            refine v_geti X fl_X5_73 shX5_7 dX5_sign_37 ?_
            rw [q3]
            refine v_icmp_ge (tgt := 94) X dX5_sign_40 (by decide) (fun h40 => ?_) (fun h40 => ?_)
            · skip
              have hk := nI_lem (by omega) (by omega) h40
              have hk : k = P.length := by omega
              subst hk
              have hsg : sgN (A.1 a) = (lnL P).getD (P.length - 1) 0 := by rw [← hPe, sgN, if_pos ap]
              have hll := lnL_lt hw a11 (show P.length - 1 < P.length by omega)
              have lk := g3 (P.length - 1) (by omega)
              refine v_iload_n X dX5_sign_94 rfl ?_
              refine v_iconst (v := (-1)) X dX5_sign_95 (by decide) ?_
              refine v_icmp_ne (tgt := 113) X dX5_sign_96 (by decide) (fun h96 => ?_) (fun h96 => ?_)
              · skip
                refine v_iload_n X dX5_sign_113 rfl ?_
                refine v_aload_n X dX5_sign_114 rfl ?_
                refine v_getr X fl_X5_53 shX5_19 dX5_sign_115 ?_
                refine v_aload_n X dX5_sign_118 rfl ?_
                refine v_geti X fl_X5_73 shX5_7 dX5_sign_119 ?_
                rw [q3]
                refine v_iconst (v := nI 1) X dX5_sign_122 (by decide) ?_
                refine v_isub X dX5_sign_123 ?_
                refine v_ialdE X arX5_19 (nI_s1 ap) (show P.length - 1 < 16 by omega) dX5_sign_124 ?_
                rw [lk]
                refine v_icmp_ge (tgt := 136) X dX5_sign_125 (by decide) (fun h125 => ?_) (fun h125 => ?_)
                · skip
                  skip
                  refine v_bipush (v := (-6)) X dX5_sign_136 (by decide) ?_
                  refine v_ret X hR dX5_sign_138 rfl ?_
                  have e : sp_sign (nI a) y A = (-6, A) := by simp only [sp_sign, aN]; refine (if_neg hy).trans ((if_neg (by rw [← hPe]; exact a0)).trans ?_); rw [if_neg h96, hsg, if_pos h125]
                  rw [e]
                  exact ⟨rfl, hA1, g1.c⟩
                · skip
                  have hy0 : ¬ y < 0 := fun z => h96 (by
                    have h1 := Int32.lt_iff_toInt_lt.mp z
                    have h2 := Int32.le_iff_toInt_le.mp (nlt_le hy)
                    have e1 : (0 : Int32).toInt = 0 := by decide
                    have e2 : (-1 : Int32).toInt = -1 := by decide
                    exact Int32.toInt_inj.mp (by omega))
                  obtain ⟨c, hc, rfl, hcn⟩ := ix_of (by omega) hy0 h125
                  refine v_aload_n X dX5_sign_128 rfl ?_
                  refine v_iload_n X dX5_sign_129 rfl ?_
                  refine v_cali X (m_signAt G g2 a11 g3 ap hc) cv_X5_131 obX5 rfl (by decide) rfl (by rfl) (Nat.le_of_ble_eq_true rfl) dX5_sign_130 (fun r τ9 hq => ?_)
                  obtain ⟨e9, rfl⟩ := hq
                  rw [e9]
                  refine v_goto (tgt := 138) X dX5_sign_133 (by decide) ?_
                  refine v_ret X hR dX5_sign_138 rfl ?_
                  have e : sp_sign (nI a) (nI c) A = (sgA P 11 (P.length - 1) c, A) := by simp only [sp_sign, aN]; refine (if_neg hy).trans ((if_neg (by rw [← hPe]; exact a0)).trans ?_); rw [if_neg h96, hsg, if_neg h125, hcn, ← hPe]
                  rw [e]
                  exact ⟨rfl, hA1, g1.c⟩
              · skip
                refine v_aload_n X dX5_sign_99 rfl ?_
                refine v_getr X fl_X5_53 shX5_19 dX5_sign_100 ?_
                refine v_aload_n X dX5_sign_103 rfl ?_
                refine v_geti X fl_X5_73 shX5_7 dX5_sign_104 ?_
                rw [q3]
                refine v_iconst (v := nI 1) X dX5_sign_107 (by decide) ?_
                refine v_isub X dX5_sign_108 ?_
                refine v_ialdE X arX5_19 (nI_s1 ap) (show P.length - 1 < 16 by omega) dX5_sign_109 ?_
                refine v_goto (tgt := 138) X dX5_sign_110 (by decide) ?_
                refine v_ret X hR dX5_sign_138 rfl ?_
                rw [lk]
                have e : sp_sign (nI a) y A = (nI ((lnL P).getD (P.length - 1) 0), A) := by simp only [sp_sign, aN]; refine (if_neg hy).trans ((if_neg (by rw [← hPe]; exact a0)).trans ?_); rw [if_pos h96, hsg]
                rw [e]
                exact ⟨rfl, hA1, g1.c⟩
            · skip
              have hk := nI_len (by omega) (by omega) h40
              obtain ⟨p, hp⟩ : ∃ p, P[k]? = some p := ⟨P[k], List.getElem?_eq_getElem hk⟩
              obtain ⟨e1, e2, e3⟩ := q4 k p hp
              have e1 : τ 162 k = nI p.1 := e1
              have hk4 := (hw k p hp).k4
              have hrec := lnL_rec hw hp
              have fin : ∀ v : Nat, v = (lnL P).getD k 0 → V G Z τ 87 [some (.ref (G.2.2.1 156)), some (.int (nI a)), some (.int y), some (.int (nI k))] [.int (nI v), .int (nI k), .ref (G.2.2.1 170)] := by
                intro v hv
                refine v_iastE X arX5_19 rfl (show k < 16 by omega) dX5_sign_87 ?_
                refine v_iincE X dX5_sign_88 rfl (nI_inc k) ?_
                show V G Z _ 91 [_, _, _, _] _
                refine v_goto (tgt := 35) X dX5_sign_91 (by decide) ?_
                refine ih (k + 1) _ (by omega) (by omega) (g1.s2 (by omega)) (wS_cong g2 (by rw [s2_nc (by decide)]) (s2_nc (by decide)) (s2_nc (by decide)) (s2_nc (by decide))) (fun x hx => ?_)
                rw [s2_ap]
                by_cases hxk : x = k
                · rw [if_pos ⟨rfl, hxk⟩, hv, hxk]
                · rw [if_neg (fun z => hxk z.2)]; exact g3 x (by omega)
              refine v_aload_n X dX5_sign_43 rfl ?_
              refine v_getr X fl_X5_53 shX5_19 dX5_sign_44 ?_
              refine v_iload_n X dX5_sign_47 rfl ?_
              refine v_aload_n X dX5_sign_48 rfl ?_
              refine v_getr X fl_X5_29 shX5_8 dX5_sign_49 ?_
              refine v_iload_n X dX5_sign_52 rfl ?_
              refine v_ialdE X arX5_8 rfl (show k < 128 by omega) dX5_sign_53 ?_
              refine v_iconst (v := nI 1) X dX5_sign_54 (by decide) ?_
              rw [e1]
              refine v_icmp_le (tgt := 86) X dX5_sign_55 (by decide) (fun h55 => ?_) (fun h55 => ?_)
              · skip
                have h2 : p.1 < 2 := by have := nI_lem (b := 1) (by omega) (by decide) h55; omega
                rw [if_pos h2] at hrec
                refine v_iconst (v := nI 1) X dX5_sign_86 (by decide) ?_
                exact fin 1 (by omega)
              · skip
                have h2 : ¬ p.1 < 2 := by have := nI_len (b := 1) (by omega) (by decide) h55; omega
                rw [if_neg h2] at hrec
                obtain ⟨ha, hb, -⟩ := wf_pair hw hp h2
                have e2 : τ 163 k = nI p.2.1 := by rw [e2]; exact if_neg (by omega)
                have e3 : τ 164 k = nI p.2.2 := by rw [e3]; exact if_neg h2
                refine v_iconst (v := nI 3) X dX5_sign_58 (by decide) ?_
                refine v_aload_n X dX5_sign_59 rfl ?_
                refine v_getr X fl_X5_53 shX5_19 dX5_sign_60 ?_
                refine v_aload_n X dX5_sign_63 rfl ?_
                refine v_getr X fl_X5_32 shX5_9 dX5_sign_64 ?_
                refine v_iload_n X dX5_sign_67 rfl ?_
                refine v_ialdE X arX5_9 rfl (show k < 128 by omega) dX5_sign_68 ?_
                refine v_ialdE X arX5_19 e2 (show p.2.1 < 16 by omega) dX5_sign_69 ?_
                rw [g3 _ (by omega)]
                refine v_iadd X dX5_sign_70 ?_
                refine v_aload_n X dX5_sign_71 rfl ?_
                refine v_getr X fl_X5_53 shX5_19 dX5_sign_72 ?_
                refine v_aload_n X dX5_sign_75 rfl ?_
                refine v_getr X fl_X5_35 shX5_10 dX5_sign_76 ?_
                refine v_iload_n X dX5_sign_79 rfl ?_
                refine v_ialdE X arX5_10 rfl (show k < 128 by omega) dX5_sign_80 ?_
                refine v_ialdE X arX5_19 e3 (show p.2.2 < 16 by omega) dX5_sign_81 ?_
                rw [g3 _ (by omega), nI_add]
                refine v_iadd X dX5_sign_82 ?_
                refine v_top (nI_add _ _) ?_
                refine v_goto (tgt := 87) X dX5_sign_83 (by decide) ?_
                exact fin _ (by omega)
        refine v_iconst (v := nI 0) X dX5_sign_33 (by decide) ?_
        refine v_istore_n X dX5_sign_34 (Nat.le_of_ble_eq_true rfl) ?_
        show V G Z _ 35 [_, _, _, _] _
        exact loop (P.length + 1) 0 _ (by omega) (by omega) (pO.k d2) d1 (fun x h => by omega)
      · skip
        have a0 : (A.1 a).length = 0 := of_decide_eq_true (bI_nz.mp h22)
        refine v_bipush (v := (-3)) X dX5_sign_25 (by decide) ?_
        refine v_ret X hR dX5_sign_27 rfl ?_
        have e : sp_sign (nI a) y A = (-3, A) := by simp only [sp_sign, aN]; exact (if_neg hy).trans (if_pos a0)
        rw [e]
        exact ⟨rfl, hA, cO.rfl⟩
    · skip
      have hy := nl_le h11
      refine v_bipush (v := (-2)) X dX5_sign_14 (by decide) ?_
      refine v_ret X hR dX5_sign_16 rfl ?_
      have e : sp_sign (nI a) y A = (-2, A) := by simp only [sp_sign, aN]; exact if_pos hy
      rw [e]
      exact ⟨rfl, hA, cO.rfl⟩
  · skip
    have an := slot_f (bI_z.mp h4)
    refine v_iconst (v := (-1)) X dX5_sign_7 (by decide) ?_
    refine v_ret X hR dX5_sign_8 rfl ?_
    have e : sp_sign x y A = (-1, A) := by simp [sp_sign, an]
    rw [e]
    exact ⟨rfl, hA, cO.rfl⟩
