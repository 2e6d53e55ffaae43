theorem prK_le (A B : Sen) : ∀ k, k ≤ B.length → A.length ≤ (prK A B k).1.length ∧ (prK A B k).1.length ≤ A.length + k ∧ ∀ x, x < k → (prK A B k).2.getD x 0 < (prK A B k).1.length
  | 0, _ => ⟨Nat.le_refl _, Nat.le_refl _, fun x h => absurd h (Nat.not_lt_zero _)⟩
  | k + 1, h => by
    obtain ⟨p, hp⟩ : ∃ p, B[k]? = some p := ⟨B[k], List.getElem?_eq_getElem (by omega)⟩
    obtain ⟨i1, i2, i3⟩ := prK_le A B k (by omega)
    have hl := prK_len A B k (by omega)
    rw [prK_succ hp]
    have h1 := addP_le (prK A B k).1 (plc (prK A B k).2 p)
    have h2 := addP_le1 (prK A B k).1 (plc (prK A B k).2 p)
    refine ⟨by simp only [prS]; omega, by simp only [prS]; omega, fun x hx => ?_⟩
    simp only [prS, List.getD_eq_getElem?_getD]
    rcases Nat.lt_or_ge x k with z | z
    · rw [List.getElem?_append_left (by omega), ← List.getD_eq_getElem?_getD]
      have := i3 x z
      omega
    · have : x = k := by omega
      subst this
      rw [List.getElem?_append_right (by omega), hl, Nat.sub_self]
      exact idx_lt _ _
theorem prK_2s {A B : Sen} {k : Nat} {p : Pt} (hk : k < B.length) (hp : B[k]? = some p) : ∀ x, x < k → (prK A B (k + 1)).2.getD x 0 = (prK A B k).2.getD x 0 := by
  intro x hx
  have hl := prK_len A B k (by omega)
  rw [prK_succ hp]
  simp only [prS, List.getD_eq_getElem?_getD]
  rw [List.getElem?_append_left (by omega)]
theorem prK_2k {A B : Sen} {k : Nat} {p : Pt} (hk : k < B.length) (hp : B[k]? = some p) : (prK A B (k + 1)).2.getD k 0 = (addP (prK A B k).1 (plc (prK A B k).2 p)).idxOf (plc (prK A B k).2 p) := by
  have hl := prK_len A B k (by omega)
  rw [prK_succ hp]
  simp only [prS, List.getD_eq_getElem?_getD]
  rw [List.getElem?_append_right (by omega), hl, Nat.sub_self]
  rfl
set_option maxHeartbeats 4000000 in
set_option maxRecDepth 100000 in
theorem m_put (G : GT) {σ : Sg} {ia ib : Nat} (hia : ia < 18) (hib : ib < 18) {A B : Sen} (hA : mS σ ia A) (hB : mS σ ib B) (hA0 : 0 < A.length) (hB0 : 0 < B.length) {t : Nat} (ht : 2 ≤ t ∧ t ≤ 4) : MV G yX5_put cX5_put 8 1 [.ref (G.2.2.1 156), .int (nI ia), .int (nI ib), .int (nI t)] σ (fun τ => kO σ τ ∧ wS τ (prP A B t)) := by
  refine MV_of (by decide) (ca1 rfl (ca1 rfl (ca1 rfl (ca1 rfl ca0)))) (Nat.le_of_ble_eq_true rfl) ?_
  intro Z X hR
  show V G Z σ 0 [some (.ref (G.2.2.1 156)), some (.int (nI ia)), some (.int (nI ib)), some (.int (nI t)), none, none, none, none] []
  have hA11 := hA.1
  have hB11 := hB.1
  obtain ⟨b1, b2, b3, b4⟩ := id hB
  have loop : ∀ (n k : Nat) (τ : Sg) (l6 l7 : Option Value), B.length - k < n → k ≤ B.length → kO σ τ → wS τ (prK A B k).1 → (∀ x, x < k → τ 168 x = nI ((prK A B k).2.getD x 0)) → V G Z τ 16 [some (.ref (G.2.2.1 156)), some (.int (nI ia)), some (.int (nI ib)), some (.int (nI t)), some (.int (nI (A.length - 1))), some (.int (nI k)), l6, l7] [] := by
    intro n
    induction n with
    | zero => intro k τ l6 l7 h; omega
    | succ n ih =>
      intro k τ l6 l7 hn hkl g1 g2 g3
      obtain ⟨k1, k2, k3⟩ := prK_le A B k hkl
      have e0 : τ 157 ib = nI B.length := by rw [g1.1 157 (by omega)]; exact b3
      refine v_iload X dX5_put_16 rfl ?_
      refine v_aload_n X dX5_put_18 rfl ?_
      refine v_getr X fl_X5_7 shX5_0 dX5_put_19 ?_
      refine v_iload_n X dX5_put_22 rfl ?_
      refine v_ialdE X arX5_0 rfl (by first | assumption | omega) dX5_put_23 ?_
      rw [e0]
      refine v_icmp_ge (tgt := 132) X dX5_put_24 (by decide) (fun h24 => ?_) (fun h24 => ?_)
      · skip
        have hk := nI_lem (by omega) (by omega) h24
        have hk : k = B.length := by omega
        subst hk
        refine v_aload_n X dX5_put_132 rfl ?_
        refine v_iload_n X dX5_put_133 rfl ?_
        refine v_iload X dX5_put_134 rfl ?_
        refine v_aload_n X dX5_put_136 rfl ?_
        refine v_getr X fl_X5_47 shX5_17 dX5_put_137 ?_
        refine v_aload_n X dX5_put_140 rfl ?_
        refine v_getr X fl_X5_7 shX5_0 dX5_put_141 ?_
        refine v_iload_n X dX5_put_144 rfl ?_
        refine v_ialdE X arX5_0 rfl (by first | assumption | omega) dX5_put_145 ?_
        rw [e0]
        refine v_iconst (v := nI 1) X dX5_put_146 (by decide) ?_
        refine v_isub X dX5_put_147 ?_
        refine v_ialdE X arX5_17 (nI_s1 hB0) (show B.length - 1 < 16 by omega) dX5_put_148 ?_
        rw [g3 _ (by omega)]
        have z1 : pA (t, A.length - 1, (prK A B B.length).2.getD (B.length - 1) 0) = nI (A.length - 1) := if_neg (show ¬ t = 1 by omega)
        have z2 : pB (t, A.length - 1, (prK A B B.length).2.getD (B.length - 1) 0) = nI ((prK A B B.length).2.getD (B.length - 1) 0) := if_neg (show ¬ t < 2 by omega)
        rw [← z1, ← z2]
        show V G Z τ 149 _ [_, _, .int (pK (t, A.length - 1, (prK A B B.length).2.getD (B.length - 1) 0)), _]
        refine v_cali X (m_partOf G (q := (t, A.length - 1, (prK A B B.length).2.getD (B.length - 1) 0)) g2 (by omega) (Or.inr (Or.inr ⟨ht.1, ht.2, by show A.length - 1 < _; omega, k3 _ (by omega)⟩))) cv_X5_82 obX5 rfl (by decide) rfl (by rfl) (Nat.le_of_ble_eq_true rfl) dX5_put_149 (fun r1 τ1 hp1 => ?_)
        obtain ⟨rfl, d1, d2⟩ := hp1
        refine v_pop X dX5_put_152 rfl ?_
        refine v_vret X hR dX5_put_153 ?_
        exact ⟨g1.p d2, d1⟩
      · skip
        have hk := nI_len (by omega) (by omega) h24
        obtain ⟨p, hp⟩ : ∃ p, B[k]? = some p := ⟨B[k], List.getElem?_eq_getElem hk⟩
        obtain ⟨a1, a2, a3⟩ := b4 k p hp
        have e1 : τ 158 (11 * ib + k) = pK p := by rw [g1.1 158 (by omega)]; exact a1
        have e2 : τ 159 (11 * ib + k) = pA p := by rw [g1.1 159 (by omega)]; exact a2
        have e3 : τ 160 (11 * ib + k) = pB p := by rw [g1.1 160 (by omega)]; exact a3
        have hok := b2 k p hp
        have hk4 := hok.k4
        have s1' := prK_2s (A := A) hk hp
        have s2' := prK_2k (A := A) hk hp
        refine v_bipush (v := nI 11) X dX5_put_27 (by decide) ?_
        refine v_iload_n X dX5_put_29 rfl ?_
        refine v_imul X dX5_put_30 ?_
        refine v_iload X dX5_put_31 rfl ?_
        refine v_iadd X dX5_put_33 ?_
        refine v_top (y := nI (11 * ib + k)) (by rw [pk_mul, nI_add]) ?_
        refine v_istore X dX5_put_34 (Nat.le_of_ble_eq_true rfl) ?_
        show V G Z _ 36 [_, _, _, _, _, _, _, _] _
        refine v_aload_n X dX5_put_36 rfl ?_
        refine v_getr X fl_X5_13 shX5_1 dX5_put_37 ?_
        refine v_iload X dX5_put_40 rfl ?_
        refine v_ialdE X arX5_1 rfl (show 11 * ib + k < 198 by omega) dX5_put_42 ?_
        refine v_iconst (v := nI 1) X dX5_put_43 (by decide) ?_
        rw [e1]
        refine v_icmp_le (tgt := 51) X dX5_put_44 (by decide) (fun h44 => ?_) (fun h44 => ?_)
        · skip
          have h2 : p.1 < 2 := by have := nI_lem (a := p.1) (b := 1) (by omega) (by decide) h44; omega
          have hq : okp (prK A B k).1.length p := by
            rcases hok with q | q | ⟨q, -⟩
            · exact Or.inl q
            · exact Or.inr (Or.inl q)
            · omega
          have hpl : plc (prK A B k).2 p = p := if_pos h2
          refine v_iconst (v := nI 0) X dX5_put_51 (by decide) ?_
          refine v_istore X dX5_put_52 (Nat.le_of_ble_eq_true rfl) ?_
          show V G Z _ 54 [_, _, _, _, _, _, _, _] _
          refine v_aload_n X dX5_put_54 rfl ?_
          refine v_getr X fl_X5_47 shX5_17 dX5_put_55 ?_
          refine v_iload X dX5_put_58 rfl ?_
          refine v_aload_n X dX5_put_60 rfl ?_
          refine v_aload_n X dX5_put_61 rfl ?_
          refine v_getr X fl_X5_13 shX5_1 dX5_put_62 ?_
          refine v_iload X dX5_put_65 rfl ?_
          refine v_ialdE X arX5_1 rfl (show 11 * ib + k < 198 by omega) dX5_put_67 ?_
          rw [e1]
          refine v_iload X dX5_put_68 rfl ?_
          refine v_if_eq (tgt := 88) X dX5_put_70 (by decide) (fun h70 => ?_) (fun h70 => ?_)
          · skip
            refine v_aload_n X dX5_put_88 rfl ?_
            refine v_getr X fl_X5_16 shX5_2 dX5_put_89 ?_
            refine v_iload X dX5_put_92 rfl ?_
            refine v_ialdE X arX5_2 rfl (show 11 * ib + k < 198 by omega) dX5_put_94 ?_
            rw [e2]
            refine v_iload X dX5_put_95 rfl ?_
            refine v_if_eq (tgt := 115) X dX5_put_97 (by decide) (fun h97 => ?_) (fun h97 => ?_)
            · skip
              refine v_aload_n X dX5_put_115 rfl ?_
              refine v_getr X fl_X5_19 shX5_3 dX5_put_116 ?_
              refine v_iload X dX5_put_119 rfl ?_
              refine v_ialdE X arX5_3 rfl (show 11 * ib + k < 198 by omega) dX5_put_121 ?_
              rw [e3]
              refine v_cali X (m_partOf G g2 (by omega) hq) cv_X5_82 obX5 rfl (by decide) rfl (by rfl) (Nat.le_of_ble_eq_true rfl) dX5_put_122 (fun r1 τ1 hp1 => ?_)
              obtain ⟨rfl, d1, d2⟩ := hp1
              refine v_iastE X arX5_17 rfl (show k < 16 by omega) dX5_put_125 ?_
              refine v_iincE X dX5_put_126 rfl (nI_inc k) ?_
              show V G Z _ 129 [_, _, _, _, _, _, _, _] _
              refine v_goto (tgt := 16) X dX5_put_129 (by decide) ?_
              refine ih (k + 1) _ _ _ (by omega) (by omega) ((g1.p d2).s2 (by omega)) ?_ (fun x hx => ?_)
              · rw [prK_succ hp]
                show wS _ (addP (prK A B k).1 (plc (prK A B k).2 p))
                rw [hpl]
                exact wS_cong d1 (by rw [s2_nc (by decide)]) (s2_nc (by decide)) (s2_nc (by decide)) (s2_nc (by decide))
              · rcases Nat.lt_or_ge x k with z | z
                · rw [s2_ap, if_neg (by omega), d2.1 168 (by decide) (by decide) (by decide) (by decide), s1' x z]; exact g3 x z
                · have hxk : x = k := by omega
                  subst hxk
                  rw [s2_at, s2', hpl]
            · skip
              exact absurd rfl h97
          · skip
            exact absurd rfl h70
        · skip
          have h2 : ¬ p.1 < 2 := by have := nI_len (a := p.1) (b := 1) (by omega) (by decide) h44; omega
          obtain ⟨ha, hb, -⟩ := wf_pair b2 hp h2
          have e2 : τ 159 (11 * ib + k) = nI p.2.1 := by rw [e2]; exact if_neg (by omega)
          have e3 : τ 160 (11 * ib + k) = nI p.2.2 := by rw [e3]; exact if_neg h2
          have hpl : plc (prK A B k).2 p = (p.1, (prK A B k).2.getD p.2.1 0, (prK A B k).2.getD p.2.2 0) := if_neg h2
          have hq : okp (prK A B k).1.length (p.1, (prK A B k).2.getD p.2.1 0, (prK A B k).2.getD p.2.2 0) := Or.inr (Or.inr ⟨by show 2 ≤ p.1; omega, hk4, k3 _ ha, k3 _ hb⟩)
          refine v_iconst (v := nI 1) X dX5_put_47 (by decide) ?_
          refine v_goto (tgt := 52) X dX5_put_48 (by decide) ?_
          refine v_istore X dX5_put_52 (Nat.le_of_ble_eq_true rfl) ?_
          show V G Z _ 54 [_, _, _, _, _, _, _, _] _
          refine v_aload_n X dX5_put_54 rfl ?_
          refine v_getr X fl_X5_47 shX5_17 dX5_put_55 ?_
          refine v_iload X dX5_put_58 rfl ?_
          refine v_aload_n X dX5_put_60 rfl ?_
          refine v_aload_n X dX5_put_61 rfl ?_
          refine v_getr X fl_X5_13 shX5_1 dX5_put_62 ?_
          refine v_iload X dX5_put_65 rfl ?_
          refine v_ialdE X arX5_1 rfl (show 11 * ib + k < 198 by omega) dX5_put_67 ?_
          rw [e1]
          refine v_iload X dX5_put_68 rfl ?_
          refine v_if_eq (tgt := 88) X dX5_put_70 (by decide) (fun h70 => ?_) (fun h70 => ?_)
          · skip
            exact absurd h70 (by decide)
          · skip
            refine v_aload_n X dX5_put_73 rfl ?_
            refine v_getr X fl_X5_47 shX5_17 dX5_put_74 ?_
            refine v_aload_n X dX5_put_77 rfl ?_
            refine v_getr X fl_X5_16 shX5_2 dX5_put_78 ?_
            refine v_iload X dX5_put_81 rfl ?_
            refine v_ialdE X arX5_2 rfl (show 11 * ib + k < 198 by omega) dX5_put_83 ?_
            refine v_ialdE X arX5_17 e2 (show p.2.1 < 16 by omega) dX5_put_84 ?_
            rw [g3 _ ha]
            refine v_goto (tgt := 95) X dX5_put_85 (by decide) ?_
            refine v_iload X dX5_put_95 rfl ?_
            refine v_if_eq (tgt := 115) X dX5_put_97 (by decide) (fun h97 => ?_) (fun h97 => ?_)
            · skip
              exact absurd h97 (by decide)
            · skip
              refine v_aload_n X dX5_put_100 rfl ?_
              refine v_getr X fl_X5_47 shX5_17 dX5_put_101 ?_
              refine v_aload_n X dX5_put_104 rfl ?_
              refine v_getr X fl_X5_19 shX5_3 dX5_put_105 ?_
              refine v_iload X dX5_put_108 rfl ?_
              refine v_ialdE X arX5_3 rfl (show 11 * ib + k < 198 by omega) dX5_put_110 ?_
              refine v_ialdE X arX5_17 e3 (show p.2.2 < 16 by omega) dX5_put_111 ?_
              rw [g3 _ hb]
              refine v_goto (tgt := 122) X dX5_put_112 (by decide) ?_
              have z1 : pA (p.1, (prK A B k).2.getD p.2.1 0, (prK A B k).2.getD p.2.2 0) = nI ((prK A B k).2.getD p.2.1 0) := if_neg (show ¬ p.1 = 1 by omega)
              have z2 : pB (p.1, (prK A B k).2.getD p.2.1 0, (prK A B k).2.getD p.2.2 0) = nI ((prK A B k).2.getD p.2.2 0) := if_neg h2
              rw [← z1, ← z2]
              show V G Z τ 122 _ [_, _, .int (pK (p.1, (prK A B k).2.getD p.2.1 0, (prK A B k).2.getD p.2.2 0)), _, _, _]
              refine v_cali X (m_partOf G g2 (by omega) hq) cv_X5_82 obX5 rfl (by decide) rfl (by rfl) (Nat.le_of_ble_eq_true rfl) dX5_put_122 (fun r1 τ1 hp1 => ?_)
              obtain ⟨rfl, d1, d2⟩ := hp1
              refine v_iastE X arX5_17 rfl (show k < 16 by omega) dX5_put_125 ?_
              refine v_iincE X dX5_put_126 rfl (nI_inc k) ?_
              show V G Z _ 129 [_, _, _, _, _, _, _, _] _
              refine v_goto (tgt := 16) X dX5_put_129 (by decide) ?_
              refine ih (k + 1) _ _ _ (by omega) (by omega) ((g1.p d2).s2 (by omega)) ?_ (fun x hx => ?_)
              · rw [prK_succ hp]
                show wS _ (addP (prK A B k).1 (plc (prK A B k).2 p))
                rw [hpl]
                exact wS_cong d1 (by rw [s2_nc (by decide)]) (s2_nc (by decide)) (s2_nc (by decide)) (s2_nc (by decide))
              · rcases Nat.lt_or_ge x k with z | z
                · rw [s2_ap, if_neg (by omega), d2.1 168 (by decide) (by decide) (by decide) (by decide), s1' x z]; exact g3 x z
                · have hxk : x = k := by omega
                  subst hxk
                  rw [s2_at, s2', hpl]
  refine v_aload_n X dX5_put_0 rfl ?_
  refine v_iload_n X dX5_put_1 rfl ?_
  refine v_calv X (m_look G hia hA) cv_X5_117 obX5 rfl (by decide) rfl (by rfl) (Nat.le_of_ble_eq_true rfl) dX5_put_2 (fun τ hp => ?_)
  obtain ⟨d1, d2⟩ := hp
  refine v_aload_n X dX5_put_5 rfl ?_
  refine v_geti X fl_X5_73 shX5_7 dX5_put_6 ?_
  rw [d1.2.2.1]
  refine v_iconst (v := nI 1) X dX5_put_9 (by decide) ?_
  refine v_isub X dX5_put_10 ?_
  refine v_top (nI_s1 hA0) ?_
  refine v_istore X dX5_put_11 (Nat.le_of_ble_eq_true rfl) ?_
  show V G Z _ 13 [_, _, _, _, _, _, _, _] _
  refine v_iconst (v := nI 0) X dX5_put_13 (by decide) ?_
  refine v_istore X dX5_put_14 (Nat.le_of_ble_eq_true rfl) ?_
  show V G Z _ 16 [_, _, _, _, _, _, _, _] _
  exact loop (B.length + 1) 0 _ _ _ (by omega) (by omega) (pO.k d2) d1 (fun x h => by omega)
set_option maxHeartbeats 4000000 in
set_option maxRecDepth 100000 in
theorem y_make (G : GT) {σ : Sg} {A : ASt} (hA : mR σ A) (x y z w : Int32) : MC G yX5_make cX5_make 5 .int 2 [.ref (G.2.2.1 156), .int x, .int y, .int z, .int w] σ (fun r τ => r = (sp_make x y z w A).1 ∧ mR τ (sp_make x y z w A).2 ∧ cO σ τ) := by
  refine MC_of (by decide) (ca1 rfl (ca1 rfl (ca1 rfl (ca1 rfl (ca1 rfl ca0))))) (Nat.le_of_ble_eq_true rfl) ?_
  intro Z X hR
  show V G Z σ 0 [some (.ref (G.2.2.1 156)), some (.int x), some (.int y), some (.int z), some (.int w)] []
  refine v_iload_n X dX5_make_0 rfl ?_
  refine v_cals X (m_isSlot G _) cs_X5_106 (by decide) rfl (by rfl) (Nat.le_of_ble_eq_true rfl) dX5_make_1 (fun r τ9 hq => ?_)
  obtain ⟨e9, rfl⟩ := hq
  rw [e9]
  refine v_if_eq (tgt := 21) X dX5_make_4 (by decide) (fun h4 => ?_) (fun h4 => ?_)
  · skip
    have tn := slot_f (bI_z.mp h4)
    refine v_iconst (v := (-1)) X dX5_make_21 (by decide) ?_
    refine v_ret X hR dX5_make_22 rfl ?_
    have e : sp_make x y z w A = (-1, A) := by simp [sp_make, tn]
    rw [e]
    exact ⟨rfl, hA, cO.rfl⟩
  · skip
    obtain ⟨t, t6, rfl, tN⟩ := slot_t (bI_nz.mp h4)
    have tP := hA.1 t (by omega)
    refine v_iload_n X dX5_make_7 rfl ?_
    refine v_cals X (m_isSlot G _) cs_X5_106 (by decide) rfl (by rfl) (Nat.le_of_ble_eq_true rfl) dX5_make_8 (fun r τ9 hq => ?_)
    obtain ⟨e9, rfl⟩ := hq
    rw [e9]
    refine v_if_eq (tgt := 21) X dX5_make_11 (by decide) (fun h11 => ?_) (fun h11 => ?_)
    · skip
      have an := slot_f (bI_z.mp h11)
      refine v_iconst (v := (-1)) X dX5_make_21 (by decide) ?_
      refine v_ret X hR dX5_make_22 rfl ?_
      have e : sp_make (nI t) y z w A = (-1, A) := by simp [sp_make, tN, an]
      rw [e]
      exact ⟨rfl, hA, cO.rfl⟩
    · skip
      obtain ⟨a, a6, rfl, aN⟩ := slot_t (bI_nz.mp h11)
      have aP := hA.1 a (by omega)
      refine v_iload_n X dX5_make_14 rfl ?_
      refine v_cals X (m_isSlot G _) cs_X5_106 (by decide) rfl (by rfl) (Nat.le_of_ble_eq_true rfl) dX5_make_15 (fun r τ9 hq => ?_)
      obtain ⟨e9, rfl⟩ := hq
      rw [e9]
      refine v_if_ne (tgt := 23) X dX5_make_18 (by decide) (fun h18 => ?_) (fun h18 => ?_)
      · skip
        obtain ⟨b, b6, rfl, bN⟩ := slot_t (bI_nz.mp h18)
        have bP := hA.1 b (by omega)
        refine v_iload X dX5_make_23 rfl ?_
        refine v_iconst (v := nI 0) X dX5_make_25 (by decide) ?_
        refine v_iconst (v := nI 2) X dX5_make_26 (by decide) ?_
        refine v_cals X (m_in G _ _ _) cs_X5_69 (by decide) rfl (by rfl) (Nat.le_of_ble_eq_true rfl) dX5_make_27 (fun r τ9 hq => ?_)
        obtain ⟨e9, rfl⟩ := hq
        rw [e9]
        refine v_if_ne (tgt := 36) X dX5_make_30 (by decide) (fun h30 => ?_) (fun h30 => ?_)
        · skip
          have hr := in_t (bI_nz.mp h30)
          obtain ⟨k, hk, rfl, hkn⟩ := ix_of (x := w) (n := 3) (by decide) (fun q => hr (Or.inl q)) (fun q => hr (Or.inr (Int32.lt_of_lt_of_le (by decide) q)))
          refine v_aload_n X dX5_make_36 rfl ?_
          refine v_iload_n X dX5_make_37 rfl ?_
          refine v_cali X (m_isEmpty G (s := a) (by omega) aP) cv_X5_120 obX5 rfl (by decide) rfl (by rfl) (Nat.le_of_ble_eq_true rfl) dX5_make_38 (fun r τ9 hq => ?_)
          obtain ⟨e9, rfl⟩ := hq
          rw [e9]
          refine v_if_ne (tgt := 52) X dX5_make_41 (by decide) (fun h41 => ?_) (fun h41 => ?_)
          · skip
            have a0 : (A.1 a).length = 0 := of_decide_eq_true (bI_nz.mp h41)
            refine v_bipush (v := (-3)) X dX5_make_52 (by decide) ?_
            refine v_ret X hR dX5_make_54 rfl ?_
            have e : sp_make (nI t) (nI a) (nI b) (nI k) A = (-3, A) := by simp only [sp_make, tN, aN, bN]; exact (if_neg hr).trans (if_pos (Or.inl a0))
            rw [e]
            exact ⟨rfl, hA, cO.rfl⟩
          · skip
            have a0 : ¬ (A.1 a).length = 0 := of_decide_eq_false (bI_z.mp h41)
            have ap : 0 < (A.1 a).length := by omega
            refine v_aload_n X dX5_make_44 rfl ?_
            refine v_iload_n X dX5_make_45 rfl ?_
            refine v_cali X (m_isEmpty G (s := b) (by omega) bP) cv_X5_120 obX5 rfl (by decide) rfl (by rfl) (Nat.le_of_ble_eq_true rfl) dX5_make_46 (fun r τ9 hq => ?_)
            obtain ⟨e9, rfl⟩ := hq
            rw [e9]
            refine v_if_eq (tgt := 55) X dX5_make_49 (by decide) (fun h49 => ?_) (fun h49 => ?_)
            · skip
              have b0 : ¬ (A.1 b).length = 0 := of_decide_eq_false (bI_z.mp h49)
              have bp : 0 < (A.1 b).length := by omega
              refine v_aload_n X dX5_make_55 rfl ?_
              refine v_iload_n X dX5_make_56 rfl ?_
              refine v_iload_n X dX5_make_57 rfl ?_
              refine v_iconst (v := nI 2) X dX5_make_58 (by decide) ?_
              refine v_iload X dX5_make_59 rfl ?_
              refine v_iadd X dX5_make_61 ?_
              refine v_top (nI_add 2 k) ?_
              refine v_calv X (m_put G (t := 2 + k) (show a < 18 by omega) (show b < 18 by omega) aP bP ap bp (by omega)) cv_X5_123 obX5 rfl (by decide) rfl (by rfl) (Nat.le_of_ble_eq_true rfl) dX5_make_62 (fun τ hp => ?_)
              obtain ⟨o1, g1⟩ := hp
              have hA1 := mR_kO hA o1
              have hm1 := o1.c
              have hg := g1.1
              refine v_aload_n X dX5_make_65 rfl ?_
              refine v_geti X fl_X5_73 shX5_7 dX5_make_66 ?_
              refine v_bipush (v := nI 11) X dX5_make_69 (by decide) ?_
              rw [g1.2.2.1]
              refine v_icmp_le (tgt := 79) X dX5_make_71 (by decide) (fun h71 => ?_) (fun h71 => ?_)
              · skip
                have hle := nI_lem (b := 11) (by omega) (by decide) h71
                refine v_aload_n X dX5_make_79 rfl ?_
                refine v_iload_n X dX5_make_80 rfl ?_
                refine v_cali X (m_keep G (s := t) (by omega) g1 hle) cv_X5_113 obX5 rfl (by decide) rfl (by rfl) (Nat.le_of_ble_eq_true rfl) dX5_make_81 (fun r τ2 hp2 => ?_)
                obtain ⟨rfl, q1, q2, q3⟩ := hp2
                refine v_ret X hR dX5_make_84 rfl ?_
                have e : sp_make (nI t) (nI a) (nI b) (nI k) A = (nI (prP (A.1 a) (A.1 b) (2 + k)).length, (stS A.1 t (prP (A.1 a) (A.1 b) (2 + k)), A.2)) := by simp only [sp_make, tN, aN, bN]; refine (if_neg hr).trans ((if_neg (by omega)).trans ?_); rw [hkn, if_neg (by omega)]
                rw [e]
                exact ⟨rfl, mR_slot (by omega) hA1 q1 q2 q3, hm1.trans (fun i hi => q2 i (by omega))⟩
              · skip
                have hgt := nI_len (b := 11) (by omega) (by decide) h71
                refine v_bipush (v := (-4)) X dX5_make_74 (by decide) ?_
                refine v_goto (tgt := 84) X dX5_make_76 (by decide) ?_
                refine v_ret X hR dX5_make_84 rfl ?_
                have e : sp_make (nI t) (nI a) (nI b) (nI k) A = (-4, A) := by simp only [sp_make, tN, aN, bN]; refine (if_neg hr).trans ((if_neg (by omega)).trans ?_); rw [hkn, if_pos hgt]
                rw [e]
                exact ⟨rfl, hA1, hm1⟩
            · skip
              have b0 : (A.1 b).length = 0 := of_decide_eq_true (bI_nz.mp h49)
              refine v_bipush (v := (-3)) X dX5_make_52 (by decide) ?_
              refine v_ret X hR dX5_make_54 rfl ?_
              have e : sp_make (nI t) (nI a) (nI b) (nI k) A = (-3, A) := by simp only [sp_make, tN, aN, bN]; exact (if_neg hr).trans (if_pos (Or.inr b0))
              rw [e]
              exact ⟨rfl, hA, cO.rfl⟩
        · skip
          have hr := in_f (bI_z.mp h30)
          refine v_bipush (v := (-2)) X dX5_make_33 (by decide) ?_
          refine v_ret X hR dX5_make_35 rfl ?_
          have e : sp_make (nI t) (nI a) (nI b) w A = (-2, A) := by simp only [sp_make, tN, aN, bN]; exact if_pos hr
          rw [e]
          exact ⟨rfl, hA, cO.rfl⟩
      · skip
        have bn := slot_f (bI_z.mp h18)
        refine v_iconst (v := (-1)) X dX5_make_21 (by decide) ?_
        refine v_ret X hR dX5_make_22 rfl ?_
        have e : sp_make (nI t) (nI a) z w A = (-1, A) := by simp [sp_make, tN, aN, bn]
        rw [e]
        exact ⟨rfl, hA, cO.rfl⟩

set_option maxHeartbeats 4000000 in
set_option maxRecDepth 100000 in
theorem y_drop (G : GT) {σ : Sg} {A : ASt} (hA : mR σ A) (x : Int32) : MC G yX5_drop cX5_drop 3 .int 2 [.ref (G.2.2.1 156), .int x] σ (fun r τ => r = (sp_drop x A).1 ∧ mR τ (sp_drop x A).2 ∧ cO σ τ) := by
  refine MC_of (by decide) (ca1 rfl (ca1 rfl ca0)) (Nat.le_of_ble_eq_true rfl) ?_
  intro Z X hR
  show V G Z σ 0 [some (.ref (G.2.2.1 156)), some (.int x), none] []
  refine v_iload_n X dX5_drop_0 rfl ?_
  refine v_cals X (m_isSlot G _) cs_X5_106 (by decide) rfl (by rfl) (Nat.le_of_ble_eq_true rfl) dX5_drop_1 (fun r τ9 hq => ?_)
  obtain ⟨e9, rfl⟩ := hq
  rw [e9]
  refine v_if_ne (tgt := 9) X dX5_drop_4 (by decide) (fun h4 => ?_) (fun h4 => ?_)
  · skip
    obtain ⟨a, a6, rfl, aN⟩ := slot_t (bI_nz.mp h4)
    have aP := hA.1 a (by omega)
    refine v_aload_n X dX5_drop_9 rfl ?_
    refine v_iload_n X dX5_drop_10 rfl ?_
    refine v_cali X (m_isEmpty G (s := a) (by omega) aP) cv_X5_120 obX5 rfl (by decide) rfl (by rfl) (Nat.le_of_ble_eq_true rfl) dX5_drop_11 (fun r τ9 hq => ?_)
    obtain ⟨e9, rfl⟩ := hq
    rw [e9]
    refine v_if_eq (tgt := 21) X dX5_drop_14 (by decide) (fun h14 => ?_) (fun h14 => ?_)
    · skip
      have a0 : ¬ (A.1 a).length = 0 := of_decide_eq_false (bI_z.mp h14)
      have ap : 0 < (A.1 a).length := by omega
      refine v_iconst (v := nI 1) X dX5_drop_21 (by decide) ?_
      refine v_istore_n X dX5_drop_22 (Nat.le_of_ble_eq_true rfl) ?_
      show V G Z _ 23 [_, _, _] _
      refine v_aload_n X dX5_drop_23 rfl ?_
      refine v_getr X fl_X5_7 shX5_0 dX5_drop_24 ?_
      refine v_iload_n X dX5_drop_27 rfl ?_
      refine v_iconst (v := nI 0) X dX5_drop_28 (by decide) ?_
      refine v_iastE X arX5_0 rfl (show a < 18 by omega) dX5_drop_29 ?_
      refine v_iload_n X dX5_drop_30 rfl ?_
      refine v_ret X hR dX5_drop_31 rfl ?_
      have e : sp_drop (nI a) A = (nI 1, (stS A.1 a [], A.2)) := by simp only [sp_drop, aN]; rw [if_neg a0]
      rw [e]
      refine ⟨rfl, mR_slot (by omega) hA ⟨Nat.zero_le _, fun q p h => by simp at h, s2_at _ _ _ _, fun q p h => by simp at h⟩ (fun i hi => s2_nc (by omega)) (fun j Q hj hja hQ => ⟨hQ.1, hQ.2.1, by rw [s2_ap, if_neg (fun z => hja z.2)]; exact hQ.2.2.1, fun k p hk => ?_⟩), fun i hi => s2_nc (by omega)⟩
      rw [s2_nc (by decide), s2_nc (by decide), s2_nc (by decide)]
      exact hQ.2.2.2 k p hk
    · skip
      have a0 : (A.1 a).length = 0 := of_decide_eq_true (bI_nz.mp h14)
      refine v_iconst (v := nI 0) X dX5_drop_17 (by decide) ?_
      refine v_goto (tgt := 22) X dX5_drop_18 (by decide) ?_
      refine v_istore_n X dX5_drop_22 (Nat.le_of_ble_eq_true rfl) ?_
      show V G Z _ 23 [_, _, _] _
      refine v_aload_n X dX5_drop_23 rfl ?_
      refine v_getr X fl_X5_7 shX5_0 dX5_drop_24 ?_
      refine v_iload_n X dX5_drop_27 rfl ?_
      refine v_iconst (v := nI 0) X dX5_drop_28 (by decide) ?_
      refine v_iastE X arX5_0 rfl (show a < 18 by omega) dX5_drop_29 ?_
      refine v_iload_n X dX5_drop_30 rfl ?_
      refine v_ret X hR dX5_drop_31 rfl ?_
      have e : sp_drop (nI a) A = (nI 0, (stS A.1 a [], A.2)) := by simp only [sp_drop, aN]; rw [if_pos a0]
      rw [e]
      refine ⟨rfl, mR_slot (by omega) hA ⟨Nat.zero_le _, fun q p h => by simp at h, s2_at _ _ _ _, fun q p h => by simp at h⟩ (fun i hi => s2_nc (by omega)) (fun j Q hj hja hQ => ⟨hQ.1, hQ.2.1, by rw [s2_ap, if_neg (fun z => hja z.2)]; exact hQ.2.2.1, fun k p hk => ?_⟩), fun i hi => s2_nc (by omega)⟩
      rw [s2_nc (by decide), s2_nc (by decide), s2_nc (by decide)]
      exact hQ.2.2.2 k p hk
  · skip
    have an := slot_f (bI_z.mp h4)
    refine v_iconst (v := (-1)) X dX5_drop_7 (by decide) ?_
    refine v_ret X hR dX5_drop_8 rfl ?_
    have e : sp_drop x A = (-1, A) := by simp [sp_drop, an]
    rw [e]
    exact ⟨rfl, hA, cO.rfl⟩

theorem in_ix {x : Int32} {n : Nat} (h0 : 0 < n) (hn : n < 2 ^ 31) (h : ¬ (x < nI 0 ∨ nI (n - 1) < x)) : ∃ j, j < n ∧ x = nI j ∧ x.toInt.toNat = j ∧ ¬ (x < 0 ∨ nI n ≤ x) := by
  have h1 : ¬ x < 0 := fun z => h (Or.inl z)
  have h2 : ¬ nI n ≤ x := fun z => h (Or.inr (Int32.lt_of_lt_of_le (nI_lt (by omega) hn) z))
  obtain ⟨j, a, b, c⟩ := ix_of hn h1 h2
  exact ⟨j, a, b, c, fun z => z.elim h1 h2⟩
theorem in_out {x : Int32} {n : Nat} (h0 : 0 < n) (hn : n < 2 ^ 31) (h : x < nI 0 ∨ nI (n - 1) < x) : x < 0 ∨ nI n ≤ x := by
  rcases pk_ix x hn with z | z | ⟨j, hj, rfl⟩
  · exact Or.inl z
  · exact Or.inr z
  · exfalso
    rcases h with z | z
    · exact nI_pos (by omega) z
    · exact nI_nlt (by omega) (by omega) z
set_option maxHeartbeats 4000000 in
set_option maxRecDepth 100000 in
theorem y_told (G : GT) {σ : Sg} {A : ASt} (hA : mR σ A) (x y z : Int32) : MC G yX5_told cX5_told 5 .int 2 [.ref (G.2.2.1 156), .int x, .int y, .int z] σ (fun r τ => r = (sp_told x y z A).1 ∧ mR τ (sp_told x y z A).2 ∧ cO σ τ) := by
  refine MC_of (by decide) (ca1 rfl (ca1 rfl (ca1 rfl (ca1 rfl ca0)))) (Nat.le_of_ble_eq_true rfl) ?_
  intro Z X hR
  show V G Z σ 0 [some (.ref (G.2.2.1 156)), some (.int x), some (.int y), some (.int z), none] []
  refine v_iload_n X dX5_told_0 rfl ?_
  refine v_cals X (m_isSlot G _) cs_X5_106 (by decide) rfl (by rfl) (Nat.le_of_ble_eq_true rfl) dX5_told_1 (fun r τ9 hq => ?_)
  obtain ⟨e9, rfl⟩ := hq
  rw [e9]
  refine v_if_ne (tgt := 9) X dX5_told_4 (by decide) (fun h4 => ?_) (fun h4 => ?_)
  · skip
    obtain ⟨a, a6, rfl, aN⟩ := slot_t (bI_nz.mp h4)
    have aP := hA.1 a (by omega)
    refine v_aload_n X dX5_told_9 rfl ?_
    refine v_iload_n X dX5_told_10 rfl ?_
    refine v_cali X (m_isEmpty G (s := a) (by omega) aP) cv_X5_120 obX5 rfl (by decide) rfl (by rfl) (Nat.le_of_ble_eq_true rfl) dX5_told_11 (fun r τ9 hq => ?_)
    obtain ⟨e9, rfl⟩ := hq
    rw [e9]
    refine v_if_eq (tgt := 20) X dX5_told_14 (by decide) (fun h14 => ?_) (fun h14 => ?_)
    · skip
      have a0 : ¬ (A.1 a).length = 0 := of_decide_eq_false (bI_z.mp h14)
      have ap : 0 < (A.1 a).length := by omega
      have a11 := aP.1
      refine v_iload_n X dX5_told_20 rfl ?_
      refine v_iconst (v := nI 0) X dX5_told_21 (by decide) ?_
      refine v_aload_n X dX5_told_22 rfl ?_
      refine v_getr X fl_X5_7 shX5_0 dX5_told_23 ?_
      refine v_iload_n X dX5_told_26 rfl ?_
      refine v_ialdE X arX5_0 rfl (by first | assumption | omega) dX5_told_27 ?_
      rw [aP.2.2.1]
      refine v_iconst (v := nI 1) X dX5_told_28 (by decide) ?_
      refine v_isub X dX5_told_29 ?_
      refine v_top (nI_s1 ap) ?_
      refine v_cals X (m_in G _ _ _) cs_X5_69 (by decide) rfl (by rfl) (Nat.le_of_ble_eq_true rfl) dX5_told_30 (fun r τ9 hq => ?_)
      obtain ⟨e9, rfl⟩ := hq
      rw [e9]
      refine v_if_eq (tgt := 45) X dX5_told_33 (by decide) (fun h33 => ?_) (fun h33 => ?_)
      · skip
        have hy := in_out ap (by omega) (in_f (bI_z.mp h33))
        refine v_bipush (v := (-2)) X dX5_told_45 (by decide) ?_
        refine v_ret X hR dX5_told_47 rfl ?_
        have e : sp_told (nI a) y z A = (-2, A) := by simp only [sp_told, aN]; exact (if_neg a0).trans (if_pos (hy.elim Or.inl (fun q => Or.inr (Or.inl q))))
        rw [e]
        exact ⟨rfl, hA, cO.rfl⟩
      · skip
        obtain ⟨k, hk, rfl, hkn, hkr⟩ := in_ix ap (by omega) (in_t (bI_nz.mp h33))
        obtain ⟨p, hp⟩ : ∃ p, (A.1 a)[k]? = some p := ⟨(A.1 a)[k], List.getElem?_eq_getElem hk⟩
        obtain ⟨e1, e2, e3⟩ := aP.2.2.2 k p hp
        refine v_iload_n X dX5_told_36 rfl ?_
        refine v_iconst (v := nI 0) X dX5_told_37 (by decide) ?_
        refine v_iconst (v := nI 2) X dX5_told_38 (by decide) ?_
        refine v_cals X (m_in G _ _ _) cs_X5_69 (by decide) rfl (by rfl) (Nat.le_of_ble_eq_true rfl) dX5_told_39 (fun r τ9 hq => ?_)
        obtain ⟨e9, rfl⟩ := hq
        rw [e9]
        refine v_if_ne (tgt := 48) X dX5_told_42 (by decide) (fun h42 => ?_) (fun h42 => ?_)
        · skip
          have hz := in_t (bI_nz.mp h42)
          have hnr : ¬ (nI k < 0 ∨ nI (A.1 a).length ≤ nI k ∨ z < 0 ∨ nI 2 < z) := by
            rintro (q | q | q)
            · exact hkr (Or.inl q)
            · exact hkr (Or.inr q)
            · exact hz q
          refine v_bipush (v := nI 11) X dX5_told_48 (by decide) ?_
          refine v_iload_n X dX5_told_50 rfl ?_
          refine v_imul X dX5_told_51 ?_
          refine v_iload_n X dX5_told_52 rfl ?_
          refine v_iadd X dX5_told_53 ?_
          refine v_top (y := nI (11 * a + k)) (by rw [pk_mul, nI_add]) ?_
          refine v_istore X dX5_told_54 (Nat.le_of_ble_eq_true rfl) ?_
          show V G Z _ 56 [_, _, _, _, _] _
          refine v_iload_n X dX5_told_56 rfl ?_
          refine v_if_ne (tgt := 70) X dX5_told_57 (by decide) (fun h57 => ?_) (fun h57 => ?_)
          · skip
            refine v_iload_n X dX5_told_70 rfl ?_
            refine v_iconst (v := nI 1) X dX5_told_71 (by decide) ?_
            refine v_icmp_ne (tgt := 85) X dX5_told_72 (by decide) (fun h72 => ?_) (fun h72 => ?_)
            · skip
              refine v_aload_n X dX5_told_85 rfl ?_
              refine v_getr X fl_X5_19 shX5_3 dX5_told_86 ?_
              refine v_iload X dX5_told_89 rfl ?_
              refine v_ialdE X arX5_3 rfl (show 11 * a + k < 198 by omega) dX5_told_91 ?_
              refine v_ret X hR dX5_told_92 rfl ?_
              have e : sp_told (nI a) (nI k) z A = (pB p, A) := by simp only [sp_told, aN]; refine (if_neg a0).trans ((if_neg hnr).trans ?_); rw [hkn, getD_of hp, if_neg h57, if_neg (show ¬ z = 1 from h72)]
              rw [e]
              exact ⟨e3, hA, cO.rfl⟩
            · skip
              refine v_aload_n X dX5_told_75 rfl ?_
              refine v_getr X fl_X5_16 shX5_2 dX5_told_76 ?_
              refine v_iload X dX5_told_79 rfl ?_
              refine v_ialdE X arX5_2 rfl (show 11 * a + k < 198 by omega) dX5_told_81 ?_
              refine v_goto (tgt := 92) X dX5_told_82 (by decide) ?_
              refine v_ret X hR dX5_told_92 rfl ?_
              have e : sp_told (nI a) (nI k) z A = (pA p, A) := by simp only [sp_told, aN]; refine (if_neg a0).trans ((if_neg hnr).trans ?_); rw [hkn, getD_of hp, if_neg h57, if_pos (show z = 1 from h72)]
              rw [e]
              exact ⟨e2, hA, cO.rfl⟩
          · skip
            refine v_aload_n X dX5_told_60 rfl ?_
            refine v_getr X fl_X5_13 shX5_1 dX5_told_61 ?_
            refine v_iload X dX5_told_64 rfl ?_
            refine v_ialdE X arX5_1 rfl (show 11 * a + k < 198 by omega) dX5_told_66 ?_
            refine v_goto (tgt := 92) X dX5_told_67 (by decide) ?_
            refine v_ret X hR dX5_told_92 rfl ?_
            have e : sp_told (nI a) (nI k) z A = (pK p, A) := by simp only [sp_told, aN]; refine (if_neg a0).trans ((if_neg hnr).trans ?_); rw [hkn, getD_of hp, if_pos h57]
            rw [e]
            exact ⟨e1, hA, cO.rfl⟩
        · skip
          have hz := in_f (bI_z.mp h42)
          refine v_bipush (v := (-2)) X dX5_told_45 (by decide) ?_
          refine v_ret X hR dX5_told_47 rfl ?_
          have e : sp_told (nI a) (nI k) z A = (-2, A) := by simp only [sp_told, aN]; exact (if_neg a0).trans (if_pos (Or.inr (Or.inr hz)))
          rw [e]
          exact ⟨rfl, hA, cO.rfl⟩
    · skip
      have a0 : (A.1 a).length = 0 := of_decide_eq_true (bI_nz.mp h14)
      refine v_bipush (v := (-3)) X dX5_told_17 (by decide) ?_
      refine v_ret X hR dX5_told_19 rfl ?_
      have e : sp_told (nI a) y z A = (-3, A) := by simp only [sp_told, aN]; exact if_pos a0
      rw [e]
      exact ⟨rfl, hA, cO.rfl⟩
  · skip
    have an := slot_f (bI_z.mp h4)
    refine v_iconst (v := (-1)) X dX5_told_7 (by decide) ?_
    refine v_ret X hR dX5_told_8 rfl ?_
    have e : sp_told x y z A = (-1, A) := by simp [sp_told, an]
    rw [e]
    exact ⟨rfl, hA, cO.rfl⟩

