/-- the row 'still', the last first -/
def stl (τ : Sg) : List Nat → Prop
  | [] => True
  | i :: r => τ 169 r.length = nI i ∧ stl τ r
theorem stl_cong {σ τ : Sg} (n : Nat) (h : ∀ x, x < n → τ 169 x = σ 169 x) : ∀ (r : List Nat), r.length ≤ n → stl σ r → stl τ r
  | [], _, _ => trivial
  | i :: r, hl, ⟨a1, a2⟩ => by
    have hl : r.length + 1 ≤ n := hl
    exact ⟨by rw [h _ (by omega)]; exact a1, stl_cong n h r (by omega) a2⟩
def cI (σ τ : Sg) (P : Sen) (st : Mm) (stk : List Nat) : Prop := kO σ τ ∧ wS τ st.1 ∧ (∀ x, x < 11 → τ 168 x = enc (st.2 x)) ∧ (∀ x v, st.2 x = some v → v < st.1.length) ∧ st.1.length ≤ ctN st.2 P.length ∧ stl τ stk
set_option maxHeartbeats 4000000 in
set_option maxRecDepth 100000 in
theorem m_cut (G : GT) {σ : Sg} {s : Nat} (hs : s < 18) {P : Sen} (hP : mS σ s P) {k : Nat} (hk : k < P.length) : MV G yX5_cut cX5_cut 7 1 [.ref (G.2.2.1 156), .int (nI s), .int (nI k)] σ (fun τ => kO σ τ ∧ wS τ (subP P k) ∧ (subP P k).length ≤ 11) := by
  refine MV_of (by decide) (ca1 rfl (ca1 rfl (ca1 rfl ca0))) (Nat.le_of_ble_eq_true rfl) ?_
  intro Z X hR
  show V G Z σ 0 [some (.ref (G.2.2.1 156)), some (.int (nI s)), some (.int (nI k)), none, none, none, none] []
  have hP0 := hP
  obtain ⟨p1, p2, p3, p4⟩ := hP
  have iter : ∀ (i : Nat) (rest : List Nat) (τ : Sg) (st : Mm) (p : Pt) (l4 l5 l6 : Option Value), i < P.length → P[i]? = some p → rest.length + i ≤ 10 → st.2 i = none → cI σ τ P st (i :: rest) →
      (¬ p.1 < 2 → st.2 p.2.1 = none → ∀ τ' l4 l5 l6, cI σ τ' P st (p.2.1 :: i :: rest) → V G Z τ' 36 [some (.ref (G.2.2.1 156)), some (.int (nI s)), some (.int (nI k)), some (.int (nI (rest.length + 2))), l4, l5, l6] []) →
      (¬ p.1 < 2 → (∃ v, st.2 p.2.1 = some v) → st.2 p.2.2 = none → ∀ τ' l4 l5 l6, cI σ τ' P st (p.2.2 :: i :: rest) → V G Z τ' 36 [some (.ref (G.2.2.1 156)), some (.int (nI s)), some (.int (nI k)), some (.int (nI (rest.length + 2))), l4, l5, l6] []) →
      (∀ q, (p.1 < 2 ∧ q = p) ∨ (¬ p.1 < 2 ∧ ∃ va vb, st.2 p.2.1 = some va ∧ st.2 p.2.2 = some vb ∧ q = (p.1, va, vb)) → ∀ τ' l4 l5 l6, cI σ τ' P (sbP i q st) rest → V G Z τ' 36 [some (.ref (G.2.2.1 156)), some (.int (nI s)), some (.int (nI k)), some (.int (nI rest.length)), l4, l5, l6] []) →
      V G Z τ 36 [some (.ref (G.2.2.1 156)), some (.int (nI s)), some (.int (nI k)), some (.int (nI (rest.length + 1))), l4, l5, l6] [] := by
    intro i rest τ st p l4 l5 l6 hi hp hd hnone hI kA kB kC
    obtain ⟨i1, i2, i3, i4, i5, i6, i7⟩ := hI
    obtain ⟨a1, a2, a3⟩ := p4 i p hp
    have e1 : τ 158 (11 * s + i) = pK p := by rw [i1.1 158 (by omega)]; exact a1
    have e2 : τ 159 (11 * s + i) = pA p := by rw [i1.1 159 (by omega)]; exact a2
    have e3 : τ 160 (11 * s + i) = pB p := by rw [i1.1 160 (by omega)]; exact a3
    have hok := p2 i p hp
    have hk4 := hok.k4
    have hct := ctN_lt hnone hi
    have push : ∀ c, c < i → stl (s2 τ 169 (rest.length + 1) (nI c)) (c :: i :: rest) := fun c hc => ⟨s2_at _ _ _ _, by rw [s2_ap, if_neg (by omega)]; exact i6, stl_cong (σ := τ) (rest.length) (fun x hx => by rw [s2_ap, if_neg (by omega)]) rest (Nat.le_refl _) i7⟩
    have pI : ∀ c, c < i → cI σ (s2 τ 169 (rest.length + 1) (nI c)) P st (c :: i :: rest) := fun c hc => ⟨i1.s2 (by omega), wS_cong i2 (by rw [s2_nc (by decide)]) (s2_nc (by decide)) (s2_nc (by decide)) (s2_nc (by decide)), fun x hx => by rw [s2_nc (by decide)]; exact i3 x hx, i4, i5, push c hc⟩
    have last : ∀ (q : Pt) (l6 : Option Value), ((p.1 < 2 ∧ q = p) ∨ (¬ p.1 < 2 ∧ ∃ va vb, st.2 p.2.1 = some va ∧ st.2 p.2.2 = some vb ∧ q = (p.1, va, vb))) → okp st.1.length q → V G Z τ 223 [some (.ref (G.2.2.1 156)), some (.int (nI s)), some (.int (nI k)), some (.int (nI (rest.length + 1))), some (.int (nI i)), some (.int (nI (11 * s + i))), l6] [.int (pB q), .int (pA q), .int (pK q), .ref (G.2.2.1 156), .int (nI i), .ref (G.2.2.1 168)] := by
      intro q l6 hq hokq
      refine v_cali X (m_partOf G i2 (by omega) hokq) cv_X5_82 obX5 rfl (by decide) rfl (by rfl) (Nat.le_of_ble_eq_true rfl) dX5_cut_223 (fun r1 τ1 hp1 => ?_)
      obtain ⟨rfl, d1, d2⟩ := hp1
      refine v_iastE X arX5_17 rfl (show i < 16 by omega) dX5_cut_226 ?_
      refine v_iincE X dX5_cut_227 rfl (nI_dec (by omega)) ?_
      show V G Z _ 230 [_, _, _, _, _, _, _] _
      refine v_goto (tgt := 36) X dX5_cut_230 (by decide) ?_
      rw [show rest.length + 1 - 1 = rest.length by omega]
      refine kC q hq _ _ _ _ ⟨(i1.p d2).s2 (by omega), ?_, fun x hx => ?_, fun x v hv => ?_, ?_, ?_⟩
      · exact wS_cong d1 (by rw [s2_nc (by decide)]) (s2_nc (by decide)) (s2_nc (by decide)) (s2_nc (by decide))
      · simp only [sbP]
        by_cases hxi : x = i
        · subst hxi
          rw [s2_at, if_pos rfl]; rfl
        · rw [s2_ap, if_neg (fun z => hxi z.2), if_neg hxi, d2.1 168 (by decide) (by decide) (by decide) (by decide)]; exact i3 x hx
      · simp only [sbP] at hv ⊢
        by_cases hxi : x = i
        · rw [if_pos hxi] at hv
          cases hv
          exact idx_lt _ _
        · rw [if_neg hxi] at hv
          exact Nat.lt_of_lt_of_le (i4 x v hv) (addP_le _ _)
      · simp only [sbP]
        rw [(ctN_up hnone).1 hi]
        have := addP_le1 st.1 q
        omega
      · exact stl_cong (σ := τ) rest.length (fun x _ => by rw [s2_nc (by decide), d2.1 169 (by decide) (by decide) (by decide) (by decide)]) rest (Nat.le_refl _) i7
    refine v_iload_n X dX5_cut_36 rfl ?_
    refine v_if_le (tgt := 233) X dX5_cut_37 (by decide) (fun h37 => ?_) (fun h37 => ?_)
    · skip
      exact absurd h37 (nI_nle (by omega) (by omega))
    · skip
      refine v_aload_n X dX5_cut_40 rfl ?_
      refine v_getr X fl_X5_50 shX5_18 dX5_cut_41 ?_
      refine v_iload_n X dX5_cut_44 rfl ?_
      refine v_iconst (v := nI 1) X dX5_cut_45 (by decide) ?_
      refine v_isub X dX5_cut_46 ?_
      refine v_top (y := nI rest.length) (by rw [nI_s1 (by omega)]; rfl) ?_
      refine v_ialdE X arX5_18 rfl (show rest.length < 64 by omega) dX5_cut_47 ?_
      rw [i6]
      refine v_istore X dX5_cut_48 (Nat.le_of_ble_eq_true rfl) ?_
      show V G Z _ 50 [_, _, _, _, _, _, _] _
      refine v_bipush (v := nI 11) X dX5_cut_50 (by decide) ?_
      refine v_iload_n X dX5_cut_52 rfl ?_
      refine v_imul X dX5_cut_53 ?_
      refine v_iload X dX5_cut_54 rfl ?_
      refine v_iadd X dX5_cut_56 ?_
      refine v_top (y := nI (11 * s + i)) (by rw [pk_mul, nI_add]) ?_
      refine v_istore X dX5_cut_57 (Nat.le_of_ble_eq_true rfl) ?_
      show V G Z _ 59 [_, _, _, _, _, _, _] _
      refine v_aload_n X dX5_cut_59 rfl ?_
      refine v_getr X fl_X5_13 shX5_1 dX5_cut_60 ?_
      refine v_iload X dX5_cut_63 rfl ?_
      refine v_ialdE X arX5_1 rfl (show 11 * s + i < 198 by omega) dX5_cut_65 ?_
      refine v_iconst (v := nI 1) X dX5_cut_66 (by decide) ?_
      rw [e1]
      refine v_icmp_le (tgt := 74) X dX5_cut_67 (by decide) (fun h67 => ?_) (fun h67 => ?_)
      · skip
        have h2 : p.1 < 2 := by have := nI_lem (a := p.1) (b := 1) (by omega) (by decide) h67; omega
        refine v_iconst (v := nI 0) X dX5_cut_74 (by decide) ?_
        refine v_istore X dX5_cut_75 (Nat.le_of_ble_eq_true rfl) ?_
        show V G Z _ 77 [_, _, _, _, _, _, _] _
        refine v_iload X dX5_cut_77 rfl ?_
        refine v_if_eq (tgt := 116) X dX5_cut_79 (by decide) (fun h79 => ?_) (fun h79 => ?_)
        · skip
          refine v_iload X dX5_cut_116 rfl ?_
          refine v_if_eq (tgt := 155) X dX5_cut_118 (by decide) (fun h118 => ?_) (fun h118 => ?_)
          · skip
            refine v_aload_n X dX5_cut_155 rfl ?_
            refine v_getr X fl_X5_47 shX5_17 dX5_cut_156 ?_
            refine v_iload X dX5_cut_159 rfl ?_
            refine v_aload_n X dX5_cut_161 rfl ?_
            refine v_aload_n X dX5_cut_162 rfl ?_
            refine v_getr X fl_X5_13 shX5_1 dX5_cut_163 ?_
            refine v_iload X dX5_cut_166 rfl ?_
            refine v_ialdE X arX5_1 rfl (show 11 * s + i < 198 by omega) dX5_cut_168 ?_
            rw [e1]
            refine v_iload X dX5_cut_169 rfl ?_
            refine v_if_eq (tgt := 189) X dX5_cut_171 (by decide) (fun h171 => ?_) (fun h171 => ?_)
            · skip
              refine v_aload_n X dX5_cut_189 rfl ?_
              refine v_getr X fl_X5_16 shX5_2 dX5_cut_190 ?_
              refine v_iload X dX5_cut_193 rfl ?_
              refine v_ialdE X arX5_2 rfl (show 11 * s + i < 198 by omega) dX5_cut_195 ?_
              rw [e2]
              refine v_iload X dX5_cut_196 rfl ?_
              refine v_if_eq (tgt := 216) X dX5_cut_198 (by decide) (fun h198 => ?_) (fun h198 => ?_)
              · skip
                refine v_aload_n X dX5_cut_216 rfl ?_
                refine v_getr X fl_X5_19 shX5_3 dX5_cut_217 ?_
                refine v_iload X dX5_cut_220 rfl ?_
                refine v_ialdE X arX5_3 rfl (show 11 * s + i < 198 by omega) dX5_cut_222 ?_
                rw [e3]
                refine last p _ (Or.inl ⟨h2, rfl⟩) ?_
                rcases hok with q | q | ⟨q, -⟩
                · exact Or.inl q
                · exact Or.inr (Or.inl q)
                · omega
              · skip
                exact absurd rfl h198
            · skip
              exact absurd rfl h171
          · skip
            exact absurd rfl h118
        · skip
          exact absurd rfl h79
      · skip
        have h2 : ¬ p.1 < 2 := by have := nI_len (a := p.1) (b := 1) (by omega) (by decide) h67; omega
        obtain ⟨ha, hb, -⟩ := wf_pair p2 hp h2
        have e2 : τ 159 (11 * s + i) = nI p.2.1 := by rw [e2]; exact if_neg (by omega)
        have e3 : τ 160 (11 * s + i) = nI p.2.2 := by rw [e3]; exact if_neg h2
        refine v_iconst (v := nI 1) X dX5_cut_70 (by decide) ?_
        refine v_goto (tgt := 75) X dX5_cut_71 (by decide) ?_
        refine v_istore X dX5_cut_75 (Nat.le_of_ble_eq_true rfl) ?_
        show V G Z _ 77 [_, _, _, _, _, _, _] _
        refine v_iload X dX5_cut_77 rfl ?_
        refine v_if_eq (tgt := 116) X dX5_cut_79 (by decide) (fun h79 => ?_) (fun h79 => ?_)
        · skip
          exact absurd h79 (by decide)
        · skip
          refine v_aload_n X dX5_cut_82 rfl ?_
          refine v_getr X fl_X5_47 shX5_17 dX5_cut_83 ?_
          refine v_aload_n X dX5_cut_86 rfl ?_
          refine v_getr X fl_X5_16 shX5_2 dX5_cut_87 ?_
          refine v_iload X dX5_cut_90 rfl ?_
          refine v_ialdE X arX5_2 rfl (show 11 * s + i < 198 by omega) dX5_cut_92 ?_
          refine v_ialdE X arX5_17 e2 (show p.2.1 < 16 by omega) dX5_cut_93 ?_
          refine v_if_ge (tgt := 116) X dX5_cut_94 (by decide) (fun h94 => ?_) (fun h94 => ?_)
          · skip
            obtain ⟨va, hva⟩ : ∃ v, st.2 p.2.1 = some v := by
              cases h : st.2 p.2.1 with
              | none => rw [i3 _ (by omega), h] at h94; exact absurd h94 (by decide)
              | some v => exact ⟨v, rfl⟩
            refine v_iload X dX5_cut_116 rfl ?_
            refine v_if_eq (tgt := 155) X dX5_cut_118 (by decide) (fun h118 => ?_) (fun h118 => ?_)
            · skip
              exact absurd h118 (by decide)
            · skip
              refine v_aload_n X dX5_cut_121 rfl ?_
              refine v_getr X fl_X5_47 shX5_17 dX5_cut_122 ?_
              refine v_aload_n X dX5_cut_125 rfl ?_
              refine v_getr X fl_X5_19 shX5_3 dX5_cut_126 ?_
              refine v_iload X dX5_cut_129 rfl ?_
              refine v_ialdE X arX5_3 rfl (show 11 * s + i < 198 by omega) dX5_cut_131 ?_
              refine v_ialdE X arX5_17 e3 (show p.2.2 < 16 by omega) dX5_cut_132 ?_
              refine v_if_ge (tgt := 155) X dX5_cut_133 (by decide) (fun h133 => ?_) (fun h133 => ?_)
              · skip
                obtain ⟨vb, hvb⟩ : ∃ v, st.2 p.2.2 = some v := by
                  cases h : st.2 p.2.2 with
                  | none => rw [i3 _ (by omega), h] at h133; exact absurd h133 (by decide)
                  | some v => exact ⟨v, rfl⟩
                refine v_aload_n X dX5_cut_155 rfl ?_
                refine v_getr X fl_X5_47 shX5_17 dX5_cut_156 ?_
                refine v_iload X dX5_cut_159 rfl ?_
                refine v_aload_n X dX5_cut_161 rfl ?_
                refine v_aload_n X dX5_cut_162 rfl ?_
                refine v_getr X fl_X5_13 shX5_1 dX5_cut_163 ?_
                refine v_iload X dX5_cut_166 rfl ?_
                refine v_ialdE X arX5_1 rfl (show 11 * s + i < 198 by omega) dX5_cut_168 ?_
                rw [e1]
                refine v_iload X dX5_cut_169 rfl ?_
                refine v_if_eq (tgt := 189) X dX5_cut_171 (by decide) (fun h171 => ?_) (fun h171 => ?_)
                · skip
                  exact absurd h171 (by decide)
                · skip
                  refine v_aload_n X dX5_cut_174 rfl ?_
                  refine v_getr X fl_X5_47 shX5_17 dX5_cut_175 ?_
                  refine v_aload_n X dX5_cut_178 rfl ?_
                  refine v_getr X fl_X5_16 shX5_2 dX5_cut_179 ?_
                  refine v_iload X dX5_cut_182 rfl ?_
                  refine v_ialdE X arX5_2 rfl (show 11 * s + i < 198 by omega) dX5_cut_184 ?_
                  refine v_ialdE X arX5_17 e2 (show p.2.1 < 16 by omega) dX5_cut_185 ?_
                  rw [i3 _ (by omega), hva]
                  refine v_goto (tgt := 196) X dX5_cut_186 (by decide) ?_
                  refine v_iload X dX5_cut_196 rfl ?_
                  refine v_if_eq (tgt := 216) X dX5_cut_198 (by decide) (fun h198 => ?_) (fun h198 => ?_)
                  · skip
                    exact absurd h198 (by decide)
                  · skip
                    refine v_aload_n X dX5_cut_201 rfl ?_
                    refine v_getr X fl_X5_47 shX5_17 dX5_cut_202 ?_
                    refine v_aload_n X dX5_cut_205 rfl ?_
                    refine v_getr X fl_X5_19 shX5_3 dX5_cut_206 ?_
                    refine v_iload X dX5_cut_209 rfl ?_
                    refine v_ialdE X arX5_3 rfl (show 11 * s + i < 198 by omega) dX5_cut_211 ?_
                    refine v_ialdE X arX5_17 e3 (show p.2.2 < 16 by omega) dX5_cut_212 ?_
                    rw [i3 _ (by omega), hvb]
                    refine v_goto (tgt := 223) X dX5_cut_213 (by decide) ?_
                    have z1 : pA (p.1, va, vb) = nI va := if_neg (show ¬ p.1 = 1 by omega)
                    have z2 : pB (p.1, va, vb) = nI vb := if_neg h2
                    have hl := last (p.1, va, vb) (some (.int (nI 1))) (Or.inr ⟨h2, va, vb, hva, hvb, rfl⟩) (Or.inr (Or.inr ⟨by show 2 ≤ p.1; omega, hk4, i4 _ _ hva, i4 _ _ hvb⟩))
                    rw [z1, z2] at hl
                    exact hl
              · skip
                have hnb : st.2 p.2.2 = none := by
                  cases h : st.2 p.2.2 with
                  | none => rfl
                  | some v =>
                    rw [i3 _ (by omega), h] at h133
                    have hv := i4 _ v h
                    exact absurd (nI_pos' (by have := i2.1; omega)) h133
                refine v_aload_n X dX5_cut_136 rfl ?_
                refine v_getr X fl_X5_50 shX5_18 dX5_cut_137 ?_
                refine v_iload_n X dX5_cut_140 rfl ?_
                refine v_aload_n X dX5_cut_141 rfl ?_
                refine v_getr X fl_X5_19 shX5_3 dX5_cut_142 ?_
                refine v_iload X dX5_cut_145 rfl ?_
                refine v_ialdE X arX5_3 rfl (show 11 * s + i < 198 by omega) dX5_cut_147 ?_
                rw [e3]
                refine v_iastE X arX5_18 rfl (show rest.length + 1 < 64 by omega) dX5_cut_148 ?_
                refine v_iincE X dX5_cut_149 rfl (nI_inc (rest.length + 1)) ?_
                show V G Z _ 152 [_, _, _, _, _, _, _] _
                refine v_goto (tgt := 230) X dX5_cut_152 (by decide) ?_
                refine v_goto (tgt := 36) X dX5_cut_230 (by decide) ?_
                exact kB h2 ⟨va, hva⟩ hnb _ _ _ _ (pI _ hb)
          · skip
            have hna : st.2 p.2.1 = none := by
              cases h : st.2 p.2.1 with
              | none => rfl
              | some v =>
                rw [i3 _ (by omega), h] at h94
                have hv := i4 _ v h
                exact absurd (nI_pos' (by have := i2.1; omega)) h94
            refine v_aload_n X dX5_cut_97 rfl ?_
            refine v_getr X fl_X5_50 shX5_18 dX5_cut_98 ?_
            refine v_iload_n X dX5_cut_101 rfl ?_
            refine v_aload_n X dX5_cut_102 rfl ?_
            refine v_getr X fl_X5_16 shX5_2 dX5_cut_103 ?_
            refine v_iload X dX5_cut_106 rfl ?_
            refine v_ialdE X arX5_2 rfl (show 11 * s + i < 198 by omega) dX5_cut_108 ?_
            rw [e2]
            refine v_iastE X arX5_18 rfl (show rest.length + 1 < 64 by omega) dX5_cut_109 ?_
            refine v_iincE X dX5_cut_110 rfl (nI_inc (rest.length + 1)) ?_
            show V G Z _ 113 [_, _, _, _, _, _, _] _
            refine v_goto (tgt := 230) X dX5_cut_113 (by decide) ?_
            refine v_goto (tgt := 36) X dX5_cut_230 (by decide) ?_
            exact kA h2 hna _ _ _ _ (pI _ ha)
  have run : ∀ (f i : Nat) (rest : List Nat) (τ : Sg) (st : Mm) (l4 l5 l6 : Option Value), i < f → i < P.length → rest.length + i ≤ 10 → st.2 i = none → cI σ τ P st (i :: rest) → (∀ τ' l4 l5 l6, cI σ τ' P (sbR P f i st) rest → V G Z τ' 36 [some (.ref (G.2.2.1 156)), some (.int (nI s)), some (.int (nI k)), some (.int (nI rest.length)), l4, l5, l6] []) → V G Z τ 36 [some (.ref (G.2.2.1 156)), some (.int (nI s)), some (.int (nI k)), some (.int (nI (rest.length + 1))), l4, l5, l6] [] := by
    intro f
    induction f with
    | zero => intro i rest τ st l4 l5 l6 h; omega
    | succ f ih =>
      intro i rest τ st l4 l5 l6 hif hi hd hnone hI kk
      obtain ⟨p, hp⟩ : ∃ p, P[i]? = some p := ⟨P[i], List.getElem?_eq_getElem hi⟩
      by_cases h2 : p.1 < 2
      · refine iter i rest τ st p l4 l5 l6 hi hp hd hnone hI (fun z => absurd h2 z) (fun z => absurd h2 z) (fun q hq τ' l4 l5 l6 hc => kk τ' l4 l5 l6 ?_)
        rcases hq with ⟨-, rfl⟩ | ⟨z, -⟩
        · rw [sbR_leaf hp hnone h2]; exact hc
        · exact absurd h2 z
      · obtain ⟨ha, hb, -⟩ := wf_pair p2 hp h2
        have fin : ∀ (τ : Sg) (st2 : Mm) (l4 l5 l6 : Option Value), st2 = sbR P f p.2.2 (sbR P f p.2.1 st) → cI σ τ P st2 (i :: rest) → V G Z τ 36 [some (.ref (G.2.2.1 156)), some (.int (nI s)), some (.int (nI k)), some (.int (nI (rest.length + 1))), l4, l5, l6] [] := by
          intro τ st2 l4 l5 l6 hst hc2
          have hn2 : st2.2 i = none := by rw [hst, sbR_hi p2 f p.2.2 _ i (by omega) hb, sbR_hi p2 f p.2.1 _ i (by omega) ha]; exact hnone
          obtain ⟨va, hva⟩ := sbR_set p2 f p.2.1 st (by omega) (by omega)
          have hva2 := sbR_keep p2 f p.2.2 (sbR P f p.2.1 st) p.2.1 va (by omega) hva
          obtain ⟨vb, hvb⟩ := sbR_set p2 f p.2.2 (sbR P f p.2.1 st) (by omega) (by omega)
          refine iter i rest τ st2 p l4 l5 l6 hi hp hd hn2 hc2 (fun _ z => ?_) (fun _ _ z => ?_) (fun q hq τ' l4 l5 l6 hc => kk τ' l4 l5 l6 ?_)
          · rw [hst, hva2] at z; cases z
          · rw [hst, hvb] at z; cases z
          · rcases hq with ⟨z, -⟩ | ⟨-, va', vb', q1, q2, rfl⟩
            · exact absurd z h2
            · rw [sbR_pair hp hnone h2, ← hst, q1, q2]; exact hc
        have mid : ∀ (τ : Sg) (st1 : Mm) (l4 l5 l6 : Option Value), st1 = sbR P f p.2.1 st → cI σ τ P st1 (i :: rest) → V G Z τ 36 [some (.ref (G.2.2.1 156)), some (.int (nI s)), some (.int (nI k)), some (.int (nI (rest.length + 1))), l4, l5, l6] [] := by
          intro τ st1 l4 l5 l6 hst hc1
          have hn1 : st1.2 i = none := by rw [hst, sbR_hi p2 f p.2.1 _ i (by omega) ha]; exact hnone
          obtain ⟨va, hva⟩ := sbR_set p2 f p.2.1 st (by omega) (by omega)
          cases hb1 : st1.2 p.2.2 with
          | some vb =>
            refine fin τ st1 l4 l5 l6 ?_ hc1
            obtain ⟨f', rfl⟩ : ∃ f', f = f' + 1 := ⟨f - 1, by omega⟩
            rw [← hst, sbR_some hb1]
          | none =>
            refine iter i rest τ st1 p l4 l5 l6 hi hp hd hn1 hc1 (fun _ z => ?_) (fun _ _ _ τ' l4 l5 l6 hc => ?_) (fun q hq => ?_)
            · rw [hst, hva] at z; cases z
            · refine ih p.2.2 (i :: rest) τ' st1 l4 l5 l6 (by omega) (by omega) (by simp only [List.length_cons]; omega) hb1 hc (fun τ2 l4 l5 l6 hc2 => ?_)
              exact fin τ2 _ l4 l5 l6 (by rw [hst]) hc2
            · rcases hq with ⟨z, -⟩ | ⟨-, va', vb', q1, q2, -⟩
              · exact absurd z h2
              · rw [hb1] at q2; cases q2
        cases ha1 : st.2 p.2.1 with
        | some va =>
          refine mid τ st l4 l5 l6 ?_ hI
          obtain ⟨f', rfl⟩ : ∃ f', f = f' + 1 := ⟨f - 1, by omega⟩
          rw [sbR_some ha1]
        | none =>
          refine iter i rest τ st p l4 l5 l6 hi hp hd hnone hI (fun _ _ τ' l4 l5 l6 hc => ?_) (fun _ z => ?_) (fun q hq => ?_)
          · refine ih p.2.1 (i :: rest) τ' st l4 l5 l6 (by omega) (by omega) (by simp only [List.length_cons]; omega) ha1 hc (fun τ2 l4 l5 l6 hc2 => ?_)
            exact mid τ2 _ l4 l5 l6 rfl hc2
          · obtain ⟨v, hv⟩ := z
            rw [ha1] at hv; cases hv
          · rcases hq with ⟨z, -⟩ | ⟨-, va', vb', q1, q2, -⟩
            · exact absurd z h2
            · rw [ha1] at q1; cases q1
  have loop : ∀ (n x : Nat) (τ : Sg), 11 - x < n → x ≤ 11 → kO σ τ → τ 156 7 = nI 0 → (∀ y, y < x → τ 168 y = -6) → V G Z τ 7 [some (.ref (G.2.2.1 156)), some (.int (nI s)), some (.int (nI k)), some (.int (nI x)), none, none, none] [] := by
    intro n
    induction n with
    | zero => intro x τ h; omega
    | succ n ih =>
      intro x τ hn hxl g1 g2 g3
      refine v_iload_n X dX5_cut_7 rfl ?_
      refine v_bipush (v := nI 11) X dX5_cut_8 (by decide) ?_
      refine v_icmp_ge (tgt := 27) X dX5_cut_10 (by decide) (fun h10 => ?_) (fun h10 => ?_)
      · skip
        have hx := nI_lem (a := 11) (by decide) (by omega) h10
        refine v_iconst (v := nI 1) X dX5_cut_27 (by decide) ?_
        refine v_istore_n X dX5_cut_28 (Nat.le_of_ble_eq_true rfl) ?_
        show V G Z _ 29 [_, _, _, _, _, _, _] _
        refine v_aload_n X dX5_cut_29 rfl ?_
        refine v_getr X fl_X5_50 shX5_18 dX5_cut_30 ?_
        refine v_iconst (v := nI 0) X dX5_cut_33 (by decide) ?_
        refine v_iload_n X dX5_cut_34 rfl ?_
        refine v_iastE X arX5_18 rfl (show 0 < 64 by decide) dX5_cut_35 ?_
        refine run 11 k [] _ ([], fun _ => none) _ _ _ (by omega) hk (by simp; omega) rfl ⟨g1.s2 (by omega), ⟨Nat.zero_le _, fun q p h => by simp at h, by rw [s2_nc (by decide)]; exact g2, fun q p h => by simp at h⟩, fun y hy => by rw [s2_nc (by decide)]; exact g3 y (by omega), fun y v h => by simp at h, Nat.zero_le _, s2_at _ _ _ _, trivial⟩ (fun τ' l4 l5 l6 hc => ?_)
        obtain ⟨c1, c2, c3, c4, c5, c6⟩ := hc
        refine v_iload_n X dX5_cut_36 rfl ?_
        refine v_if_le (tgt := 233) X dX5_cut_37 (by decide) (fun _ => ?_) (fun h37 => absurd (show nI 0 ≤ 0 from by decide) h37)
        refine v_vret X hR dX5_cut_233 ?_
        exact ⟨c1, c2, Nat.le_trans c5 (Nat.le_trans (ctN_le _ _) p1)⟩
      · skip
        have hx := nI_len (a := 11) (by decide) (by omega) h10
        refine v_aload_n X dX5_cut_13 rfl ?_
        refine v_getr X fl_X5_47 shX5_17 dX5_cut_14 ?_
        refine v_iload_n X dX5_cut_17 rfl ?_
        refine v_bipush (v := (-6)) X dX5_cut_18 (by decide) ?_
        refine v_iastE X arX5_17 rfl (show x < 16 by omega) dX5_cut_20 ?_
        refine v_iincE X dX5_cut_21 rfl (nI_inc x) ?_
        show V G Z _ 24 [_, _, _, _, _, _, _] _
        refine v_goto (tgt := 7) X dX5_cut_24 (by decide) ?_
        refine ih (x + 1) _ (by omega) (by omega) (g1.s2 (by omega)) (by rw [s2_nc (by decide)]; exact g2) (fun y hy => ?_)
        rw [s2_ap]
        by_cases hyx : y = x
        · rw [if_pos ⟨rfl, hyx⟩]
        · rw [if_neg (fun z => hyx z.2)]; exact g3 y (by omega)
  refine v_aload_n X dX5_cut_0 rfl ?_
  refine v_iconst (v := nI 0) X dX5_cut_1 (by decide) ?_
  refine v_puti X fw_X5_73 shX5_7 dX5_cut_2 rfl rfl ?_
  refine v_iconst (v := nI 0) X dX5_cut_5 (by decide) ?_
  refine v_istore_n X dX5_cut_6 (Nat.le_of_ble_eq_true rfl) ?_
  show V G Z _ 7 [_, _, _, _, _, _, _] _
  exact loop 12 0 _ (by omega) (by omega) (kO.rfl.s2 (by omega)) (s2_at _ _ _ _) (fun y h => by omega)
set_option maxHeartbeats 4000000 in
set_option maxRecDepth 100000 in
theorem y_part (G : GT) {σ : Sg} {A : ASt} (hA : mR σ A) (x y z : Int32) : MC G yX5_part cX5_part 4 .int 2 [.ref (G.2.2.1 156), .int x, .int y, .int z] σ (fun r τ => r = (sp_part x y z A).1 ∧ mR τ (sp_part x y z A).2 ∧ cO σ τ) := by
  refine MC_of (by decide) (ca1 rfl (ca1 rfl (ca1 rfl (ca1 rfl ca0)))) (Nat.le_of_ble_eq_true rfl) ?_
  intro Z X hR
  show V G Z σ 0 [some (.ref (G.2.2.1 156)), some (.int x), some (.int y), some (.int z)] []
  refine v_iload_n X dX5_part_0 rfl ?_
  refine v_cals X (m_isSlot G _) cs_X5_106 (by decide) rfl (by rfl) (Nat.le_of_ble_eq_true rfl) dX5_part_1 (fun r τ9 hq => ?_)
  obtain ⟨e9, rfl⟩ := hq
  rw [e9]
  refine v_if_eq (tgt := 14) X dX5_part_4 (by decide) (fun h4 => ?_) (fun h4 => ?_)
  · skip
    have tn := slot_f (bI_z.mp h4)
    refine v_iconst (v := (-1)) X dX5_part_14 (by decide) ?_
    refine v_ret X hR dX5_part_15 rfl ?_
    have e : sp_part x y z A = (-1, A) := by simp [sp_part, tn]
    rw [e]
    exact ⟨rfl, hA, cO.rfl⟩
  · skip
    obtain ⟨t, t6, rfl, tN⟩ := slot_t (bI_nz.mp h4)
    have tP := hA.1 t (by omega)
    refine v_iload_n X dX5_part_7 rfl ?_
    refine v_cals X (m_isSlot G _) cs_X5_106 (by decide) rfl (by rfl) (Nat.le_of_ble_eq_true rfl) dX5_part_8 (fun r τ9 hq => ?_)
    obtain ⟨e9, rfl⟩ := hq
    rw [e9]
    refine v_if_ne (tgt := 16) X dX5_part_11 (by decide) (fun h11 => ?_) (fun h11 => ?_)
    · skip
      obtain ⟨a, a6, rfl, aN⟩ := slot_t (bI_nz.mp h11)
      have aP := hA.1 a (by omega)
      refine v_aload_n X dX5_part_16 rfl ?_
      refine v_iload_n X dX5_part_17 rfl ?_
      refine v_cali X (m_isEmpty G (s := a) (by omega) aP) cv_X5_120 obX5 rfl (by decide) rfl (by rfl) (Nat.le_of_ble_eq_true rfl) dX5_part_18 (fun r τ9 hq => ?_)
      obtain ⟨e9, rfl⟩ := hq
      rw [e9]
      refine v_if_eq (tgt := 27) X dX5_part_21 (by decide) (fun h21 => ?_) (fun h21 => ?_)
      · skip
        have a0 : ¬ (A.1 a).length = 0 := of_decide_eq_false (bI_z.mp h21)
        have ap : 0 < (A.1 a).length := by omega
        have a11 := aP.1
        refine v_iload_n X dX5_part_27 rfl ?_
        refine v_iconst (v := nI 0) X dX5_part_28 (by decide) ?_
        refine v_aload_n X dX5_part_29 rfl ?_
        refine v_getr X fl_X5_7 shX5_0 dX5_part_30 ?_
        refine v_iload_n X dX5_part_33 rfl ?_
        refine v_ialdE X arX5_0 rfl (by first | assumption | omega) dX5_part_34 ?_
        rw [aP.2.2.1]
        refine v_iconst (v := nI 1) X dX5_part_35 (by decide) ?_
        refine v_isub X dX5_part_36 ?_
        refine v_top (nI_s1 ap) ?_
        refine v_cals X (m_in G _ _ _) cs_X5_69 (by decide) rfl (by rfl) (Nat.le_of_ble_eq_true rfl) dX5_part_37 (fun r τ9 hq => ?_)
        obtain ⟨e9, rfl⟩ := hq
        rw [e9]
        refine v_if_ne (tgt := 46) X dX5_part_40 (by decide) (fun h40 => ?_) (fun h40 => ?_)
        · skip
          obtain ⟨k, hk, rfl, hkn, hkr⟩ := in_ix ap (by omega) (in_t (bI_nz.mp h40))
          refine v_aload_n X dX5_part_46 rfl ?_
          refine v_iload_n X dX5_part_47 rfl ?_
          refine v_iload_n X dX5_part_48 rfl ?_
          refine v_calv X (m_cut G (s := a) (by omega) aP hk) cv_X5_127 obX5 rfl (by decide) rfl (by rfl) (Nat.le_of_ble_eq_true rfl) dX5_part_49 (fun τ hp => ?_)
          obtain ⟨o1, g1, g2⟩ := hp
          have hA1 := mR_kO hA o1
          have hm1 := o1.c
          refine v_aload_n X dX5_part_52 rfl ?_
          refine v_iload_n X dX5_part_53 rfl ?_
          refine v_cali X (m_keep G (s := t) (by omega) g1 g2) cv_X5_113 obX5 rfl (by decide) rfl (by rfl) (Nat.le_of_ble_eq_true rfl) dX5_part_54 (fun r τ2 hp2 => ?_)
          obtain ⟨rfl, q1, q2, q3⟩ := hp2
          refine v_ret X hR dX5_part_57 rfl ?_
          have e : sp_part (nI t) (nI a) (nI k) A = (nI (subP (A.1 a) k).length, (stS A.1 t (subP (A.1 a) k), A.2)) := by simp only [sp_part, tN, aN]; refine (if_neg a0).trans ((if_neg hkr).trans ?_); rw [hkn]
          rw [e]
          exact ⟨rfl, mR_slot (by omega) hA1 q1 q2 q3, hm1.trans (fun i hi => q2 i (by omega))⟩
        · skip
          have hy := in_out ap (by omega) (in_f (bI_z.mp h40))
          refine v_bipush (v := (-2)) X dX5_part_43 (by decide) ?_
          refine v_ret X hR dX5_part_45 rfl ?_
          have e : sp_part (nI t) (nI a) z A = (-2, A) := by simp only [sp_part, tN, aN]; exact (if_neg a0).trans (if_pos hy)
          rw [e]
          exact ⟨rfl, hA, cO.rfl⟩
      · skip
        have a0 : (A.1 a).length = 0 := of_decide_eq_true (bI_nz.mp h21)
        refine v_bipush (v := (-3)) X dX5_part_24 (by decide) ?_
        refine v_ret X hR dX5_part_26 rfl ?_
        have e : sp_part (nI t) (nI a) z A = (-3, A) := by simp only [sp_part, tN, aN]; exact if_pos a0
        rw [e]
        exact ⟨rfl, hA, cO.rfl⟩
    · skip
      have an := slot_f (bI_z.mp h11)
      refine v_iconst (v := (-1)) X dX5_part_14 (by decide) ?_
      refine v_ret X hR dX5_part_15 rfl ?_
      have e : sp_part (nI t) y z A = (-1, A) := by simp [sp_part, tN, an]
      rw [e]
      exact ⟨rfl, hA, cO.rfl⟩

