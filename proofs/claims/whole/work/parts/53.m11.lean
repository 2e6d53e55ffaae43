theorem wI_173 {τ : Sg} {P : Sen} {k : Nat} {x : Int32} (h : wI τ P) : wI (s2 τ 173 k x) P := ⟨h.1, by rw [s2_nc (by decide)]; exact h.2.1, by rw [s2_nc (by decide)]; exact h.2.2⟩
theorem wlK_pos {P : Sen} (hw : wf P) : 0 < (wlK P).length := by
  obtain ⟨i, hi, -⟩ := rset_wld hw (j := 0) (by decide)
  omega
set_option maxHeartbeats 4000000 in
set_option maxRecDepth 100000 in
theorem m_isAbove (G : GT) {σ : Sg} {P : Sen} (hl : P.length ≤ 11) (hW : wI σ P) {v w : Nat} (hv : v < (wlK P).length) (hw : w < (wlK P).length) : MC G yX5_isAbove cX5_isAbove 3 .boolean 0 [.ref (G.2.2.1 156), .int (nI v), .int (nI w)] σ (fun r τ => τ = σ ∧ r = bI (abv (wlK P) v w)) := by
  refine MC_of (by decide) (ca1 rfl (ca1 rfl (ca1 rfl ca0))) (Nat.le_of_ble_eq_true rfl) ?_
  intro Z X hR
  show V G Z σ 0 [some (.ref (G.2.2.1 156)), some (.int (nI v)), some (.int (nI w))] []
  have hN := hW.1
  have bv := kw_lt hl v hv
  have bw := kw_lt hl w hw
  refine v_aload_n X dX5_isAbove_0 rfl ?_
  refine v_getr X fl_X5_56 shX5_20 dX5_isAbove_1 ?_
  refine v_iload_n X dX5_isAbove_4 rfl ?_
  refine v_ialdE X arX5_20 rfl (show v < 2048 by omega) dX5_isAbove_5 ?_
  rw [wI_at hW hv]
  refine v_aload_n X dX5_isAbove_6 rfl ?_
  refine v_getr X fl_X5_56 shX5_20 dX5_isAbove_7 ?_
  refine v_iload_n X dX5_isAbove_10 rfl ?_
  refine v_ialdE X arX5_20 rfl (show w < 2048 by omega) dX5_isAbove_11 ?_
  rw [wI_at hW hw]
  refine v_icmp_eq (tgt := 37) X dX5_isAbove_12 (by decide) (fun h12 => ?_) (fun h12 => ?_)
  · skip
    have he := nI_eqm bv bw h12
    refine v_iconst (v := nI 0) X dX5_isAbove_37 (by decide) ?_
    refine v_ret X hR dX5_isAbove_38 rfl ?_
    have hab : abv (wlK P) v w = false := by
      cases q : abv (wlK P) v w with
      | false => rfl
      | true => exact absurd he ((abv_iff hv hw).mp q).1
    exact ⟨rfl, by rw [hab]; rfl⟩
  · skip
    have he := nI_eqn bv bw h12
    refine v_aload_n X dX5_isAbove_15 rfl ?_
    refine v_getr X fl_X5_56 shX5_20 dX5_isAbove_16 ?_
    refine v_iload_n X dX5_isAbove_19 rfl ?_
    refine v_ialdE X arX5_20 rfl (show w < 2048 by omega) dX5_isAbove_20 ?_
    rw [wI_at hW hw]
    refine v_aload_n X dX5_isAbove_21 rfl ?_
    refine v_getr X fl_X5_56 shX5_20 dX5_isAbove_22 ?_
    refine v_iload_n X dX5_isAbove_25 rfl ?_
    refine v_ialdE X arX5_20 rfl (show v < 2048 by omega) dX5_isAbove_26 ?_
    rw [wI_at hW hv]
    refine v_iconst (v := (-1)) X dX5_isAbove_27 (by decide) ?_
    refine v_ixor X dX5_isAbove_28 ?_
    refine v_iand X dX5_isAbove_29 ?_
    refine v_if_ne (tgt := 37) X dX5_isAbove_30 (by decide) (fun h30 => ?_) (fun h30 => ?_)
    · skip
      skip
      refine v_iconst (v := nI 0) X dX5_isAbove_37 (by decide) ?_
      refine v_ret X hR dX5_isAbove_38 rfl ?_
      have hab : abv (wlK P) v w = false := by
        cases q : abv (wlK P) v w with
        | false => rfl
        | true => exact absurd ((nb_sub bw).mpr ((abv_iff hv hw).mp q).2) h30
      exact ⟨rfl, by rw [hab]; rfl⟩
    · skip
      have hs := (nb_sub bw).mp h30
      refine v_iconst (v := nI 1) X dX5_isAbove_33 (by decide) ?_
      refine v_goto (tgt := 38) X dX5_isAbove_34 (by decide) ?_
      refine v_ret X hR dX5_isAbove_38 rfl ?_
      have hab : abv (wlK P) v w = true := (abv_iff hv hw).mpr ⟨he, hs⟩
      exact ⟨rfl, by rw [hab]; rfl⟩

set_option maxHeartbeats 4000000 in
set_option maxRecDepth 100000 in
theorem m_layHeights (G : GT) {σ : Sg} {P : Sen} (hl : P.length ≤ 11) (hW : wI σ P) : MV G yX5_layHeights cX5_layHeights 3 1 [.ref (G.2.2.1 156)] σ (fun τ => vO σ τ ∧ wI τ P ∧ ∀ y, y < (wlK P).length → τ 173 y = nI (kh (wlK P) y)) := by
  refine MV_of (by decide) (ca1 rfl ca0) (Nat.le_of_ble_eq_true rfl) ?_
  intro Z X hR
  show V G Z σ 0 [some (.ref (G.2.2.1 156)), none, none] []
  have hN := hW.1
  have outer : ∀ (c : Nat) (τ : Sg) (l2 : Option Value), c ≤ (wlK P).length → vO σ τ → wI τ P → (∀ y, c ≤ y → y < (wlK P).length → τ 173 y = nI (kh (wlK P) y)) → V G Z τ 7 [some (.ref (G.2.2.1 156)), some (.int (nI c - nI 1)), l2] [] := by
    intro c
    induction c with
    | zero =>
      intro τ l2 hc g1 g2 g3
      refine v_iload_n X dX5_layHeights_7 rfl ?_
      refine v_if_lt (tgt := 89) X dX5_layHeights_8 (by decide) (fun h8 => ?_) (fun h8 => ?_)
      · skip
        refine v_vret X hR dX5_layHeights_89 ?_
        exact ⟨g1, g2, fun y hy => g3 y (Nat.zero_le y) hy⟩
      · skip
        exact absurd ((dn_0 (by decide)).mpr rfl) h8
    | succ c ih =>
      intro τ l2 hc g1 g2 g3
      rw [dn_s]
      refine v_iload_n X dX5_layHeights_7 rfl ?_
      refine v_if_lt (tgt := 89) X dX5_layHeights_8 (by decide) (fun h8 => ?_) (fun h8 => ?_)
      · skip
        exact absurd h8 (nI_pos (by omega))
      · skip
        refine v_aload_n X dX5_layHeights_11 rfl ?_
        refine v_getr X fl_X5_63 shX5_23 dX5_layHeights_12 ?_
        refine v_iload_n X dX5_layHeights_15 rfl ?_
        refine v_iconst (v := nI 0) X dX5_layHeights_16 (by decide) ?_
        refine v_iastE X arX5_23 rfl (show c < 2048 by omega) dX5_layHeights_17 ?_
        refine v_iload_n X dX5_layHeights_18 rfl ?_
        refine v_iconst (v := nI 1) X dX5_layHeights_19 (by decide) ?_
        refine v_iadd X dX5_layHeights_20 ?_
        refine v_top (nI_add c 1) ?_
        refine v_istore_n X dX5_layHeights_21 (Nat.le_of_ble_eq_true rfl) ?_
        show V G Z _ 22 [_, _, _] _
        have inner : ∀ (n v : Nat) (τ2 : Sg), (wlK P).length - v < n → c + 1 ≤ v → v ≤ (wlK P).length → vO σ τ2 → wI τ2 P → (∀ y, c + 1 ≤ y → y < (wlK P).length → τ2 173 y = nI (kh (wlK P) y)) → τ2 173 c = nI (hgR (wlK P) c (v - (c + 1))) → V G Z τ2 22 [some (.ref (G.2.2.1 156)), some (.int (nI c)), some (.int (nI v))] [] := by
          intro n
          induction n with
          | zero => intro v τ2 h; omega
          | succ n ihn =>
            intro v τ2 hn hcv hvl k1 k2 k3 k4
            refine v_iload_n X dX5_layHeights_22 rfl ?_
            refine v_aload_n X dX5_layHeights_23 rfl ?_
            refine v_geti X fl_X5_138 shX5_22 dX5_layHeights_24 ?_
            rw [k2.2.1]
            refine v_icmp_ge (tgt := 83) X dX5_layHeights_27 (by decide) (fun h27 => ?_) (fun h27 => ?_)
            · skip
              have hv := nI_lem (by omega) (by omega) h27
              have hv : v = (wlK P).length := by omega
              subst hv
              refine v_iincE X dX5_layHeights_83 rfl (dn_inc c) ?_
              show V G Z _ 86 [_, _, _] _
              refine v_goto (tgt := 7) X dX5_layHeights_86 (by decide) ?_
              refine ih τ2 _ (by omega) k1 k2 (fun y h1 h2 => ?_)
              by_cases q : y = c
              · rw [q, k4, kh_hg (by omega)]
              · exact k3 y (by omega) h2
            · skip
              have hv := nI_len (by omega) (by omega) h27
              have hkv := kh_b hv
              have hg : hgR (wlK P) c (v + 1 - (c + 1)) = if sbs (kw (wlK P) c) (kw (wlK P) v) then max (hgR (wlK P) c (v - (c + 1))) (kh (wlK P) v + 1) else hgR (wlK P) c (v - (c + 1)) := by
                rw [show v + 1 - (c + 1) = (v - (c + 1)) + 1 by omega, hgR, show c + 1 + (v - (c + 1)) = v by omega]
              have hgb : hgR (wlK P) c (v - (c + 1)) ≤ 2048 := hgR_le _ (fun u h1 h2 => by have := kh_b (P := P) (w := u) (by omega); omega)
              have hab : abv (wlK P) v c = sbs (kw (wlK P) c) (kw (wlK P) v) := by rw [abv, decide_eq_true (by omega)]; rfl
              have st : ∀ x : Nat, x = hgR (wlK P) c (v + 1 - (c + 1)) → V G Z τ2 76 [some (.ref (G.2.2.1 156)), some (.int (nI c)), some (.int (nI v))] [.int (nI x), .int (nI c), .ref (G.2.2.1 173)] := by
                intro x hx
                refine v_iastE X arX5_23 rfl (show c < 2048 by omega) dX5_layHeights_76 ?_
                refine v_iincE X dX5_layHeights_77 rfl (nI_inc v) ?_
                show V G Z _ 80 [_, _, _] _
                refine v_goto (tgt := 22) X dX5_layHeights_80 (by decide) ?_
                refine ihn (v + 1) _ (by omega) (by omega) (by omega) (k1.s2 (by omega)) (wI_173 k2) (fun y h1 h2 => ?_) ?_
                · rw [s2_ap, if_neg (by omega)]; exact k3 y h1 h2
                · rw [s2_at, hx]
              refine v_aload_n X dX5_layHeights_30 rfl ?_
              refine v_getr X fl_X5_63 shX5_23 dX5_layHeights_31 ?_
              refine v_iload_n X dX5_layHeights_34 rfl ?_
              refine v_aload_n X dX5_layHeights_35 rfl ?_
              refine v_iload_n X dX5_layHeights_36 rfl ?_
              refine v_iload_n X dX5_layHeights_37 rfl ?_
              refine v_cali X (m_isAbove G hl k2 (v := v) (w := c) hv (by omega)) cv_X5_162 obX5 rfl (by decide) rfl (by rfl) (Nat.le_of_ble_eq_true rfl) dX5_layHeights_38 (fun r τ9 hq => ?_)
              obtain ⟨e9, rfl⟩ := hq
              rw [e9]
              refine v_if_eq (tgt := 70) X dX5_layHeights_41 (by decide) (fun h41 => ?_) (fun h41 => ?_)
              · skip
                have hs := bI_z.mp h41
                rw [hab] at hs
                refine v_aload_n X dX5_layHeights_70 rfl ?_
                refine v_getr X fl_X5_63 shX5_23 dX5_layHeights_71 ?_
                refine v_iload_n X dX5_layHeights_74 rfl ?_
                refine v_ialdE X arX5_23 rfl (show c < 2048 by omega) dX5_layHeights_75 ?_
                rw [k4]
                exact st _ (by rw [hg, hs]; rfl)
              · skip
                have hs := bI_nz.mp h41
                rw [hab] at hs
                refine v_aload_n X dX5_layHeights_44 rfl ?_
                refine v_getr X fl_X5_63 shX5_23 dX5_layHeights_45 ?_
                refine v_iload_n X dX5_layHeights_48 rfl ?_
                refine v_ialdE X arX5_23 rfl (show v < 2048 by omega) dX5_layHeights_49 ?_
                rw [k3 v hcv hv]
                refine v_aload_n X dX5_layHeights_50 rfl ?_
                refine v_getr X fl_X5_63 shX5_23 dX5_layHeights_51 ?_
                refine v_iload_n X dX5_layHeights_54 rfl ?_
                refine v_ialdE X arX5_23 rfl (show c < 2048 by omega) dX5_layHeights_55 ?_
                rw [k4]
                refine v_icmp_lt (tgt := 70) X dX5_layHeights_56 (by decide) (fun h56 => ?_) (fun h56 => ?_)
                · skip
                  have hlt := nI_ltm (by omega) (by omega) h56
                  refine v_aload_n X dX5_layHeights_70 rfl ?_
                  refine v_getr X fl_X5_63 shX5_23 dX5_layHeights_71 ?_
                  refine v_iload_n X dX5_layHeights_74 rfl ?_
                  refine v_ialdE X arX5_23 rfl (show c < 2048 by omega) dX5_layHeights_75 ?_
                  rw [k4]
                  exact st _ (by rw [hg, hs, if_pos rfl]; omega)
                · skip
                  have hge := nI_ltn (by omega) (by omega) h56
                  refine v_aload_n X dX5_layHeights_59 rfl ?_
                  refine v_getr X fl_X5_63 shX5_23 dX5_layHeights_60 ?_
                  refine v_iload_n X dX5_layHeights_63 rfl ?_
                  refine v_ialdE X arX5_23 rfl (show v < 2048 by omega) dX5_layHeights_64 ?_
                  rw [k3 v hcv hv]
                  refine v_iconst (v := nI 1) X dX5_layHeights_65 (by decide) ?_
                  refine v_iadd X dX5_layHeights_66 ?_
                  refine v_top (nI_add _ 1) ?_
                  refine v_goto (tgt := 76) X dX5_layHeights_67 (by decide) ?_
                  exact st _ (by rw [hg, hs, if_pos rfl]; omega)
        refine inner ((wlK P).length + 1) (c + 1) _ (by omega) (Nat.le_refl _) hc (g1.s2 (by omega)) (wI_173 g2) (fun y h1 h2 => ?_) ?_
        · rw [s2_ap, if_neg (by omega)]; exact g3 y h1 h2
        · rw [s2_at, Nat.sub_self]; rfl
  refine v_aload_n X dX5_layHeights_0 rfl ?_
  refine v_geti X fl_X5_138 shX5_22 dX5_layHeights_1 ?_
  rw [hW.2.1]
  refine v_iconst (v := nI 1) X dX5_layHeights_4 (by decide) ?_
  refine v_isub X dX5_layHeights_5 ?_
  refine v_istore_n X dX5_layHeights_6 (Nat.le_of_ble_eq_true rfl) ?_
  show V G Z _ 7 [_, _, _] _
  exact outer (wlK P).length σ none (Nat.le_refl _) vO.rfl hW (fun y h1 h2 => by omega)
set_option maxHeartbeats 4000000 in
set_option maxRecDepth 100000 in
theorem m_aboveOf (G : GT) {σ : Sg} {P : Sen} (hl : P.length ≤ 11) (hW : wI σ P) {w : Nat} (hw : w < (wlK P).length) : MC G yX5_aboveOf cX5_aboveOf 4 .int 1 [.ref (G.2.2.1 156), .int (nI w)] σ (fun r τ => τ = σ ∧ r = nI (nab (wlK P) w)) := by
  refine MC_of (by decide) (ca1 rfl (ca1 rfl ca0)) (Nat.le_of_ble_eq_true rfl) ?_
  intro Z X hR
  show V G Z σ 0 [some (.ref (G.2.2.1 156)), some (.int (nI w)), none, none] []
  have hN := hW.1
  have loop : ∀ (n y : Nat), (wlK P).length - y < n → y ≤ (wlK P).length → V G Z σ 4 [some (.ref (G.2.2.1 156)), some (.int (nI w)), some (.int (nI (ctB (fun v => abv (wlK P) v w) y))), some (.int (nI y))] [] := by
    intro n
    induction n with
    | zero => intro y h; omega
    | succ n ih =>
      intro y hn hyl
      refine v_iload_n X dX5_aboveOf_4 rfl ?_
      refine v_aload_n X dX5_aboveOf_5 rfl ?_
      refine v_geti X fl_X5_138 shX5_22 dX5_aboveOf_6 ?_
      rw [hW.2.1]
      refine v_icmp_ge (tgt := 35) X dX5_aboveOf_9 (by decide) (fun h9 => ?_) (fun h9 => ?_)
      · skip
        have hy := nI_lem (by omega) (by omega) h9
        have hy : y = (wlK P).length := by omega
        subst hy
        refine v_iload_n X dX5_aboveOf_35 rfl ?_
        refine v_ret X hR dX5_aboveOf_36 rfl ?_
        exact ⟨rfl, rfl⟩
      · skip
        have hy := nI_len (by omega) (by omega) h9
        refine v_iload_n X dX5_aboveOf_12 rfl ?_
        refine v_aload_n X dX5_aboveOf_13 rfl ?_
        refine v_iload_n X dX5_aboveOf_14 rfl ?_
        refine v_iload_n X dX5_aboveOf_15 rfl ?_
        refine v_cali X (m_isAbove G hl hW (v := y) (w := w) hy hw) cv_X5_162 obX5 rfl (by decide) rfl (by rfl) (Nat.le_of_ble_eq_true rfl) dX5_aboveOf_16 (fun r τ9 hq => ?_)
        obtain ⟨e9, rfl⟩ := hq
        rw [e9]
        refine v_if_eq (tgt := 26) X dX5_aboveOf_19 (by decide) (fun h19 => ?_) (fun h19 => ?_)
        · skip
          have hc := bI_z.mp h19
          refine v_iconst (v := nI 0) X dX5_aboveOf_26 (by decide) ?_
          refine v_iadd X dX5_aboveOf_27 ?_
          refine v_top (nI_add _ _) ?_
          refine v_istore_n X dX5_aboveOf_28 (Nat.le_of_ble_eq_true rfl) ?_
          show V G Z _ 29 [_, _, _, _] _
          refine v_iincE X dX5_aboveOf_29 rfl (nI_inc y) ?_
          show V G Z _ 32 [_, _, _, _] _
          refine v_goto (tgt := 4) X dX5_aboveOf_32 (by decide) ?_
          have ihk := ih (y + 1) (by omega) (by omega)
          rw [ctB, hc] at ihk
          exact ihk
        · skip
          have hc := bI_nz.mp h19
          refine v_iconst (v := nI 1) X dX5_aboveOf_22 (by decide) ?_
          refine v_goto (tgt := 27) X dX5_aboveOf_23 (by decide) ?_
          refine v_iadd X dX5_aboveOf_27 ?_
          refine v_top (nI_add _ _) ?_
          refine v_istore_n X dX5_aboveOf_28 (Nat.le_of_ble_eq_true rfl) ?_
          show V G Z _ 29 [_, _, _, _] _
          refine v_iincE X dX5_aboveOf_29 rfl (nI_inc y) ?_
          show V G Z _ 32 [_, _, _, _] _
          refine v_goto (tgt := 4) X dX5_aboveOf_32 (by decide) ?_
          have ihk := ih (y + 1) (by omega) (by omega)
          rw [ctB, hc] at ihk
          exact ihk
  refine v_iconst (v := nI 0) X dX5_aboveOf_0 (by decide) ?_
  refine v_istore_n X dX5_aboveOf_1 (Nat.le_of_ble_eq_true rfl) ?_
  show V G Z _ 2 [_, _, _, _] _
  refine v_iconst (v := nI 0) X dX5_aboveOf_2 (by decide) ?_
  refine v_istore_n X dX5_aboveOf_3 (Nat.le_of_ble_eq_true rfl) ?_
  show V G Z _ 4 [_, _, _, _] _
  exact loop ((wlK P).length + 1) 0 (by omega) (by omega)
set_option maxHeartbeats 4000000 in
set_option maxRecDepth 100000 in
theorem m_belowOf (G : GT) {σ : Sg} {P : Sen} (hl : P.length ≤ 11) (hW : wI σ P) {w : Nat} (hw : w < (wlK P).length) : MC G yX5_belowOf cX5_belowOf 4 .int 1 [.ref (G.2.2.1 156), .int (nI w)] σ (fun r τ => τ = σ ∧ r = nI (nbl (wlK P) w)) := by
  refine MC_of (by decide) (ca1 rfl (ca1 rfl ca0)) (Nat.le_of_ble_eq_true rfl) ?_
  intro Z X hR
  show V G Z σ 0 [some (.ref (G.2.2.1 156)), some (.int (nI w)), none, none] []
  have hN := hW.1
  have loop : ∀ (n y : Nat), (wlK P).length - y < n → y ≤ (wlK P).length → V G Z σ 4 [some (.ref (G.2.2.1 156)), some (.int (nI w)), some (.int (nI (ctB (fun v => abv (wlK P) w v) y))), some (.int (nI y))] [] := by
    intro n
    induction n with
    | zero => intro y h; omega
    | succ n ih =>
      intro y hn hyl
      refine v_iload_n X dX5_belowOf_4 rfl ?_
      refine v_aload_n X dX5_belowOf_5 rfl ?_
      refine v_geti X fl_X5_138 shX5_22 dX5_belowOf_6 ?_
      rw [hW.2.1]
      refine v_icmp_ge (tgt := 35) X dX5_belowOf_9 (by decide) (fun h9 => ?_) (fun h9 => ?_)
      · skip
        have hy := nI_lem (by omega) (by omega) h9
        have hy : y = (wlK P).length := by omega
        subst hy
        refine v_iload_n X dX5_belowOf_35 rfl ?_
        refine v_ret X hR dX5_belowOf_36 rfl ?_
        exact ⟨rfl, rfl⟩
      · skip
        have hy := nI_len (by omega) (by omega) h9
        refine v_iload_n X dX5_belowOf_12 rfl ?_
        refine v_aload_n X dX5_belowOf_13 rfl ?_
        refine v_iload_n X dX5_belowOf_14 rfl ?_
        refine v_iload_n X dX5_belowOf_15 rfl ?_
        refine v_cali X (m_isAbove G hl hW (v := w) (w := y) hw hy) cv_X5_162 obX5 rfl (by decide) rfl (by rfl) (Nat.le_of_ble_eq_true rfl) dX5_belowOf_16 (fun r τ9 hq => ?_)
        obtain ⟨e9, rfl⟩ := hq
        rw [e9]
        refine v_if_eq (tgt := 26) X dX5_belowOf_19 (by decide) (fun h19 => ?_) (fun h19 => ?_)
        · skip
          have hc := bI_z.mp h19
          refine v_iconst (v := nI 0) X dX5_belowOf_26 (by decide) ?_
          refine v_iadd X dX5_belowOf_27 ?_
          refine v_top (nI_add _ _) ?_
          refine v_istore_n X dX5_belowOf_28 (Nat.le_of_ble_eq_true rfl) ?_
          show V G Z _ 29 [_, _, _, _] _
          refine v_iincE X dX5_belowOf_29 rfl (nI_inc y) ?_
          show V G Z _ 32 [_, _, _, _] _
          refine v_goto (tgt := 4) X dX5_belowOf_32 (by decide) ?_
          have ihk := ih (y + 1) (by omega) (by omega)
          rw [ctB, hc] at ihk
          exact ihk
        · skip
          have hc := bI_nz.mp h19
          refine v_iconst (v := nI 1) X dX5_belowOf_22 (by decide) ?_
          refine v_goto (tgt := 27) X dX5_belowOf_23 (by decide) ?_
          refine v_iadd X dX5_belowOf_27 ?_
          refine v_top (nI_add _ _) ?_
          refine v_istore_n X dX5_belowOf_28 (Nat.le_of_ble_eq_true rfl) ?_
          show V G Z _ 29 [_, _, _, _] _
          refine v_iincE X dX5_belowOf_29 rfl (nI_inc y) ?_
          show V G Z _ 32 [_, _, _, _] _
          refine v_goto (tgt := 4) X dX5_belowOf_32 (by decide) ?_
          have ihk := ih (y + 1) (by omega) (by omega)
          rw [ctB, hc] at ihk
          exact ihk
  refine v_iconst (v := nI 0) X dX5_belowOf_0 (by decide) ?_
  refine v_istore_n X dX5_belowOf_1 (Nat.le_of_ble_eq_true rfl) ?_
  show V G Z _ 2 [_, _, _, _] _
  refine v_iconst (v := nI 0) X dX5_belowOf_2 (by decide) ?_
  refine v_istore_n X dX5_belowOf_3 (Nat.le_of_ble_eq_true rfl) ?_
  show V G Z _ 4 [_, _, _, _] _
  exact loop ((wlK P).length + 1) 0 (by omega) (by omega)
set_option maxHeartbeats 4000000 in
set_option maxRecDepth 100000 in
theorem y_worlds (G : GT) {σ : Sg} {A : ASt} (hA : mR σ A) (x y : Int32) : MC G yX5_worlds cX5_worlds 10 .int 3 [.ref (G.2.2.1 156), .int x, .int y] σ (fun r τ => r = (sp_worlds x y A).1 ∧ mR τ (sp_worlds x y A).2 ∧ cO σ τ) := by
  refine MC_of (by decide) (ca1 rfl (ca1 rfl (ca1 rfl ca0))) (Nat.le_of_ble_eq_true rfl) ?_
  intro Z X hR
  show V G Z σ 0 [some (.ref (G.2.2.1 156)), some (.int x), some (.int y), none, none, none, none, none, none, none] []
  refine v_iload_n X dX5_worlds_0 rfl ?_
  refine v_cals X (m_isSlot G _) cs_X5_106 (by decide) rfl (by rfl) (Nat.le_of_ble_eq_true rfl) dX5_worlds_1 (fun r τ9 hq => ?_)
  obtain ⟨e9, rfl⟩ := hq
  rw [e9]
  refine v_if_ne (tgt := 9) X dX5_worlds_4 (by decide) (fun h4 => ?_) (fun h4 => ?_)
  · skip
    obtain ⟨a, a6, rfl, aN⟩ := slot_t (bI_nz.mp h4)
    have aP := hA.1 a (by omega)
    refine v_iload_n X dX5_worlds_9 rfl ?_
    refine v_iconst (v := nI 0) X dX5_worlds_10 (by decide) ?_
    refine v_iconst (v := nI 5) X dX5_worlds_11 (by decide) ?_
    refine v_cals X (m_in G _ _ _) cs_X5_69 (by decide) rfl (by rfl) (Nat.le_of_ble_eq_true rfl) dX5_worlds_12 (fun r τ9 hq => ?_)
    obtain ⟨e9, rfl⟩ := hq
    rw [e9]
    refine v_if_ne (tgt := 21) X dX5_worlds_15 (by decide) (fun h15 => ?_) (fun h15 => ?_)
    · skip
      have hy := in_t (bI_nz.mp h15)
      refine v_aload_n X dX5_worlds_21 rfl ?_
      refine v_iload_n X dX5_worlds_22 rfl ?_
      refine v_cali X (m_isEmpty G (s := a) (by omega) aP) cv_X5_120 obX5 rfl (by decide) rfl (by rfl) (Nat.le_of_ble_eq_true rfl) dX5_worlds_23 (fun r τ9 hq => ?_)
      obtain ⟨e9, rfl⟩ := hq
      rw [e9]
      refine v_if_eq (tgt := 32) X dX5_worlds_26 (by decide) (fun h26 => ?_) (fun h26 => ?_)
      · skip
        have a0 : ¬ (A.1 a).length = 0 := of_decide_eq_false (bI_z.mp h26)
        have ap : 0 < (A.1 a).length := by omega
        have a11 := aP.1
        refine v_aload_n X dX5_worlds_32 rfl ?_
        refine v_iload_n X dX5_worlds_33 rfl ?_
        refine v_calv X (m_look G (s := a) (by omega) aP) cv_X5_117 obX5 rfl (by decide) rfl (by rfl) (Nat.le_of_ble_eq_true rfl) dX5_worlds_34 (fun τ1 hp1 => ?_)
        obtain ⟨q1, q2⟩ := hp1
        have hA1 := mR_kO hA q2.k
        refine v_aload_n X dX5_worlds_37 rfl ?_
        refine v_calv X (m_layWorlds G q1 a11) cv_X5_147 obX5 rfl (by decide) rfl (by rfl) (Nat.le_of_ble_eq_true rfl) dX5_worlds_38 (fun τ2 hp2 => ?_)
        obtain ⟨w1, w2⟩ := hp2
        refine v_aload_n X dX5_worlds_41 rfl ?_
        refine v_calv X (m_layHeights G a11 w2) cv_X5_165 obX5 rfl (by decide) rfl (by rfl) (Nat.le_of_ble_eq_true rfl) dX5_worlds_42 (fun τ3 hp3 => ?_)
        obtain ⟨v3, w3, w4⟩ := hp3
        have hA3 : mR τ3 A := mR_kO (mR_kO hA1 w1.k) v3.k
        have hm3 : cO σ τ3 := (q2.k.c.trans w1.k.c).trans v3.k.c
        have ws3 := wS_vO (wS_vO q1 w1) v3
        have hN := w3.1
        have loop : ∀ (c r t h b : Nat) (l : Int32) (l9 : Option Value), c ≤ (wlK (A.1 a)).length → r + ctB (fun i => !(kw (wlK (A.1 a)) i).testBit ((A.1 a).length - 1)) c = ctB (fun i => !(kw (wlK (A.1 a)) i).testBit ((A.1 a).length - 1)) (wlK (A.1 a)).length → l = (if c < (wlK (A.1 a)).length ∧ (kw (wlK (A.1 a)) (c)).testBit ((A.1 a).length - 1) = false then nI (kw (wlK (A.1 a)) (c)) else -6) → t + ctB (fun i => decide (kh (wlK (A.1 a)) i = 0)) c = ctB (fun i => decide (kh (wlK (A.1 a)) i = 0)) (wlK (A.1 a)).length → max h (mxB (kh (wlK (A.1 a))) c) = mxB (kh (wlK (A.1 a))) (wlK (A.1 a)).length → b + ctB (fun i => !bel (wlK (A.1 a)) i) c = ctB (fun i => !bel (wlK (A.1 a)) i) (wlK (A.1 a)).length → V G Z τ3 68 [some (.ref (G.2.2.1 156)), some (.int (nI a)), some (.int y), some (.int (nI r)), some (.int l), some (.int (nI t)), some (.int (nI h)), some (.int (nI b)), some (.int (nI c - nI 1)), l9] [] := by
          intro c
          induction c with
          | zero =>
            intro r t h b l l9 hc g1 g2 g3 g4 g5
            refine v_iload X dX5_worlds_68 rfl ?_
            refine v_if_lt (tgt := 201) X dX5_worlds_70 (by decide) (fun h70 => ?_) (fun h70 => ?_)
            · skip
              refine v_iload_n X dX5_worlds_201 rfl ?_
              refine v_if_ne (tgt := 212) X dX5_worlds_202 (by decide) (fun h202 => ?_) (fun h202 => ?_)
              · skip
                refine v_iload_n X dX5_worlds_212 rfl ?_
                refine v_iconst (v := nI 1) X dX5_worlds_213 (by decide) ?_
                refine v_icmp_ne (tgt := 221) X dX5_worlds_214 (by decide) (fun h214 => ?_) (fun h214 => ?_)
                · skip
                  refine v_iload_n X dX5_worlds_221 rfl ?_
                  refine v_iconst (v := nI 2) X dX5_worlds_222 (by decide) ?_
                  refine v_icmp_ne (tgt := 231) X dX5_worlds_223 (by decide) (fun h223 => ?_) (fun h223 => ?_)
                  · skip
                    refine v_iload_n X dX5_worlds_231 rfl ?_
                    refine v_iconst (v := nI 3) X dX5_worlds_232 (by decide) ?_
                    refine v_icmp_ne (tgt := 241) X dX5_worlds_233 (by decide) (fun h233 => ?_) (fun h233 => ?_)
                    · skip
                      refine v_iload_n X dX5_worlds_241 rfl ?_
                      refine v_iconst (v := nI 4) X dX5_worlds_242 (by decide) ?_
                      refine v_icmp_ne (tgt := 251) X dX5_worlds_243 (by decide) (fun h243 => ?_) (fun h243 => ?_)
                      · skip
                        refine v_iload X dX5_worlds_251 rfl ?_
                        refine v_ret X hR dX5_worlds_253 rfl ?_
                        have eq : sp_worlds (nI a) y A = (qry (A.1 a) y, A) := by simp only [sp_worlds, aN]; exact (if_neg hy).trans (if_neg a0)
                        rw [eq]
                        refine ⟨?_, hA3, hm3⟩
                        show _ = qry (A.1 a) y
                        unfold qry
                        rw [if_neg (show ¬ y = 0 from h202), if_neg (show ¬ y = 1 from h214), if_neg (show ¬ y = 2 from h223), if_neg (show ¬ y = 3 from h233), if_neg (show ¬ y = 4 from h243)]
                        rw [← g5]
                        rfl
                      · skip
                        refine v_iload X dX5_worlds_246 rfl ?_
                        refine v_goto (tgt := 253) X dX5_worlds_248 (by decide) ?_
                        refine v_ret X hR dX5_worlds_253 rfl ?_
                        have eq : sp_worlds (nI a) y A = (qry (A.1 a) y, A) := by simp only [sp_worlds, aN]; exact (if_neg hy).trans (if_neg a0)
                        rw [eq]
                        refine ⟨?_, hA3, hm3⟩
                        show _ = qry (A.1 a) y
                        unfold qry
                        rw [if_neg (show ¬ y = 0 from h202), if_neg (show ¬ y = 1 from h214), if_neg (show ¬ y = 2 from h223), if_neg (show ¬ y = 3 from h233), if_pos (show y = 4 from h243)]
                        rw [← g4, show mxB (kh (wlK (A.1 a))) 0 = 0 from rfl, Nat.max_zero]
                    · skip
                      refine v_iload X dX5_worlds_236 rfl ?_
                      refine v_goto (tgt := 253) X dX5_worlds_238 (by decide) ?_
                      refine v_ret X hR dX5_worlds_253 rfl ?_
                      have eq : sp_worlds (nI a) y A = (qry (A.1 a) y, A) := by simp only [sp_worlds, aN]; exact (if_neg hy).trans (if_neg a0)
                      rw [eq]
                      refine ⟨?_, hA3, hm3⟩
                      show _ = qry (A.1 a) y
                      unfold qry
                      rw [if_neg (show ¬ y = 0 from h202), if_neg (show ¬ y = 1 from h214), if_neg (show ¬ y = 2 from h223), if_pos (show y = 3 from h233)]
                      rw [← g3]
                      rfl
                  · skip
                    refine v_iload X dX5_worlds_226 rfl ?_
                    refine v_goto (tgt := 253) X dX5_worlds_228 (by decide) ?_
                    refine v_ret X hR dX5_worlds_253 rfl ?_
                    have eq : sp_worlds (nI a) y A = (qry (A.1 a) y, A) := by simp only [sp_worlds, aN]; exact (if_neg hy).trans (if_neg a0)
                    rw [eq]
                    refine ⟨?_, hA3, hm3⟩
                    show _ = qry (A.1 a) y
                    unfold qry
                    rw [if_neg (show ¬ y = 0 from h202), if_neg (show ¬ y = 1 from h214), if_pos (show y = 2 from h223)]
                    rw [g2, lrf]
                · skip
                  refine v_iload_n X dX5_worlds_217 rfl ?_
                  refine v_goto (tgt := 253) X dX5_worlds_218 (by decide) ?_
                  refine v_ret X hR dX5_worlds_253 rfl ?_
                  have eq : sp_worlds (nI a) y A = (qry (A.1 a) y, A) := by simp only [sp_worlds, aN]; exact (if_neg hy).trans (if_neg a0)
                  rw [eq]
                  refine ⟨?_, hA3, hm3⟩
                  show _ = qry (A.1 a) y
                  unfold qry
                  rw [if_neg (show ¬ y = 0 from h202), if_pos (show y = 1 from h214)]
                  rw [nrf, ← g1]
                  rfl
              · skip
                refine v_aload_n X dX5_worlds_205 rfl ?_
                refine v_geti X fl_X5_138 shX5_22 dX5_worlds_206 ?_
                refine v_goto (tgt := 253) X dX5_worlds_209 (by decide) ?_
                refine v_ret X hR dX5_worlds_253 rfl ?_
                have eq : sp_worlds (nI a) y A = (qry (A.1 a) y, A) := by simp only [sp_worlds, aN]; exact (if_neg hy).trans (if_neg a0)
                rw [eq]
                refine ⟨?_, hA3, hm3⟩
                show _ = qry (A.1 a) y
                unfold qry
                rw [if_pos (show y = 0 from h202)]
                exact w3.2.1
            · skip
              exact absurd ((dn_0 (by decide)).mpr rfl) h70
          | succ c ih =>
            intro r t h b l l9 hc g1 g2 g3 g4 g5
            rw [dn_s]
            refine v_iload X dX5_worlds_68 rfl ?_
            refine v_if_lt (tgt := 201) X dX5_worlds_70 (by decide) (fun h70 => ?_) (fun h70 => ?_)
            · skip
              exact absurd h70 (nI_pos (by omega))
            · skip
              have hcN : c < (wlK (A.1 a)).length := by omega
              have hkb := kh_b hcN
              have hh31 : h < 2 ^ 31 := by
                have : mxB (kh (wlK (A.1 a))) (wlK (A.1 a)).length ≤ (wlK (A.1 a)).length := mxB_le (fun i hi => by have := kh_b hi; omega)
                omega
              have st4 : ∀ (r t h : Nat) (l : Int32) (l9 : Option Value), r + ctB (fun i => !(kw (wlK (A.1 a)) i).testBit ((A.1 a).length - 1)) c = ctB (fun i => !(kw (wlK (A.1 a)) i).testBit ((A.1 a).length - 1)) (wlK (A.1 a)).length → l = (if c < (wlK (A.1 a)).length ∧ (kw (wlK (A.1 a)) (c)).testBit ((A.1 a).length - 1) = false then nI (kw (wlK (A.1 a)) (c)) else -6) → t + ctB (fun i => decide (kh (wlK (A.1 a)) i = 0)) c = ctB (fun i => decide (kh (wlK (A.1 a)) i = 0)) (wlK (A.1 a)).length → max h (mxB (kh (wlK (A.1 a))) c) = mxB (kh (wlK (A.1 a))) (wlK (A.1 a)).length → V G Z τ3 176 [some (.ref (G.2.2.1 156)), some (.int (nI a)), some (.int y), some (.int (nI r)), some (.int l), some (.int (nI t)), some (.int (nI h)), some (.int (nI b)), some (.int (nI c)), l9] [] := by
                intro r t h l l9 g1 g2 g3 g4
                refine v_iload X dX5_worlds_176 rfl ?_
                refine v_aload_n X dX5_worlds_178 rfl ?_
                refine v_iload X dX5_worlds_179 rfl ?_
                refine v_cali X (m_belowOf G a11 w3 (w := c) hcN) cv_X5_171 obX5 rfl (by decide) rfl (by rfl) (Nat.le_of_ble_eq_true rfl) dX5_worlds_181 (fun r9 τ9 hq => ?_)
                obtain ⟨e9, rfl⟩ := hq
                rw [e9]
                refine v_if_ne (tgt := 191) X dX5_worlds_184 (by decide) (fun h184 => ?_) (fun h184 => ?_)
                · skip
                  have hb : bel (wlK (A.1 a)) c = true := by
                    cases q : bel (wlK (A.1 a)) c with
                    | true => rfl
                    | false => exact absurd (by rw [(nbl_0 hcN).mpr q]; rfl) h184
                  refine v_iconst (v := nI 0) X dX5_worlds_191 (by decide) ?_
                  refine v_iadd X dX5_worlds_192 ?_
                  refine v_top (nI_add _ _) ?_
                  refine v_istore X dX5_worlds_193 (Nat.le_of_ble_eq_true rfl) ?_
                  show V G Z _ 195 [_, _, _, _, _, _, _, _, _, _] _
                  refine v_iincE X dX5_worlds_195 rfl (dn_inc c) ?_
                  show V G Z _ 198 [_, _, _, _, _, _, _, _, _, _] _
                  refine v_goto (tgt := 68) X dX5_worlds_198 (by decide) ?_
                  exact ih _ _ _ _ _ _ (by omega) g1 g2 g3 g4 (by rw [ctB, hb] at g5; simpa [Nat.add_assoc, Nat.add_comm, Nat.add_left_comm] using g5)
                · skip
                  have hb : bel (wlK (A.1 a)) c = false := (nbl_0 hcN).mp (nI_eqm (b := 0) (Nat.lt_of_le_of_lt (ctB_le _ _) (by omega)) (by decide) h184)
                  refine v_iconst (v := nI 1) X dX5_worlds_187 (by decide) ?_
                  refine v_goto (tgt := 192) X dX5_worlds_188 (by decide) ?_
                  refine v_iadd X dX5_worlds_192 ?_
                  refine v_top (nI_add _ _) ?_
                  refine v_istore X dX5_worlds_193 (Nat.le_of_ble_eq_true rfl) ?_
                  show V G Z _ 195 [_, _, _, _, _, _, _, _, _, _] _
                  refine v_iincE X dX5_worlds_195 rfl (dn_inc c) ?_
                  show V G Z _ 198 [_, _, _, _, _, _, _, _, _, _] _
                  refine v_goto (tgt := 68) X dX5_worlds_198 (by decide) ?_
                  exact ih _ _ _ _ _ _ (by omega) g1 g2 g3 g4 (by rw [ctB, hb] at g5; simpa [Nat.add_assoc, Nat.add_comm, Nat.add_left_comm] using g5)
              have st3 : ∀ (r t : Nat) (l : Int32) (l9 : Option Value), r + ctB (fun i => !(kw (wlK (A.1 a)) i).testBit ((A.1 a).length - 1)) c = ctB (fun i => !(kw (wlK (A.1 a)) i).testBit ((A.1 a).length - 1)) (wlK (A.1 a)).length → l = (if c < (wlK (A.1 a)).length ∧ (kw (wlK (A.1 a)) (c)).testBit ((A.1 a).length - 1) = false then nI (kw (wlK (A.1 a)) (c)) else -6) → t + ctB (fun i => decide (kh (wlK (A.1 a)) i = 0)) c = ctB (fun i => decide (kh (wlK (A.1 a)) i = 0)) (wlK (A.1 a)).length → V G Z τ3 150 [some (.ref (G.2.2.1 156)), some (.int (nI a)), some (.int y), some (.int (nI r)), some (.int l), some (.int (nI t)), some (.int (nI h)), some (.int (nI b)), some (.int (nI c)), l9] [] := by
                intro r t l l9 g1 g2 g3
                refine v_aload_n X dX5_worlds_150 rfl ?_
                refine v_getr X fl_X5_63 shX5_23 dX5_worlds_151 ?_
                refine v_iload X dX5_worlds_154 rfl ?_
                refine v_ialdE X arX5_23 rfl (show c < 2048 by omega) dX5_worlds_156 ?_
                rw [w4 c hcN]
                refine v_iload X dX5_worlds_157 rfl ?_
                refine v_icmp_le (tgt := 172) X dX5_worlds_159 (by decide) (fun h159 => ?_) (fun h159 => ?_)
                · skip
                  have hh := nI_lem (by omega) hh31 h159
                  refine v_iload X dX5_worlds_172 rfl ?_
                  refine v_istore X dX5_worlds_174 (Nat.le_of_ble_eq_true rfl) ?_
                  show V G Z _ 176 [_, _, _, _, _, _, _, _, _, _] _
                  exact st4 r t h l _ g1 g2 g3 (by rw [mxB] at g4; omega)
                · skip
                  have hh := nI_len (by omega) hh31 h159
                  refine v_aload_n X dX5_worlds_162 rfl ?_
                  refine v_getr X fl_X5_63 shX5_23 dX5_worlds_163 ?_
                  refine v_iload X dX5_worlds_166 rfl ?_
                  refine v_ialdE X arX5_23 rfl (show c < 2048 by omega) dX5_worlds_168 ?_
                  refine v_goto (tgt := 174) X dX5_worlds_169 (by decide) ?_
                  refine v_istore X dX5_worlds_174 (Nat.le_of_ble_eq_true rfl) ?_
                  show V G Z _ 176 [_, _, _, _, _, _, _, _, _, _] _
                  rw [w4 c hcN]
                  exact st4 r t _ l _ g1 g2 g3 (by rw [mxB] at g4; omega)
              have st2 : ∀ (r : Nat) (l : Int32) (l9 : Option Value), r + ctB (fun i => !(kw (wlK (A.1 a)) i).testBit ((A.1 a).length - 1)) c = ctB (fun i => !(kw (wlK (A.1 a)) i).testBit ((A.1 a).length - 1)) (wlK (A.1 a)).length → l = (if c < (wlK (A.1 a)).length ∧ (kw (wlK (A.1 a)) (c)).testBit ((A.1 a).length - 1) = false then nI (kw (wlK (A.1 a)) (c)) else -6) → V G Z τ3 131 [some (.ref (G.2.2.1 156)), some (.int (nI a)), some (.int y), some (.int (nI r)), some (.int l), some (.int (nI t)), some (.int (nI h)), some (.int (nI b)), some (.int (nI c)), l9] [] := by
                intro r l l9 g1 g2
                refine v_iload X dX5_worlds_131 rfl ?_
                refine v_aload_n X dX5_worlds_133 rfl ?_
                refine v_iload X dX5_worlds_134 rfl ?_
                refine v_cali X (m_aboveOf G a11 w3 (w := c) hcN) cv_X5_168 obX5 rfl (by decide) rfl (by rfl) (Nat.le_of_ble_eq_true rfl) dX5_worlds_136 (fun r9 τ9 hq => ?_)
                obtain ⟨e9, rfl⟩ := hq
                rw [e9]
                refine v_if_ne (tgt := 146) X dX5_worlds_139 (by decide) (fun h139 => ?_) (fun h139 => ?_)
                · skip
                  have hk : decide (kh (wlK (A.1 a)) c = 0) = false := decide_eq_false (fun q => h139 (by rw [(nab_0 hcN).mpr q]; rfl))
                  refine v_iconst (v := nI 0) X dX5_worlds_146 (by decide) ?_
                  refine v_iadd X dX5_worlds_147 ?_
                  refine v_top (nI_add _ _) ?_
                  refine v_istore X dX5_worlds_148 (Nat.le_of_ble_eq_true rfl) ?_
                  show V G Z _ 150 [_, _, _, _, _, _, _, _, _, _] _
                  exact st3 r _ l _ g1 g2 (by rw [ctB, hk] at g3; simpa [Nat.add_assoc, Nat.add_comm, Nat.add_left_comm] using g3)
                · skip
                  have hk : decide (kh (wlK (A.1 a)) c = 0) = true := decide_eq_true ((nab_0 hcN).mp (nI_eqm (b := 0) (Nat.lt_of_le_of_lt (ctB_le _ _) (by omega)) (by decide) h139))
                  refine v_iconst (v := nI 1) X dX5_worlds_142 (by decide) ?_
                  refine v_goto (tgt := 147) X dX5_worlds_143 (by decide) ?_
                  refine v_iadd X dX5_worlds_147 ?_
                  refine v_top (nI_add _ _) ?_
                  refine v_istore X dX5_worlds_148 (Nat.le_of_ble_eq_true rfl) ?_
                  show V G Z _ 150 [_, _, _, _, _, _, _, _, _, _] _
                  exact st3 r _ l _ g1 g2 (by rw [ctB, hk] at g3; simpa [Nat.add_assoc, Nat.add_comm, Nat.add_left_comm] using g3)
              have st1 : ∀ (q : Bool), q = (kw (wlK (A.1 a)) c).testBit ((A.1 a).length - 1) → V G Z τ3 99 [some (.ref (G.2.2.1 156)), some (.int (nI a)), some (.int y), some (.int (nI r)), some (.int l), some (.int (nI t)), some (.int (nI h)), some (.int (nI b)), some (.int (nI c)), some (.int (bI (!q)))] [] := by
                intro q hq
                refine v_iload_n X dX5_worlds_99 rfl ?_
                refine v_iload X dX5_worlds_100 rfl ?_
                refine v_if_eq (tgt := 109) X dX5_worlds_102 (by decide) (fun h102 => ?_) (fun h102 => ?_)
                · skip
                  have hv : q = true := by have := bI_z.mp h102; simpa using this
                  refine v_iconst (v := nI 0) X dX5_worlds_109 (by decide) ?_
                  refine v_iadd X dX5_worlds_110 ?_
                  refine v_top (nI_add _ _) ?_
                  refine v_istore_n X dX5_worlds_111 (Nat.le_of_ble_eq_true rfl) ?_
                  show V G Z _ 112 [_, _, _, _, _, _, _, _, _, _] _
                  refine v_iload X dX5_worlds_112 rfl ?_
                  refine v_if_eq (tgt := 127) X dX5_worlds_114 (by decide) (fun h114 => ?_) (fun h114 => ?_)
                  · skip
                    refine v_iload X dX5_worlds_127 rfl ?_
                    refine v_istore X dX5_worlds_129 (Nat.le_of_ble_eq_true rfl) ?_
                    show V G Z _ 131 [_, _, _, _, _, _, _, _, _, _] _
                    refine st2 _ l _ (by rw [ctB, ← hq, hv] at g1; simpa [Nat.add_assoc, Nat.add_comm, Nat.add_left_comm] using g1) ?_
                    rw [g2, if_neg (fun z => ?_), if_neg (fun z => ?_)]
                    · have := z.2
                      rw [← hq, hv] at this; cases this
                    · have := rf_dn ap (Nat.lt_succ_self c) z.1 z.2
                      rw [← hq, hv] at this; cases this
                  · skip
                    exact absurd (by rw [hv]; rfl) h114
                · skip
                  have hv : q = false := by have := bI_nz.mp h102; simpa using this
                  refine v_iconst (v := nI 1) X dX5_worlds_105 (by decide) ?_
                  refine v_goto (tgt := 110) X dX5_worlds_106 (by decide) ?_
                  refine v_iadd X dX5_worlds_110 ?_
                  refine v_top (nI_add _ _) ?_
                  refine v_istore_n X dX5_worlds_111 (Nat.le_of_ble_eq_true rfl) ?_
                  show V G Z _ 112 [_, _, _, _, _, _, _, _, _, _] _
                  refine v_iload X dX5_worlds_112 rfl ?_
                  refine v_if_eq (tgt := 127) X dX5_worlds_114 (by decide) (fun h114 => ?_) (fun h114 => ?_)
                  · skip
                    rw [hv] at h114
                    exact absurd h114 (by decide)
                  · skip
                    refine v_aload_n X dX5_worlds_117 rfl ?_
                    refine v_getr X fl_X5_56 shX5_20 dX5_worlds_118 ?_
                    refine v_iload X dX5_worlds_121 rfl ?_
                    refine v_ialdE X arX5_20 rfl (show c < 2048 by omega) dX5_worlds_123 ?_
                    refine v_goto (tgt := 129) X dX5_worlds_124 (by decide) ?_
                    refine v_istore X dX5_worlds_129 (Nat.le_of_ble_eq_true rfl) ?_
                    show V G Z _ 131 [_, _, _, _, _, _, _, _, _, _] _
                    rw [wI_at w3 hcN]
                    refine st2 _ _ _ (by rw [ctB, ← hq, hv] at g1; simpa [Nat.add_assoc, Nat.add_comm, Nat.add_left_comm] using g1) ?_
                    rw [if_pos ⟨hcN, by rw [← hq, hv]⟩]
              refine v_aload_n X dX5_worlds_73 rfl ?_
              refine v_getr X fl_X5_56 shX5_20 dX5_worlds_74 ?_
              refine v_iload X dX5_worlds_77 rfl ?_
              refine v_ialdE X arX5_20 rfl (show c < 2048 by omega) dX5_worlds_79 ?_
              refine v_aload_n X dX5_worlds_80 rfl ?_
              refine v_geti X fl_X5_73 shX5_7 dX5_worlds_81 ?_
              rw [ws3.2.2.1]
              refine v_iconst (v := nI 1) X dX5_worlds_84 (by decide) ?_
              refine v_isub X dX5_worlds_85 ?_
              rw [wI_at w3 hcN]
              refine v_top (nI_s1 ap) ?_
              refine v_cals X (m_has G (kw (wlK (A.1 a)) c) (k := ((A.1 a).length - 1)) (by omega)) cs_X5_134 (by decide) rfl (by rfl) (Nat.le_of_ble_eq_true rfl) dX5_worlds_86 (fun r9 τ9 hq => ?_)
              obtain ⟨e9, rfl⟩ := hq
              rw [e9]
              refine v_if_ne (tgt := 96) X dX5_worlds_89 (by decide) (fun h89 => ?_) (fun h89 => ?_)
              · skip
                have hv := bI_nz.mp h89
                refine v_iconst (v := nI 0) X dX5_worlds_96 (by decide) ?_
                refine v_istore X dX5_worlds_97 (Nat.le_of_ble_eq_true rfl) ?_
                show V G Z _ 99 [_, _, _, _, _, _, _, _, _, _] _
                exact st1 true hv.symm
              · skip
                have hv := bI_z.mp h89
                refine v_iconst (v := nI 1) X dX5_worlds_92 (by decide) ?_
                refine v_goto (tgt := 97) X dX5_worlds_93 (by decide) ?_
                refine v_istore X dX5_worlds_97 (Nat.le_of_ble_eq_true rfl) ?_
                show V G Z _ 99 [_, _, _, _, _, _, _, _, _, _] _
                exact st1 false hv.symm
        refine v_iconst (v := nI 0) X dX5_worlds_45 (by decide) ?_
        refine v_istore_n X dX5_worlds_46 (Nat.le_of_ble_eq_true rfl) ?_
        show V G Z _ 47 [_, _, _, _, _, _, _, _, _, _] _
        refine v_bipush (v := (-6)) X dX5_worlds_47 (by decide) ?_
        refine v_istore X dX5_worlds_49 (Nat.le_of_ble_eq_true rfl) ?_
        show V G Z _ 51 [_, _, _, _, _, _, _, _, _, _] _
        refine v_iconst (v := nI 0) X dX5_worlds_51 (by decide) ?_
        refine v_istore X dX5_worlds_52 (Nat.le_of_ble_eq_true rfl) ?_
        show V G Z _ 54 [_, _, _, _, _, _, _, _, _, _] _
        refine v_iconst (v := nI 0) X dX5_worlds_54 (by decide) ?_
        refine v_istore X dX5_worlds_55 (Nat.le_of_ble_eq_true rfl) ?_
        show V G Z _ 57 [_, _, _, _, _, _, _, _, _, _] _
        refine v_iconst (v := nI 0) X dX5_worlds_57 (by decide) ?_
        refine v_istore X dX5_worlds_58 (Nat.le_of_ble_eq_true rfl) ?_
        show V G Z _ 60 [_, _, _, _, _, _, _, _, _, _] _
        refine v_aload_n X dX5_worlds_60 rfl ?_
        refine v_geti X fl_X5_138 shX5_22 dX5_worlds_61 ?_
        rw [w3.2.1]
        refine v_iconst (v := nI 1) X dX5_worlds_64 (by decide) ?_
        refine v_isub X dX5_worlds_65 ?_
        refine v_istore X dX5_worlds_66 (Nat.le_of_ble_eq_true rfl) ?_
        show V G Z _ 68 [_, _, _, _, _, _, _, _, _, _] _
        exact loop (wlK (A.1 a)).length 0 0 0 0 _ _ (Nat.le_refl _) (Nat.zero_add _) (if_neg (fun z => Nat.lt_irrefl _ z.1)).symm (Nat.zero_add _) (Nat.zero_max _) (Nat.zero_add _)
      · skip
        have a0 : (A.1 a).length = 0 := of_decide_eq_true (bI_nz.mp h26)
        refine v_bipush (v := (-3)) X dX5_worlds_29 (by decide) ?_
        refine v_ret X hR dX5_worlds_31 rfl ?_
        have e : sp_worlds (nI a) y A = (-3, A) := by simp only [sp_worlds, aN]; exact (if_neg hy).trans (if_pos a0)
        rw [e]
        exact ⟨rfl, hA, cO.rfl⟩
    · skip
      have hy := in_f (bI_z.mp h15)
      refine v_bipush (v := (-2)) X dX5_worlds_18 (by decide) ?_
      refine v_ret X hR dX5_worlds_20 rfl ?_
      have e : sp_worlds (nI a) y A = (-2, A) := by simp only [sp_worlds, aN]; exact if_pos hy
      rw [e]
      exact ⟨rfl, hA, cO.rfl⟩
  · skip
    have an := slot_f (bI_z.mp h4)
    refine v_iconst (v := (-1)) X dX5_worlds_7 (by decide) ?_
    refine v_ret X hR dX5_worlds_8 rfl ?_
    have e : sp_worlds x y A = (-1, A) := by simp [sp_worlds, an]
    rw [e]
    exact ⟨rfl, hA, cO.rfl⟩

set_option maxHeartbeats 4000000 in
set_option maxRecDepth 100000 in
theorem y_world (G : GT) {σ : Sg} {A : ASt} (hA : mR σ A) (x y z : Int32) : MC G yX5_world cX5_world 4 .int 3 [.ref (G.2.2.1 156), .int x, .int y, .int z] σ (fun r τ => r = (sp_world x y z A).1 ∧ mR τ (sp_world x y z A).2 ∧ cO σ τ) := by
  refine MC_of (by decide) (ca1 rfl (ca1 rfl (ca1 rfl (ca1 rfl ca0)))) (Nat.le_of_ble_eq_true rfl) ?_
  intro Z X hR
  show V G Z σ 0 [some (.ref (G.2.2.1 156)), some (.int x), some (.int y), some (.int z)] []
  refine v_iload_n X dX5_world_0 rfl ?_
  refine v_cals X (m_isSlot G _) cs_X5_106 (by decide) rfl (by rfl) (Nat.le_of_ble_eq_true rfl) dX5_world_1 (fun r τ9 hq => ?_)
  obtain ⟨e9, rfl⟩ := hq
  rw [e9]
  refine v_if_ne (tgt := 9) X dX5_world_4 (by decide) (fun h4 => ?_) (fun h4 => ?_)
  · skip
    obtain ⟨a, a6, rfl, aN⟩ := slot_t (bI_nz.mp h4)
    have aP := hA.1 a (by omega)
    refine v_iload_n X dX5_world_9 rfl ?_
    refine v_iconst (v := nI 0) X dX5_world_10 (by decide) ?_
    refine v_iconst (v := nI 2) X dX5_world_11 (by decide) ?_
    refine v_cals X (m_in G _ _ _) cs_X5_69 (by decide) rfl (by rfl) (Nat.le_of_ble_eq_true rfl) dX5_world_12 (fun r τ9 hq => ?_)
    obtain ⟨e9, rfl⟩ := hq
    rw [e9]
    refine v_if_ne (tgt := 21) X dX5_world_15 (by decide) (fun h15 => ?_) (fun h15 => ?_)
    · skip
      have hz := in_t (bI_nz.mp h15)
      refine v_aload_n X dX5_world_21 rfl ?_
      refine v_iload_n X dX5_world_22 rfl ?_
      refine v_cali X (m_isEmpty G (s := a) (by omega) aP) cv_X5_120 obX5 rfl (by decide) rfl (by rfl) (Nat.le_of_ble_eq_true rfl) dX5_world_23 (fun r τ9 hq => ?_)
      obtain ⟨e9, rfl⟩ := hq
      rw [e9]
      refine v_if_eq (tgt := 32) X dX5_world_26 (by decide) (fun h26 => ?_) (fun h26 => ?_)
      · skip
        have a0 : ¬ (A.1 a).length = 0 := of_decide_eq_false (bI_z.mp h26)
        have ap : 0 < (A.1 a).length := by omega
        have a11 := aP.1
        have hN0 := wlK_pos aP.2.1
        refine v_aload_n X dX5_world_32 rfl ?_
        refine v_iload_n X dX5_world_33 rfl ?_
        refine v_calv X (m_look G (s := a) (by omega) aP) cv_X5_117 obX5 rfl (by decide) rfl (by rfl) (Nat.le_of_ble_eq_true rfl) dX5_world_34 (fun τ1 hp1 => ?_)
        obtain ⟨q1, q2⟩ := hp1
        have hA1 := mR_kO hA q2.k
        refine v_aload_n X dX5_world_37 rfl ?_
        refine v_calv X (m_layWorlds G q1 a11) cv_X5_147 obX5 rfl (by decide) rfl (by rfl) (Nat.le_of_ble_eq_true rfl) dX5_world_38 (fun τ2 hp2 => ?_)
        obtain ⟨w1, w2⟩ := hp2
        have hN := w2.1
        have hA2 : mR τ2 A := mR_kO hA1 w1.k
        have hm2 : cO σ τ2 := q2.k.c.trans w1.k.c
        refine v_iload_n X dX5_world_41 rfl ?_
        refine v_iconst (v := nI 0) X dX5_world_42 (by decide) ?_
        refine v_aload_n X dX5_world_43 rfl ?_
        refine v_geti X fl_X5_138 shX5_22 dX5_world_44 ?_
        rw [w2.2.1]
        refine v_iconst (v := nI 1) X dX5_world_47 (by decide) ?_
        refine v_isub X dX5_world_48 ?_
        refine v_top (nI_s1 hN0) ?_
        refine v_cals X (m_in G _ _ _) cs_X5_69 (by decide) rfl (by rfl) (Nat.le_of_ble_eq_true rfl) dX5_world_49 (fun r τ9 hq => ?_)
        obtain ⟨e9, rfl⟩ := hq
        rw [e9]
        refine v_if_ne (tgt := 58) X dX5_world_52 (by decide) (fun h52 => ?_) (fun h52 => ?_)
        · skip
          obtain ⟨i, hi, rfl, hin, hir⟩ := in_ix hN0 (by omega) (in_t (bI_nz.mp h52))
          refine v_aload_n X dX5_world_58 rfl ?_
          refine v_calv X (m_layHeights G a11 w2) cv_X5_165 obX5 rfl (by decide) rfl (by rfl) (Nat.le_of_ble_eq_true rfl) dX5_world_59 (fun τ3 hp3 => ?_)
          obtain ⟨v3, w3, w4⟩ := hp3
          have hA3 : mR τ3 A := mR_kO hA2 v3.k
          have hm3 : cO σ τ3 := hm2.trans v3.k.c
          refine v_iload_n X dX5_world_62 rfl ?_
          refine v_if_ne (tgt := 75) X dX5_world_63 (by decide) (fun h63 => ?_) (fun h63 => ?_)
          · skip
            refine v_iload_n X dX5_world_75 rfl ?_
            refine v_iconst (v := nI 1) X dX5_world_76 (by decide) ?_
            refine v_icmp_ne (tgt := 88) X dX5_world_77 (by decide) (fun h77 => ?_) (fun h77 => ?_)
            · skip
              refine v_aload_n X dX5_world_88 rfl ?_
              refine v_getr X fl_X5_63 shX5_23 dX5_world_89 ?_
              refine v_iload_n X dX5_world_92 rfl ?_
              refine v_ialdE X arX5_23 rfl (show i < 2048 by omega) dX5_world_93 ?_
              refine v_ret X hR dX5_world_94 rfl ?_
              have eq : sp_world (nI a) (nI i) z A = (if z = 0 then nI (kw (wlK (A.1 a)) i) else if z = 1 then nI (nab (wlK (A.1 a)) i) else nI (kh (wlK (A.1 a)) i), A) := by simp only [sp_world, aN]; refine (if_neg hz).trans ((if_neg a0).trans ((if_neg hir).trans ?_)); rw [hin]
              rw [eq]
              refine ⟨?_, hA3, hm3⟩
              show _ = (if z = 0 then nI (kw (wlK (A.1 a)) i) else if z = 1 then nI (nab (wlK (A.1 a)) i) else nI (kh (wlK (A.1 a)) i))
              rw [if_neg (show ¬ z = 0 from h63), if_neg (show ¬ z = 1 from h77)]
              exact w4 i hi
            · skip
              refine v_aload_n X dX5_world_80 rfl ?_
              refine v_iload_n X dX5_world_81 rfl ?_
              refine v_cali X (m_aboveOf G a11 w3 (w := i) hi) cv_X5_168 obX5 rfl (by decide) rfl (by rfl) (Nat.le_of_ble_eq_true rfl) dX5_world_82 (fun r9 τ9 hq => ?_)
              obtain ⟨e9, rfl⟩ := hq
              rw [e9]
              refine v_goto (tgt := 94) X dX5_world_85 (by decide) ?_
              refine v_ret X hR dX5_world_94 rfl ?_
              have eq : sp_world (nI a) (nI i) z A = (if z = 0 then nI (kw (wlK (A.1 a)) i) else if z = 1 then nI (nab (wlK (A.1 a)) i) else nI (kh (wlK (A.1 a)) i), A) := by simp only [sp_world, aN]; refine (if_neg hz).trans ((if_neg a0).trans ((if_neg hir).trans ?_)); rw [hin]
              rw [eq]
              refine ⟨?_, hA3, hm3⟩
              show _ = (if z = 0 then nI (kw (wlK (A.1 a)) i) else if z = 1 then nI (nab (wlK (A.1 a)) i) else nI (kh (wlK (A.1 a)) i))
              rw [if_neg (show ¬ z = 0 from h63), if_pos (show z = 1 from h77)]
          · skip
            refine v_aload_n X dX5_world_66 rfl ?_
            refine v_getr X fl_X5_56 shX5_20 dX5_world_67 ?_
            refine v_iload_n X dX5_world_70 rfl ?_
            refine v_ialdE X arX5_20 rfl (show i < 2048 by omega) dX5_world_71 ?_
            refine v_goto (tgt := 94) X dX5_world_72 (by decide) ?_
            refine v_ret X hR dX5_world_94 rfl ?_
            have eq : sp_world (nI a) (nI i) z A = (if z = 0 then nI (kw (wlK (A.1 a)) i) else if z = 1 then nI (nab (wlK (A.1 a)) i) else nI (kh (wlK (A.1 a)) i), A) := by simp only [sp_world, aN]; refine (if_neg hz).trans ((if_neg a0).trans ((if_neg hir).trans ?_)); rw [hin]
            rw [eq]
            refine ⟨?_, hA3, hm3⟩
            show _ = (if z = 0 then nI (kw (wlK (A.1 a)) i) else if z = 1 then nI (nab (wlK (A.1 a)) i) else nI (kh (wlK (A.1 a)) i))
            rw [if_pos (show z = 0 from h63)]
            exact wI_at w3 hi
        · skip
          have hir := in_out hN0 (by omega) (in_f (bI_z.mp h52))
          refine v_bipush (v := (-6)) X dX5_world_55 (by decide) ?_
          refine v_ret X hR dX5_world_57 rfl ?_
          have e : sp_world (nI a) y z A = (-6, A) := by simp only [sp_world, aN]; exact (if_neg hz).trans ((if_neg a0).trans (if_pos hir))
          rw [e]
          exact ⟨rfl, hA2, hm2⟩
      · skip
        have a0 : (A.1 a).length = 0 := of_decide_eq_true (bI_nz.mp h26)
        refine v_bipush (v := (-3)) X dX5_world_29 (by decide) ?_
        refine v_ret X hR dX5_world_31 rfl ?_
        have e : sp_world (nI a) y z A = (-3, A) := by simp only [sp_world, aN]; exact (if_neg hz).trans (if_pos a0)
        rw [e]
        exact ⟨rfl, hA, cO.rfl⟩
    · skip
      have hz := in_f (bI_z.mp h15)
      refine v_bipush (v := (-2)) X dX5_world_18 (by decide) ?_
      refine v_ret X hR dX5_world_20 rfl ?_
      have e : sp_world (nI a) y z A = (-2, A) := by simp only [sp_world, aN]; exact if_pos hz
      rw [e]
      exact ⟨rfl, hA, cO.rfl⟩
  · skip
    have an := slot_f (bI_z.mp h4)
    refine v_iconst (v := (-1)) X dX5_world_7 (by decide) ?_
    refine v_ret X hR dX5_world_8 rfl ?_
    have e : sp_world x y z A = (-1, A) := by simp [sp_world, an]
    rw [e]
    exact ⟨rfl, hA, cO.rfl⟩

