/-! the reference's parser -/
def opn (t : Nat) : Nat := if t = 0 then 1 else if t = 1 then 2 else 3
def mk (τ : Sg) : Stk → Prop
  | [] => τ 165 0 = nI 0
  | e :: r => τ 165 (r.length + 1) = nI (opn e.1) ∧ (2 ≤ e.1 → τ 167 (r.length + 1) = nI e.1 ∧ τ 166 (r.length + 1) = nI e.2) ∧ mk τ r
theorem mk_cong {σ τ : Sg} (n : Nat) (h1 : ∀ x, x < n → τ 165 x = σ 165 x) (h2 : ∀ x, x < n → τ 166 x = σ 166 x) (h3 : ∀ x, x < n → τ 167 x = σ 167 x) : ∀ (r : Stk), r.length < n → mk σ r → mk τ r
  | [], h0, h => by
    show τ 165 0 = nI 0
    rw [h1 0 (by simpa using h0)]; exact h
  | e :: r, hl, ⟨a1, a2, a3⟩ => by
    have hl : r.length + 1 < n := hl
    exact ⟨by rw [h1 _ hl]; exact a1, fun z => by rw [h2 _ hl, h3 _ hl]; exact a2 z, mk_cong n h1 h2 h3 r (by omega) a3⟩
def mNx (stk : Stk) : Nat := match stk with
  | [] => 3
  | e :: _ => if e.1 = 1 then 1 else 2
theorem mNx_lt (stk : Stk) : mNx stk < 2 ^ 31 := by
  cases stk with
  | nil => decide
  | cons e r => rw [mNx]; split <;> decide
def skV (n : Nat) (stk : Stk) : Prop := ∀ e ∈ stk, e.1 ≤ 4 ∧ (2 ≤ e.1 → e.2 < n)
theorem skV.mono {n m : Nat} {stk : Stk} (h : skV n stk) (hn : n ≤ m) : skV m stk := fun e he => ⟨(h e he).1, fun z => Nat.lt_of_lt_of_le ((h e he).2 z) hn⟩
theorem skV.tail {n : Nat} {e : Nat × Nat} {r : Stk} (h : skV n (e :: r)) : skV n r := fun e' he => h e' (List.mem_cons_of_mem _ he)
def wsI (τ : Sg) (P : Sen) (stk : Stk) : Prop := wS τ P ∧ τ 156 14 = nI (stk.length + 1) ∧ mk τ stk ∧ skV P.length stk
def wlI (τ : Sg) (P : Sen) (stk : Stk) (l : Nat) : Prop := τ 156 16 = nI l ∧ l < P.length ∧ τ 156 15 = nI (mNx stk) ∧ ∀ e r, stk = e :: r → e.1 = 1 → τ 166 (r.length + 1) = nI l
theorem top_open {τ : Sg} {stk : Stk} (h : mk τ stk) : τ 165 stk.length = nI (match stk with
    | [] => 0
    | e :: _ => opn e.1) := by
  cases stk with
  | nil => exact h
  | cons e r => exact h.1
set_option maxHeartbeats 4000000 in
set_option maxRecDepth 100000 in
theorem m_push (G : GT) {σ : Sg} {n t : Nat} (hn : n < 64) (hd : σ 156 14 = nI n) : MV G yX5_push cX5_push 2 0 [.ref (G.2.2.1 156), .int (nI t)] σ (fun τ => τ = s2 (s2 σ 165 n (nI t)) 156 14 (nI (n + 1))) := by
  refine MV_of (by decide) (ca1 rfl (ca1 rfl ca0)) (Nat.le_of_ble_eq_true rfl) ?_
  intro Z X hR
  show V G Z σ 0 [some (.ref (G.2.2.1 156)), some (.int (nI t))] []
  refine v_aload_n X dX5_push_0 rfl ?_
  refine v_getr X fl_X5_38 shX5_11 dX5_push_1 ?_
  refine v_aload_n X dX5_push_4 rfl ?_
  refine v_geti X fl_X5_79 shX5_14 dX5_push_5 ?_
  refine v_iload_n X dX5_push_8 rfl ?_
  refine v_iastE X arX5_11 hd hn dX5_push_9 ?_
  refine v_aload_n X dX5_push_10 rfl ?_
  refine v_dup X dX5_push_11 rfl ?_
  refine v_geti X fl_X5_79 shX5_14 dX5_push_12 ?_
  rw [s2_nc (by decide), hd]
  refine v_iconst (v := nI 1) X dX5_push_15 (by decide) ?_
  refine v_iadd X dX5_push_16 ?_
  refine v_top (nI_add n 1) ?_
  refine v_puti X fw_X5_79 shX5_14 dX5_push_17 rfl rfl ?_
  refine v_vret X hR dX5_push_20 ?_
  rfl

set_option maxHeartbeats 4000000 in
set_option maxRecDepth 100000 in
theorem m_complete (G : GT) {σ : Sg} {P : Sen} {stk : Stk} {l : Nat} (h : wsI σ P stk) (hl : l < P.length) (hb : P.length + 2 * stk.length ≤ 120) : MV G yX5_complete cX5_complete 3 1 [.ref (G.2.2.1 156), .int (nI l)] σ (fun τ => kO σ τ ∧ wsI τ (fnA stk P l).1 (fnA stk P l).2.1 ∧ wlI τ (fnA stk P l).1 (fnA stk P l).2.1 (fnA stk P l).2.2 ∧ (fnA stk P l).1.length + 2 * (fnA stk P l).2.1.length ≤ P.length + 2 * stk.length) := by
  refine MV_of (by decide) (ca1 rfl (ca1 rfl ca0)) (Nat.le_of_ble_eq_true rfl) ?_
  intro Z X hR
  show V G Z σ 0 [some (.ref (G.2.2.1 156)), some (.int (nI l)), none] []
  have out : ∀ (stk2 : Stk) (τ : Sg) (P2 : Sen) (k2 : Nat) (l2 : Option Value), kO σ τ → wsI τ P2 stk2 → τ 156 16 = nI k2 → k2 < P2.length → P2.length + 2 * stk2.length ≤ P.length + 2 * stk.length → (∀ e r, stk2 = e :: r → ¬ e.1 = 0) → fnA stk P l = (P2, stk2, k2) → V G Z τ 57 [some (.ref (G.2.2.1 156)), some (.int (nI l)), l2] [] := by
    intro stk2 τ P2 k2 l2 g1 g2 g3 g4 g5 g6 g7
    obtain ⟨a1, a2, a3, a4⟩ := g2
    have ht := top_open a3
    have hlen : stk2.length ≤ 60 := by omega
    have fin : ∀ v, v = mNx stk2 → V G Z τ 96 [some (.ref (G.2.2.1 156)), some (.int (nI l)), l2] [.int (nI v), .ref (G.2.2.1 156)] := by
      intro v hv
      have b1 : wS (s2 τ 156 15 (nI v)) P2 := wS_cong a1 (by rw [s2_ap, if_neg (by decide)]) (s2_nc (by decide)) (s2_nc (by decide)) (s2_nc (by decide))
      have b2 : mk (s2 τ 156 15 (nI v)) stk2 := mk_cong (σ := τ) 64 (fun x _ => by rw [s2_nc (by decide)]) (fun x _ => by rw [s2_nc (by decide)]) (fun x _ => by rw [s2_nc (by decide)]) stk2 (by omega) a3
      rw [g7] at hR
      refine v_puti X fw_X5_86 shX5_15 dX5_complete_96 rfl rfl ?_
      refine v_aload_n X dX5_complete_99 rfl ?_
      refine v_geti X fl_X5_86 shX5_15 dX5_complete_100 ?_
      rw [s2_at]
      refine v_iconst (v := nI 1) X dX5_complete_103 (by decide) ?_
      refine v_icmp_ne (tgt := 122) X dX5_complete_104 (by decide) (fun h104 => ?_) (fun h104 => ?_)
      · skip
        have hv1 : ¬ v = 1 := fun z => h104 (by rw [z])
        refine v_vret X hR dX5_complete_122 ?_
        refine ⟨g1.s2 (by omega), ⟨b1, by rw [s2_ap, if_neg (by decide)]; exact a2, b2, a4⟩, ⟨by rw [s2_ap, if_neg (by decide)]; exact g3, g4, by rw [s2_at, hv], fun e r he h1 => ?_⟩, g5⟩
        have he : stk2 = e :: r := he
        rw [he, mNx, if_pos h1] at hv
        exact absurd hv hv1
      · skip
        have hv1 : v = 1 := nI_eqm (by rw [hv]; exact mNx_lt _) (by decide) h104
        refine v_aload_n X dX5_complete_107 rfl ?_
        refine v_getr X fl_X5_41 shX5_12 dX5_complete_108 ?_
        refine v_aload_n X dX5_complete_111 rfl ?_
        refine v_geti X fl_X5_79 shX5_14 dX5_complete_112 ?_
        refine v_iconst (v := nI 1) X dX5_complete_115 (by decide) ?_
        refine v_isub X dX5_complete_116 ?_
        refine v_aload_n X dX5_complete_117 rfl ?_
        refine v_geti X fl_X5_76 shX5_16 dX5_complete_118 ?_
        refine v_top (y := nI k2) (by rw [s2_ap, if_neg (by decide)]; exact g3) ?_
        refine v_iastE X arX5_12 (by rw [s2_ap, if_neg (by decide), a2, nI_s1 (by omega)]; rfl) (show stk2.length < 64 by omega) dX5_complete_121 ?_
        refine v_vret X hR dX5_complete_122 ?_
        refine ⟨(g1.s2 (by omega)).s2 (by omega), ⟨wS_cong b1 (by rw [s2_nc (by decide)]) (s2_nc (by decide)) (s2_nc (by decide)) (s2_nc (by decide)), by rw [s2_nc (by decide), s2_ap, if_neg (by decide)]; exact a2, ?_, a4⟩, ⟨by rw [s2_nc (by decide), s2_ap, if_neg (by decide)]; exact g3, g4, by rw [s2_nc (by decide), s2_at, hv], fun e r he h1 => ?_⟩, g5⟩
        · show mk _ stk2
          cases stk2 with
          | nil => rw [mNx] at hv; omega
          | cons e r =>
            obtain ⟨c1, c2, c3⟩ := b2
            have he1 : e.1 = 1 := by
              rw [mNx] at hv
              by_cases z : e.1 = 1
              · exact z
              · rw [if_neg z] at hv; omega
            refine ⟨by rw [s2_nc (by decide)]; exact c1, fun z => by omega, ?_⟩
            exact mk_cong (σ := s2 τ 156 15 (nI v)) (r.length + 1) (fun x _ => by rw [s2_nc (by decide)]) (fun x hx => by rw [s2_ap, if_neg (by simp only [List.length_cons]; omega)]) (fun x _ => by rw [s2_nc (by decide)]) r (by omega) c3
        · have he : stk2 = e :: r := he
          subst he
          rw [s2_ap, if_pos ⟨rfl, rfl⟩]
    cases stk2 with
    | nil =>
      have ht : τ 165 0 = nI 0 := ht
      refine v_aload_n X dX5_complete_57 rfl ?_
      refine v_aload_n X dX5_complete_58 rfl ?_
      refine v_getr X fl_X5_38 shX5_11 dX5_complete_59 ?_
      refine v_aload_n X dX5_complete_62 rfl ?_
      refine v_geti X fl_X5_79 shX5_14 dX5_complete_63 ?_
      refine v_iconst (v := nI 1) X dX5_complete_66 (by decide) ?_
      refine v_isub X dX5_complete_67 ?_
      refine v_ialdE X arX5_11 (show _ = nI 0 from by rw [a2, nI_s1 (by decide)]; rfl) (show 0 < 64 by decide) dX5_complete_68 ?_
      rw [ht]
      refine v_if_ne (tgt := 76) X dX5_complete_69 (by decide) (fun h69 => ?_) (fun h69 => ?_)
      · skip
        exact absurd rfl h69
      · skip
        refine v_iconst (v := nI 3) X dX5_complete_72 (by decide) ?_
        refine v_goto (tgt := 96) X dX5_complete_73 (by decide) ?_
        exact fin 3 rfl
    | cons e r =>
      have ht : τ 165 (r.length + 1) = nI (opn e.1) := ht
      have hn0 := g6 e r rfl
      simp only [List.length_cons] at a2 hlen
      refine v_aload_n X dX5_complete_57 rfl ?_
      refine v_aload_n X dX5_complete_58 rfl ?_
      refine v_getr X fl_X5_38 shX5_11 dX5_complete_59 ?_
      refine v_aload_n X dX5_complete_62 rfl ?_
      refine v_geti X fl_X5_79 shX5_14 dX5_complete_63 ?_
      refine v_iconst (v := nI 1) X dX5_complete_66 (by decide) ?_
      refine v_isub X dX5_complete_67 ?_
      refine v_ialdE X arX5_11 (show _ = nI (r.length + 1) from by rw [a2, nI_s1 (by omega)]; rfl) (show r.length + 1 < 64 by omega) dX5_complete_68 ?_
      rw [ht]
      refine v_if_ne (tgt := 76) X dX5_complete_69 (by decide) (fun h69 => ?_) (fun h69 => ?_)
      · skip
        refine v_aload_n X dX5_complete_76 rfl ?_
        refine v_getr X fl_X5_38 shX5_11 dX5_complete_77 ?_
        refine v_aload_n X dX5_complete_80 rfl ?_
        refine v_geti X fl_X5_79 shX5_14 dX5_complete_81 ?_
        refine v_iconst (v := nI 1) X dX5_complete_84 (by decide) ?_
        refine v_isub X dX5_complete_85 ?_
        refine v_ialdE X arX5_11 (show _ = nI (r.length + 1) from by rw [a2, nI_s1 (by omega)]; rfl) (show r.length + 1 < 64 by omega) dX5_complete_86 ?_
        refine v_iconst (v := nI 2) X dX5_complete_87 (by decide) ?_
        rw [ht]
        refine v_icmp_ne (tgt := 95) X dX5_complete_88 (by decide) (fun h88 => ?_) (fun h88 => ?_)
        · skip
          have h1 : ¬ e.1 = 1 := fun z => h88 (by rw [opn, if_neg hn0, if_pos z])
          refine v_iconst (v := nI 2) X dX5_complete_95 (by decide) ?_
          exact fin 2 (by rw [mNx, if_neg h1])
        · skip
          have h1 : e.1 = 1 := by
            by_cases z : e.1 = 1
            · exact z
            · rw [opn, if_neg hn0, if_neg z] at h88; exact absurd h88 (by decide)
          refine v_iconst (v := nI 1) X dX5_complete_91 (by decide) ?_
          refine v_goto (tgt := 96) X dX5_complete_92 (by decide) ?_
          exact fin 1 (by rw [mNx, if_pos h1])
      · skip
        rw [opn, if_neg hn0] at h69
        split at h69 <;> exact absurd h69 (by decide)
  have loop : ∀ (stk2 : Stk) (τ : Sg) (P2 : Sen) (k2 : Nat) (l2 : Option Value), kO σ τ → wsI τ P2 stk2 → τ 156 16 = nI k2 → k2 < P2.length → P2.length + 2 * stk2.length ≤ P.length + 2 * stk.length → fnA stk P l = fnA stk2 P2 k2 → V G Z τ 5 [some (.ref (G.2.2.1 156)), some (.int (nI l)), l2] [] := by
    intro stk2
    induction stk2 with
    | nil =>
      intro τ P2 k2 l2 g1 g2 g3 g4 g5 g7
      have g2' := g2
      obtain ⟨a1, a2, a3, a4⟩ := g2
      have a3 : τ 165 0 = nI 0 := a3
      refine v_aload_n X dX5_complete_5 rfl ?_
      refine v_getr X fl_X5_38 shX5_11 dX5_complete_6 ?_
      refine v_aload_n X dX5_complete_9 rfl ?_
      refine v_geti X fl_X5_79 shX5_14 dX5_complete_10 ?_
      refine v_iconst (v := nI 1) X dX5_complete_13 (by decide) ?_
      refine v_isub X dX5_complete_14 ?_
      refine v_ialdE X arX5_11 (show _ = nI 0 from by rw [a2, nI_s1 (by decide)]; rfl) (show 0 < 64 by decide) dX5_complete_15 ?_
      refine v_iconst (v := nI 1) X dX5_complete_16 (by decide) ?_
      rw [a3]
      refine v_icmp_ne (tgt := 57) X dX5_complete_17 (by decide) (fun h17 => ?_) (fun h17 => ?_)
      · skip
        exact out [] τ P2 k2 _ g1 g2' g3 g4 g5 (fun e r h => by cases h) (by rw [g7, fnA])
      · skip
        exact absurd h17 (by decide)
    | cons e r ih =>
      intro τ P2 k2 l2 g1 g2 g3 g4 g5 g7
      have g2' := g2
      obtain ⟨a1, a2, a3, a4⟩ := g2
      obtain ⟨c1, c2, c3⟩ := a3
      simp only [List.length_cons] at a2 g5
      obtain ⟨t, a⟩ := e
      refine v_aload_n X dX5_complete_5 rfl ?_
      refine v_getr X fl_X5_38 shX5_11 dX5_complete_6 ?_
      refine v_aload_n X dX5_complete_9 rfl ?_
      refine v_geti X fl_X5_79 shX5_14 dX5_complete_10 ?_
      refine v_iconst (v := nI 1) X dX5_complete_13 (by decide) ?_
      refine v_isub X dX5_complete_14 ?_
      refine v_ialdE X arX5_11 (show _ = nI (r.length + 1) from by rw [a2, nI_s1 (by omega)]; rfl) (show r.length + 1 < 64 by omega) dX5_complete_15 ?_
      refine v_iconst (v := nI 1) X dX5_complete_16 (by decide) ?_
      rw [c1]
      refine v_icmp_ne (tgt := 57) X dX5_complete_17 (by decide) (fun h17 => ?_) (fun h17 => ?_)
      · skip
        have ht : ¬ t = 0 := fun z => h17 (by rw [opn, if_pos z])
        refine out ((t, a) :: r) τ P2 k2 _ g1 g2' g3 g4 g5 (fun e r h => ?_) (by rw [g7, fnA, if_neg ht])
        cases h
        exact ht
      · skip
        have ht : t = 0 := by
          by_cases z : t = 0
          · exact z
          · rw [opn, if_neg z] at h17
            split at h17 <;> exact absurd h17 (by decide)
        subst ht
        rw [fnA, if_pos rfl] at g7
        have b1 : wS (s2 τ 156 14 (nI (r.length + 1))) P2 := wS_cong a1 (by rw [s2_ap, if_neg (by decide)]) (s2_nc (by decide)) (s2_nc (by decide)) (s2_nc (by decide))
        refine v_aload_n X dX5_complete_20 rfl ?_
        refine v_dup X dX5_complete_21 rfl ?_
        refine v_geti X fl_X5_79 shX5_14 dX5_complete_22 ?_
        rw [a2]
        refine v_iconst (v := nI 1) X dX5_complete_25 (by decide) ?_
        refine v_isub X dX5_complete_26 ?_
        refine v_top (y := nI (r.length + 1)) (by rw [nI_s1 (by omega)]; rfl) ?_
        refine v_puti X fw_X5_79 shX5_14 dX5_complete_27 rfl rfl ?_
        refine v_aload_n X dX5_complete_30 rfl ?_
        refine v_iconst (v := nI 1) X dX5_complete_31 (by decide) ?_
        refine v_bipush (v := (-6)) X dX5_complete_32 (by decide) ?_
        refine v_bipush (v := (-6)) X dX5_complete_34 (by decide) ?_
        refine v_cali X (m_partOf G (q := (1, 0, 0)) b1 (by omega) (Or.inr (Or.inl ⟨rfl, rfl, rfl⟩))) cv_X5_82 obX5 rfl (by decide) rfl (by rfl) (Nat.le_of_ble_eq_true rfl) dX5_complete_36 (fun r1 τ1 hp1 => ?_)
        obtain ⟨rfl, d1, d2⟩ := hp1
        have hle1 := addP_le P2 (1, 0, 0)
        have hle2 := addP_le1 P2 (1, 0, 0)
        have hix := idx_lt P2 (1, 0, 0)
        refine v_istore_n X dX5_complete_39 (Nat.le_of_ble_eq_true rfl) ?_
        show V G Z _ 40 [_, _, _] _
        refine v_aload_n X dX5_complete_40 rfl ?_
        refine v_aload_n X dX5_complete_41 rfl ?_
        refine v_iconst (v := nI 4) X dX5_complete_42 (by decide) ?_
        refine v_aload_n X dX5_complete_43 rfl ?_
        refine v_geti X fl_X5_76 shX5_16 dX5_complete_44 ?_
        rw [d2.2 16 (by decide), s2_ap, if_neg (by decide), g3]
        refine v_iload_n X dX5_complete_47 rfl ?_
        show V G Z τ1 48 _ [.int (pB (4, k2, (addP P2 (1, 0, 0)).idxOf (1, 0, 0))), .int (pA (4, k2, (addP P2 (1, 0, 0)).idxOf (1, 0, 0))), .int (pK (4, k2, (addP P2 (1, 0, 0)).idxOf (1, 0, 0))), _, _]
        refine v_cali X (m_partOf G (q := (4, k2, (addP P2 (1, 0, 0)).idxOf (1, 0, 0))) d1 (by omega) (Or.inr (Or.inr ⟨by show 2 ≤ 4; decide, by show 4 ≤ 4; decide, by show k2 < _; omega, hix⟩))) cv_X5_82 obX5 rfl (by decide) rfl (by rfl) (Nat.le_of_ble_eq_true rfl) dX5_complete_48 (fun r2 τ2 hp2 => ?_)
        obtain ⟨rfl, e1, e2⟩ := hp2
        have hle3 := addP_le (addP P2 (1, 0, 0)) (4, k2, (addP P2 (1, 0, 0)).idxOf (1, 0, 0))
        have hle4 := addP_le1 (addP P2 (1, 0, 0)) (4, k2, (addP P2 (1, 0, 0)).idxOf (1, 0, 0))
        refine v_puti X fw_X5_76 shX5_16 dX5_complete_51 rfl rfl ?_
        refine v_goto (tgt := 5) X dX5_complete_54 (by decide) ?_
        refine ih _ _ _ _ ((((g1.s2 (by omega)).p d2).p e2).s2 (by omega)) ⟨wS_cong e1 (by rw [s2_ap, if_neg (by decide)]) (s2_nc (by decide)) (s2_nc (by decide)) (s2_nc (by decide)), ?_, ?_, (skV.tail a4).mono (by omega)⟩ (s2_at _ _ _ _) (idx_lt _ _) (by omega) g7
        · rw [s2_ap, if_neg (by decide), e2.2 14 (by decide), d2.2 14 (by decide), s2_at]
        · exact mk_cong (σ := τ) (r.length + 1) (fun x _ => by rw [s2_nc (by decide), e2.1 165 (by decide) (by decide) (by decide) (by decide), d2.1 165 (by decide) (by decide) (by decide) (by decide), s2_nc (by decide)]) (fun x _ => by rw [s2_nc (by decide), e2.1 166 (by decide) (by decide) (by decide) (by decide), d2.1 166 (by decide) (by decide) (by decide) (by decide), s2_nc (by decide)]) (fun x _ => by rw [s2_nc (by decide), e2.1 167 (by decide) (by decide) (by decide) (by decide), d2.1 167 (by decide) (by decide) (by decide) (by decide), s2_nc (by decide)]) r (by omega) c3
  refine v_aload_n X dX5_complete_0 rfl ?_
  refine v_iload_n X dX5_complete_1 rfl ?_
  refine v_puti X fw_X5_76 shX5_16 dX5_complete_2 rfl rfl ?_
  obtain ⟨a1, a2, a3, a4⟩ := h
  refine loop stk _ P l _ (kO.rfl.s2 (by omega)) ⟨wS_cong a1 (by rw [s2_ap, if_neg (by decide)]) (s2_nc (by decide)) (s2_nc (by decide)) (s2_nc (by decide)), by rw [s2_ap, if_neg (by decide)]; exact a2, ?_, a4⟩ (s2_at _ _ _ _) hl (Nat.le_refl _) rfl
  exact mk_cong (σ := σ) 64 (fun x _ => by rw [s2_nc (by decide)]) (fun x _ => by rw [s2_nc (by decide)]) (fun x _ => by rw [s2_nc (by decide)]) stk (by omega) a3
