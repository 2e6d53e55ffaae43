theorem goA_cons (s : Nat) (P : Sen) (t a : Nat) (r : Stk) (l : Nat) : goA s P ((t, a) :: r) l = if t = 1 then (if s = 38 then some (P, (2, l) :: r, true, l) else if s = 124 then some (P, (3, l) :: r, true, l) else if s = 62 then some (P, (4, l) :: r, true, l) else none) else if s = 41 then some (fnS r P (t, a, l)) else none := rfl
theorem i2c_n {s : Nat} (h : s < 65536) : ((nI s).toUInt32 % 65536).toInt32 = nI s := by
  rw [pk_char, pk_tn (by omega), Nat.mod_eq_of_lt h]
/-- the parser's state, as the class holds it -/
def pI (τ : Sg) (st : PS) (n : Nat) : Prop := ∃ (D : Sen) (lg : Bool) (cst : Stk), tI τ st.1 st.2.1 D lg cst ∧ τ 147 5 = bI st.2.2.1 ∧ (st.2.2.1 = false → lI τ D lg st.2.2.2) ∧ cst.length ≤ n
theorem pI_fin {τ : Sg} {P D' : Sen} {stk cst' : Stk} {q : Pt} {lg' : Bool} {n : Nat} (h1 : tI τ (fnA stk (addP P q) ((addP P q).idxOf q)).1 (fnA stk (addP P q) ((addP P q).idxOf q)).2.1 D' lg' cst') (h2 : lI τ D' lg' (fnA stk (addP P q) ((addP P q).idxOf q)).2.2) (h3 : τ 147 5 = bI false) (h4 : cst'.length ≤ n) : pI τ (fnS stk P q) n := ⟨D', lg', cst', h1, h3, fun _ => h2, h4⟩
theorem tI_add {σ τ : Sg} {P D D' : Sen} {stk cst : Stk} {lg lg' : Bool} {q : Pt} (h : tI σ P stk D lg cst) (o : offS 18 σ τ) (d : dS τ 18 (addP P q) D' lg') (hD : D.length ≤ D'.length) (hl : lg' = false → lg = false) : tI τ (addP P q) stk D' lg' cst := by
  obtain ⟨a1, a2, a3, a4⟩ := h
  exact ⟨d, by rw [o 147 (by omega)]; exact a2, skA_cong (σ := σ) cst.length (fun x _ => by rw [o 149 (by omega)]) (fun x _ => by rw [o 150 (by omega)]) cst (Nat.le_refl _) a3, skR_mono hD hl _ _ a4⟩
set_option maxHeartbeats 4000000 in
set_option maxRecDepth 100000 in
theorem c_open (G : GT) {σ : Sg} {n t : Nat} (hn : n < 40) (hd : σ 147 4 = nI n) : MC G yX3_open cX3_open 2 .boolean 0 [.ref (G.2.2.1 147), .int (nI t)] σ (fun r τ => r = nI 1 ∧ τ = s2 (s2 σ 149 n (nI t)) 147 4 (nI (n + 1))) := by
  refine MC_of (by decide) (ca1 rfl (ca1 rfl ca0)) (Nat.le_of_ble_eq_true rfl) ?_
  intro Z X hR
  show V G Z σ 0 [some (.ref (G.2.2.1 147)), some (.int (nI t))] []
  refine v_aload_n X dX3_open_0 rfl ?_
  refine v_geti X fl_X3_25 shX3_4 dX3_open_1 ?_
  refine v_bipush (v := nI 40) X dX3_open_4 (by decide) ?_
  rw [hd]
  refine v_icmp_lt (tgt := 11) X dX3_open_6 (by decide) (fun h6 => ?_) (fun h6 => ?_)
  · skip
    refine v_aload_n X dX3_open_11 rfl ?_
    refine v_getr X fl_X3_19 shX3_2 dX3_open_12 ?_
    refine v_aload_n X dX3_open_15 rfl ?_
    refine v_geti X fl_X3_25 shX3_4 dX3_open_16 ?_
    refine v_iload_n X dX3_open_19 rfl ?_
    refine v_iastE X arX3_2 hd hn dX3_open_20 ?_
    refine v_aload_n X dX3_open_21 rfl ?_
    refine v_dup X dX3_open_22 rfl ?_
    refine v_geti X fl_X3_25 shX3_4 dX3_open_23 ?_
    rw [s2_nc (by decide), hd]
    refine v_iconst (v := nI 1) X dX3_open_26 (by decide) ?_
    refine v_iadd X dX3_open_27 ?_
    refine v_top (nI_add n 1) ?_
    refine v_puti X fw_X3_25 shX3_4 dX3_open_28 rfl rfl ?_
    refine v_iconst (v := nI 1) X dX3_open_31 (by decide) ?_
    refine v_ret X hR dX3_open_32 rfl ?_
    exact ⟨rfl, rfl⟩
  · skip
    exact absurd (nI_ltn (b := 40) (by omega) (by decide) h6) (by omega)

set_option maxHeartbeats 4000000 in
set_option maxRecDepth 100000 in
theorem c_textAdd (G : GT) {σ : Sg} {n : Nat} (hn : n < 40) (hd : σ 147 0 = nI n) (s : Int32) : MV G yX3_add cX3_add 2 0 [.ref (G.2.2.1 147), .int s] σ (fun τ => τ = s2 (s2 σ 148 n s) 147 0 (nI (n + 1))) := by
  refine MV_of (by decide) (ca1 rfl (ca1 rfl ca0)) (Nat.le_of_ble_eq_true rfl) ?_
  intro Z X hR
  show V G Z σ 0 [some (.ref (G.2.2.1 147)), some (.int s)] []
  refine v_aload_n X dX3_add_0 rfl ?_
  refine v_geti X fl_X3_9 shX3_0 dX3_add_1 ?_
  refine v_bipush (v := nI 40) X dX3_add_4 (by decide) ?_
  rw [hd]
  refine v_icmp_ge (tgt := 29) X dX3_add_6 (by decide) (fun h6 => ?_) (fun h6 => ?_)
  · skip
    exact absurd (nI_lem (a := 40) (by decide) (by omega) h6) (by omega)
  · skip
    refine v_aload_n X dX3_add_9 rfl ?_
    refine v_getr X fl_X3_15 shX3_1 dX3_add_10 ?_
    refine v_aload_n X dX3_add_13 rfl ?_
    refine v_geti X fl_X3_9 shX3_0 dX3_add_14 ?_
    refine v_iload_n X dX3_add_17 rfl ?_
    refine v_iastE X arX3_1 hd hn dX3_add_18 ?_
    refine v_aload_n X dX3_add_19 rfl ?_
    refine v_dup X dX3_add_20 rfl ?_
    refine v_geti X fl_X3_9 shX3_0 dX3_add_21 ?_
    rw [s2_nc (by decide), hd]
    refine v_iconst (v := nI 1) X dX3_add_24 (by decide) ?_
    refine v_iadd X dX3_add_25 ?_
    refine v_top (nI_add n 1) ?_
    refine v_puti X fw_X3_9 shX3_0 dX3_add_26 rfl rfl ?_
    refine v_vret X hR dX3_add_29 ?_
    rfl

set_option maxHeartbeats 4000000 in
set_option maxRecDepth 100000 in
theorem c_begin (G : GT) {σ : Sg} {P D : Sen} {stk cst : Stk} {lg : Bool} {l s : Nat} (h : tI σ P stk D lg cst) (hw : σ 147 5 = bI true) (hc : cst.length < 40) (hs7 : s < 127) : MC G yX3_begin cX3_begin 4 .boolean 4 [.ref (G.2.2.1 147), .ref (G.2.2.1 (7 * 18)), .int (nI s)] σ (fun r τ => tR σ τ ∧ ((bgA s P stk l = none ∧ r = nI 0) ∨ ∃ st', bgA s P stk l = some st' ∧ r = nI 1 ∧ pI τ st' (cst.length + 1))) := by
  refine MC_of (by decide) (ca1 rfl (ca1 rfl (ca1 rfl ca0))) (Nat.le_of_ble_eq_true rfl) ?_
  intro Z X hR
  show V G Z σ 0 [some (.ref (G.2.2.1 147)), some (.ref (G.2.2.1 (7 * 18))), some (.int (nI s)), none] []
  refine v_iload_n X dX3_begin_0 rfl ?_
  refine v_bipush (v := nI 40) X dX3_begin_1 (by decide) ?_
  refine v_icmp_ne (tgt := 12) X dX3_begin_3 (by decide) (fun h3 => ?_) (fun h3 => ?_)
  · skip
    have n1 := nI_eqn (by omega) (by omega) h3
    refine v_iload_n X dX3_begin_12 rfl ?_
    refine v_bipush (v := nI 45) X dX3_begin_13 (by decide) ?_
    refine v_icmp_ne (tgt := 24) X dX3_begin_15 (by decide) (fun h15 => ?_) (fun h15 => ?_)
    · skip
      have n2 := nI_eqn (by omega) (by omega) h15
      refine v_iload_n X dX3_begin_24 rfl ?_
      refine v_bipush (v := nI 70) X dX3_begin_25 (by decide) ?_
      refine v_icmp_ne (tgt := 46) X dX3_begin_27 (by decide) (fun h27 => ?_) (fun h27 => ?_)
      · skip
        have n3 := nI_eqn (by omega) (by omega) h27
        refine v_ldcs (i := 0) X (by decide) rfl rfl dX3_begin_46 ?_
        refine v_iload_n X dX3_begin_48 rfl ?_
        refine v_i2c X dX3_begin_49 ?_
        refine v_top (i2c_n (by omega)) ?_
        refine v_calz X (i := 0) (by decide) (c_indexOf G (c := s) (by decide) (by omega)) cv_X3_61 rfl (by decide) rfl (by rfl) (Nat.le_of_ble_eq_true rfl) dX3_begin_50 (fun r τ hp => ?_)
        obtain ⟨rfl, hp⟩ := hp
        refine v_istore_n X dX3_begin_53 (Nat.le_of_ble_eq_true rfl) ?_
        show V G Z _ 54 [_, _, _, _] _
        refine v_iload_n X dX3_begin_54 rfl ?_
        refine v_if_ge (tgt := 60) X dX3_begin_55 (by decide) (fun h55 => ?_) (fun h55 => ?_)
        · skip
          obtain ⟨k, k1, k2, rfl⟩ : ∃ k, k < 4 ∧ s = 112 + k ∧ r = nI k := by
            rcases hp with ⟨k, k1, k2, k3⟩ | ⟨-, k3⟩
            · have k1 : k < 4 := k1
              rw [str_0 k k1] at k2
              exact ⟨k, k1, (nI_eqm (by omega) (by omega) k2).symm, k3⟩
            · rw [k3] at h55; exact absurd h55 (by decide)
          refine v_aload_n X dX3_begin_60 rfl ?_
          refine v_aload_n X dX3_begin_61 rfl ?_
          refine v_aload_n X dX3_begin_62 rfl ?_
          refine v_iconst (v := nI 0) X dX3_begin_63 (by decide) ?_
          refine v_iload_n X dX3_begin_64 rfl ?_
          refine v_bipush (v := (-6)) X dX3_begin_65 (by decide) ?_
          refine v_cali X (c_add G (j := 18) (q := (0, k, 0)) (by decide) h.1.1 (Or.inl ⟨rfl, k1, rfl⟩)) cv_X3_51 (obX1 (by first | assumption | omega)) rfl (by decide) rfl (by rfl) (Nat.le_of_ble_eq_true rfl) dX3_begin_67 (fun r1 τ1 hp1 => ?_)
          obtain ⟨o1, -, D1, lg1, x1, a1, a2, a3, a4, a5, a6⟩ := add_step (q := (0, k, 0)) h.1 (fun _ => rfl) hp1
          subst a4
          have ht := tI_add h o1 a1 a2 (fun z => (a5 z).1)
          refine v_calv X (c_finish G ht (by omega) a3 (fun z => (a5 z).2)) cv_X3_55 obX3 rfl (by decide) rfl (by rfl) (Nat.le_of_ble_eq_true rfl) dX3_begin_70 (fun τ2 hp2 => ?_)
          obtain ⟨g1, D2, lg2, cst2, g2, g3, g4, g5⟩ := hp2
          refine v_iconst (v := nI 1) X dX3_begin_73 (by decide) ?_
          refine v_ret X hR dX3_begin_74 rfl ?_
          exact ⟨(tR.rfl.S o1).trans g1, Or.inr ⟨_, by rw [bgA]; rw [if_neg n1, if_neg n2, if_neg n3, if_pos (by omega), show s - 112 = k by omega], rfl, pI_fin g2 g3 g4 (by omega)⟩⟩
        · skip
          have hno : ¬ (112 ≤ s ∧ s ≤ 115) := by
            intro z
            rcases hp with ⟨k, k1, k2, rfl⟩ | ⟨k2, -⟩
            · exact h55 (nI_pos' (by have : k < 4 := k1; omega))
            · have := k2 (s - 112) (show s - 112 < 4 by omega)
              rw [str_0 _ (by omega)] at this
              exact this (by rw [show 112 + (s - 112) = s by omega])
          refine v_iconst (v := nI 0) X dX3_begin_58 (by decide) ?_
          refine v_ret X hR dX3_begin_59 rfl ?_
          exact ⟨tR.rfl, Or.inl ⟨by rw [bgA, if_neg n1, if_neg n2, if_neg n3, if_neg hno], rfl⟩⟩
      · skip
        have n3 := nI_eqm (by omega) (by omega) h27
        subst n3
        refine v_aload_n X dX3_begin_30 rfl ?_
        refine v_aload_n X dX3_begin_31 rfl ?_
        refine v_aload_n X dX3_begin_32 rfl ?_
        refine v_iconst (v := nI 1) X dX3_begin_33 (by decide) ?_
        refine v_bipush (v := (-6)) X dX3_begin_34 (by decide) ?_
        refine v_bipush (v := (-6)) X dX3_begin_36 (by decide) ?_
        refine v_cali X (c_add G (j := 18) (q := (1, 0, 0)) (by decide) h.1.1 (Or.inr (Or.inl ⟨rfl, rfl, rfl⟩))) cv_X3_51 (obX1 (by first | assumption | omega)) rfl (by decide) rfl (by rfl) (Nat.le_of_ble_eq_true rfl) dX3_begin_38 (fun r1 τ1 hp1 => ?_)
        obtain ⟨o1, -, D1, lg1, x1, a1, a2, a3, a4, a5, a6⟩ := add_step (q := (1, 0, 0)) h.1 (fun _ => rfl) hp1
        subst a4
        have ht := tI_add h o1 a1 a2 (fun z => (a5 z).1)
        refine v_calv X (c_finish G ht (by omega) a3 (fun z => (a5 z).2)) cv_X3_55 obX3 rfl (by decide) rfl (by rfl) (Nat.le_of_ble_eq_true rfl) dX3_begin_41 (fun τ2 hp2 => ?_)
        obtain ⟨g1, D2, lg2, cst2, g2, g3, g4, g5⟩ := hp2
        refine v_iconst (v := nI 1) X dX3_begin_44 (by decide) ?_
        refine v_ret X hR dX3_begin_45 rfl ?_
        exact ⟨(tR.rfl.S o1).trans g1, Or.inr ⟨_, by rw [bgA]; rw [if_neg (by decide), if_neg (by decide)]; exact if_pos rfl, rfl, pI_fin g2 g3 g4 (by omega)⟩⟩
    · skip
      have n2 := nI_eqm (by omega) (by omega) h15
      subst n2
      refine v_aload_n X dX3_begin_18 rfl ?_
      refine v_iconst (v := nI 0) X dX3_begin_19 (by decide) ?_
      refine v_cali X (c_open G (t := 0) hc h.2.1) cv_X3_47 obX3 rfl (by decide) rfl (by rfl) (Nat.le_of_ble_eq_true rfl) dX3_begin_20 (fun r τ hp => ?_)
      obtain ⟨rfl, rfl⟩ := hp
      refine v_ret X hR dX3_begin_23 rfl ?_
      refine ⟨(tR.rfl.s2 (by omega)).s2 (by omega), Or.inr ⟨(P, (0, 0) :: stk, true, l), by rw [bgA]; rw [if_neg (by decide)]; exact if_pos rfl, rfl, D, lg, (0, 0) :: cst, ⟨dS_off h.1 (fun i _ _ => by rw [s2_nc (by omega), s2_nc (by omega)]), s2_at _ _ _ _, ?_, ?_⟩, ?_, (fun z => by cases z), Nat.le_refl _⟩⟩
      · refine ⟨by rw [s2_nc (by decide), s2_at], fun z => absurd z (by decide), skA_cong (σ := σ) cst.length (fun x hx => ?_) (fun x _ => by rw [s2_nc (by decide), s2_nc (by decide)]) cst (Nat.le_refl _) h.2.2.1⟩
        rw [s2_nc (by decide), s2_ap, if_neg (by omega)]
      · exact ⟨rfl, by decide, fun z => absurd z (by decide), h.2.2.2⟩
      · rw [s2_ap, if_neg (by decide), s2_nc (by decide)]; exact hw
  · skip
    have n1 := nI_eqm (by omega) (by omega) h3
    subst n1
    refine v_aload_n X dX3_begin_6 rfl ?_
    refine v_iconst (v := nI 1) X dX3_begin_7 (by decide) ?_
    refine v_cali X (c_open G (t := 1) hc h.2.1) cv_X3_47 obX3 rfl (by decide) rfl (by rfl) (Nat.le_of_ble_eq_true rfl) dX3_begin_8 (fun r τ hp => ?_)
    obtain ⟨rfl, rfl⟩ := hp
    refine v_ret X hR dX3_begin_11 rfl ?_
    refine ⟨(tR.rfl.s2 (by omega)).s2 (by omega), Or.inr ⟨(P, (1, 0) :: stk, true, l), by rw [bgA]; exact if_pos rfl, rfl, D, lg, (1, 0) :: cst, ⟨dS_off h.1 (fun i _ _ => by rw [s2_nc (by omega), s2_nc (by omega)]), s2_at _ _ _ _, ?_, ?_⟩, ?_, (fun z => by cases z), Nat.le_refl _⟩⟩
    · refine ⟨by rw [s2_nc (by decide), s2_at], fun z => absurd z (by decide), skA_cong (σ := σ) cst.length (fun x hx => ?_) (fun x _ => by rw [s2_nc (by decide), s2_nc (by decide)]) cst (Nat.le_refl _) h.2.2.1⟩
      rw [s2_nc (by decide), s2_ap, if_neg (by omega)]
    · exact ⟨rfl, by decide, fun z => absurd z (by decide), h.2.2.2⟩
    · rw [s2_ap, if_neg (by decide), s2_nc (by decide)]; exact hw

set_option maxHeartbeats 4000000 in
set_option maxRecDepth 100000 in
theorem c_goOn (G : GT) {σ : Sg} {P D : Sen} {stk cst : Stk} {lg : Bool} {l s : Nat} (h : tI σ P stk D lg cst) (hl : lI σ D lg l) (hn0 : ∀ e r, stk = e :: r → ¬ e.1 = 0) (hc : cst.length ≤ 40) (hs7 : s < 127) : MC G yX3_goOn cX3_goOn 5 .boolean 4 [.ref (G.2.2.1 147), .ref (G.2.2.1 (7 * 18)), .int (nI s)] σ (fun r τ => tR σ τ ∧ ((goA s P stk l = none ∧ r = nI 0) ∨ ∃ st', goA s P stk l = some st' ∧ r = nI 1 ∧ pI τ st' cst.length)) := by
  refine MC_of (by decide) (ca1 rfl (ca1 rfl (ca1 rfl ca0))) (Nat.le_of_ble_eq_true rfl) ?_
  intro Z X hR
  show V G Z σ 0 [some (.ref (G.2.2.1 147)), some (.ref (G.2.2.1 (7 * 18))), some (.int (nI s)), none, none] []
  have h' := h
  obtain ⟨a1, a2, a3, a4⟩ := h
  obtain ⟨y, y1, y2, y3⟩ := hl
  cases stk with
  | nil =>
    cases cst with
    | cons e r => exact a4.elim
    | nil =>
      refine v_aload_n X dX3_goOn_0 rfl ?_
      refine v_geti X fl_X3_25 shX3_4 dX3_goOn_1 ?_
      rw [a2]
      refine v_if_ne (tgt := 9) X dX3_goOn_4 (by decide) (fun h4 => ?_) (fun h4 => ?_)
      · skip
        exact absurd rfl h4
      · skip
        refine v_iconst (v := nI 0) X dX3_goOn_7 (by decide) ?_
        refine v_ret X hR dX3_goOn_8 rfl ?_
        exact ⟨tR.rfl, Or.inl ⟨rfl, rfl⟩⟩
  | cons e r =>
    cases cst with
    | nil => exact a4.elim
    | cons e' r' =>
      obtain ⟨b1, b2, b3, b4⟩ := a4
      obtain ⟨c1, c2, c3⟩ := a3
      simp only [List.length_cons] at a2 hc
      obtain ⟨t, a⟩ := e
      simp only at b1 b2 b3
      have hn0 := hn0 (t, a) r rfl
      simp only at hn0
      have hst1 : ∀ k, k < 3 → (strI 1).2.2.2.getD k 0 = nI (if k = 0 then 38 else if k = 1 then 124 else 62) := by decide
      refine v_aload_n X dX3_goOn_0 rfl ?_
      refine v_geti X fl_X3_25 shX3_4 dX3_goOn_1 ?_
      rw [a2]
      refine v_if_ne (tgt := 9) X dX3_goOn_4 (by decide) (fun h4 => ?_) (fun h4 => ?_)
      · skip
        refine v_aload_n X dX3_goOn_9 rfl ?_
        refine v_geti X fl_X3_25 shX3_4 dX3_goOn_10 ?_
        refine v_iconst (v := nI 1) X dX3_goOn_13 (by decide) ?_
        refine v_isub X dX3_goOn_14 ?_
        refine v_top (y := nI r'.length) (by rw [a2, nI_s1 (by omega)]; rfl) ?_
        refine v_istore_n X dX3_goOn_15 (Nat.le_of_ble_eq_true rfl) ?_
        show V G Z _ 16 [_, _, _, _, _] _
        refine v_aload_n X dX3_goOn_16 rfl ?_
        refine v_getr X fl_X3_19 shX3_2 dX3_goOn_17 ?_
        refine v_iload_n X dX3_goOn_20 rfl ?_
        refine v_ialdE X arX3_2 rfl (show r'.length < 40 by omega) dX3_goOn_21 ?_
        rw [c1]
        refine v_iconst (v := nI 1) X dX3_goOn_22 (by decide) ?_
        refine v_icmp_ne (tgt := 69) X dX3_goOn_23 (by decide) (fun h23 => ?_) (fun h23 => ?_)
        · skip
          have ht1 : ¬ t = 1 := fun z => h23 (by rw [← b1, z])
          refine v_iload_n X dX3_goOn_69 rfl ?_
          refine v_bipush (v := nI 41) X dX3_goOn_70 (by decide) ?_
          refine v_icmp_eq (tgt := 77) X dX3_goOn_72 (by decide) (fun h72 => ?_) (fun h72 => ?_)
          · skip
            have hs41 := nI_eqm (by omega) (by decide) h72
            subst hs41
            refine v_aload_n X dX3_goOn_77 rfl ?_
            refine v_iload_n X dX3_goOn_78 rfl ?_
            refine v_puti X fw_X3_25 shX3_4 dX3_goOn_79 rfl rfl ?_
            refine v_aload_n X dX3_goOn_82 rfl ?_
            refine v_aload_n X dX3_goOn_83 rfl ?_
            refine v_aload_n X dX3_goOn_84 rfl ?_
            refine v_aload_n X dX3_goOn_85 rfl ?_
            refine v_getr X fl_X3_19 shX3_2 dX3_goOn_86 ?_
            refine v_iload_n X dX3_goOn_89 rfl ?_
            refine v_ialdE X arX3_2 rfl (show r'.length < 40 by omega) dX3_goOn_90 ?_
            refine v_aload_n X dX3_goOn_91 rfl ?_
            refine v_getr X fl_X3_22 shX3_3 dX3_goOn_92 ?_
            refine v_iload_n X dX3_goOn_95 rfl ?_
            refine v_ialdE X arX3_3 rfl (show r'.length < 40 by omega) dX3_goOn_96 ?_
            refine v_aload_n X dX3_goOn_97 rfl ?_
            refine v_geti X fl_X3_32 shX3_6 dX3_goOn_98 ?_
            have ht2 : 2 ≤ t := by omega
            have b3' := b3 ht2
            have q0 : s2 σ 147 4 (nI r'.length) 149 r'.length = nI t := by rw [s2_nc (by decide), c1, b1]
            have q1 : s2 σ 147 4 (nI r'.length) 150 r'.length = nI e'.2 := by rw [s2_nc (by decide)]; exact c2 (by omega)
            have q2 : s2 σ 147 4 (nI r'.length) 147 6 = nI y := by rw [s2_ap, if_neg (by decide)]; exact y1
            have z1 : pA (t, e'.2, y) = nI e'.2 := if_neg (show ¬ t = 1 by omega)
            have z2 : pB (t, e'.2, y) = nI y := if_neg (show ¬ t < 2 by omega)
            rw [q0, q1, q2, ← z1, ← z2]
            show V G Z _ 101 _ [_, _, .int (pK (t, e'.2, y)), _, _, _]
            have hT : tI (s2 σ 147 4 (nI r'.length)) P r D lg r' := ⟨dS_off a1 (fun i _ _ => s2_nc (by omega)), s2_at _ _ _ _, skA_cong (σ := σ) r'.length (fun x _ => by rw [s2_nc (by decide)]) (fun x _ => by rw [s2_nc (by decide)]) r' (Nat.le_refl _) c3, b4⟩
            refine v_cali X (c_add G (j := 18) (q := (t, e'.2, y)) (by decide) hT.1.1 (Or.inr (Or.inr ⟨ht2, b2, b3'.1, y2⟩))) cv_X3_51 (obX1 (by first | assumption | omega)) rfl (by decide) rfl (by rfl) (Nat.le_of_ble_eq_true rfl) dX3_goOn_101 (fun r1 τ1 hp1 => ?_)
            obtain ⟨o1, -, D1, lg1, x1, f1, f2, f3, f4, f5, f6⟩ := add_step (q := (t, a, l)) hT.1 (fun z => by rw [b3'.2 z, y3 z]) hp1
            subst f4
            have hT1 := tI_add hT o1 f1 f2 (fun z => (f5 z).1)
            refine v_calv X (c_finish G hT1 (by omega) f3 (fun z => (f5 z).2)) cv_X3_55 obX3 rfl (by decide) rfl (by rfl) (Nat.le_of_ble_eq_true rfl) dX3_goOn_104 (fun τ2 hp2 => ?_)
            obtain ⟨g1, D2, lg2, cst2, g2, g3, g4, g5⟩ := hp2
            refine v_iconst (v := nI 1) X dX3_goOn_107 (by decide) ?_
            refine v_ret X hR dX3_goOn_108 rfl ?_
            exact ⟨((tR.rfl.s2 (by omega)).S o1).trans g1, Or.inr ⟨_, by rw [goA_cons, if_neg ht1, if_pos rfl], rfl, pI_fin g2 g3 g4 (by simp only [List.length_cons]; omega)⟩⟩
          · skip
            have hs41 := nI_eqn (by omega) (by decide) h72
            refine v_iconst (v := nI 0) X dX3_goOn_75 (by decide) ?_
            refine v_ret X hR dX3_goOn_76 rfl ?_
            exact ⟨tR.rfl, Or.inl ⟨by rw [goA_cons, if_neg ht1, if_neg hs41], rfl⟩⟩
        · skip
          have ht1 : t = 1 := by rw [b1]; exact nI_eqm (by omega) (by decide) h23
          refine v_ldcs (i := 1) X (by decide) rfl rfl dX3_goOn_26 ?_
          refine v_iload_n X dX3_goOn_28 rfl ?_
          refine v_i2c X dX3_goOn_29 ?_
          refine v_top (i2c_n (by omega)) ?_
          refine v_calz X (i := 1) (by decide) (c_indexOf G (c := s) (by decide) (by omega)) cv_X3_61 rfl (by decide) rfl (by rfl) (Nat.le_of_ble_eq_true rfl) dX3_goOn_30 (fun r9 τ hp => ?_)
          obtain ⟨rfl, hp⟩ := hp
          refine v_istore X dX3_goOn_33 (Nat.le_of_ble_eq_true rfl) ?_
          show V G Z _ 35 [_, _, _, _, _] _
          refine v_iload X dX3_goOn_35 rfl ?_
          refine v_if_ge (tgt := 42) X dX3_goOn_37 (by decide) (fun h37 => ?_) (fun h37 => ?_)
          · skip
            obtain ⟨k, k1, k2, rfl⟩ : ∃ k, k < 3 ∧ s = (if k = 0 then 38 else if k = 1 then 124 else 62) ∧ r9 = nI k := by
              rcases hp with ⟨k, k1, k2, k3⟩ | ⟨-, k3⟩
              · have k1 : k < 3 := k1
                rw [hst1 k k1] at k2
                exact ⟨k, k1, (nI_eqm (by split <;> (try split) <;> omega) (by omega) k2).symm, k3⟩
              · rw [k3] at h37; exact absurd h37 (by decide)
            refine v_aload_n X dX3_goOn_42 rfl ?_
            refine v_getr X fl_X3_19 shX3_2 dX3_goOn_43 ?_
            refine v_iload_n X dX3_goOn_46 rfl ?_
            refine v_iconst (v := nI 2) X dX3_goOn_47 (by decide) ?_
            refine v_iload X dX3_goOn_48 rfl ?_
            refine v_iadd X dX3_goOn_50 ?_
            refine v_top (nI_add 2 k) ?_
            refine v_iastE X arX3_2 rfl (show r'.length < 40 by omega) dX3_goOn_51 ?_
            refine v_aload_n X dX3_goOn_52 rfl ?_
            refine v_getr X fl_X3_22 shX3_3 dX3_goOn_53 ?_
            refine v_iload_n X dX3_goOn_56 rfl ?_
            refine v_aload_n X dX3_goOn_57 rfl ?_
            refine v_geti X fl_X3_32 shX3_6 dX3_goOn_58 ?_
            refine v_top (y := nI y) (by rw [s2_nc (by decide)]; exact y1) ?_
            refine v_iastE X arX3_3 rfl (show r'.length < 40 by omega) dX3_goOn_61 ?_
            refine v_aload_n X dX3_goOn_62 rfl ?_
            refine v_iconst (v := nI 1) X dX3_goOn_63 (by decide) ?_
            refine v_puti X fw_X3_28 shX3_5 dX3_goOn_64 rfl rfl ?_
            refine v_iconst (v := nI 1) X dX3_goOn_67 (by decide) ?_
            refine v_ret X hR dX3_goOn_68 rfl ?_
            refine ⟨((tR.rfl.s2 (by omega)).s2 (by omega)).s2 (by omega), Or.inr ⟨(P, (2 + k, l) :: r, true, l), ?_, rfl, D, lg, (2 + k, y) :: r', ⟨dS_off a1 (fun i _ _ => by rw [s2_nc (by omega), s2_nc (by omega), s2_nc (by omega)]), ?_, ?_, ?_⟩, s2_at _ _ _ _, (fun z => by cases z), Nat.le_refl _⟩⟩
            · rw [goA_cons, if_pos ht1]
              rcases (show k = 0 ∨ k = 1 ∨ k = 2 by omega) with rfl | rfl | rfl
              · have k2 : s = 38 := k2
                rw [if_pos k2]
              · have k2 : s = 124 := k2
                rw [if_neg (by omega), if_pos k2]
              · have k2 : s = 62 := k2
                rw [if_neg (by omega), if_neg (by omega), if_pos k2]
            · rw [s2_ap, if_neg (by decide), s2_nc (by decide), s2_nc (by decide)]; exact a2
            · refine ⟨by rw [s2_nc (by decide), s2_nc (by decide), s2_at], fun _ => by rw [s2_nc (by decide), s2_at], skA_cong (σ := _) r'.length (fun x hx => ?_) (fun x hx => ?_) r' (Nat.le_refl _) c3⟩
              · rw [s2_nc (by decide), s2_nc (by decide), s2_ap, if_neg (by omega)]
              · rw [s2_nc (by decide), s2_ap, if_neg (by omega), s2_nc (by decide)]
            · exact ⟨rfl, by show 2 + k ≤ 4; omega, fun _ => ⟨y2, y3⟩, b4⟩
          · skip
            have hno : s ≠ 38 ∧ s ≠ 124 ∧ s ≠ 62 := by
              have hall : ∀ k, k < 3 → s ≠ (if k = 0 then 38 else if k = 1 then 124 else 62) := by
                intro k hk z
                rcases hp with ⟨k', k1, k2, rfl⟩ | ⟨k2, -⟩
                · exact h37 (nI_pos' (by have : k' < 3 := k1; omega))
                · have := k2 k hk
                  rw [hst1 k hk] at this
                  exact this (by rw [z])
              exact ⟨hall 0 (by decide), hall 1 (by decide), hall 2 (by decide)⟩
            refine v_iconst (v := nI 0) X dX3_goOn_40 (by decide) ?_
            refine v_ret X hR dX3_goOn_41 rfl ?_
            exact ⟨tR.rfl, Or.inl ⟨by rw [goA_cons, if_pos ht1, if_neg hno.1, if_neg hno.2.1, if_neg hno.2.2], rfl⟩⟩
      · skip
        exact absurd h4 (nI_ne0 (by omega) (by omega))
