/-! THE PARSER, as it should go: parts, what is open (the last first; 0: -, 1: a pair, 2 to 4: behind its sign, with the number of A), whether a sentence must begin, the number of the one that is just whole -/
abbrev Stk : Type := List (Nat × Nat)
def fnA : Stk → Sen → Nat → Sen × Stk × Nat
  | [], P, l => (P, [], l)
  | (t, a) :: r, P, l => if t = 0 then fnA r (addP (addP P (1, 0, 0)) (4, l, (addP P (1, 0, 0)).idxOf (1, 0, 0))) ((addP (addP P (1, 0, 0)) (4, l, (addP P (1, 0, 0)).idxOf (1, 0, 0))).idxOf (4, l, (addP P (1, 0, 0)).idxOf (1, 0, 0))) else (P, (t, a) :: r, l)
abbrev PS : Type := Sen × Stk × Bool × Nat
def fnS (stk : Stk) (P : Sen) (q : Pt) : PS := ((fnA stk (addP P q) ((addP P q).idxOf q)).1, (fnA stk (addP P q) ((addP P q).idxOf q)).2.1, false, (fnA stk (addP P q) ((addP P q).idxOf q)).2.2)
def bgA (s : Nat) (P : Sen) (stk : Stk) (l : Nat) : Option PS :=
  if s = 40 then some (P, (1, 0) :: stk, true, l) else if s = 45 then some (P, (0, 0) :: stk, true, l) else if s = 70 then some (fnS stk P (1, 0, 0)) else if 112 ≤ s ∧ s ≤ 115 then some (fnS stk P (0, s - 112, 0)) else none
def goA (s : Nat) (P : Sen) (stk : Stk) (l : Nat) : Option PS := match stk with
  | [] => none
  | (t, a) :: r => if t = 1 then (if s = 38 then some (P, (2, l) :: r, true, l) else if s = 124 then some (P, (3, l) :: r, true, l) else if s = 62 then some (P, (4, l) :: r, true, l) else none)
    else if s = 41 then some (fnS r P (t, a, l)) else none
def stA (s : Nat) (st : PS) : Option PS := if st.2.2.1 then bgA s st.1 st.2.1 st.2.2.2 else goA s st.1 st.2.1 st.2.2.2
/-- the class's rows of what is open -/
def skA (τ : Sg) : Stk → Prop
  | [] => True
  | e :: r => τ 149 r.length = nI e.1 ∧ (2 ≤ e.1 → τ 150 r.length = nI e.2) ∧ skA τ r
def skR (n : Nat) (lg : Bool) : Stk → Stk → Prop
  | [], [] => True
  | e :: r, e' :: r' => e.1 = e'.1 ∧ e.1 ≤ 4 ∧ (2 ≤ e.1 → e'.2 < n ∧ (lg = false → e'.2 = e.2)) ∧ skR n lg r r'
  | _, _ => False
theorem skA_cong {σ τ : Sg} (n : Nat) (h1 : ∀ x, x < n → τ 149 x = σ 149 x) (h2 : ∀ x, x < n → τ 150 x = σ 150 x) : ∀ (r : Stk), r.length ≤ n → skA σ r → skA τ r
  | [], _, _ => trivial
  | e :: r, hl, ⟨a1, a2, a3⟩ => by
    have hl : r.length < n := hl
    exact ⟨by rw [h1 _ hl]; exact a1, fun z => by rw [h2 _ hl]; exact a2 z, skA_cong n h1 h2 r (by omega) a3⟩
theorem skR_mono {n m : Nat} {lg lg' : Bool} (hn : n ≤ m) (hl : lg' = false → lg = false) : ∀ (a b : Stk), skR n lg a b → skR m lg' a b
  | [], [], _ => trivial
  | e :: r, e' :: r', ⟨a1, a2, a3, a4⟩ => ⟨a1, a2, fun z => ⟨by have := (a3 z).1; omega, fun y => (a3 z).2 (hl y)⟩, skR_mono hn hl r r' a4⟩
  | [], _ :: _, h => h.elim
  | _ :: _, [], h => h.elim
theorem skR_len {n : Nat} {lg : Bool} : ∀ (a b : Stk), skR n lg a b → a.length = b.length
  | [], [], _ => rfl
  | e :: r, e' :: r', ⟨_, _, _, h⟩ => by simp [skR_len r r' h]
  | [], _ :: _, h => h.elim
  | _ :: _, [], h => h.elim
/-- only the draft, and the Text's own rows, may change -/
def tR (σ τ : Sg) : Prop := (∀ i, (i < 126 ∨ 133 ≤ i) → i ≠ 147 → i ≠ 149 → i ≠ 150 → τ i = σ i) ∧ τ 147 0 = σ 147 0
theorem tR.rfl {σ : Sg} : tR σ σ := ⟨fun _ _ _ _ _ => by rfl, by rfl⟩
theorem tR.trans {σ τ υ : Sg} (h1 : tR σ τ) (h2 : tR τ υ) : tR σ υ := ⟨fun i a b c d => (h2.1 i a b c d).trans (h1.1 i a b c d), h2.2.trans h1.2⟩
theorem tR.S {σ τ υ : Sg} (h1 : tR σ τ) (h2 : offS 18 τ υ) : tR σ υ := ⟨fun i a b c d => (h2 i (by omega)).trans (h1.1 i a b c d), by rw [h2 147 (by omega)]; exact h1.2⟩
theorem tR.s2 {σ τ : Sg} {i k : Nat} {x : Int32} (h : tR σ τ) (hi : (i = 147 ∧ k ≠ 0) ∨ i = 149 ∨ i = 150) : tR σ (s2 τ i k x) := by
  refine ⟨fun q a b c d => ?_, ?_⟩
  · rw [s2_nc (by omega)]; exact h.1 q a b c d
  · rw [s2_ap, if_neg (by omega)]; exact h.2
def tI (τ : Sg) (P : Sen) (stk : Stk) (D : Sen) (lg : Bool) (cst : Stk) : Prop := dS τ 18 P D lg ∧ τ 147 4 = nI cst.length ∧ skA τ cst ∧ skR D.length lg stk cst
def lI (τ : Sg) (D : Sen) (lg : Bool) (l : Nat) : Prop := ∃ y, τ 147 6 = nI y ∧ y < D.length ∧ (lg = false → y = l)
theorem dS_off {σ τ : Sg} {S D : Sen} {lg : Bool} (h : dS σ 18 S D lg) (h0 : ∀ i, 126 ≤ i → i < 133 → τ i = σ i) : dS τ 18 S D lg := dS_cong h (h0 _ (by omega) (by omega)) (fun q _ _ => h0 _ (by omega) (by omega))
set_option maxHeartbeats 4000000 in
set_option maxRecDepth 100000 in
theorem c_finish (G : GT) {σ : Sg} {P D : Sen} {stk cst : Stk} {lg : Bool} {k l : Nat} (h : tI σ P stk D lg cst) (hc : cst.length ≤ 40) (hk : k < D.length) (hkl : lg = false → k = l) : MV G yX3_finish cX3_finish 3 2 [.ref (G.2.2.1 147), .ref (G.2.2.1 (7 * 18)), .int (nI k)] σ (fun τ => tR σ τ ∧ ∃ (D' : Sen) (lg' : Bool) (cst' : Stk), tI τ (fnA stk P l).1 (fnA stk P l).2.1 D' lg' cst' ∧ lI τ D' lg' (fnA stk P l).2.2 ∧ τ 147 5 = bI false ∧ cst'.length ≤ cst.length) := by
  refine MV_of (by decide) (ca1 rfl (ca1 rfl (ca1 rfl ca0))) (Nat.le_of_ble_eq_true rfl) ?_
  intro Z X hR
  show V G Z σ 0 [some (.ref (G.2.2.1 147)), some (.ref (G.2.2.1 (7 * 18))), some (.int (nI k))] []
  have loop : ∀ (stk2 cst2 : Stk) (τ : Sg) (P2 D2 : Sen) (lg2 : Bool) (l2 : Nat), tR σ τ → tI τ P2 stk2 D2 lg2 cst2 → lI τ D2 lg2 l2 → τ 147 5 = bI false → cst2.length ≤ cst.length → fnA stk2 P2 l2 = fnA stk P l → V G Z τ 10 [some (.ref (G.2.2.1 147)), some (.ref (G.2.2.1 (7 * 18))), some (.int (nI k))] [] := by
    intro stk2
    induction stk2 with
    | nil =>
      intro cst2 τ P2 D2 lg2 l2 g1 g2 g3 g4 g5 g6
      have ho : V G Z τ 66 [some (.ref (G.2.2.1 147)), some (.ref (G.2.2.1 (7 * 18))), some (.int (nI k))] [] := by
        refine v_vret X hR dX3_finish_66 ?_
        rw [← g6]
        exact ⟨g1, D2, lg2, cst2, g2, g3, g4, g5⟩
      obtain ⟨a1, a2, a3, a4⟩ := g2
      cases cst2 with
      | cons e r => exact a4.elim
      | nil =>
        refine v_aload_n X dX3_finish_10 rfl ?_
        refine v_geti X fl_X3_25 shX3_4 dX3_finish_11 ?_
        refine v_top a2 ?_
        refine v_if_le (tgt := 66) X dX3_finish_14 (by decide) (fun h14 => ?_) (fun h14 => ?_)
        · skip
          exact ho
        · skip
          exact absurd (show nI 0 ≤ 0 from by decide) h14
    | cons e r ih =>
      intro cst2 τ P2 D2 lg2 l2 g1 g2 g3 g4 g5 g6
      have ho : ¬ e.1 = 0 → V G Z τ 66 [some (.ref (G.2.2.1 147)), some (.ref (G.2.2.1 (7 * 18))), some (.int (nI k))] [] := by
        intro he
        obtain ⟨t, a⟩ := e
        rw [fnA, if_neg he] at g6
        refine v_vret X hR dX3_finish_66 ?_
        rw [← g6]
        exact ⟨g1, D2, lg2, cst2, g2, g3, g4, g5⟩
      have g2' := g2
      obtain ⟨a1, a2, a3, a4⟩ := g2
      cases cst2 with
      | nil => exact a4.elim
      | cons e' r' =>
        obtain ⟨b1, b2, b3, b4⟩ := a4
        obtain ⟨c1, c2, c3⟩ := a3
        simp only [List.length_cons] at a2 g5
        refine v_aload_n X dX3_finish_10 rfl ?_
        refine v_geti X fl_X3_25 shX3_4 dX3_finish_11 ?_
        refine v_top a2 ?_
        refine v_if_le (tgt := 66) X dX3_finish_14 (by decide) (fun h14 => ?_) (fun h14 => ?_)
        · skip
          exact absurd h14 (nI_nle (by omega) (by omega))
        · skip
          refine v_aload_n X dX3_finish_17 rfl ?_
          refine v_getr X fl_X3_19 shX3_2 dX3_finish_18 ?_
          refine v_aload_n X dX3_finish_21 rfl ?_
          refine v_geti X fl_X3_25 shX3_4 dX3_finish_22 ?_
          refine v_iconst (v := nI 1) X dX3_finish_25 (by decide) ?_
          refine v_isub X dX3_finish_26 ?_
          refine v_top (y := nI r'.length) (by rw [a2, nI_s1 (by omega)]; rfl) ?_
          refine v_ialdE X arX3_2 rfl (show r'.length < 40 by omega) dX3_finish_27 ?_
          rw [c1]
          refine v_if_ne (tgt := 66) X dX3_finish_28 (by decide) (fun h28 => ?_) (fun h28 => ?_)
          · skip
            exact ho (fun z => h28 (by rw [← b1, z]; rfl))
          · skip
            have he : e.1 = 0 := by rw [b1]; exact nI_eqm (b := 0) (by omega) (by decide) h28
            obtain ⟨t, a⟩ := e
            simp only at he
            subst he
            rw [fnA, if_pos rfl] at g6
            refine v_aload_n X dX3_finish_31 rfl ?_
            refine v_dup X dX3_finish_32 rfl ?_
            refine v_geti X fl_X3_25 shX3_4 dX3_finish_33 ?_
            refine v_iconst (v := nI 1) X dX3_finish_36 (by decide) ?_
            refine v_isub X dX3_finish_37 ?_
            refine v_top (y := nI r'.length) (by rw [a2, nI_s1 (by omega)]; rfl) ?_
            refine v_puti X fw_X3_25 shX3_4 dX3_finish_38 rfl rfl ?_
            refine v_aload_n X dX3_finish_41 rfl ?_
            refine v_aload_n X dX3_finish_42 rfl ?_
            refine v_iconst (v := nI 4) X dX3_finish_43 (by decide) ?_
            refine v_aload_n X dX3_finish_44 rfl ?_
            have d1 : dS (s2 τ 147 4 (nI r'.length)) 18 P2 D2 lg2 := dS_off a1 (fun i _ _ => s2_nc (by omega))
            have hD2 : D2.length ≤ 11 := a1.1.1
            refine v_geti X fl_X3_32 shX3_6 dX3_finish_45 ?_
            rw [s2_ap, if_neg (by decide)]
            obtain ⟨y, y1, y2, y3⟩ := g3
            rw [y1]
            refine v_aload_n X dX3_finish_48 rfl ?_
            refine v_iconst (v := nI 1) X dX3_finish_49 (by decide) ?_
            refine v_bipush (v := (-6)) X dX3_finish_50 (by decide) ?_
            refine v_bipush (v := (-6)) X dX3_finish_52 (by decide) ?_
            have hq1 : okp D2.length (1, 0, 0) := Or.inr (Or.inl ⟨rfl, rfl, rfl⟩)
            refine v_cali X (c_add G (j := 18) (by decide) d1.1 hq1) cv_X3_51 (obX1 (by first | assumption | omega)) rfl (by decide) rfl (by rfl) (Nat.le_of_ble_eq_true rfl) dX3_finish_54 (fun r1 τ1 hp1 => ?_)
            obtain ⟨o1, -, D3, lg3, x1, s1, s2', s3, s4, s5, s6⟩ := add_step (q := (1, 0, 0)) d1 (fun _ => rfl) hp1
            subst s4
            have hq2 : okp D3.length (4, y, x1) := Or.inr (Or.inr ⟨by show 2 ≤ 4; decide, by show 4 ≤ 4; decide, by show y < D3.length; omega, s3⟩)
            show V G Z τ1 57 _ [.int (pB (4, y, x1)), .int (pA (4, y, x1)), .int (pK (4, y, x1)), _, _]
            refine v_cali X (c_add G (j := 18) (by decide) s1.1 hq2) cv_X3_51 (obX1 (by first | assumption | omega)) rfl (by decide) rfl (by rfl) (Nat.le_of_ble_eq_true rfl) dX3_finish_57 (fun r2 τ2 hp2 => ?_)
            obtain ⟨o2, -, D4, lg4, x2, t1, t2, t3, t4, t5, t6⟩ := add_step (q := (4, l2, (addP P2 (1, 0, 0)).idxOf (1, 0, 0))) s1 (fun z => by rw [y3 (s5 z).1, (s5 z).2]) hp2
            subst t4
            refine v_puti X fw_X3_32 shX3_6 dX3_finish_60 rfl rfl ?_
            refine v_goto (tgt := 10) X dX3_finish_63 (by decide) ?_
            refine ih r' _ _ D4 lg4 _ ?_ ?_ ⟨x2, s2_at _ _ _ _, t3, fun z => (t5 z).2⟩ ?_ (by omega) g6
            · exact (((g1.s2 (by decide)).S o1).S o2).s2 (by decide)
            · refine ⟨dS_off t1 (fun i _ _ => s2_nc (by omega)), ?_, ?_, ?_⟩
              · rw [s2_ap, if_neg (by decide), o2 147 (by omega), o1 147 (by omega), s2_at]
              · exact skA_cong (σ := τ) r'.length (fun x _ => by rw [s2_nc (by decide), o2 149 (by omega), o1 149 (by omega), s2_nc (by decide)]) (fun x _ => by rw [s2_nc (by decide), o2 150 (by omega), o1 150 (by omega), s2_nc (by decide)]) r' (Nat.le_refl _) c3
              · exact skR_mono (by omega) (fun z => (s5 (t5 z).1).1) _ _ b4
            · rw [s2_ap, if_neg (by decide), o2 147 (by omega), o1 147 (by omega), s2_ap, if_neg (by decide)]
              exact g4
  refine v_aload_n X dX3_finish_0 rfl ?_
  refine v_iload_n X dX3_finish_1 rfl ?_
  refine v_puti X fw_X3_32 shX3_6 dX3_finish_2 rfl rfl ?_
  refine v_aload_n X dX3_finish_5 rfl ?_
  refine v_iconst (v := nI 0) X dX3_finish_6 (by decide) ?_
  refine v_puti X fw_X3_28 shX3_5 dX3_finish_7 rfl rfl ?_
  obtain ⟨a1, a2, a3, a4⟩ := h
  refine loop stk cst _ P D lg l ((tR.rfl.s2 (by decide)).s2 (by decide)) ⟨dS_off a1 (fun i _ _ => ?_), ?_, ?_, a4⟩ ⟨k, ?_, hk, hkl⟩ (s2_at _ _ _ _) (Nat.le_refl _) rfl
  · rw [s2_nc (by omega), s2_nc (by omega)]
  · rw [s2_ap, if_neg (by decide), s2_ap, if_neg (by decide)]; exact a2
  · exact skA_cong (σ := σ) cst.length (fun x _ => by rw [s2_nc (by decide), s2_nc (by decide)]) (fun x _ => by rw [s2_nc (by decide), s2_nc (by decide)]) cst (Nat.le_refl _) a3
  · rw [s2_ap, if_neg (by decide), s2_at]
