/-! a draft that may be too large: S is what it would be, D what it holds -/
def dS (τ : Sg) (j : Nat) (S D : Sen) (lg : Bool) : Prop := hs τ j D ∧ τ (7 * j) 1 = bI lg ∧ ((lg = false ∧ D = S) ∨ (lg = true ∧ D.length = 11 ∧ 11 < S.length))
def addQ (σ τ : Sg) (j : Nat) (P : Sen) (q : Pt) (r : Int32) : Prop := offS j σ τ ∧ τ (7 * j + 6) = σ (7 * j + 6) ∧ ((q ∈ P ∧ τ = σ ∧ r = nI (P.idxOf q)) ∨ (q ∉ P ∧ P.length = 11 ∧ τ = s2 σ (7 * j) 1 (nI 1) ∧ r = nI 0) ∨ (q ∉ P ∧ P.length < 11 ∧ hs τ j (P ++ [q]) ∧ τ (7 * j) 1 = σ (7 * j) 1 ∧ r = nI P.length))
theorem add_step {σ τ : Sg} {j : Nat} {S D : Sen} {lg : Bool} {q q' : Pt} {r : Int32} (h : dS σ j S D lg) (he : lg = false → q' = q) (hp : addQ σ τ j D q' r) : offS j σ τ ∧ τ (7 * j + 6) = σ (7 * j + 6) ∧ ∃ (D' : Sen) (lg' : Bool) (x : Nat), dS τ j (addP S q) D' lg' ∧ D.length ≤ D'.length ∧ x < D'.length ∧ r = nI x ∧ (lg' = false → lg = false ∧ x = (addP S q).idxOf q) ∧ (lg = true → lg' = true) := by
  obtain ⟨h1, h2, h3⟩ := h
  obtain ⟨g1, g2, g3⟩ := hp
  refine ⟨g1, g2, ?_⟩
  have hflag : τ = s2 σ (7 * j) 1 (nI 1) → hs τ j D ∧ τ (7 * j) 1 = bI true := by
    rintro rfl
    refine ⟨hs_cong h1 ?_ (fun q q1 q2 => ?_), s2_at _ _ _ _⟩
    · rw [s2_ap, if_neg (by simp)]
    · rw [s2_nc (by omega)]
  rcases h3 with ⟨rfl, rfl⟩ | ⟨rfl, k1, k2⟩
  · have hqq := he rfl
    subst hqq
    rcases g3 with ⟨a1, rfl, a3⟩ | ⟨a1, a2, a3, a4⟩ | ⟨a1, a2, a3, a4, a5⟩
    · refine ⟨D, false, D.idxOf q', ?_, Nat.le_refl _, List.idxOf_lt_length_of_mem a1, a3, fun _ => ⟨rfl, ?_⟩, fun z => by cases z⟩
      · rw [addP_in a1]; exact ⟨h1, h2, Or.inl ⟨rfl, rfl⟩⟩
      · rw [addP_in a1]
    · obtain ⟨f1, f2⟩ := hflag a3
      refine ⟨D, true, 0, ?_, Nat.le_refl _, by omega, a4, (fun z => by cases z), fun _ => rfl⟩
      rw [addP_new a1]
      exact ⟨f1, f2, Or.inr ⟨rfl, a2, by simp; omega⟩⟩
    · refine ⟨D ++ [q'], false, D.length, ?_, by simp, by simp, a5, fun _ => ⟨rfl, ?_⟩, fun z => by cases z⟩
      · rw [addP_new a1]; exact ⟨a3, by rw [a4]; exact h2, Or.inl ⟨rfl, rfl⟩⟩
      · rw [addP_new a1, idx_new a1]
  · have hS : 11 < (addP S q).length := Nat.lt_of_lt_of_le k2 (addP_le S q)
    rcases g3 with ⟨a1, rfl, a3⟩ | ⟨a1, a2, a3, a4⟩ | ⟨a1, a2, a3, a4, a5⟩
    · exact ⟨D, true, D.idxOf q', ⟨h1, h2, Or.inr ⟨rfl, k1, hS⟩⟩, Nat.le_refl _, List.idxOf_lt_length_of_mem a1, a3, fun z => (by cases z), fun _ => rfl⟩
    · obtain ⟨f1, f2⟩ := hflag a3
      exact ⟨D, true, 0, ⟨f1, f2, Or.inr ⟨rfl, k1, hS⟩⟩, Nat.le_refl _, by omega, a4, fun z => (by cases z), fun _ => rfl⟩
    · omega
theorem dS_cong {σ τ : Sg} {j : Nat} {S D : Sen} {lg : Bool} (h : dS σ j S D lg) (h0 : τ (7 * j) = σ (7 * j)) (h1 : ∀ q, 1 ≤ q → q ≤ 5 → τ (7 * j + q) = σ (7 * j + q)) : dS τ j S D lg := ⟨hs_cong h.1 (by rw [h0]) h1, by rw [h0]; exact h.2.1, h.2.2⟩
/-! two sentences put together -/
def plc (pl : List Nat) (p : Pt) : Pt := if p.1 < 2 then p else (p.1, pl.getD p.2.1 0, pl.getD p.2.2 0)
def prS (st : Sen × List Nat) (p : Pt) : Sen × List Nat := (addP st.1 (plc st.2 p), st.2 ++ [(addP st.1 (plc st.2 p)).idxOf (plc st.2 p)])
def prK (A B : Sen) (k : Nat) : Sen × List Nat := (B.take k).foldl prS (A, [])
def prP (A B : Sen) (t : Nat) : Sen := addP (prK A B B.length).1 (t, A.length - 1, (prK A B B.length).2.getD (B.length - 1) 0)
theorem prK_0 (A B : Sen) : prK A B 0 = (A, []) := rfl
theorem prK_succ {A B : Sen} {k : Nat} {p : Pt} (h : B[k]? = some p) : prK A B (k + 1) = prS (prK A B k) p := by
  unfold prK
  rw [List.take_succ, h, List.foldl_append]
  rfl
theorem prK_len (A B : Sen) : ∀ k, k ≤ B.length → (prK A B k).2.length = k
  | 0, _ => rfl
  | k + 1, h => by
    obtain ⟨p, hp⟩ : ∃ p, B[k]? = some p := ⟨B[k], List.getElem?_eq_getElem (by omega)⟩
    rw [prK_succ hp]
    simp [prS, prK_len A B k (by omega)]
def bpI (σ τ : Sg) (j : Nat) (A B : Sen) (k : Nat) : Prop := offS j σ τ ∧ ∃ (D : Sen) (lg : Bool), dS τ j (prK A B k).1 D lg ∧ A.length ≤ D.length ∧ ∀ x, x < k → ∃ y, y < D.length ∧ τ (7 * j + 6) x = nI y ∧ (lg = false → y = (prK A B k).2.getD x 0)
theorem bp_next {σ τ τ' : Sg} {j : Nat} {A B D D' : Sen} {lg lg' : Bool} {k x : Nat} {p : Pt} (hk : B[k]? = some p) (h1 : offS j σ τ) (h4 : ∀ x, x < k → ∃ y, y < D.length ∧ τ (7 * j + 6) x = nI y ∧ (lg = false → y = (prK A B k).2.getD x 0))
    (hAD : A.length ≤ D.length) (o1 : offS j τ τ') (o2 : τ' (7 * j + 6) = τ (7 * j + 6)) (d : dS τ' j (addP (prK A B k).1 (plc (prK A B k).2 p)) D' lg') (hDD : D.length ≤ D'.length) (hx : x < D'.length) (hf : lg' = false → lg = false ∧ x = (addP (prK A B k).1 (plc (prK A B k).2 p)).idxOf (plc (prK A B k).2 p)) : bpI σ (s2 τ' (7 * j + 6) k (nI x)) j A B (k + 1) := by
  have hkl := (List.getElem?_eq_some_iff.mp hk).1
  refine ⟨(h1.trans o1).s2 (by omega) (by omega), D', lg', ?_, by omega, fun z hz => ?_⟩
  · rw [prK_succ hk]
    exact dS_cong d (s2_nc (by omega)) (fun q q1 q2 => s2_nc (by omega))
  · rw [prK_succ hk]
    have hl := prK_len A B k (by omega)
    rcases Nat.lt_or_ge z k with h | h
    · obtain ⟨y, y1, y2, y3⟩ := h4 z h
      refine ⟨y, by omega, ?_, fun e => ?_⟩
      · rw [s2_ap, if_neg (by omega), o2]; exact y2
      · rw [y3 (hf e).1]
        simp only [prS, List.getD_eq_getElem?_getD]
        rw [List.getElem?_append_left (by omega)]
    · have hzk : z = k := by omega
      subst hzk
      refine ⟨x, hx, s2_at _ _ _ _, fun e => ?_⟩
      rw [(hf e).2]
      simp only [prS, List.getD_eq_getElem?_getD]
      rw [List.getElem?_append_right (by omega), hl, Nat.sub_self]
      rfl
set_option maxHeartbeats 4000000 in
set_option maxRecDepth 100000 in
theorem c_becomePair (G : GT) {σ : Sg} {j ia ib : Nat} (hj : j < 20) (hia : ia < 20) (hib : ib < 20) (ha : ia ≠ j) (hb : ib ≠ j) {A B : Sen} (hA : hs σ ia A) (hlA : σ (7 * ia) 1 = bI false) (hB : hs σ ib B) (hA0 : 0 < A.length) (hB0 : 0 < B.length) {t : Nat} (ht : 2 ≤ t ∧ t ≤ 4) : MV G yX1_becomePair cX1_becomePair 5 2 [.ref (G.2.2.1 (7 * j)), .int (nI t), .ref (G.2.2.1 (7 * ia)), .ref (G.2.2.1 (7 * ib))] σ (fun τ => offS j σ τ ∧ ∃ (D : Sen) (lg : Bool), dS τ j (prP A B t) D lg) := by
  refine MV_of (by decide) (ca1 rfl (ca1 rfl (ca1 rfl (ca1 rfl ca0)))) (Nat.le_of_ble_eq_true rfl) ?_
  intro Z X hR
  show V G Z σ 0 [some (.ref (G.2.2.1 (7 * j))), some (.int (nI t)), some (.ref (G.2.2.1 (7 * ia))), some (.ref (G.2.2.1 (7 * ib))), none] []
  obtain ⟨b1, b2, b3, b4, b5⟩ := hB
  have loop : ∀ (n k : Nat) (τ : Sg), B.length - k < n → k ≤ B.length → bpI σ τ j A B k → V G Z τ 8 [some (.ref (G.2.2.1 (7 * j))), some (.int (nI t)), some (.ref (G.2.2.1 (7 * ia))), some (.ref (G.2.2.1 (7 * ib))), some (.int (nI k))] [] := by
    intro n
    induction n with
    | zero => intro k τ h; omega
    | succ n ih =>
      intro k τ hn hkl hinv
      obtain ⟨i1, D, lg, i2, i3, i4⟩ := hinv
      have rb : ∀ q, q < 7 → τ (7 * ib + q) = σ (7 * ib + q) := fun q hq => i1 _ (by omega)
      have rb0 : τ (7 * ib) 0 = nI B.length := by rw [i1 (7 * ib) (by omega)]; exact b3
      have ra0 : τ (7 * ia) 0 = nI A.length := by rw [i1 (7 * ia) (by omega)]; exact hA.2.2.1
      have hD11 : D.length ≤ 11 := i2.1.1
      refine v_iload X dX1_becomePair_8 rfl ?_
      refine v_aload_n X dX1_becomePair_10 rfl ?_
      refine v_geti X fl_X1_9 (shX1_0 (by first | assumption | omega)) dX1_becomePair_11 ?_
      refine v_top rb0 ?_
      refine v_icmp_ge (tgt := 104) X dX1_becomePair_14 (by decide) (fun h14 => ?_) (fun h14 => ?_)
      · skip
        have hk := nI_lem (by omega) (by omega) h14
        have hk : k = B.length := by omega
        subst hk
        refine v_aload_n X dX1_becomePair_104 rfl ?_
        refine v_iload_n X dX1_becomePair_105 rfl ?_
        refine v_aload_n X dX1_becomePair_106 rfl ?_
        refine v_cali X (c_root G hia) cv_X1_61 (obX1 (by first | assumption | omega)) rfl (by decide) rfl (by rfl) (Nat.le_of_ble_eq_true rfl) dX1_becomePair_107 (fun r τ1 hp => ?_)
        obtain ⟨rfl, rfl⟩ := hp
        refine v_aload_n X dX1_becomePair_110 rfl ?_
        refine v_getr X fl_X1_35 (shX1_7 (by first | assumption | omega)) dX1_becomePair_111 ?_
        refine v_aload_n X dX1_becomePair_114 rfl ?_
        refine v_cali X (c_root G hib) cv_X1_61 (obX1 (by first | assumption | omega)) rfl (by decide) rfl (by rfl) (Nat.le_of_ble_eq_true rfl) dX1_becomePair_115 (fun r τ1 hp => ?_)
        obtain ⟨rfl, rfl⟩ := hp
        obtain ⟨y, y1, y2, y3⟩ := i4 (B.length - 1) (by omega)
        refine v_ialdE X (arX1_7 (by first | assumption | omega)) (by rw [rb0, nI_s1 hB0]) (show B.length - 1 < 11 by omega) dX1_becomePair_118 ?_
        rw [y2, ra0, nI_s1 hA0]
        have hq' : okp D.length (t, A.length - 1, y) := Or.inr (Or.inr ⟨ht.1, ht.2, by show A.length - 1 < D.length; omega, y1⟩)
        have he : lg = false → (t, A.length - 1, y) = (t, A.length - 1, (prK A B B.length).2.getD (B.length - 1) 0) := fun e => by rw [y3 e]
        have q1 : pA (t, A.length - 1, y) = nI (A.length - 1) := if_neg (show ¬ t = 1 by omega)
        have q2 : pB (t, A.length - 1, y) = nI y := if_neg (show ¬ t < 2 by omega)
        rw [← q1, ← q2]
        show V G Z _ 119 _ [_, _, .int (pK (t, A.length - 1, y)), _]
        refine v_cali X (c_add G hj i2.1 hq') cv_X1_58 (obX1 (by first | assumption | omega)) rfl (by decide) rfl (by rfl) (Nat.le_of_ble_eq_true rfl) dX1_becomePair_119 (fun r τ' hp => ?_)
        obtain ⟨o1, o2, D', lg', x, s1, s2', s3, s4, s5, -⟩ := add_step i2 he hp
        subst s4
        refine v_pop X dX1_becomePair_122 rfl ?_
        refine v_vret X hR dX1_becomePair_123 ?_
        exact ⟨i1.trans o1, D', lg', s1⟩
      · skip
        have hk := nI_len (by omega) (by omega) h14
        obtain ⟨p, hpk⟩ : ∃ p, B[k]? = some p := ⟨B[k], List.getElem?_eq_getElem hk⟩
        obtain ⟨e1, e2, e3⟩ := b4 k p hpk
        have e1 : τ (7 * ib + 1) k = pK p := by rw [rb 1 (by decide)]; exact e1
        have e2 : τ (7 * ib + 2) k = pA p := by rw [rb 2 (by decide)]; exact e2
        have e3 : τ (7 * ib + 3) k = pB p := by rw [rb 3 (by decide)]; exact e3
        have hok := b2 k p hpk
        have hk4 := hok.k4
        refine v_aload_n X dX1_becomePair_17 rfl ?_
        refine v_getr X fl_X1_35 (shX1_7 (by first | assumption | omega)) dX1_becomePair_18 ?_
        refine v_iload X dX1_becomePair_21 rfl ?_
        refine v_aload_n X dX1_becomePair_23 rfl ?_
        refine v_getr X fl_X1_19 (shX1_2 (by first | assumption | omega)) dX1_becomePair_24 ?_
        refine v_iload X dX1_becomePair_27 rfl ?_
        refine v_ialdE X (arX1_2 (by first | assumption | omega)) rfl (by first | assumption | omega) dX1_becomePair_29 ?_
        refine v_iconst (v := nI 2) X dX1_becomePair_30 (by decide) ?_
        rw [e1]
        refine v_icmp_ge (tgt := 62) X dX1_becomePair_31 (by decide) (fun h31 => ?_) (fun h31 => ?_)
        · skip
          have h2 : ¬ p.1 < 2 := by have := nI_lem (a := 2) (b := p.1) (by decide) (by omega) h31; omega
          have hab : p.2.1 < k ∧ p.2.2 < k := by
            rcases hok with ⟨q, -⟩ | ⟨q, -⟩ | ⟨-, -, q1, q2⟩
            · omega
            · omega
            · exact ⟨q1, q2⟩
          obtain ⟨ya, ya1, ya2, ya3⟩ := i4 p.2.1 hab.1
          obtain ⟨yb, yb1, yb2, yb3⟩ := i4 p.2.2 hab.2
          have e2 : τ (7 * ib + 2) k = nI p.2.1 := by rw [e2, pA, if_neg (by omega)]
          have e3 : τ (7 * ib + 3) k = nI p.2.2 := by rw [e3, pB, if_neg h2]
          have hq' : okp D.length (p.1, ya, yb) := Or.inr (Or.inr ⟨by show 2 ≤ p.1; omega, hk4, ya1, yb1⟩)
          have he : lg = false → (p.1, ya, yb) = plc (prK A B k).2 p := fun e => by rw [plc, if_neg h2, ya3 e, yb3 e]
          have q1 : pA (p.1, ya, yb) = nI ya := if_neg (show ¬ p.1 = 1 by omega)
          have q2 : pB (p.1, ya, yb) = nI yb := if_neg (show ¬ p.1 < 2 by omega)
          refine v_aload_n X dX1_becomePair_62 rfl ?_
          refine v_aload_n X dX1_becomePair_63 rfl ?_
          refine v_getr X fl_X1_19 (shX1_2 (by first | assumption | omega)) dX1_becomePair_64 ?_
          refine v_iload X dX1_becomePair_67 rfl ?_
          refine v_ialdE X (arX1_2 (by first | assumption | omega)) rfl (by first | assumption | omega) dX1_becomePair_69 ?_
          refine v_aload_n X dX1_becomePair_70 rfl ?_
          refine v_getr X fl_X1_35 (shX1_7 (by first | assumption | omega)) dX1_becomePair_71 ?_
          refine v_aload_n X dX1_becomePair_74 rfl ?_
          refine v_getr X fl_X1_23 (shX1_3 (by first | assumption | omega)) dX1_becomePair_75 ?_
          refine v_iload X dX1_becomePair_78 rfl ?_
          refine v_ialdE X (arX1_3 (by first | assumption | omega)) rfl (by first | assumption | omega) dX1_becomePair_80 ?_
          refine v_ialdE X (arX1_7 (by first | assumption | omega)) e2 (show p.2.1 < 11 by omega) dX1_becomePair_81 ?_
          refine v_aload_n X dX1_becomePair_82 rfl ?_
          refine v_getr X fl_X1_35 (shX1_7 (by first | assumption | omega)) dX1_becomePair_83 ?_
          refine v_aload_n X dX1_becomePair_86 rfl ?_
          refine v_getr X fl_X1_26 (shX1_4 (by first | assumption | omega)) dX1_becomePair_87 ?_
          refine v_iload X dX1_becomePair_90 rfl ?_
          refine v_ialdE X (arX1_4 (by first | assumption | omega)) rfl (by first | assumption | omega) dX1_becomePair_92 ?_
          refine v_ialdE X (arX1_7 (by first | assumption | omega)) e3 (show p.2.2 < 11 by omega) dX1_becomePair_93 ?_
          rw [e1, ya2, yb2, ← q1, ← q2]
          show V G Z τ 94 _ [_, _, .int (pK (p.1, ya, yb)), _, _, _]
          refine v_cali X (c_add G hj i2.1 hq') cv_X1_58 (obX1 (by first | assumption | omega)) rfl (by decide) rfl (by rfl) (Nat.le_of_ble_eq_true rfl) dX1_becomePair_94 (fun r τ' hp => ?_)
          obtain ⟨o1, o2, D', lg', x, s1, s2', s3, s4, s5, -⟩ := add_step i2 he hp
          subst s4
          refine v_iastE X (arX1_7 (by first | assumption | omega)) rfl (show k < 11 by omega) dX1_becomePair_97 ?_
          refine v_iincE X dX1_becomePair_98 rfl (nI_inc k) ?_
          show V G Z _ 101 [_, _, _, _, _] _
          refine v_goto (tgt := 8) X dX1_becomePair_101 (by decide) ?_
          exact ih (k + 1) _ (by omega) (by omega) (bp_next hpk i1 i4 i3 o1 o2 s1 s2' s3 s5)
        · skip
          have h2 : p.1 < 2 := nI_len (a := 2) (b := p.1) (by decide) (by omega) h31
          have hq' : okp D.length p := by
            rcases hok with q | q | ⟨q, -⟩
            · exact Or.inl q
            · exact Or.inr (Or.inl q)
            · omega
          have he : lg = false → p = plc (prK A B k).2 p := fun e => by rw [plc, if_pos h2]
          refine v_aload_n X dX1_becomePair_34 rfl ?_
          refine v_aload_n X dX1_becomePair_35 rfl ?_
          refine v_getr X fl_X1_19 (shX1_2 (by first | assumption | omega)) dX1_becomePair_36 ?_
          refine v_iload X dX1_becomePair_39 rfl ?_
          refine v_ialdE X (arX1_2 (by first | assumption | omega)) rfl (by first | assumption | omega) dX1_becomePair_41 ?_
          refine v_aload_n X dX1_becomePair_42 rfl ?_
          refine v_getr X fl_X1_23 (shX1_3 (by first | assumption | omega)) dX1_becomePair_43 ?_
          refine v_iload X dX1_becomePair_46 rfl ?_
          refine v_ialdE X (arX1_3 (by first | assumption | omega)) rfl (by first | assumption | omega) dX1_becomePair_48 ?_
          refine v_aload_n X dX1_becomePair_49 rfl ?_
          refine v_getr X fl_X1_26 (shX1_4 (by first | assumption | omega)) dX1_becomePair_50 ?_
          refine v_iload X dX1_becomePair_53 rfl ?_
          refine v_ialdE X (arX1_4 (by first | assumption | omega)) rfl (by first | assumption | omega) dX1_becomePair_55 ?_
          rw [e1, e2, e3]
          refine v_cali X (c_add G hj i2.1 hq') cv_X1_58 (obX1 (by first | assumption | omega)) rfl (by decide) rfl (by rfl) (Nat.le_of_ble_eq_true rfl) dX1_becomePair_56 (fun r τ' hp => ?_)
          obtain ⟨o1, o2, D', lg', x, s1, s2', s3, s4, s5, -⟩ := add_step i2 he hp
          subst s4
          refine v_goto (tgt := 97) X dX1_becomePair_59 (by decide) ?_
          refine v_iastE X (arX1_7 (by first | assumption | omega)) rfl (show k < 11 by omega) dX1_becomePair_97 ?_
          refine v_iincE X dX1_becomePair_98 rfl (nI_inc k) ?_
          show V G Z _ 101 [_, _, _, _, _] _
          refine v_goto (tgt := 8) X dX1_becomePair_101 (by decide) ?_
          exact ih (k + 1) _ (by omega) (by omega) (bp_next hpk i1 i4 i3 o1 o2 s1 s2' s3 s5)
  refine v_aload_n X dX1_becomePair_0 rfl ?_
  refine v_aload_n X dX1_becomePair_1 rfl ?_
  refine v_calv X (c_copyFrom G hj hia ha hA hlA) cv_X1_54 (obX1 (by first | assumption | omega)) rfl (by decide) rfl (by rfl) (Nat.le_of_ble_eq_true rfl) dX1_becomePair_2 (fun τ hp => ?_)
  obtain ⟨a1, a2, a3, a4⟩ := hp
  refine v_iconst (v := nI 0) X dX1_becomePair_5 (by decide) ?_
  refine v_istore X dX1_becomePair_6 (Nat.le_of_ble_eq_true rfl) ?_
  show V G Z _ 8 [_, _, _, _, _] _
  exact loop (B.length + 1) 0 _ (by omega) (by omega) ⟨a1, A, false, ⟨a2, a3, Or.inl ⟨rfl, rfl⟩⟩, Nat.le_refl _, fun x h => by omega⟩
