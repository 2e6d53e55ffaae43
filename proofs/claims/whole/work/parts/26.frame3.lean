/-! WHICH CLOSED SETS ARE WORLDS: from the greatest on, those of which each missing ( A > B ) is denied, by itself or by a world above -/
def impK (P : Sen) : Nat → Nat
  | 0 => 0
  | k + 1 => if (P.getD k (1, 0, 0)).1 = 4 then impK P k ||| 2 ^ k else impK P k
def imp (P : Sen) : Nat := impK P P.length
def denK (P : Sen) (m w : Nat) : Nat → Nat
  | 0 => 0
  | k + 1 => if m.testBit k && w.testBit (P.getD k (1, 0, 0)).2.1 then denK P m w k ||| 2 ^ k else denK P m w k
def den (P : Sen) (w : Nat) : Nat := denK P (dif (imp P) w) w P.length
abbrev Kw : Type := List (Nat × Nat × Nat)
def opS (w : Nat) (acc : Nat × Nat) (e : Nat × Nat × Nat) : Nat × Nat := if sbs w e.1 then (dif acc.1 e.2.1, max acc.2 (e.2.2 + 1)) else acc
def opF (P : Sen) (w : Nat) (K : Kw) : Nat × Nat := K.foldl (opS w) (dif (dif (imp P) w) (den P w), 0)
def csd (P : Sen) (w : Nat) (K : Kw) : Kw := if (opF P w K).1 = 0 then (w, den P w, (opF P w K).2) :: K else K
def sfL (P : Sen) : List Nat → Kw
  | [] => []
  | w :: l => csd P w (sfL P l)
def wlK (P : Sen) : Kw := sfL P (clL P P.length)
theorem impK_bit (P : Sen) : ∀ (n i : Nat), (impK P n).testBit i = (decide (i < n) && decide ((P.getD i (1, 0, 0)).1 = 4))
  | 0, i => by simp [impK]
  | n + 1, i => by
    rw [impK]
    by_cases h4 : (P.getD n (1, 0, 0)).1 = 4
    · rw [if_pos h4, Nat.testBit_or, impK_bit P n i, Nat.testBit_two_pow]
      by_cases hi : i = n
      · subst hi; rw [decide_eq_true h4]; simp
      · have h1 : decide (i < n + 1) = decide (i < n) := by rw [decide_eq_decide]; omega
        rw [h1]; simp [Ne.symm hi]
    · rw [if_neg h4, impK_bit P n i]
      by_cases hi : i = n
      · subst hi; rw [decide_eq_false h4]; simp
      · have h1 : decide (i < n + 1) = decide (i < n) := by rw [decide_eq_decide]; omega
        rw [h1]
theorem mis_4 {P : Sen} {w k : Nat} (h : (dif (imp P) w).testBit k = true) : (P.getD k (1, 0, 0)).1 = 4 := by
  rw [dif_bit, imp, impK_bit] at h
  simp at h
  simpa using h.1.2
theorem dif_le (a b : Nat) : dif a b ≤ a := by
  have h : sbs (dif a b) a = true := sbs_iff.mpr (fun i hi => by
    rw [dif_bit] at hi
    exact ((Bool.and_eq_true _ _).mp hi).1)
  exact sbs_le h
theorem imp_lt (P : Sen) : imp P < 2 ^ P.length := by
  apply Nat.lt_pow_two_of_testBit
  intro i hi
  rw [imp, impK_bit]
  simp; intro z; omega
theorem sbs_eq {v w : Nat} (hw : w < 2 ^ 31) : nI v &&& nI w = nI w ↔ sbs w v = true := by
  rw [nb_and, nI_eq (Nat.lt_of_le_of_lt Nat.and_le_right hw) hw, sbs, beq_iff_eq]
/-- the Frame's rows hold K from place f on to below e -/
def kI (τ : Sg) (K : Kw) (f e : Nat) : Prop := f + K.length = e ∧ τ 151 4 = nI f ∧ τ 151 5 = nI e ∧ ∀ y q, K[y]? = some q → τ 152 (f + y) = nI q.1 ∧ τ 153 (f + y) = nI q.2.1 ∧ τ 154 (f + y) = nI q.2.2 ∧ q.2.2 + y + 1 ≤ K.length
theorem opS_le (w : Nat) : ∀ (K : Kw) (acc : Nat × Nat) (B : Nat), acc.2 ≤ B → (∀ q ∈ K, q.2.2 + 1 ≤ B) → (K.foldl (opS w) acc).2 ≤ B
  | [], acc, B, h, _ => h
  | e :: K, acc, B, h, hK => by
    rw [List.foldl_cons]
    refine opS_le w K _ B ?_ (fun q hq => hK q (List.mem_cons_of_mem _ hq))
    unfold opS
    split
    · have := hK e List.mem_cons_self
      exact Nat.max_le.mpr ⟨h, this⟩
    · exact h
theorem mx_nI {a b : Nat} (ha : a < 2 ^ 31) (hb : b < 2 ^ 31) : (if nI a < nI b then nI b else nI a) = nI (max a b) := by
  by_cases h : a < b
  · rw [if_pos (nI_lt h hb), Nat.max_eq_right (by omega)]
  · rw [if_neg (nI_nlt (by omega) ha), Nat.max_eq_left (by omega)]
set_option maxHeartbeats 4000000 in
set_option maxRecDepth 100000 in
theorem c_implications (G : GT) {σ : Sg} {P : Sen} (hP : hs σ 19 P) : MC G yX0_implications cX0_implications 3 .int 0 [.ref (G.2.2.1 151)] σ (fun r τ => τ = σ ∧ r = nI (imp P)) := by
  refine MC_of (by decide) (ca1 rfl ca0) (Nat.le_of_ble_eq_true rfl) ?_
  intro Z X hR
  show V G Z σ 0 [some (.ref (G.2.2.1 151)), none, none] []
  obtain ⟨p1, p2, p3, p4, p5⟩ := hP
  have loop : ∀ (n k : Nat), P.length - k < n → k ≤ P.length → V G Z σ 4 [some (.ref (G.2.2.1 151)), some (.int (nI (impK P k))), some (.int (nI k))] [] := by
    intro n
    induction n with
    | zero => intro k h; omega
    | succ n ih =>
      intro k hn hkl
      refine v_iload_n X dX0_implications_4 rfl ?_
      refine v_aload_n X dX0_implications_5 rfl ?_
      refine v_getr X fl_X0_12 shX0_0 dX0_implications_6 ?_
      refine v_geti X fl_X0_43 (shX1_0 (by first | assumption | omega)) dX0_implications_9 ?_
      rw [p3]
      refine v_icmp_ge (tgt := 40) X dX0_implications_12 (by decide) (fun h12 => ?_) (fun h12 => ?_)
      · skip
        have hk := nI_lem (by omega) (by omega) h12
        have hk : k = P.length := by omega
        subst hk
        refine v_iload_n X dX0_implications_40 rfl ?_
        refine v_ret X hR dX0_implications_41 rfl ?_
        exact ⟨rfl, rfl⟩
      · skip
        have hk := nI_len (by omega) (by omega) h12
        obtain ⟨p, hp⟩ : ∃ p, P[k]? = some p := ⟨P[k], List.getElem?_eq_getElem hk⟩
        have e1 := (p4 k p hp).1
        have hk4 := (p2 k p hp).k4
        have ihk := ih (k + 1) (by omega) (by omega)
        rw [impK, getD_of hp] at ihk
        refine v_aload_n X dX0_implications_15 rfl ?_
        refine v_getr X fl_X0_12 shX0_0 dX0_implications_16 ?_
        refine v_getr X fl_X0_69 (shX1_2 (by first | assumption | omega)) dX0_implications_19 ?_
        refine v_iload_n X dX0_implications_22 rfl ?_
        refine v_ialdE X (arX1_2 (by first | assumption | omega)) rfl (show k < 11 by omega) dX0_implications_23 ?_
        refine v_iconst (v := nI 4) X dX0_implications_24 (by decide) ?_
        rw [e1]
        refine v_icmp_ne (tgt := 34) X dX0_implications_25 (by decide) (fun h25 => ?_) (fun h25 => ?_)
        · skip
          have h4 : ¬ p.1 = 4 := fun z => h25 (by rw [pK, z])
          rw [if_neg h4] at ihk
          refine v_iincE X dX0_implications_34 rfl (nI_inc k) ?_
          show V G Z _ 37 [_, _, _] _
          refine v_goto (tgt := 4) X dX0_implications_37 (by decide) ?_
          exact ihk
        · skip
          have h4 : p.1 = 4 := nI_eqm (by omega) (by decide) h25
          rw [if_pos h4] at ihk
          refine v_iload_n X dX0_implications_28 rfl ?_
          refine v_iconst (v := nI 1) X dX0_implications_29 (by decide) ?_
          refine v_iload_n X dX0_implications_30 rfl ?_
          refine v_ishl X dX0_implications_31 ?_
          refine v_top (nb_shl (by omega)) ?_
          refine v_ior X dX0_implications_32 ?_
          refine v_top (nb_or _ _) ?_
          refine v_istore_n X dX0_implications_33 (Nat.le_of_ble_eq_true rfl) ?_
          show V G Z _ 34 [_, _, _] _
          refine v_iincE X dX0_implications_34 rfl (nI_inc k) ?_
          show V G Z _ 37 [_, _, _] _
          refine v_goto (tgt := 4) X dX0_implications_37 (by decide) ?_
          exact ihk
  refine v_iconst (v := nI 0) X dX0_implications_0 (by decide) ?_
  refine v_istore_n X dX0_implications_1 (Nat.le_of_ble_eq_true rfl) ?_
  show V G Z _ 2 [_, _, _] _
  refine v_iconst (v := nI 0) X dX0_implications_2 (by decide) ?_
  refine v_istore_n X dX0_implications_3 (Nat.le_of_ble_eq_true rfl) ?_
  show V G Z _ 4 [_, _, _] _
  exact loop (P.length + 1) 0 (by omega) (by omega)
set_option maxHeartbeats 4000000 in
set_option maxRecDepth 100000 in
theorem c_deniedBy (G : GT) {σ : Sg} {P : Sen} (hP : hs σ 19 P) (w m : Nat) (hm : ∀ k, m.testBit k = true → (P.getD k (1, 0, 0)).1 = 4) : MC G yX0_deniedBy cX0_deniedBy 5 .int 0 [.ref (G.2.2.1 151), .int (nI w), .int (nI m)] σ (fun r τ => τ = σ ∧ r = nI (denK P m w P.length)) := by
  refine MC_of (by decide) (ca1 rfl (ca1 rfl (ca1 rfl ca0))) (Nat.le_of_ble_eq_true rfl) ?_
  intro Z X hR
  show V G Z σ 0 [some (.ref (G.2.2.1 151)), some (.int (nI w)), some (.int (nI m)), none, none] []
  obtain ⟨p1, p2, p3, p4, p5⟩ := hP
  have loop : ∀ (n k : Nat), P.length - k < n → k ≤ P.length → V G Z σ 5 [some (.ref (G.2.2.1 151)), some (.int (nI w)), some (.int (nI m)), some (.int (nI (denK P m w k))), some (.int (nI k))] [] := by
    intro n
    induction n with
    | zero => intro k h; omega
    | succ n ih =>
      intro k hn hkl
      refine v_iload X dX0_deniedBy_5 rfl ?_
      refine v_aload_n X dX0_deniedBy_7 rfl ?_
      refine v_getr X fl_X0_12 shX0_0 dX0_deniedBy_8 ?_
      refine v_geti X fl_X0_43 (shX1_0 (by first | assumption | omega)) dX0_deniedBy_11 ?_
      rw [p3]
      refine v_icmp_ge (tgt := 52) X dX0_deniedBy_14 (by decide) (fun h14 => ?_) (fun h14 => ?_)
      · skip
        have hk := nI_lem (by omega) (by omega) h14
        have hk : k = P.length := by omega
        subst hk
        refine v_iload_n X dX0_deniedBy_52 rfl ?_
        refine v_ret X hR dX0_deniedBy_53 rfl ?_
        exact ⟨rfl, rfl⟩
      · skip
        have hk := nI_len (by omega) (by omega) h14
        obtain ⟨p, hp⟩ : ∃ p, P[k]? = some p := ⟨P[k], List.getElem?_eq_getElem hk⟩
        have e2 := (p4 k p hp).2.1
        have ihk := ih (k + 1) (by omega) (by omega)
        rw [denK, getD_of hp] at ihk
        refine v_iload_n X dX0_deniedBy_17 rfl ?_
        refine v_iload X dX0_deniedBy_18 rfl ?_
        refine v_iushr X dX0_deniedBy_20 ?_
        refine v_iload_n X dX0_deniedBy_21 rfl ?_
        refine v_aload_n X dX0_deniedBy_22 rfl ?_
        refine v_getr X fl_X0_12 shX0_0 dX0_deniedBy_23 ?_
        refine v_getr X fl_X0_63 (shX1_3 (by first | assumption | omega)) dX0_deniedBy_26 ?_
        refine v_iload X dX0_deniedBy_29 rfl ?_
        refine v_ialdE X (arX1_3 (by first | assumption | omega)) rfl (show k < 11 by omega) dX0_deniedBy_31 ?_
        refine v_iushr X dX0_deniedBy_32 ?_
        refine v_iand X dX0_deniedBy_33 ?_
        refine v_iconst (v := nI 1) X dX0_deniedBy_34 (by decide) ?_
        refine v_iand X dX0_deniedBy_35 ?_
        refine v_top (y := bI (m.testBit k && w.testBit p.2.1)) (by
          rw [e2]
          cases hmk : m.testBit k with
          | false => rw [nb_zero _ (by omega) hmk]; rfl
          | true =>
            have h4 := hm k hmk
            rw [getD_of hp] at h4
            have hab : p.2.1 < k := by
              rcases p2 k p hp with ⟨q, -⟩ | ⟨q, -⟩ | ⟨-, -, q1, q2⟩
              · omega
              · omega
              · exact q1
            rw [show pA p = nI p.2.1 from if_neg (by omega), nb_two m w (by omega) (by omega), hmk]) ?_
        refine v_if_eq (tgt := 46) X dX0_deniedBy_36 (by decide) (fun h36 => ?_) (fun h36 => ?_)
        · skip
          rw [bI_z.mp h36] at ihk
          refine v_iincE X dX0_deniedBy_46 rfl (nI_inc k) ?_
          show V G Z _ 49 [_, _, _, _, _] _
          refine v_goto (tgt := 5) X dX0_deniedBy_49 (by decide) ?_
          exact ihk
        · skip
          rw [bI_nz.mp h36] at ihk
          refine v_iload_n X dX0_deniedBy_39 rfl ?_
          refine v_iconst (v := nI 1) X dX0_deniedBy_40 (by decide) ?_
          refine v_iload X dX0_deniedBy_41 rfl ?_
          refine v_ishl X dX0_deniedBy_43 ?_
          refine v_top (nb_shl (by omega)) ?_
          refine v_ior X dX0_deniedBy_44 ?_
          refine v_top (nb_or _ _) ?_
          refine v_istore_n X dX0_deniedBy_45 (Nat.le_of_ble_eq_true rfl) ?_
          show V G Z _ 46 [_, _, _, _, _] _
          refine v_iincE X dX0_deniedBy_46 rfl (nI_inc k) ?_
          show V G Z _ 49 [_, _, _, _, _] _
          refine v_goto (tgt := 5) X dX0_deniedBy_49 (by decide) ?_
          exact ihk
  refine v_iconst (v := nI 0) X dX0_deniedBy_0 (by decide) ?_
  refine v_istore_n X dX0_deniedBy_1 (Nat.le_of_ble_eq_true rfl) ?_
  show V G Z _ 2 [_, _, _, _, _] _
  refine v_iconst (v := nI 0) X dX0_deniedBy_2 (by decide) ?_
  refine v_istore X dX0_deniedBy_3 (Nat.le_of_ble_eq_true rfl) ?_
  show V G Z _ 5 [_, _, _, _, _] _
  exact loop (P.length + 1) 0 (by omega) (by omega)
theorem kI_cons {σ τ : Sg} {K : Kw} {f e : Nat} {q : Nat × Nat × Nat} (hf : 0 < f) (h : kI σ K f e) (h4 : τ 151 4 = nI (f - 1)) (h5 : τ 151 5 = σ 151 5) (hq : q.2.2 ≤ K.length)
    (e1 : τ 152 (f - 1) = nI q.1) (e2 : τ 153 (f - 1) = nI q.2.1) (e3 : τ 154 (f - 1) = nI q.2.2) (hr : ∀ x, f ≤ x → τ 152 x = σ 152 x ∧ τ 153 x = σ 153 x ∧ τ 154 x = σ 154 x) : kI τ (q :: K) (f - 1) e := by
  obtain ⟨a1, a2, a3, a4⟩ := h
  refine ⟨by simp; omega, h4, by rw [h5]; exact a3, fun y q' hy => ?_⟩
  cases y with
  | zero =>
    have : q = q' := by simpa using hy
    subst this
    exact ⟨e1, e2, e3, by simp; omega⟩
  | succ y =>
    rw [List.getElem?_cons_succ] at hy
    obtain ⟨b1, b2, b3, b4⟩ := a4 y q' hy
    rw [show f - 1 + (y + 1) = f + y by omega]
    obtain ⟨c1, c2, c3⟩ := hr (f + y) (by omega)
    exact ⟨c1.trans b1, c2.trans b2, c3.trans b3, by simp; omega⟩
set_option maxHeartbeats 4000000 in
set_option maxRecDepth 100000 in
theorem c_consider (G : GT) {σ : Sg} {P : Sen} (hP : hs σ 19 P) {K : Kw} {f e : Nat} (hK : kI σ K f e) (he : e ≤ 2048) (hf : 0 < f) {w : Nat} (hw : w < 2 ^ 31) : MV G yX0_consider cX0_consider 7 1 [.ref (G.2.2.1 151), .int (nI w), .int (nI (dif (imp P) w))] σ (fun τ => fO σ τ ∧ (∀ x, x + 1 < f → τ 152 x = σ 152 x) ∧ ∃ f', kI τ (csd P w K) f' e ∧ f ≤ f' + 1 ∧ f' ≤ f) := by
  refine MV_of (by decide) (ca1 rfl (ca1 rfl (ca1 rfl ca0))) (Nat.le_of_ble_eq_true rfl) ?_
  intro Z X hR
  show V G Z σ 0 [some (.ref (G.2.2.1 151)), some (.int (nI w)), some (.int (nI (dif (imp P) w))), none, none, none, none] []
  have hK0 := hK
  obtain ⟨a1, a2, a3, a4⟩ := hK
  have hin : ∀ q ∈ K, q.2.2 + 1 ≤ K.length := fun q hq => by
    obtain ⟨y, hy⟩ := List.getElem?_of_mem hq
    have := (a4 y q hy).2.2.2
    omega
  have loop : ∀ (n y : Nat) (acc : Nat × Nat), K.length - y < n → y ≤ K.length → acc = (K.take y).foldl (opS w) (dif (dif (imp P) w) (den P w), 0) → V G Z σ 23 [some (.ref (G.2.2.1 151)), some (.int (nI w)), some (.int (nI (dif (imp P) w))), some (.int (nI (den P w))), some (.int (nI acc.1)), some (.int (nI acc.2)), some (.int (nI (f + y)))] [] := by
    intro n
    induction n with
    | zero => intro y acc h; omega
    | succ n ih =>
      intro y acc hn hyl hacc
      have hb : acc.2 ≤ K.length := by
        rw [hacc]
        exact opS_le w _ _ _ (Nat.zero_le _) (fun q hq => hin q (List.mem_of_mem_take hq))
      refine v_iload X dX0_consider_23 rfl ?_
      refine v_aload_n X dX0_consider_25 rfl ?_
      refine v_geti X fl_X0_32 shX0_5 dX0_consider_26 ?_
      rw [a3]
      refine v_icmp_ge (tgt := 81) X dX0_consider_29 (by decide) (fun h29 => ?_) (fun h29 => ?_)
      · skip
        have hy := nI_lem (by omega) (by omega) h29
        have hy : y = K.length := by omega
        subst hy
        rw [List.take_length] at hacc
        have hacc : acc = opF P w K := hacc
        refine v_iload X dX0_consider_81 rfl ?_
        refine v_if_ne (tgt := 134) X dX0_consider_83 (by decide) (fun h83 => ?_) (fun h83 => ?_)
        · skip
          have h0 : ¬ (opF P w K).1 = 0 := fun z => h83 (by rw [hacc, z]; rfl)
          refine v_vret X hR dX0_consider_134 ?_
          refine ⟨fO.rfl, fun x _ => rfl, f, ?_, by omega, Nat.le_refl _⟩
          rw [csd, if_neg h0]; exact hK0
        · skip
          have h0 : (opF P w K).1 = 0 := by
            rw [hacc] at h83
            have hlt : (opF P w K).1 < 2 ^ 31 := by
              have hle : ∀ (K : Kw) (acc : Nat × Nat), (K.foldl (opS w) acc).1 ≤ acc.1 := by
                intro K
                induction K with
                | nil => intro acc; exact Nat.le_refl _
                | cons e K ihK =>
                  intro acc
                  rw [List.foldl_cons]
                  refine Nat.le_trans (ihK _) ?_
                  unfold opS
                  split
                  · exact dif_le _ _
                  · exact Nat.le_refl _
              refine Nat.lt_of_le_of_lt (hle _ _) (Nat.lt_of_le_of_lt (dif_le _ _) (Nat.lt_of_le_of_lt (dif_le _ _) ?_))
              exact Nat.lt_of_lt_of_le (imp_lt P) (Nat.pow_le_pow_right (by decide) (by have := hP.1; omega))
            exact nI_eqm (b := 0) hlt (by decide) h83
          refine v_aload_n X dX0_consider_86 rfl ?_
          refine v_geti X fl_X0_28 shX0_4 dX0_consider_87 ?_
          rw [a2]
          refine v_if_le (tgt := 134) X dX0_consider_90 (by decide) (fun h90 => ?_) (fun h90 => ?_)
          · skip
            exact absurd h90 (nI_nle hf (by omega))
          · skip
            refine v_aload_n X dX0_consider_93 rfl ?_
            refine v_dup X dX0_consider_94 rfl ?_
            refine v_geti X fl_X0_28 shX0_4 dX0_consider_95 ?_
            rw [a2]
            refine v_iconst (v := nI 1) X dX0_consider_98 (by decide) ?_
            refine v_isub X dX0_consider_99 ?_
            refine v_top (nI_s1 hf) ?_
            refine v_puti X fw_X0_28 shX0_4 dX0_consider_100 rfl rfl ?_
            refine v_aload_n X dX0_consider_103 rfl ?_
            refine v_getr X fl_X0_18 shX0_1 dX0_consider_104 ?_
            refine v_aload_n X dX0_consider_107 rfl ?_
            refine v_geti X fl_X0_28 shX0_4 dX0_consider_108 ?_
            rw [s2_at]
            refine v_iload_n X dX0_consider_111 rfl ?_
            refine v_iastE X arX0_1 rfl (show f - 1 < 2048 by omega) dX0_consider_112 ?_
            refine v_aload_n X dX0_consider_113 rfl ?_
            refine v_getr X fl_X0_22 shX0_2 dX0_consider_114 ?_
            refine v_aload_n X dX0_consider_117 rfl ?_
            refine v_geti X fl_X0_28 shX0_4 dX0_consider_118 ?_
            rw [s2_nc (by decide), s2_at]
            refine v_iload_n X dX0_consider_121 rfl ?_
            refine v_iastE X arX0_2 rfl (show f - 1 < 2048 by omega) dX0_consider_122 ?_
            refine v_aload_n X dX0_consider_123 rfl ?_
            refine v_getr X fl_X0_25 shX0_3 dX0_consider_124 ?_
            refine v_aload_n X dX0_consider_127 rfl ?_
            refine v_geti X fl_X0_28 shX0_4 dX0_consider_128 ?_
            rw [s2_nc (by decide), s2_nc (by decide), s2_at]
            refine v_iload X dX0_consider_131 rfl ?_
            refine v_iastE X arX0_3 rfl (show f - 1 < 2048 by omega) dX0_consider_133 ?_
            refine v_vret X hR dX0_consider_134 ?_
            refine ⟨(((fO.rfl.s2 (by decide) (by decide)).s2 (by decide) (by decide)).s2 (by decide) (by decide)).s2 (by decide) (by decide), fun x hx => ?_, f - 1, ?_, by omega, by omega⟩
            · rw [s2_nc (by decide), s2_nc (by decide), s2_ap, if_neg (by omega), s2_nc (by decide)]
            · rw [csd, if_pos h0]
              refine kI_cons hf hK0 ?_ ?_ ?_ ?_ ?_ ?_ ?_
              · rw [s2_nc (by decide), s2_nc (by decide), s2_nc (by decide), s2_at]
              · rw [s2_nc (by decide), s2_nc (by decide), s2_nc (by decide), s2_ap, if_neg (by decide)]
              · rw [← hacc]; exact hb
              · rw [s2_nc (by decide), s2_nc (by decide), s2_at]
              · rw [s2_nc (by decide), s2_at]
              · rw [s2_at, hacc]
              · intro x hx
                simp only [s2_ap]
                rw [if_neg (by omega), if_neg (by omega), if_neg (by omega), if_neg (by omega), if_neg (by omega), if_neg (by omega), if_neg (by omega), if_neg (by omega), if_neg (by omega), if_neg (by omega), if_neg (by omega), if_neg (by omega)]
                exact ⟨rfl, rfl, rfl⟩
      · skip
        have hy := nI_len (by omega) (by omega) h29
        obtain ⟨q, hq⟩ : ∃ q, K[y]? = some q := ⟨K[y]'(by omega), List.getElem?_eq_getElem (by omega)⟩
        obtain ⟨b1, b2, b3, b4⟩ := a4 y q hq
        have ihk := ih (y + 1) (opS w acc q) (by omega) (by omega) (by rw [List.take_succ, hq, List.foldl_append, ← hacc]; rfl)
        rw [show f + (y + 1) = f + y + 1 by omega] at ihk
        unfold opS at ihk
        refine v_aload_n X dX0_consider_32 rfl ?_
        refine v_getr X fl_X0_18 shX0_1 dX0_consider_33 ?_
        refine v_iload X dX0_consider_36 rfl ?_
        refine v_ialdE X arX0_1 rfl (show f + y < 2048 by omega) dX0_consider_38 ?_
        refine v_iload_n X dX0_consider_39 rfl ?_
        refine v_iand X dX0_consider_40 ?_
        refine v_iload_n X dX0_consider_41 rfl ?_
        rw [b1]
        refine v_icmp_ne (tgt := 75) X dX0_consider_42 (by decide) (fun h42 => ?_) (fun h42 => ?_)
        · skip
          have hs0 : ¬ sbs w q.1 = true := fun z => h42 ((sbs_eq hw).mpr z)
          rw [if_neg hs0] at ihk
          refine v_iincE X dX0_consider_75 rfl (nI_inc (f + y)) ?_
          show V G Z _ 78 [_, _, _, _, _, _, _] _
          refine v_goto (tgt := 23) X dX0_consider_78 (by decide) ?_
          exact ihk
        · skip
          have hs0 : sbs w q.1 = true := (sbs_eq hw).mp h42
          rw [if_pos hs0] at ihk
          refine v_iload X dX0_consider_45 rfl ?_
          refine v_aload_n X dX0_consider_47 rfl ?_
          refine v_getr X fl_X0_22 shX0_2 dX0_consider_48 ?_
          refine v_iload X dX0_consider_51 rfl ?_
          refine v_ialdE X arX0_2 rfl (show f + y < 2048 by omega) dX0_consider_53 ?_
          rw [b2]
          refine v_iconst (v := (-1)) X dX0_consider_54 (by decide) ?_
          refine v_ixor X dX0_consider_55 ?_
          refine v_iand X dX0_consider_56 ?_
          refine v_top (nb_not _ _) ?_
          refine v_istore X dX0_consider_57 (Nat.le_of_ble_eq_true rfl) ?_
          show V G Z _ 59 [_, _, _, _, _, _, _] _
          refine v_iload X dX0_consider_59 rfl ?_
          refine v_aload_n X dX0_consider_61 rfl ?_
          refine v_getr X fl_X0_25 shX0_3 dX0_consider_62 ?_
          refine v_iload X dX0_consider_65 rfl ?_
          refine v_ialdE X arX0_3 rfl (show f + y < 2048 by omega) dX0_consider_67 ?_
          rw [b3]
          refine v_iconst (v := nI 1) X dX0_consider_68 (by decide) ?_
          refine v_iadd X dX0_consider_69 ?_
          refine v_top (nI_add q.2.2 1) ?_
          refine v_mmax X (by decide) cs_X0_87 (Nat.le_of_ble_eq_true rfl) dX0_consider_70 ?_
          refine v_top (mx_nI (by omega) (by omega)) ?_
          refine v_istore X dX0_consider_73 (Nat.le_of_ble_eq_true rfl) ?_
          show V G Z _ 75 [_, _, _, _, _, _, _] _
          refine v_iincE X dX0_consider_75 rfl (nI_inc (f + y)) ?_
          show V G Z _ 78 [_, _, _, _, _, _, _] _
          refine v_goto (tgt := 23) X dX0_consider_78 (by decide) ?_
          exact ihk
  refine v_aload_n X dX0_consider_0 rfl ?_
  refine v_iload_n X dX0_consider_1 rfl ?_
  refine v_iload_n X dX0_consider_2 rfl ?_
  refine v_cali X (c_deniedBy G hP w (dif (imp P) w) (fun k h => mis_4 h)) cv_X0_84 obX0 rfl (by decide) rfl (by rfl) (Nat.le_of_ble_eq_true rfl) dX0_consider_3 (fun r τ9 hq => ?_)
  obtain ⟨e9, rfl⟩ := hq
  rw [e9]
  rw [show denK P (dif (imp P) w) w P.length = den P w from rfl]
  refine v_istore_n X dX0_consider_6 (Nat.le_of_ble_eq_true rfl) ?_
  show V G Z _ 7 [_, _, _, _, _, _, _] _
  refine v_iload_n X dX0_consider_7 rfl ?_
  refine v_iload_n X dX0_consider_8 rfl ?_
  refine v_iconst (v := (-1)) X dX0_consider_9 (by decide) ?_
  refine v_ixor X dX0_consider_10 ?_
  refine v_iand X dX0_consider_11 ?_
  refine v_top (nb_not _ _) ?_
  refine v_istore X dX0_consider_12 (Nat.le_of_ble_eq_true rfl) ?_
  show V G Z _ 14 [_, _, _, _, _, _, _] _
  refine v_iconst (v := nI 0) X dX0_consider_14 (by decide) ?_
  refine v_istore X dX0_consider_15 (Nat.le_of_ble_eq_true rfl) ?_
  show V G Z _ 17 [_, _, _, _, _, _, _] _
  refine v_aload_n X dX0_consider_17 rfl ?_
  refine v_geti X fl_X0_28 shX0_4 dX0_consider_18 ?_
  rw [a2]
  refine v_istore X dX0_consider_21 (Nat.le_of_ble_eq_true rfl) ?_
  show V G Z _ 23 [_, _, _, _, _, _, _] _
  exact loop (K.length + 1) 0 (dif (dif (imp P) w) (den P w), 0) (by omega) (by omega) rfl
