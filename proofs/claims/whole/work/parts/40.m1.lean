/-! THE REFERENCE -/
def pO (σ τ : Sg) : Prop := (∀ i, i ≠ 156 → i ≠ 162 → i ≠ 163 → i ≠ 164 → τ i = σ i) ∧ ∀ f, f ≠ 7 → τ 156 f = σ 156 f
theorem pO.rfl {σ : Sg} : pO σ σ := ⟨fun _ _ _ _ _ => by rfl, fun _ _ => by rfl⟩
theorem pO.trans {σ τ υ : Sg} (h1 : pO σ τ) (h2 : pO τ υ) : pO σ υ := ⟨fun i a b c d => (h2.1 i a b c d).trans (h1.1 i a b c d), fun f hf => (h2.2 f hf).trans (h1.2 f hf)⟩
theorem pO.s2 {σ τ : Sg} {i k : Nat} {x : Int32} (h : pO σ τ) (hi : (i = 156 ∧ k = 7) ∨ i = 162 ∨ i = 163 ∨ i = 164) : pO σ (s2 τ i k x) := by
  refine ⟨fun q a b c d => ?_, fun f hf => ?_⟩
  · rw [s2_nc (by omega)]; exact h.1 q a b c d
  · rw [s2_ap, if_neg (by omega)]; exact h.2 f hf
/-- what is kept, is kept -/
def kO (σ τ : Sg) : Prop := (∀ i, (i < 156 ∨ (157 ≤ i ∧ i ≤ 161) ∨ i = 174) → τ i = σ i) ∧ τ 156 5 = σ 156 5 ∧ τ 156 6 = σ 156 6
theorem kO.rfl {σ : Sg} : kO σ σ := ⟨fun _ _ => by rfl, by rfl, by rfl⟩
theorem kO.trans {σ τ υ : Sg} (h1 : kO σ τ) (h2 : kO τ υ) : kO σ υ := ⟨fun i h => (h2.1 i h).trans (h1.1 i h), h2.2.1.trans h1.2.1, h2.2.2.trans h1.2.2⟩
theorem kO.p {σ τ υ : Sg} (h1 : kO σ τ) (h2 : pO τ υ) : kO σ υ := h1.trans ⟨fun i h => h2.1 i (by omega) (by omega) (by omega) (by omega), h2.2 5 (by decide), h2.2 6 (by decide)⟩
theorem kO.s2 {σ τ : Sg} {i k : Nat} {x : Int32} (h : kO σ τ) (hi : (i = 156 ∧ k ≠ 5 ∧ k ≠ 6) ∨ (162 ≤ i ∧ i ≠ 174)) : kO σ (s2 τ i k x) := by
  refine ⟨fun q hq => ?_, ?_, ?_⟩
  · rw [s2_nc (by omega)]; exact h.1 q hq
  · rw [s2_ap, if_neg (by omega)]; exact h.2.1
  · rw [s2_ap, if_neg (by omega)]; exact h.2.2
/-- the sentence at work -/
def wS (σ : Sg) (P : Sen) : Prop := P.length ≤ 127 ∧ wf P ∧ σ 156 7 = nI P.length ∧ ∀ (k : Nat) (p : Pt), P[k]? = some p → σ 162 k = pK p ∧ σ 163 k = pA p ∧ σ 164 k = pB p
theorem wS_cong {σ τ : Sg} {P : Sen} (h : wS σ P) (h0 : τ 156 7 = σ 156 7) (h1 : τ 162 = σ 162) (h2 : τ 163 = σ 163) (h3 : τ 164 = σ 164) : wS τ P := ⟨h.1, h.2.1, by rw [h0]; exact h.2.2.1, fun k p hk => by rw [h1, h2, h3]; exact h.2.2.2 k p hk⟩
/-- a slot i < 18 of the reference holds P -/
def mS (σ : Sg) (i : Nat) (P : Sen) : Prop := P.length ≤ 11 ∧ wf P ∧ σ 157 i = nI P.length ∧ ∀ (k : Nat) (p : Pt), P[k]? = some p → σ 158 (11 * i + k) = pK p ∧ σ 159 (11 * i + k) = pA p ∧ σ 160 (11 * i + k) = pB p
theorem mS_kO {σ τ : Sg} {i : Nat} {P : Sen} (h : mS σ i P) (ho : kO σ τ) : mS τ i P := ⟨h.1, h.2.1, by rw [ho.1 157 (by omega)]; exact h.2.2.1, fun k p hk => by rw [ho.1 158 (by omega), ho.1 159 (by omega), ho.1 160 (by omega)]; exact h.2.2.2 k p hk⟩
theorem wS_snoc {σ τ : Sg} {P : Sen} {q : Pt} (hP : wS σ P) (hl : P.length < 127) (hq : okp P.length q) (hn : q ∉ P) (h0 : τ 156 7 = nI (P.length + 1)) (hx : ∀ x, x < P.length → τ 162 x = σ 162 x ∧ τ 163 x = σ 163 x ∧ τ 164 x = σ 164 x) (h1 : τ 162 P.length = pK q) (h2 : τ 163 P.length = pA q) (h3 : τ 164 P.length = pB q) : wS τ (addP P q) := by
  rw [addP_new hn]
  have hw := wf_addP hP.2.1 hq
  rw [addP_new hn] at hw
  refine ⟨by simp; omega, hw, by rw [h0]; simp, fun k p hk => ?_⟩
  rw [List.getElem?_append] at hk
  split at hk
  · rename_i hlt
    obtain ⟨a1, a2, a3⟩ := hx k hlt
    rw [a1, a2, a3]
    exact hP.2.2.2 k p hk
  · have : k - P.length = 0 := by
      rcases Nat.eq_zero_or_pos (k - P.length) with h | h
      · exact h
      · rw [List.getElem?_eq_none (by simp; omega)] at hk; cases hk
    rw [this] at hk
    have hk : q = p := by simpa using hk
    subst hk
    have e : k = P.length := by omega
    subst e
    exact ⟨h1, h2, h3⟩
set_option maxHeartbeats 4000000 in
set_option maxRecDepth 100000 in
theorem m_in (G : GT) {σ : Sg} (v a b : Int32) : MC G yX5_in cX5_in 3 .boolean 0 [.int v, .int a, .int b] σ (fun r τ => τ = σ ∧ r = bI (decide (¬ v < a ∧ ¬ b < v))) := by
  refine MC_of (by decide) (ca1 rfl (ca1 rfl (ca1 rfl ca0))) (Nat.le_of_ble_eq_true rfl) ?_
  intro Z X hR
  show V G Z σ 0 [some (.int v), some (.int a), some (.int b)] []
  refine v_iload_n X dX5_in_0 rfl ?_
  refine v_iload_n X dX5_in_1 rfl ?_
  refine v_icmp_lt (tgt := 14) X dX5_in_2 (by decide) (fun h2 => ?_) (fun h2 => ?_)
  · skip
    refine v_iconst (v := nI 0) X dX5_in_14 (by decide) ?_
    refine v_ret X hR dX5_in_15 rfl ?_
    exact ⟨rfl, bI_f (fun q => q.1 h2)⟩
  · skip
    refine v_iload_n X dX5_in_5 rfl ?_
    refine v_iload_n X dX5_in_6 rfl ?_
    refine v_icmp_gt (tgt := 14) X dX5_in_7 (by decide) (fun h7 => ?_) (fun h7 => ?_)
    · skip
      refine v_iconst (v := nI 0) X dX5_in_14 (by decide) ?_
      refine v_ret X hR dX5_in_15 rfl ?_
      exact ⟨rfl, bI_f (fun q => q.2 h7)⟩
    · skip
      refine v_iconst (v := nI 1) X dX5_in_10 (by decide) ?_
      refine v_goto (tgt := 15) X dX5_in_11 (by decide) ?_
      refine v_ret X hR dX5_in_15 rfl ?_
      exact ⟨rfl, bI_t ⟨h2, h7⟩⟩

set_option maxHeartbeats 4000000 in
set_option maxRecDepth 100000 in
theorem m_isSlot (G : GT) {σ : Sg} (x : Int32) : MC G yX5_isSlot cX5_isSlot 1 .boolean 1 [.int x] σ (fun r τ => τ = σ ∧ r = bI (sN x).isSome) := by
  refine MC_of (by decide) (ca1 rfl ca0) (Nat.le_of_ble_eq_true rfl) ?_
  intro Z X hR
  show V G Z σ 0 [some (.int x)] []
  refine v_iload_n X dX5_isSlot_0 rfl ?_
  refine v_iconst (v := nI 0) X dX5_isSlot_1 (by decide) ?_
  refine v_iconst (v := nI 5) X dX5_isSlot_2 (by decide) ?_
  refine v_cals X (m_in G _ _ _) cs_X5_69 (by decide) rfl (by rfl) (Nat.le_of_ble_eq_true rfl) dX5_isSlot_3 (fun r τ9 hq => ?_)
  obtain ⟨e9, rfl⟩ := hq
  rw [e9]
  refine v_ret X hR dX5_isSlot_6 (bI_nar _) ?_
  refine ⟨rfl, ?_⟩
  rcases sN_of x with ⟨z, z2⟩ | ⟨j, hj, rfl, z⟩
  · rw [z, decide_eq_false]
    · rfl
    · rintro ⟨q1, q2⟩
      rcases z2 with z2 | z2
      · exact q1 z2
      · exact q2 (Int32.lt_of_lt_of_le (by decide) z2)
  · rw [z, decide_eq_true]
    · rfl
    · exact ⟨nI_pos (by omega), nI_nlt (by omega) (by omega)⟩

set_option maxHeartbeats 4000000 in
set_option maxRecDepth 100000 in
theorem m_has (G : GT) {σ : Sg} (w : Nat) {k : Nat} (hk : k < 32) : MC G yX5_has cX5_has 2 .boolean 0 [.int (nI w), .int (nI k)] σ (fun r τ => τ = σ ∧ r = bI (w.testBit k)) := by
  refine MC_of (by decide) (ca1 rfl (ca1 rfl ca0)) (Nat.le_of_ble_eq_true rfl) ?_
  intro Z X hR
  show V G Z σ 0 [some (.int (nI w)), some (.int (nI k))] []
  refine v_iload_n X dX5_has_0 rfl ?_
  refine v_iload_n X dX5_has_1 rfl ?_
  refine v_ishr X dX5_has_2 ?_
  refine v_iconst (v := nI 1) X dX5_has_3 (by decide) ?_
  refine v_iand X dX5_has_4 ?_
  refine v_top (nb_hasS w hk) ?_
  refine v_iconst (v := nI 1) X dX5_has_5 (by decide) ?_
  refine v_icmp_ne (tgt := 13) X dX5_has_6 (by decide) (fun h6 => ?_) (fun h6 => ?_)
  · skip
    have e : w.testBit k = false := by
      cases h : w.testBit k with
      | false => rfl
      | true => rw [h] at h6; exact absurd rfl h6
    refine v_iconst (v := nI 0) X dX5_has_13 (by decide) ?_
    refine v_ret X hR dX5_has_14 rfl ?_
    exact ⟨rfl, by rw [e]; rfl⟩
  · skip
    have e : w.testBit k = true := by
      cases h : w.testBit k with
      | true => rfl
      | false => rw [h] at h6; exact absurd h6 (by decide)
    refine v_iconst (v := nI 1) X dX5_has_9 (by decide) ?_
    refine v_goto (tgt := 14) X dX5_has_10 (by decide) ?_
    refine v_ret X hR dX5_has_14 rfl ?_
    exact ⟨rfl, by rw [e]; rfl⟩

set_option maxHeartbeats 4000000 in
set_option maxRecDepth 100000 in
theorem m_isEmpty (G : GT) {σ : Sg} {s : Nat} (hs6 : s < 18) {P : Sen} (hP : mS σ s P) : MC G yX5_isEmpty cX5_isEmpty 2 .boolean 0 [.ref (G.2.2.1 156), .int (nI s)] σ (fun r τ => τ = σ ∧ r = bI (decide (P.length = 0))) := by
  refine MC_of (by decide) (ca1 rfl (ca1 rfl ca0)) (Nat.le_of_ble_eq_true rfl) ?_
  intro Z X hR
  show V G Z σ 0 [some (.ref (G.2.2.1 156)), some (.int (nI s))] []
  refine v_aload_n X dX5_isEmpty_0 rfl ?_
  refine v_getr X fl_X5_7 shX5_0 dX5_isEmpty_1 ?_
  refine v_iload_n X dX5_isEmpty_4 rfl ?_
  refine v_ialdE X arX5_0 rfl (by first | assumption | omega) dX5_isEmpty_5 ?_
  rw [hP.2.2.1]
  refine v_if_ne (tgt := 13) X dX5_isEmpty_6 (by decide) (fun h6 => ?_) (fun h6 => ?_)
  · skip
    have h0 : ¬ P.length = 0 := fun z => h6 (by rw [z]; rfl)
    refine v_iconst (v := nI 0) X dX5_isEmpty_13 (by decide) ?_
    refine v_ret X hR dX5_isEmpty_14 rfl ?_
    exact ⟨rfl, bI_f h0⟩
  · skip
    have h0 : P.length = 0 := nI_eqm (b := 0) (by have := hP.1; omega) (by decide) h6
    refine v_iconst (v := nI 1) X dX5_isEmpty_9 (by decide) ?_
    refine v_goto (tgt := 14) X dX5_isEmpty_10 (by decide) ?_
    refine v_ret X hR dX5_isEmpty_14 rfl ?_
    exact ⟨rfl, bI_t h0⟩

set_option maxHeartbeats 4000000 in
set_option maxRecDepth 100000 in
theorem m_partOf (G : GT) {σ : Sg} {P : Sen} (hP : wS σ P) (hl : P.length < 127) {q : Pt} (hq : okp P.length q) : MC G yX5_partOf cX5_partOf 5 .int 0 [.ref (G.2.2.1 156), .int (pK q), .int (pA q), .int (pB q)] σ (fun r τ => r = nI ((addP P q).idxOf q) ∧ wS τ (addP P q) ∧ pO σ τ) := by
  refine MC_of (by decide) (ca1 rfl (ca1 rfl (ca1 rfl (ca1 rfl ca0)))) (Nat.le_of_ble_eq_true rfl) ?_
  intro Z X hR
  show V G Z σ 0 [some (.ref (G.2.2.1 156)), some (.int (pK q)), some (.int (pA q)), some (.int (pB q)), none] []
  have hP0 := hP
  obtain ⟨p1, p2, p3, p4⟩ := hP
  have new : q ∉ P → ∀ k, k = P.length → V G Z σ 51 [some (.ref (G.2.2.1 156)), some (.int (pK q)), some (.int (pA q)), some (.int (pB q)), some (.int (nI k))] [] := by
    intro hn k hk
    subst hk
    refine v_iload X dX5_partOf_51 rfl ?_
    refine v_aload_n X dX5_partOf_53 rfl ?_
    refine v_geti X fl_X5_73 shX5_7 dX5_partOf_54 ?_
    rw [p3]
    refine v_icmp_ne (tgt := 94) X dX5_partOf_57 (by decide) (fun h57 => ?_) (fun h57 => ?_)
    · skip
      exact absurd rfl h57
    · skip
      refine v_aload_n X dX5_partOf_60 rfl ?_
      refine v_getr X fl_X5_29 shX5_8 dX5_partOf_61 ?_
      refine v_iload X dX5_partOf_64 rfl ?_
      refine v_iload_n X dX5_partOf_66 rfl ?_
      refine v_iastE X arX5_8 rfl (show P.length < 128 by omega) dX5_partOf_67 ?_
      refine v_aload_n X dX5_partOf_68 rfl ?_
      refine v_getr X fl_X5_32 shX5_9 dX5_partOf_69 ?_
      refine v_iload X dX5_partOf_72 rfl ?_
      refine v_iload_n X dX5_partOf_74 rfl ?_
      refine v_iastE X arX5_9 rfl (show P.length < 128 by omega) dX5_partOf_75 ?_
      refine v_aload_n X dX5_partOf_76 rfl ?_
      refine v_getr X fl_X5_35 shX5_10 dX5_partOf_77 ?_
      refine v_iload X dX5_partOf_80 rfl ?_
      refine v_iload_n X dX5_partOf_82 rfl ?_
      refine v_iastE X arX5_10 rfl (show P.length < 128 by omega) dX5_partOf_83 ?_
      refine v_aload_n X dX5_partOf_84 rfl ?_
      refine v_dup X dX5_partOf_85 rfl ?_
      refine v_geti X fl_X5_73 shX5_7 dX5_partOf_86 ?_
      repeat rw [s2_nc (by decide)]
      rw [p3]
      refine v_iconst (v := nI 1) X dX5_partOf_89 (by decide) ?_
      refine v_iadd X dX5_partOf_90 ?_
      refine v_top (nI_add P.length 1) ?_
      refine v_puti X fw_X5_73 shX5_7 dX5_partOf_91 rfl rfl ?_
      refine v_iload X dX5_partOf_94 rfl ?_
      refine v_ret X hR dX5_partOf_96 rfl ?_
      refine ⟨by rw [addP_new hn, idx_new hn], ?_, (((pO.rfl.s2 (by omega)).s2 (by omega)).s2 (by omega)).s2 (by omega)⟩
      refine wS_snoc hP0 hl hq hn (s2_at _ _ _ _) (fun x hx => ?_) ?_ ?_ ?_
      · have hxl : x ≠ P.length := by omega
        simp [s2_ap, hxl]
      · simp [s2_ap]
      · simp [s2_ap]
      · simp [s2_ap]
  have old : ∀ k, P[k]? = some q → (∀ x, x < k → P[x]? ≠ some q) → V G Z σ 51 [some (.ref (G.2.2.1 156)), some (.int (pK q)), some (.int (pA q)), some (.int (pB q)), some (.int (nI k))] [] := by
    intro k hk hin
    have hkl := (List.getElem?_eq_some_iff.mp hk).1
    have hm := List.mem_of_getElem? hk
    refine v_iload X dX5_partOf_51 rfl ?_
    refine v_aload_n X dX5_partOf_53 rfl ?_
    refine v_geti X fl_X5_73 shX5_7 dX5_partOf_54 ?_
    rw [p3]
    refine v_icmp_ne (tgt := 94) X dX5_partOf_57 (by decide) (fun h57 => ?_) (fun h57 => ?_)
    · skip
      refine v_iload X dX5_partOf_94 rfl ?_
      refine v_ret X hR dX5_partOf_96 rfl ?_
      exact ⟨by rw [addP_in hm, idx_first hk hin], by rw [addP_in hm]; exact hP0, pO.rfl⟩
    · skip
      exact absurd (nI_eqm (by omega) (by omega) h57) (by omega)
  have loop : ∀ (n k : Nat), P.length - k < n → k ≤ P.length → (∀ x, x < k → P[x]? ≠ some q) → V G Z σ 3 [some (.ref (G.2.2.1 156)), some (.int (pK q)), some (.int (pA q)), some (.int (pB q)), some (.int (nI k))] [] := by
    intro n
    induction n with
    | zero => intro k h; omega
    | succ n ih =>
      intro k hn hkl hin
      refine v_iload X dX5_partOf_3 rfl ?_
      refine v_aload_n X dX5_partOf_5 rfl ?_
      refine v_geti X fl_X5_73 shX5_7 dX5_partOf_6 ?_
      rw [p3]
      refine v_icmp_ge (tgt := 51) X dX5_partOf_9 (by decide) (fun h9 => ?_) (fun h9 => ?_)
      · skip
        have hk := nI_lem (by omega) (by omega) h9
        exact new (not_mem_of (fun x hx => hin x (by omega))) k (by omega)
      · skip
        have hk := nI_len (by omega) (by omega) h9
        obtain ⟨p, hp⟩ : ∃ p, P[k]? = some p := ⟨P[k], List.getElem?_eq_getElem hk⟩
        obtain ⟨a1, a2, a3⟩ := p4 k p hp
        have hpe := pt_eq ((p2 k p hp).mono (k' := P.length) (by omega)) hq (by omega)
        refine v_aload_n X dX5_partOf_12 rfl ?_
        refine v_getr X fl_X5_29 shX5_8 dX5_partOf_13 ?_
        refine v_iload X dX5_partOf_16 rfl ?_
        refine v_ialdE X arX5_8 rfl (show k < 128 by omega) dX5_partOf_18 ?_
        refine v_iload_n X dX5_partOf_19 rfl ?_
        rw [a1]
        refine v_icmp_ne (tgt := 45) X dX5_partOf_20 (by decide) (fun h20 => ?_) (fun h20 => ?_)
        · skip
          have e : ¬ p = q := fun z => h20 (by rw [z])
          refine v_iincE X dX5_partOf_45 rfl (nI_inc k) ?_
          show V G Z _ 48 [_, _, _, _, _] _
          refine v_goto (tgt := 3) X dX5_partOf_48 (by decide) ?_
          exact ih (k + 1) (by omega) (by omega) (fun x hx => by
            rcases Nat.lt_or_ge x k with h | h
            · exact hin x h
            · rw [show x = k by omega, hp]; exact fun z => e (Option.some.inj z))
        · skip
          refine v_aload_n X dX5_partOf_23 rfl ?_
          refine v_getr X fl_X5_32 shX5_9 dX5_partOf_24 ?_
          refine v_iload X dX5_partOf_27 rfl ?_
          refine v_ialdE X arX5_9 rfl (show k < 128 by omega) dX5_partOf_29 ?_
          refine v_iload_n X dX5_partOf_30 rfl ?_
          rw [a2]
          refine v_icmp_ne (tgt := 45) X dX5_partOf_31 (by decide) (fun h31 => ?_) (fun h31 => ?_)
          · skip
            have e : ¬ p = q := fun z => h31 (by rw [z])
            refine v_iincE X dX5_partOf_45 rfl (nI_inc k) ?_
            show V G Z _ 48 [_, _, _, _, _] _
            refine v_goto (tgt := 3) X dX5_partOf_48 (by decide) ?_
            exact ih (k + 1) (by omega) (by omega) (fun x hx => by
              rcases Nat.lt_or_ge x k with h | h
              · exact hin x h
              · rw [show x = k by omega, hp]; exact fun z => e (Option.some.inj z))
          · skip
            refine v_aload_n X dX5_partOf_34 rfl ?_
            refine v_getr X fl_X5_35 shX5_10 dX5_partOf_35 ?_
            refine v_iload X dX5_partOf_38 rfl ?_
            refine v_ialdE X arX5_10 rfl (show k < 128 by omega) dX5_partOf_40 ?_
            refine v_iload_n X dX5_partOf_41 rfl ?_
            rw [a3]
            refine v_icmp_eq (tgt := 51) X dX5_partOf_42 (by decide) (fun h42 => ?_) (fun h42 => ?_)
            · skip
              have e : p = q := hpe.mp ⟨h20, h31, h42⟩
              subst e
              exact old k hp hin
            · skip
              have e : ¬ p = q := fun z => h42 (by rw [z])
              refine v_iincE X dX5_partOf_45 rfl (nI_inc k) ?_
              show V G Z _ 48 [_, _, _, _, _] _
              refine v_goto (tgt := 3) X dX5_partOf_48 (by decide) ?_
              exact ih (k + 1) (by omega) (by omega) (fun x hx => by
                rcases Nat.lt_or_ge x k with h | h
                · exact hin x h
                · rw [show x = k by omega, hp]; exact fun z => e (Option.some.inj z))
  refine v_iconst (v := nI 0) X dX5_partOf_0 (by decide) ?_
  refine v_istore X dX5_partOf_1 (Nat.le_of_ble_eq_true rfl) ?_
  show V G Z _ 3 [_, _, _, _, _] _
  exact loop (P.length + 1) 0 (by omega) (by omega) (fun x h => by omega)
set_option maxHeartbeats 4000000 in
set_option maxRecDepth 100000 in
theorem m_look (G : GT) {σ : Sg} {s : Nat} (hs : s < 18) {P : Sen} (hP : mS σ s P) : MV G yX5_look cX5_look 3 0 [.ref (G.2.2.1 156), .int (nI s)] σ (fun τ => wS τ P ∧ pO σ τ) := by
  refine MV_of (by decide) (ca1 rfl (ca1 rfl ca0)) (Nat.le_of_ble_eq_true rfl) ?_
  intro Z X hR
  show V G Z σ 0 [some (.ref (G.2.2.1 156)), some (.int (nI s)), none] []
  obtain ⟨p1, p2, p3, p4⟩ := hP
  have loop : ∀ (n k : Nat) (τ : Sg), P.length - k < n → k ≤ P.length → (pO σ τ ∧ τ 156 7 = nI P.length ∧ ∀ x p, x < k → P[x]? = some p → τ 162 x = pK p ∧ τ 163 x = pA p ∧ τ 164 x = pB p) → V G Z τ 12 [some (.ref (G.2.2.1 156)), some (.int (nI s)), some (.int (nI k))] [] := by
    intro n
    induction n with
    | zero => intro k τ h; omega
    | succ n ih =>
      intro k τ hn hkl hinv
      obtain ⟨i1, i2, i3⟩ := hinv
      refine v_iload_n X dX5_look_12 rfl ?_
      refine v_aload_n X dX5_look_13 rfl ?_
      refine v_geti X fl_X5_73 shX5_7 dX5_look_14 ?_
      rw [i2]
      refine v_icmp_ge (tgt := 77) X dX5_look_17 (by decide) (fun h17 => ?_) (fun h17 => ?_)
      · skip
        have hk := nI_lem (by omega) (by omega) h17
        refine v_vret X hR dX5_look_77 ?_
        exact ⟨⟨by omega, p2, i2, fun x p hx => i3 x p (by have := (List.getElem?_eq_some_iff.mp hx).1; omega) hx⟩, i1⟩
      · skip
        have hk := nI_len (by omega) (by omega) h17
        obtain ⟨p, hp⟩ : ∃ p, P[k]? = some p := ⟨P[k], List.getElem?_eq_getElem hk⟩
        obtain ⟨a1, a2, a3⟩ := p4 k p hp
        have em : nI 11 * nI s + nI k = nI (11 * s + k) := by rw [pk_mul, nI_add]
        have b1 : τ 158 (11 * s + k) = pK p := by rw [i1.1 158 (by decide) (by decide) (by decide) (by decide)]; exact a1
        have b2 : τ 159 (11 * s + k) = pA p := by rw [i1.1 159 (by decide) (by decide) (by decide) (by decide)]; exact a2
        have b3 : τ 160 (11 * s + k) = pB p := by rw [i1.1 160 (by decide) (by decide) (by decide) (by decide)]; exact a3
        refine v_aload_n X dX5_look_20 rfl ?_
        refine v_getr X fl_X5_29 shX5_8 dX5_look_21 ?_
        refine v_iload_n X dX5_look_24 rfl ?_
        refine v_aload_n X dX5_look_25 rfl ?_
        refine v_getr X fl_X5_13 shX5_1 dX5_look_26 ?_
        refine v_bipush (v := nI 11) X dX5_look_29 (by decide) ?_
        refine v_iload_n X dX5_look_31 rfl ?_
        refine v_imul X dX5_look_32 ?_
        refine v_iload_n X dX5_look_33 rfl ?_
        refine v_iadd X dX5_look_34 ?_
        refine v_ialdE X arX5_1 em (show 11 * s + k < 198 by omega) dX5_look_35 ?_
        rw [b1]
        refine v_iastE X arX5_8 rfl (show k < 128 by omega) dX5_look_36 ?_
        refine v_aload_n X dX5_look_37 rfl ?_
        refine v_getr X fl_X5_32 shX5_9 dX5_look_38 ?_
        refine v_iload_n X dX5_look_41 rfl ?_
        refine v_aload_n X dX5_look_42 rfl ?_
        refine v_getr X fl_X5_16 shX5_2 dX5_look_43 ?_
        refine v_bipush (v := nI 11) X dX5_look_46 (by decide) ?_
        refine v_iload_n X dX5_look_48 rfl ?_
        refine v_imul X dX5_look_49 ?_
        refine v_iload_n X dX5_look_50 rfl ?_
        refine v_iadd X dX5_look_51 ?_
        refine v_ialdE X arX5_2 em (show 11 * s + k < 198 by omega) dX5_look_52 ?_
        (repeat rw [s2_nc (by decide)])
        rw [b2]
        refine v_iastE X arX5_9 rfl (show k < 128 by omega) dX5_look_53 ?_
        refine v_aload_n X dX5_look_54 rfl ?_
        refine v_getr X fl_X5_35 shX5_10 dX5_look_55 ?_
        refine v_iload_n X dX5_look_58 rfl ?_
        refine v_aload_n X dX5_look_59 rfl ?_
        refine v_getr X fl_X5_19 shX5_3 dX5_look_60 ?_
        refine v_bipush (v := nI 11) X dX5_look_63 (by decide) ?_
        refine v_iload_n X dX5_look_65 rfl ?_
        refine v_imul X dX5_look_66 ?_
        refine v_iload_n X dX5_look_67 rfl ?_
        refine v_iadd X dX5_look_68 ?_
        refine v_ialdE X arX5_3 em (show 11 * s + k < 198 by omega) dX5_look_69 ?_
        (repeat rw [s2_nc (by decide)])
        rw [b3]
        refine v_iastE X arX5_10 rfl (show k < 128 by omega) dX5_look_70 ?_
        refine v_iincE X dX5_look_71 rfl (nI_inc k) ?_
        show V G Z _ 74 [_, _, _] _
        refine v_goto (tgt := 12) X dX5_look_74 (by decide) ?_
        refine ih (k + 1) _ (by omega) (by omega) ⟨((i1.s2 (by omega)).s2 (by omega)).s2 (by omega), ?_, fun x p' hx hx' => ?_⟩
        · repeat rw [s2_nc (by decide)]
          exact i2
        · rcases Nat.lt_or_ge x k with h | h
          · have hne : x ≠ k := by omega
            simp [s2_ap, hne]
            exact i3 x p' h hx'
          · have he : x = k := by omega
            subst he
            rw [hp] at hx'
            cases hx'
            simp [s2_ap]
  refine v_aload_n X dX5_look_0 rfl ?_
  refine v_aload_n X dX5_look_1 rfl ?_
  refine v_getr X fl_X5_7 shX5_0 dX5_look_2 ?_
  refine v_iload_n X dX5_look_5 rfl ?_
  refine v_ialdE X arX5_0 rfl (by first | assumption | omega) dX5_look_6 ?_
  rw [p3]
  refine v_puti X fw_X5_73 shX5_7 dX5_look_7 rfl rfl ?_
  refine v_iconst (v := nI 0) X dX5_look_10 (by decide) ?_
  refine v_istore_n X dX5_look_11 (Nat.le_of_ble_eq_true rfl) ?_
  show V G Z _ 12 [_, _, _] _
  exact loop (P.length + 1) 0 _ (by omega) (by omega) ⟨pO.rfl.s2 (by omega), s2_at _ _ _ _, fun x p h => by omega⟩
set_option maxHeartbeats 4000000 in
set_option maxRecDepth 100000 in
theorem m_keep (G : GT) {σ : Sg} {s : Nat} (hs : s < 18) {P : Sen} (hP : wS σ P) (hl : P.length ≤ 11) : MC G yX5_keep cX5_keep 3 .int 0 [.ref (G.2.2.1 156), .int (nI s)] σ (fun r τ => r = nI P.length ∧ mS τ s P ∧ (∀ i, i < 157 ∨ 161 ≤ i → τ i = σ i) ∧ ∀ j Q, j < 18 → j ≠ s → mS σ j Q → mS τ j Q) := by
  refine MC_of (by decide) (ca1 rfl (ca1 rfl ca0)) (Nat.le_of_ble_eq_true rfl) ?_
  intro Z X hR
  show V G Z σ 0 [some (.ref (G.2.2.1 156)), some (.int (nI s)), none] []
  have hP0 := hP
  obtain ⟨p1, p2, p3, p4⟩ := hP
  have loop : ∀ (n k : Nat) (τ : Sg), P.length - k < n → k ≤ P.length → ((∀ i, i < 157 ∨ 161 ≤ i → τ i = σ i) ∧ τ 157 s = nI P.length ∧ (∀ x p, x < k → P[x]? = some p → τ 158 (11 * s + x) = pK p ∧ τ 159 (11 * s + x) = pA p ∧ τ 160 (11 * s + x) = pB p) ∧ (∀ x, x ≠ s → τ 157 x = σ 157 x) ∧ ∀ x, x < 11 * s ∨ 11 * s + 11 ≤ x → τ 158 x = σ 158 x ∧ τ 159 x = σ 159 x ∧ τ 160 x = σ 160 x) → V G Z τ 12 [some (.ref (G.2.2.1 156)), some (.int (nI s)), some (.int (nI k))] [] := by
    intro n
    induction n with
    | zero => intro k τ h; omega
    | succ n ih =>
      intro k τ hn hkl hinv
      obtain ⟨i1, i2, i3, i4, i5⟩ := hinv
      have i0 : τ 156 7 = nI P.length := by rw [i1 156 (by omega)]; exact p3
      refine v_iload_n X dX5_keep_12 rfl ?_
      refine v_aload_n X dX5_keep_13 rfl ?_
      refine v_geti X fl_X5_73 shX5_7 dX5_keep_14 ?_
      rw [i0]
      refine v_icmp_ge (tgt := 77) X dX5_keep_17 (by decide) (fun h17 => ?_) (fun h17 => ?_)
      · skip
        have hk := nI_lem (by omega) (by omega) h17
        refine v_aload_n X dX5_keep_77 rfl ?_
        refine v_geti X fl_X5_73 shX5_7 dX5_keep_78 ?_
        rw [i0]
        refine v_ret X hR dX5_keep_81 rfl ?_
        refine ⟨rfl, ⟨hl, p2, i2, fun x p hx => i3 x p (by have := (List.getElem?_eq_some_iff.mp hx).1; omega) hx⟩, i1, fun j Q hj hjs hQ => ⟨hQ.1, hQ.2.1, by rw [i4 j hjs]; exact hQ.2.2.1, fun x p hx => ?_⟩⟩
        have hxl := (List.getElem?_eq_some_iff.mp hx).1
        have hQ1 := hQ.1
        obtain ⟨c1, c2, c3⟩ := i5 (11 * j + x) (by omega)
        rw [c1, c2, c3]
        exact hQ.2.2.2 x p hx
      · skip
        have hk := nI_len (by omega) (by omega) h17
        obtain ⟨p, hp⟩ : ∃ p, P[k]? = some p := ⟨P[k], List.getElem?_eq_getElem hk⟩
        obtain ⟨a1, a2, a3⟩ := p4 k p hp
        have em : nI 11 * nI s + nI k = nI (11 * s + k) := by rw [pk_mul, nI_add]
        have b1 : τ 162 k = pK p := by rw [i1 162 (by omega)]; exact a1
        have b2 : τ 163 k = pA p := by rw [i1 163 (by omega)]; exact a2
        have b3 : τ 164 k = pB p := by rw [i1 164 (by omega)]; exact a3
        refine v_aload_n X dX5_keep_20 rfl ?_
        refine v_getr X fl_X5_13 shX5_1 dX5_keep_21 ?_
        refine v_bipush (v := nI 11) X dX5_keep_24 (by decide) ?_
        refine v_iload_n X dX5_keep_26 rfl ?_
        refine v_imul X dX5_keep_27 ?_
        refine v_iload_n X dX5_keep_28 rfl ?_
        refine v_iadd X dX5_keep_29 ?_
        refine v_aload_n X dX5_keep_30 rfl ?_
        refine v_getr X fl_X5_29 shX5_8 dX5_keep_31 ?_
        refine v_iload_n X dX5_keep_34 rfl ?_
        refine v_ialdE X arX5_8 rfl (show k < 128 by omega) dX5_keep_35 ?_
        rw [b1]
        refine v_iastE X arX5_1 em (show 11 * s + k < 198 by omega) dX5_keep_36 ?_
        refine v_aload_n X dX5_keep_37 rfl ?_
        refine v_getr X fl_X5_16 shX5_2 dX5_keep_38 ?_
        refine v_bipush (v := nI 11) X dX5_keep_41 (by decide) ?_
        refine v_iload_n X dX5_keep_43 rfl ?_
        refine v_imul X dX5_keep_44 ?_
        refine v_iload_n X dX5_keep_45 rfl ?_
        refine v_iadd X dX5_keep_46 ?_
        refine v_aload_n X dX5_keep_47 rfl ?_
        refine v_getr X fl_X5_32 shX5_9 dX5_keep_48 ?_
        refine v_iload_n X dX5_keep_51 rfl ?_
        refine v_ialdE X arX5_9 rfl (show k < 128 by omega) dX5_keep_52 ?_
        (repeat rw [s2_nc (by decide)])
        rw [b2]
        refine v_iastE X arX5_2 em (show 11 * s + k < 198 by omega) dX5_keep_53 ?_
        refine v_aload_n X dX5_keep_54 rfl ?_
        refine v_getr X fl_X5_19 shX5_3 dX5_keep_55 ?_
        refine v_bipush (v := nI 11) X dX5_keep_58 (by decide) ?_
        refine v_iload_n X dX5_keep_60 rfl ?_
        refine v_imul X dX5_keep_61 ?_
        refine v_iload_n X dX5_keep_62 rfl ?_
        refine v_iadd X dX5_keep_63 ?_
        refine v_aload_n X dX5_keep_64 rfl ?_
        refine v_getr X fl_X5_35 shX5_10 dX5_keep_65 ?_
        refine v_iload_n X dX5_keep_68 rfl ?_
        refine v_ialdE X arX5_10 rfl (show k < 128 by omega) dX5_keep_69 ?_
        (repeat rw [s2_nc (by decide)])
        rw [b3]
        refine v_iastE X arX5_3 em (show 11 * s + k < 198 by omega) dX5_keep_70 ?_
        refine v_iincE X dX5_keep_71 rfl (nI_inc k) ?_
        show V G Z _ 74 [_, _, _] _
        refine v_goto (tgt := 12) X dX5_keep_74 (by decide) ?_
        refine ih (k + 1) _ (by omega) (by omega) ⟨fun i hi => ?_, ?_, fun x p' hx hx' => ?_, fun x hx => ?_, fun x hx => ?_⟩
        · rw [s2_nc (by omega), s2_nc (by omega), s2_nc (by omega)]; exact i1 i hi
        · repeat rw [s2_nc (by decide)]
          exact i2
        · rcases Nat.lt_or_ge x k with h | h
          · have hne : 11 * s + x ≠ 11 * s + k := by omega
            simp only [s2_ap, hne, and_false, if_false]
            exact i3 x p' h hx'
          · have he : x = k := by omega
            subst he
            rw [hp] at hx'
            cases hx'
            simp [s2_ap]
        · repeat rw [s2_nc (by decide)]
          exact i4 x hx
        · have hne : x ≠ 11 * s + k := by omega
          simp only [s2_ap, hne, and_false, if_false]
          exact i5 x hx
  refine v_aload_n X dX5_keep_0 rfl ?_
  refine v_getr X fl_X5_7 shX5_0 dX5_keep_1 ?_
  refine v_iload_n X dX5_keep_4 rfl ?_
  refine v_aload_n X dX5_keep_5 rfl ?_
  refine v_geti X fl_X5_73 shX5_7 dX5_keep_6 ?_
  rw [p3]
  refine v_iastE X arX5_0 rfl (by first | assumption | omega) dX5_keep_9 ?_
  refine v_iconst (v := nI 0) X dX5_keep_10 (by decide) ?_
  refine v_istore_n X dX5_keep_11 (Nat.le_of_ble_eq_true rfl) ?_
  show V G Z _ 12 [_, _, _] _
  refine loop (P.length + 1) 0 _ (by omega) (by omega) ⟨fun i hi => s2_nc (by omega), s2_at _ _ _ _, fun x p h => by omega, fun x hx => ?_, fun x hx => ?_⟩
  · rw [s2_ap, if_neg (fun z => hx z.2)]
  · rw [s2_nc (by decide), s2_nc (by decide), s2_nc (by decide)]
    exact ⟨rfl, rfl, rfl⟩
