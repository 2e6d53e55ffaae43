set_option maxHeartbeats 4000000 in
set_option maxRecDepth 100000 in
theorem m_copy (G : GT) {σ : Sg} {A : ASt} (hA : mR σ A) {f t : Nat} (hf : f < 18) (ht : t < 18) : MV G yX5_copy cX5_copy 3 1 [.ref (G.2.2.1 156), .int (nI f), .int (nI t)] σ (fun τ => mR τ (stS A.1 t (A.1 f), A.2) ∧ cO σ τ) := by
  refine MV_of (by decide) (ca1 rfl (ca1 rfl (ca1 rfl ca0))) (Nat.le_of_ble_eq_true rfl) ?_
  intro Z X hR
  show V G Z σ 0 [some (.ref (G.2.2.1 156)), some (.int (nI f)), some (.int (nI t))] []
  refine v_aload_n X dX5_copy_0 rfl ?_
  refine v_iload_n X dX5_copy_1 rfl ?_
  refine v_calv X (m_look G hf (hA.1 f hf)) cv_X5_117 obX5 rfl (by decide) rfl (by rfl) (Nat.le_of_ble_eq_true rfl) dX5_copy_2 (fun τ1 hp1 => ?_)
  obtain ⟨q1, q2⟩ := hp1
  have hA1 := mR_kO hA q2.k
  refine v_aload_n X dX5_copy_5 rfl ?_
  refine v_iload_n X dX5_copy_6 rfl ?_
  refine v_cali X (m_keep G ht q1 (hA.1 f hf).1) cv_X5_113 obX5 rfl (by decide) rfl (by rfl) (Nat.le_of_ble_eq_true rfl) dX5_copy_7 (fun r τ2 hp2 => ?_)
  obtain ⟨rfl, k1, k2, k3⟩ := hp2
  refine v_pop X dX5_copy_10 rfl ?_
  refine v_vret X hR dX5_copy_11 ?_
  exact ⟨mR_slot ht hA1 k1 k2 k3, q2.k.c.trans (fun i hi => k2 i (by omega))⟩

theorem mR_kept {σ : Sg} {A : ASt} {k : Nat} (hA : mR σ A) (hk : k < 2) : mR (s2 σ 174 k (nI 1)) (A.1, A.2.1, A.2.2.1, A.2.2.2 ||| 2 ^ k) := by
  refine ⟨fun i hi => ?_, ?_, by rw [s2_nc (by decide)]; exact hA.2.2.1, fun x hx => ?_, ?_⟩
  · have := hA.1 i hi
    exact ⟨this.1, this.2.1, by rw [s2_nc (by decide)]; exact this.2.2.1, fun x p hx => by rw [s2_nc (by decide), s2_nc (by decide), s2_nc (by decide)]; exact this.2.2.2 x p hx⟩
  · have := hA.2.1
    exact ⟨this.1, by rw [s2_nc (by decide)]; exact this.2.1, fun i s hs => by rw [s2_nc (by decide)]; exact this.2.2 i s hs⟩
  · show s2 σ 174 k (nI 1) 174 x = bI ((A.2.2.2 ||| 2 ^ k).testBit x)
    rw [s2_ap, Nat.testBit_or, Nat.testBit_two_pow]
    by_cases z : x = k
    · rw [if_pos ⟨rfl, z⟩, z]; simp [bI]; rfl
    · rw [if_neg (fun q => z q.2), hA.2.2.2.1 x hx]; simp [Ne.symm z]
  · show A.2.2.2 ||| 2 ^ k < 4
    exact Nat.or_lt_two_pow (n := 2) hA.2.2.2.2 (by rcases (show k = 0 ∨ k = 1 by omega) with rfl | rfl <;> decide)
set_option maxHeartbeats 4000000 in
set_option maxRecDepth 100000 in
theorem y_image (G : GT) {σ : Sg} {A : ASt} (hA : mR σ A) (x : Int32) : MC G yX5_image cX5_image 3 .int 2 [.ref (G.2.2.1 156), .int x] σ (fun r τ => r = (sp_image x A).1 ∧ mR τ (sp_image x A).2 ∧ cO σ τ) := by
  refine MC_of (by decide) (ca1 rfl (ca1 rfl ca0)) (Nat.le_of_ble_eq_true rfl) ?_
  intro Z X hR
  show V G Z σ 0 [some (.ref (G.2.2.1 156)), some (.int x), none] []
  refine v_iload_n X dX5_image_0 rfl ?_
  refine v_iconst (v := nI 0) X dX5_image_1 (by decide) ?_
  refine v_iconst (v := nI 1) X dX5_image_2 (by decide) ?_
  refine v_cals X (m_in G _ _ _) cs_X5_69 (by decide) rfl (by rfl) (Nat.le_of_ble_eq_true rfl) dX5_image_3 (fun r τ9 hq => ?_)
  obtain ⟨e9, rfl⟩ := hq
  rw [e9]
  refine v_if_ne (tgt := 12) X dX5_image_6 (by decide) (fun h6 => ?_) (fun h6 => ?_)
  · skip
    obtain ⟨k, hk, rfl, hkn, hkr⟩ := in_ix (n := 2) (by decide) (by decide) (in_t (bI_nz.mp h6))
    have loop : ∀ (n s : Nat) (τ : Sg), 6 - s < n → s ≤ 6 → mR τ (fun j => if 6 + 6 * k ≤ j ∧ j < s + 6 + 6 * k then A.1 (j - (6 + 6 * k)) else A.1 j, A.2) → cO σ τ → V G Z τ 14 [some (.ref (G.2.2.1 156)), some (.int (nI k)), some (.int (nI s))] [] := by
      intro n
      induction n with
      | zero => intro s τ h; omega
      | succ n ih =>
        intro s τ hn hsl g1 g2
        refine v_iload_n X dX5_image_14 rfl ?_
        refine v_bipush (v := nI 6) X dX5_image_15 (by decide) ?_
        refine v_icmp_ge (tgt := 40) X dX5_image_17 (by decide) (fun h17 => ?_) (fun h17 => ?_)
        · skip
          have hs := nI_lem (a := 6) (by decide) (by omega) h17
          have hs : s = 6 := by omega
          subst hs
          refine v_aload_n X dX5_image_40 rfl ?_
          refine v_getr X fl_X5_66 shX5_24 dX5_image_41 ?_
          refine v_iload_n X dX5_image_44 rfl ?_
          refine v_iconst (v := nI 1) X dX5_image_45 (by decide) ?_
          refine v_zastE X arX5_24 rfl (show k < 2 by omega) dX5_image_46 rfl ?_
          refine v_iconst (v := nI 1) X dX5_image_47 (by decide) ?_
          refine v_ret X hR dX5_image_48 rfl ?_
          have e : sp_image (nI k) A = (nI 1, ((fun j => if 6 + 6 * k ≤ j ∧ j < 12 + 6 * k then A.1 (j - (6 + 6 * k)) else A.1 j), A.2.1, A.2.2.1, A.2.2.2 ||| 2 ^ k)) := by rw [sp_image, if_neg hkr, hkn]
          rw [e]
          exact ⟨rfl, mR_kept g1 hk, g2.trans (fun i hi => s2_nc (by omega))⟩
        · skip
          have s6 := nI_len (a := 6) (by decide) (by omega) h17
          refine v_aload_n X dX5_image_20 rfl ?_
          refine v_iload_n X dX5_image_21 rfl ?_
          refine v_bipush (v := nI 6) X dX5_image_22 (by decide) ?_
          refine v_bipush (v := nI 6) X dX5_image_24 (by decide) ?_
          refine v_iload_n X dX5_image_26 rfl ?_
          refine v_imul X dX5_image_27 ?_
          refine v_iadd X dX5_image_28 ?_
          refine v_iload_n X dX5_image_29 rfl ?_
          refine v_iadd X dX5_image_30 ?_
          refine v_top (y := nI (6 + 6 * k + s)) (by rw [pk_mul, nI_add, nI_add]) ?_
          refine v_calv X (m_copy G g1 (f := s) (t := 6 + 6 * k + s) (by omega) (by omega)) cv_X5_174 obX5 rfl (by decide) rfl (by rfl) (Nat.le_of_ble_eq_true rfl) dX5_image_31 (fun τ2 hp2 => ?_)
          obtain ⟨q1, q2⟩ := hp2
          refine v_iincE X dX5_image_34 rfl (nI_inc s) ?_
          show V G Z _ 37 [_, _, _] _
          refine v_goto (tgt := 14) X dX5_image_37 (by decide) ?_
          refine ih (s + 1) τ2 (by omega) (by omega) ?_ (g2.trans q2)
          have e : stS (fun j => if 6 + 6 * k ≤ j ∧ j < s + 6 + 6 * k then A.1 (j - (6 + 6 * k)) else A.1 j, A.2).1 (6 + 6 * k + s) ((fun j => if 6 + 6 * k ≤ j ∧ j < s + 6 + 6 * k then A.1 (j - (6 + 6 * k)) else A.1 j, A.2).1 s) = (fun j => if 6 + 6 * k ≤ j ∧ j < (s + 1) + 6 + 6 * k then A.1 (j - (6 + 6 * k)) else A.1 j, A.2).1 := by
            funext j
            show (if j = 6 + 6 * k + s then (if 6 + 6 * k ≤ s ∧ s < s + 6 + 6 * k then A.1 (s - (6 + 6 * k)) else A.1 s) else (if 6 + 6 * k ≤ j ∧ j < s + 6 + 6 * k then A.1 (j - (6 + 6 * k)) else A.1 j)) = (if 6 + 6 * k ≤ j ∧ j < s + 1 + 6 + 6 * k then A.1 (j - (6 + 6 * k)) else A.1 j)
            by_cases z : j = 6 + 6 * k + s
            · rw [if_pos z, if_neg (by omega), if_pos (by omega), z, Nat.add_sub_cancel_left]
            · rw [if_neg z]
              by_cases y : 6 + 6 * k ≤ j ∧ j < s + 6 + 6 * k
              · rw [if_pos y, if_pos (by omega)]
              · rw [if_neg y, if_neg (by omega)]
          rw [e] at q1
          exact q1
    refine v_iconst (v := nI 0) X dX5_image_12 (by decide) ?_
    refine v_istore_n X dX5_image_13 (Nat.le_of_ble_eq_true rfl) ?_
    show V G Z _ 14 [_, _, _] _
    refine loop 7 0 σ (by omega) (by omega) ?_ cO.rfl
    have e : (fun j => if 6 + 6 * k ≤ j ∧ j < 0 + 6 + 6 * k then A.1 (j - (6 + 6 * k)) else A.1 j, A.2) = A := by
      have : (fun j => if 6 + 6 * k ≤ j ∧ j < 0 + 6 + 6 * k then A.1 (j - (6 + 6 * k)) else A.1 j) = A.1 := by
        funext j
        rw [if_neg (by omega)]
      rw [this]
    rw [e]
    exact hA
  · skip
    have hr := in_out (n := 2) (by decide) (by decide) (in_f (bI_z.mp h6))
    refine v_bipush (v := (-2)) X dX5_image_9 (by decide) ?_
    refine v_ret X hR dX5_image_11 rfl ?_
    have e : sp_image x A = (-2, A) := by rw [sp_image, if_pos hr]
    rw [e]
    exact ⟨rfl, hA, cO.rfl⟩

set_option maxHeartbeats 4000000 in
set_option maxRecDepth 100000 in
theorem y_restore (G : GT) {σ : Sg} {A : ASt} (hA : mR σ A) (x : Int32) : MC G yX5_restore cX5_restore 3 .int 2 [.ref (G.2.2.1 156), .int x] σ (fun r τ => r = (sp_restore x A).1 ∧ mR τ (sp_restore x A).2 ∧ cO σ τ) := by
  refine MC_of (by decide) (ca1 rfl (ca1 rfl ca0)) (Nat.le_of_ble_eq_true rfl) ?_
  intro Z X hR
  show V G Z σ 0 [some (.ref (G.2.2.1 156)), some (.int x), none] []
  refine v_iload_n X dX5_restore_0 rfl ?_
  refine v_iconst (v := nI 0) X dX5_restore_1 (by decide) ?_
  refine v_iconst (v := nI 1) X dX5_restore_2 (by decide) ?_
  refine v_cals X (m_in G _ _ _) cs_X5_69 (by decide) rfl (by rfl) (Nat.le_of_ble_eq_true rfl) dX5_restore_3 (fun r τ9 hq => ?_)
  obtain ⟨e9, rfl⟩ := hq
  rw [e9]
  refine v_if_ne (tgt := 12) X dX5_restore_6 (by decide) (fun h6 => ?_) (fun h6 => ?_)
  · skip
    obtain ⟨k, hk, rfl, hkn, hkr⟩ := in_ix (n := 2) (by decide) (by decide) (in_t (bI_nz.mp h6))
    refine v_aload_n X dX5_restore_12 rfl ?_
    refine v_getr X fl_X5_66 shX5_24 dX5_restore_13 ?_
    refine v_iload_n X dX5_restore_16 rfl ?_
    refine v_zaldE X arX5_24 rfl (show k < 2 by omega) dX5_restore_17 ?_
    rw [hA.2.2.2.1 k hk]
    refine v_if_ne (tgt := 24) X dX5_restore_18 (by decide) (fun h18 => ?_) (fun h18 => ?_)
    · skip
      have hb := bI_nz.mp h18
      have loop : ∀ (n s : Nat) (τ : Sg), 6 - s < n → s ≤ 6 → mR τ (fun j => if j < s then A.1 (6 + 6 * k + j) else A.1 j, A.2) → cO σ τ → V G Z τ 26 [some (.ref (G.2.2.1 156)), some (.int (nI k)), some (.int (nI s))] [] := by
        intro n
        induction n with
        | zero => intro s τ h; omega
        | succ n ih =>
          intro s τ hn hsl g1 g2
          refine v_iload_n X dX5_restore_26 rfl ?_
          refine v_bipush (v := nI 6) X dX5_restore_27 (by decide) ?_
          refine v_icmp_ge (tgt := 52) X dX5_restore_29 (by decide) (fun h29 => ?_) (fun h29 => ?_)
          · skip
            have hs := nI_lem (a := 6) (by decide) (by omega) h29
            have hs : s = 6 := by omega
            subst hs
            refine v_iconst (v := nI 1) X dX5_restore_52 (by decide) ?_
            refine v_ret X hR dX5_restore_53 rfl ?_
            have e : sp_restore (nI k) A = (nI 1, (fun j => if j < 6 then A.1 (6 + 6 * k + j) else A.1 j, A.2)) := by rw [sp_restore, if_neg hkr, hkn, if_neg (by rw [hb]; decide)]
            rw [e]
            exact ⟨rfl, g1, g2⟩
          · skip
            have s6 := nI_len (a := 6) (by decide) (by omega) h29
            refine v_aload_n X dX5_restore_32 rfl ?_
            refine v_bipush (v := nI 6) X dX5_restore_33 (by decide) ?_
            refine v_bipush (v := nI 6) X dX5_restore_35 (by decide) ?_
            refine v_iload_n X dX5_restore_37 rfl ?_
            refine v_imul X dX5_restore_38 ?_
            refine v_iadd X dX5_restore_39 ?_
            refine v_iload_n X dX5_restore_40 rfl ?_
            refine v_iadd X dX5_restore_41 ?_
            refine v_top (y := nI (6 + 6 * k + s)) (by rw [pk_mul, nI_add, nI_add]) ?_
            refine v_iload_n X dX5_restore_42 rfl ?_
            refine v_calv X (m_copy G g1 (f := 6 + 6 * k + s) (t := s) (by omega) (by omega)) cv_X5_174 obX5 rfl (by decide) rfl (by rfl) (Nat.le_of_ble_eq_true rfl) dX5_restore_43 (fun τ2 hp2 => ?_)
            obtain ⟨q1, q2⟩ := hp2
            refine v_iincE X dX5_restore_46 rfl (nI_inc s) ?_
            show V G Z _ 49 [_, _, _] _
            refine v_goto (tgt := 26) X dX5_restore_49 (by decide) ?_
            refine ih (s + 1) τ2 (by omega) (by omega) ?_ (g2.trans q2)
            have e : stS (fun j => if j < s then A.1 (6 + 6 * k + j) else A.1 j, A.2).1 s ((fun j => if j < s then A.1 (6 + 6 * k + j) else A.1 j, A.2).1 (6 + 6 * k + s)) = (fun j => if j < (s + 1) then A.1 (6 + 6 * k + j) else A.1 j, A.2).1 := by
              funext j
              show (if j = s then (if 6 + 6 * k + s < s then A.1 (6 + 6 * k + (6 + 6 * k + s)) else A.1 (6 + 6 * k + s)) else (if j < s then A.1 (6 + 6 * k + j) else A.1 j)) = (if j < s + 1 then A.1 (6 + 6 * k + j) else A.1 j)
              by_cases z : j = s
              · rw [if_pos z, if_neg (by omega), if_pos (by omega), z]
              · rw [if_neg z]
                by_cases y : j < s
                · rw [if_pos y, if_pos (by omega)]
                · rw [if_neg y, if_neg (by omega)]
            rw [e] at q1
            exact q1
      refine v_iconst (v := nI 0) X dX5_restore_24 (by decide) ?_
      refine v_istore_n X dX5_restore_25 (Nat.le_of_ble_eq_true rfl) ?_
      show V G Z _ 26 [_, _, _] _
      exact loop 7 0 σ (by omega) (by omega) hA cO.rfl
    · skip
      have hb := bI_z.mp h18
      refine v_bipush (v := (-3)) X dX5_restore_21 (by decide) ?_
      refine v_ret X hR dX5_restore_23 rfl ?_
      have e : sp_restore (nI k) A = (-3, A) := by rw [sp_restore, if_neg hkr, hkn, if_pos hb]
      rw [e]
      exact ⟨rfl, hA, cO.rfl⟩
  · skip
    have hr := in_out (n := 2) (by decide) (by decide) (in_f (bI_z.mp h6))
    refine v_bipush (v := (-2)) X dX5_restore_9 (by decide) ?_
    refine v_ret X hR dX5_restore_11 rfl ?_
    have e : sp_restore x A = (-2, A) := by rw [sp_restore, if_pos hr]
    rw [e]
    exact ⟨rfl, hA, cO.rfl⟩

set_option maxHeartbeats 4000000 in
set_option maxRecDepth 100000 in
theorem m_areSame (G : GT) {σ : Sg} {a b : Nat} (ha : a < 18) (hb : b < 18) {P Q : Sen} (hP : mS σ a P) (hQ : mS σ b Q) : MC G yX5_areSame cX5_areSame 7 .boolean 0 [.ref (G.2.2.1 156), .int (nI a), .int (nI b)] σ (fun r τ => τ = σ ∧ r = bI (decide (P = Q))) := by
  refine MC_of (by decide) (ca1 rfl (ca1 rfl (ca1 rfl ca0))) (Nat.le_of_ble_eq_true rfl) ?_
  intro Z X hR
  show V G Z σ 0 [some (.ref (G.2.2.1 156)), some (.int (nI a)), some (.int (nI b)), none, none, none, none] []
  obtain ⟨p1, p2, p3, p4⟩ := hP
  obtain ⟨q1, q2, q3, q4⟩ := hQ
  have out : ∀ s : Bool, (s = true ↔ P = Q) → bI s = bI (decide (P = Q)) := fun s h => by
    congr 1
    rw [Bool.eq_iff_iff, decide_eq_true_eq]; exact h
  have loop : ∀ (n k : Nat) (s : Bool) (l5 l6 : Option Value), P.length - k < n → k ≤ P.length → (s = true → P.length = Q.length ∧ ∀ x, x < k → P[x]? = Q[x]?) → (s = false → ¬ P = Q) → V G Z σ 24 [some (.ref (G.2.2.1 156)), some (.int (nI a)), some (.int (nI b)), some (.int (bI s)), some (.int (nI k)), l5, l6] [] := by
    intro n
    induction n with
    | zero => intro k s l5 l6 h; omega
    | succ n ih =>
      intro k s l5 l6 hn hkl g1 g2
      refine v_iload X dX5_areSame_24 rfl ?_
      refine v_aload_n X dX5_areSame_26 rfl ?_
      refine v_getr X fl_X5_7 shX5_0 dX5_areSame_27 ?_
      refine v_iload_n X dX5_areSame_30 rfl ?_
      refine v_ialdE X arX5_0 rfl (show a < 18 by omega) dX5_areSame_31 ?_
      rw [p3]
      refine v_icmp_ge (tgt := 120) X dX5_areSame_32 (by decide) (fun h32 => ?_) (fun h32 => ?_)
      · skip
        have hk := nI_lem (by omega) (by omega) h32
        have hk : k = P.length := by omega
        subst hk
        refine v_iload_n X dX5_areSame_120 rfl ?_
        refine v_ret X hR dX5_areSame_121 (bI_nar _) ?_
        refine ⟨rfl, out s ⟨fun c => ?_, fun c => ?_⟩⟩
        · obtain ⟨g3, g4⟩ := g1 c
          refine List.ext_getElem? (fun x => ?_)
          rcases Nat.lt_or_ge x P.length with w | w
          · exact g4 x w
          · rw [List.getElem?_eq_none w, List.getElem?_eq_none (by omega)]
        · cases hs : s with
          | true => rfl
          | false => exact absurd c (g2 hs)
      · skip
        have hk := nI_len (by omega) (by omega) h32
        obtain ⟨p, hp⟩ : ∃ p, P[k]? = some p := ⟨P[k], List.getElem?_eq_getElem hk⟩
        obtain ⟨e1, e2, e3⟩ := p4 k p hp
        refine v_iload_n X dX5_areSame_35 rfl ?_
        refine v_if_eq (tgt := 120) X dX5_areSame_36 (by decide) (fun h36 => ?_) (fun h36 => ?_)
        · skip
          have c0 := bI_z.mp h36
          refine v_iload_n X dX5_areSame_120 rfl ?_
          refine v_ret X hR dX5_areSame_121 (bI_nar _) ?_
          refine ⟨rfl, out s ⟨fun c => ?_, fun c => absurd c (g2 c0)⟩⟩
          rw [c0] at c; cases c
        · skip
          have c0 := bI_nz.mp h36
          obtain ⟨g3, g4⟩ := g1 c0
          obtain ⟨q, hq⟩ : ∃ q, Q[k]? = some q := ⟨Q[k], List.getElem?_eq_getElem (by omega)⟩
          obtain ⟨f1, f2, f3⟩ := q4 k q hq
          have hpe := pt_eq (p2 k p hp) (q2 k q hq) (by omega)
          refine v_bipush (v := nI 11) X dX5_areSame_39 (by decide) ?_
          refine v_iload_n X dX5_areSame_41 rfl ?_
          refine v_imul X dX5_areSame_42 ?_
          refine v_iload X dX5_areSame_43 rfl ?_
          refine v_iadd X dX5_areSame_45 ?_
          refine v_top (y := nI (11 * a + k)) (by rw [pk_mul, nI_add]) ?_
          refine v_istore X dX5_areSame_46 (Nat.le_of_ble_eq_true rfl) ?_
          show V G Z _ 48 [_, _, _, _, _, _, _] _
          refine v_bipush (v := nI 11) X dX5_areSame_48 (by decide) ?_
          refine v_iload_n X dX5_areSame_50 rfl ?_
          refine v_imul X dX5_areSame_51 ?_
          refine v_iload X dX5_areSame_52 rfl ?_
          refine v_iadd X dX5_areSame_54 ?_
          refine v_top (y := nI (11 * b + k)) (by rw [pk_mul, nI_add]) ?_
          refine v_istore X dX5_areSame_55 (Nat.le_of_ble_eq_true rfl) ?_
          show V G Z _ 57 [_, _, _, _, _, _, _] _
          refine v_aload_n X dX5_areSame_57 rfl ?_
          refine v_getr X fl_X5_13 shX5_1 dX5_areSame_58 ?_
          refine v_iload X dX5_areSame_61 rfl ?_
          refine v_ialdE X arX5_1 rfl (show (11 * a + k) < 198 by omega) dX5_areSame_63 ?_
          rw [e1]
          refine v_aload_n X dX5_areSame_64 rfl ?_
          refine v_getr X fl_X5_13 shX5_1 dX5_areSame_65 ?_
          refine v_iload X dX5_areSame_68 rfl ?_
          refine v_ialdE X arX5_1 rfl (show (11 * b + k) < 198 by omega) dX5_areSame_70 ?_
          rw [f1]
          refine v_icmp_ne (tgt := 112) X dX5_areSame_71 (by decide) (fun h71 => ?_) (fun h71 => ?_)
          · skip
            refine v_iconst (v := nI 0) X dX5_areSame_112 (by decide) ?_
            refine v_istore_n X dX5_areSame_113 (Nat.le_of_ble_eq_true rfl) ?_
            show V G Z _ 114 [_, _, _, _, _, _, _] _
            refine v_iincE X dX5_areSame_114 rfl (nI_inc k) ?_
            show V G Z _ 117 [_, _, _, _, _, _, _] _
            refine v_goto (tgt := 24) X dX5_areSame_117 (by decide) ?_
            refine ih (k + 1) false _ _ (by omega) (by omega) (fun z => by cases z) (fun _ z => ?_)
            subst z
            rw [hp] at hq
            cases hq
            exact h71 rfl
          · skip
            refine v_aload_n X dX5_areSame_74 rfl ?_
            refine v_getr X fl_X5_16 shX5_2 dX5_areSame_75 ?_
            refine v_iload X dX5_areSame_78 rfl ?_
            refine v_ialdE X arX5_2 rfl (show (11 * a + k) < 198 by omega) dX5_areSame_80 ?_
            rw [e2]
            refine v_aload_n X dX5_areSame_81 rfl ?_
            refine v_getr X fl_X5_16 shX5_2 dX5_areSame_82 ?_
            refine v_iload X dX5_areSame_85 rfl ?_
            refine v_ialdE X arX5_2 rfl (show (11 * b + k) < 198 by omega) dX5_areSame_87 ?_
            rw [f2]
            refine v_icmp_ne (tgt := 112) X dX5_areSame_88 (by decide) (fun h88 => ?_) (fun h88 => ?_)
            · skip
              refine v_iconst (v := nI 0) X dX5_areSame_112 (by decide) ?_
              refine v_istore_n X dX5_areSame_113 (Nat.le_of_ble_eq_true rfl) ?_
              show V G Z _ 114 [_, _, _, _, _, _, _] _
              refine v_iincE X dX5_areSame_114 rfl (nI_inc k) ?_
              show V G Z _ 117 [_, _, _, _, _, _, _] _
              refine v_goto (tgt := 24) X dX5_areSame_117 (by decide) ?_
              refine ih (k + 1) false _ _ (by omega) (by omega) (fun z => by cases z) (fun _ z => ?_)
              subst z
              rw [hp] at hq
              cases hq
              exact h88 rfl
            · skip
              refine v_aload_n X dX5_areSame_91 rfl ?_
              refine v_getr X fl_X5_19 shX5_3 dX5_areSame_92 ?_
              refine v_iload X dX5_areSame_95 rfl ?_
              refine v_ialdE X arX5_3 rfl (show (11 * a + k) < 198 by omega) dX5_areSame_97 ?_
              rw [e3]
              refine v_aload_n X dX5_areSame_98 rfl ?_
              refine v_getr X fl_X5_19 shX5_3 dX5_areSame_99 ?_
              refine v_iload X dX5_areSame_102 rfl ?_
              refine v_ialdE X arX5_3 rfl (show (11 * b + k) < 198 by omega) dX5_areSame_104 ?_
              rw [f3]
              refine v_icmp_ne (tgt := 112) X dX5_areSame_105 (by decide) (fun h105 => ?_) (fun h105 => ?_)
              · skip
                refine v_iconst (v := nI 0) X dX5_areSame_112 (by decide) ?_
                refine v_istore_n X dX5_areSame_113 (Nat.le_of_ble_eq_true rfl) ?_
                show V G Z _ 114 [_, _, _, _, _, _, _] _
                refine v_iincE X dX5_areSame_114 rfl (nI_inc k) ?_
                show V G Z _ 117 [_, _, _, _, _, _, _] _
                refine v_goto (tgt := 24) X dX5_areSame_117 (by decide) ?_
                refine ih (k + 1) false _ _ (by omega) (by omega) (fun z => by cases z) (fun _ z => ?_)
                subst z
                rw [hp] at hq
                cases hq
                exact h105 rfl
              · skip
                refine v_iconst (v := nI 1) X dX5_areSame_108 (by decide) ?_
                refine v_goto (tgt := 113) X dX5_areSame_109 (by decide) ?_
                refine v_istore_n X dX5_areSame_113 (Nat.le_of_ble_eq_true rfl) ?_
                show V G Z _ 114 [_, _, _, _, _, _, _] _
                refine v_iincE X dX5_areSame_114 rfl (nI_inc k) ?_
                show V G Z _ 117 [_, _, _, _, _, _, _] _
                refine v_goto (tgt := 24) X dX5_areSame_117 (by decide) ?_
                refine ih (k + 1) true _ _ (by omega) (by omega) (fun _ => ⟨g3, fun x hx => ?_⟩) (fun z => by cases z)
                by_cases w : x = k
                · rw [w, hp, hq, hpe.mp ⟨h71, h88, h105⟩]
                · exact g4 x (by omega)
  refine v_aload_n X dX5_areSame_0 rfl ?_
  refine v_getr X fl_X5_7 shX5_0 dX5_areSame_1 ?_
  refine v_iload_n X dX5_areSame_4 rfl ?_
  refine v_ialdE X arX5_0 rfl (show a < 18 by omega) dX5_areSame_5 ?_
  rw [p3]
  refine v_aload_n X dX5_areSame_6 rfl ?_
  refine v_getr X fl_X5_7 shX5_0 dX5_areSame_7 ?_
  refine v_iload_n X dX5_areSame_10 rfl ?_
  refine v_ialdE X arX5_0 rfl (show b < 18 by omega) dX5_areSame_11 ?_
  rw [q3]
  refine v_icmp_ne (tgt := 19) X dX5_areSame_12 (by decide) (fun h12 => ?_) (fun h12 => ?_)
  · skip
    have hne := nI_eqn (by omega) (by omega) h12
    refine v_iconst (v := nI 0) X dX5_areSame_19 (by decide) ?_
    refine v_istore_n X dX5_areSame_20 (Nat.le_of_ble_eq_true rfl) ?_
    show V G Z _ 21 [_, _, _, _, _, _, _] _
    refine v_iconst (v := nI 0) X dX5_areSame_21 (by decide) ?_
    refine v_istore X dX5_areSame_22 (Nat.le_of_ble_eq_true rfl) ?_
    show V G Z _ 24 [_, _, _, _, _, _, _] _
    exact loop (P.length + 1) 0 false _ _ (by omega) (by omega) (fun z => by cases z) (fun _ z => hne (by rw [z]))
  · skip
    have heq := nI_eqm (by omega) (by omega) h12
    refine v_iconst (v := nI 1) X dX5_areSame_15 (by decide) ?_
    refine v_goto (tgt := 20) X dX5_areSame_16 (by decide) ?_
    refine v_istore_n X dX5_areSame_20 (Nat.le_of_ble_eq_true rfl) ?_
    show V G Z _ 21 [_, _, _, _, _, _, _] _
    refine v_iconst (v := nI 0) X dX5_areSame_21 (by decide) ?_
    refine v_istore X dX5_areSame_22 (Nat.le_of_ble_eq_true rfl) ?_
    show V G Z _ 24 [_, _, _, _, _, _, _] _
    exact loop (P.length + 1) 0 true _ _ (by omega) (by omega) (fun _ => ⟨heq, fun x hx => by omega⟩) (fun z => by cases z)
theorem sbf_all (S : Nat → Sen) (s : Nat) : (List.range s).all (fun t => !decide (S t = S s)) = !sbf S s := by
  rw [sbf, List.not_any_eq_all_not]
set_option maxHeartbeats 4000000 in
set_option maxRecDepth 100000 in
theorem m_isFirst (G : GT) {σ : Sg} {A : ASt} (hA : mR σ A) {s : Nat} (hs : s < 6) : MC G yX5_isFirst cX5_isFirst 4 .boolean 1 [.ref (G.2.2.1 156), .int (nI s)] σ (fun r τ => τ = σ ∧ r = bI (!sbf A.1 s)) := by
  refine MC_of (by decide) (ca1 rfl (ca1 rfl ca0)) (Nat.le_of_ble_eq_true rfl) ?_
  intro Z X hR
  show V G Z σ 0 [some (.ref (G.2.2.1 156)), some (.int (nI s)), none, none] []
  have loop : ∀ (n y : Nat) (b : Bool), s - y < n → y ≤ s → b = (List.range y).all (fun t => !decide (A.1 t = A.1 s)) → V G Z σ 4 [some (.ref (G.2.2.1 156)), some (.int (nI s)), some (.int (bI b)), some (.int (nI y))] [] := by
    intro n
    induction n with
    | zero => intro y b h; omega
    | succ n ih =>
      intro y b hn hyl hb
      refine v_iload_n X dX5_isFirst_4 rfl ?_
      refine v_iload_n X dX5_isFirst_5 rfl ?_
      refine v_icmp_ge (tgt := 34) X dX5_isFirst_6 (by decide) (fun h6 => ?_) (fun h6 => ?_)
      · skip
        have hy := nI_lem (by omega) (by omega) h6
        have hy : y = s := by omega
        subst hy
        refine v_iload_n X dX5_isFirst_34 rfl ?_
        refine v_ret X hR dX5_isFirst_35 (bI_nar _) ?_
        exact ⟨rfl, by rw [hb, sbf_all]⟩
      · skip
        have hy := nI_len (by omega) (by omega) h6
        refine v_iload_n X dX5_isFirst_9 rfl ?_
        refine v_if_eq (tgt := 26) X dX5_isFirst_10 (by decide) (fun h10 => ?_) (fun h10 => ?_)
        · skip
          have c0 := bI_z.mp h10
          refine v_iconst (v := nI 0) X dX5_isFirst_26 (by decide) ?_
          refine v_istore_n X dX5_isFirst_27 (Nat.le_of_ble_eq_true rfl) ?_
          show V G Z _ 28 [_, _, _, _] _
          refine v_iincE X dX5_isFirst_28 rfl (nI_inc y) ?_
          show V G Z _ 31 [_, _, _, _] _
          refine v_goto (tgt := 4) X dX5_isFirst_31 (by decide) ?_
          exact ih (y + 1) false (by omega) (by omega) (all_go hb (by show _ = (b && !decide (A.1 y = A.1 s)); rw [c0]; rfl))
        · skip
          have c0 := bI_nz.mp h10
          refine v_aload_n X dX5_isFirst_13 rfl ?_
          refine v_iload_n X dX5_isFirst_14 rfl ?_
          refine v_iload_n X dX5_isFirst_15 rfl ?_
          refine v_cali X (m_areSame G (a := y) (b := s) (by omega) (by omega) (hA.1 y (by omega)) (hA.1 s (by omega))) cv_X5_177 obX5 rfl (by decide) rfl (by rfl) (Nat.le_of_ble_eq_true rfl) dX5_isFirst_16 (fun r τ9 hq => ?_)
          obtain ⟨e9, rfl⟩ := hq
          rw [e9]
          refine v_if_ne (tgt := 26) X dX5_isFirst_19 (by decide) (fun h19 => ?_) (fun h19 => ?_)
          · skip
            have c1 := bI_nz.mp h19
            refine v_iconst (v := nI 0) X dX5_isFirst_26 (by decide) ?_
            refine v_istore_n X dX5_isFirst_27 (Nat.le_of_ble_eq_true rfl) ?_
            show V G Z _ 28 [_, _, _, _] _
            refine v_iincE X dX5_isFirst_28 rfl (nI_inc y) ?_
            show V G Z _ 31 [_, _, _, _] _
            refine v_goto (tgt := 4) X dX5_isFirst_31 (by decide) ?_
            exact ih (y + 1) false (by omega) (by omega) (all_go hb (by show _ = (b && !decide (A.1 y = A.1 s)); rw [c0, c1]; rfl))
          · skip
            have c1 := bI_z.mp h19
            refine v_iconst (v := nI 1) X dX5_isFirst_22 (by decide) ?_
            refine v_goto (tgt := 27) X dX5_isFirst_23 (by decide) ?_
            refine v_istore_n X dX5_isFirst_27 (Nat.le_of_ble_eq_true rfl) ?_
            show V G Z _ 28 [_, _, _, _] _
            refine v_iincE X dX5_isFirst_28 rfl (nI_inc y) ?_
            show V G Z _ 31 [_, _, _, _] _
            refine v_goto (tgt := 4) X dX5_isFirst_31 (by decide) ?_
            exact ih (y + 1) true (by omega) (by omega) (all_go hb (by show _ = (b && !decide (A.1 y = A.1 s)); rw [c0, c1]; rfl))
  refine v_iconst (v := nI 1) X dX5_isFirst_0 (by decide) ?_
  refine v_istore_n X dX5_isFirst_1 (Nat.le_of_ble_eq_true rfl) ?_
  show V G Z _ 2 [_, _, _, _] _
  refine v_iconst (v := nI 0) X dX5_isFirst_2 (by decide) ?_
  refine v_istore_n X dX5_isFirst_3 (Nat.le_of_ble_eq_true rfl) ?_
  show V G Z _ 4 [_, _, _, _] _
  exact loop (s + 1) 0 true (by omega) (by omega) rfl
def cfn (S : Nat → Sen) (w s : Nat) : Bool := if w = 0 then true else if w = 1 then pln (S s) else if w = 2 then rowT (S s) && !pln (S s) else !sbf S s
theorem cfn_cnt (S : Nat → Sen) {w : Nat} (hw : w < 4) : cnt S (nI w) = ctB (fun s => decide (0 < (S s).length) && cfn S w s) 6 := by
  rcases (show w = 0 ∨ w = 1 ∨ w = 2 ∨ w = 3 by omega) with rfl | rfl | rfl | rfl
  · rw [cnt, if_pos (by decide)]
    exact ctB_cong (fun k _ => by simp [cfn])
  · rw [cnt, if_neg (by decide), if_pos (by decide)]
    exact ctB_cong (fun k _ => by simp [cfn])
  · rw [cnt, if_neg (by decide), if_neg (by decide), if_pos (by decide)]
    exact ctB_cong (fun k _ => by simp [cfn])
  · rw [cnt, if_neg (by decide), if_neg (by decide), if_neg (by decide)]
    exact ctB_cong (fun k _ => by simp [cfn])
set_option maxHeartbeats 4000000 in
set_option maxRecDepth 100000 in
theorem m_counts (G : GT) {σ : Sg} {A : ASt} (hA : mR σ A) {s : Nat} (hs : s < 6) (h0 : 0 < (A.1 s).length) {w : Nat} (hw : w < 4) : MC G yX5_counts cX5_counts 3 .boolean 5 [.ref (G.2.2.1 156), .int (nI s), .int (nI w)] σ (fun r τ => kO σ τ ∧ r = bI (cfn A.1 w s)) := by
  refine MC_of (by decide) (ca1 rfl (ca1 rfl (ca1 rfl ca0))) (Nat.le_of_ble_eq_true rfl) ?_
  intro Z X hR
  show V G Z σ 0 [some (.ref (G.2.2.1 156)), some (.int (nI s)), some (.int (nI w))] []
  have sP := hA.1 s (by omega)
  refine v_iload_n X dX5_counts_0 rfl ?_
  rcases (show w = 0 ∨ w = 1 ∨ w = 2 ∨ w = 3 by omega) with rfl | rfl | rfl | rfl
  · refine v_tabIn (off := 27) (tgt := 28) X dX5_counts_1 (by decide) (by decide) (by decide) (by decide) ?_
    refine v_iconst (v := nI 1) X dX5_counts_28 (by decide) ?_
    refine v_ret X hR dX5_counts_29 rfl ?_
    exact ⟨kO.rfl, rfl⟩
  · refine v_tabIn (off := 29) (tgt := 30) X dX5_counts_1 (by decide) (by decide) (by decide) (by decide) ?_
    refine v_aload_n X dX5_counts_30 rfl ?_
    refine v_iload_n X dX5_counts_31 rfl ?_
    refine v_cali X (m_isPlain G (s := s) (by omega) sP h0) cv_X5_153 obX5 rfl (by decide) rfl (by rfl) (Nat.le_of_ble_eq_true rfl) dX5_counts_32 (fun r τ1 hp1 => ?_)
    obtain ⟨o1, rfl⟩ := hp1
    refine v_ret X hR dX5_counts_35 (bI_nar _) ?_
    exact ⟨o1, rfl⟩
  · refine v_tabIn (off := 35) (tgt := 36) X dX5_counts_1 (by decide) (by decide) (by decide) (by decide) ?_
    refine v_aload_n X dX5_counts_36 rfl ?_
    refine v_iload_n X dX5_counts_37 rfl ?_
    refine v_cali X (m_isTrueByRows G (s := s) (by omega) sP h0) cv_X5_159 obX5 rfl (by decide) rfl (by rfl) (Nat.le_of_ble_eq_true rfl) dX5_counts_38 (fun r τ1 hp1 => ?_)
    obtain ⟨o1, rfl⟩ := hp1
    refine v_if_eq (tgt := 56) X dX5_counts_41 (by decide) (fun h41 => ?_) (fun h41 => ?_)
    · skip
      have hr := bI_z.mp h41
      refine v_iconst (v := nI 0) X dX5_counts_56 (by decide) ?_
      refine v_ret X hR dX5_counts_57 rfl ?_
      exact ⟨o1, by show _ = bI (rowT (A.1 s) && !pln (A.1 s)); rw [hr]; rfl⟩
    · skip
      have hr := bI_nz.mp h41
      refine v_aload_n X dX5_counts_44 rfl ?_
      refine v_iload_n X dX5_counts_45 rfl ?_
      refine v_cali X (m_isPlain G (s := s) (by omega) (mS_kO sP o1) h0) cv_X5_153 obX5 rfl (by decide) rfl (by rfl) (Nat.le_of_ble_eq_true rfl) dX5_counts_46 (fun r τ2 hp2 => ?_)
      obtain ⟨o2, rfl⟩ := hp2
      refine v_if_ne (tgt := 56) X dX5_counts_49 (by decide) (fun h49 => ?_) (fun h49 => ?_)
      · skip
        have hp := bI_nz.mp h49
        refine v_iconst (v := nI 0) X dX5_counts_56 (by decide) ?_
        refine v_ret X hR dX5_counts_57 rfl ?_
        exact ⟨o1.trans o2, by show _ = bI (rowT (A.1 s) && !pln (A.1 s)); rw [hr, hp]; rfl⟩
      · skip
        have hp := bI_z.mp h49
        refine v_iconst (v := nI 1) X dX5_counts_52 (by decide) ?_
        refine v_goto (tgt := 57) X dX5_counts_53 (by decide) ?_
        refine v_ret X hR dX5_counts_57 rfl ?_
        exact ⟨o1.trans o2, by show _ = bI (rowT (A.1 s) && !pln (A.1 s)); rw [hr, hp]; rfl⟩
  · refine v_tabOut (tgt := 58) X dX5_counts_1 (by decide) (by decide) ?_
    refine v_aload_n X dX5_counts_58 rfl ?_
    refine v_iload_n X dX5_counts_59 rfl ?_
    refine v_cali X (m_isFirst G hA hs) cv_X5_180 obX5 rfl (by decide) rfl (by rfl) (Nat.le_of_ble_eq_true rfl) dX5_counts_60 (fun r τ9 hq => ?_)
    obtain ⟨e9, rfl⟩ := hq
    rw [e9]
    refine v_ret X hR dX5_counts_63 (bI_nar _) ?_
    exact ⟨kO.rfl, rfl⟩
theorem kept_sum {m : Nat} {a b : Bool} (hm : m < 4) (h0 : m.testBit 0 = a) (h1 : m.testBit 1 = b) : nI (if a then 1 else 0) + nI (if b then 2 else 0) = nI m := by
  subst h0 h1
  rcases (show m = 0 ∨ m = 1 ∨ m = 2 ∨ m = 3 by omega) with rfl | rfl | rfl | rfl <;> decide
set_option maxHeartbeats 4000000 in
set_option maxRecDepth 100000 in
theorem y_count (G : GT) {σ : Sg} {A : ASt} (hA : mR σ A) (x : Int32) : MC G yX5_count cX5_count 4 .int 6 [.ref (G.2.2.1 156), .int x] σ (fun r τ => r = (sp_count x A).1 ∧ mR τ (sp_count x A).2 ∧ cO σ τ) := by
  refine MC_of (by decide) (ca1 rfl (ca1 rfl ca0)) (Nat.le_of_ble_eq_true rfl) ?_
  intro Z X hR
  show V G Z σ 0 [some (.ref (G.2.2.1 156)), some (.int x), none, none] []
  refine v_iload_n X dX5_count_0 rfl ?_
  refine v_iconst (v := nI 4) X dX5_count_1 (by decide) ?_
  refine v_icmp_ne (tgt := 10) X dX5_count_2 (by decide) (fun h2 => ?_) (fun h2 => ?_)
  · skip
    refine v_iload_n X dX5_count_10 rfl ?_
    refine v_iconst (v := nI 5) X dX5_count_11 (by decide) ?_
    refine v_icmp_ne (tgt := 45) X dX5_count_12 (by decide) (fun h12 => ?_) (fun h12 => ?_)
    · skip
      refine v_iload_n X dX5_count_45 rfl ?_
      refine v_bipush (v := nI 10) X dX5_count_46 (by decide) ?_
      refine v_bipush (v := nI 15) X dX5_count_48 (by decide) ?_
      refine v_cals X (m_in G _ _ _) cs_X5_69 (by decide) rfl (by rfl) (Nat.le_of_ble_eq_true rfl) dX5_count_50 (fun r τ9 hq => ?_)
      obtain ⟨e9, rfl⟩ := hq
      rw [e9]
      refine v_if_eq (tgt := 66) X dX5_count_53 (by decide) (fun h53 => ?_) (fun h53 => ?_)
      · skip
        have hout := in_f (bI_z.mp h53)
        refine v_iload_n X dX5_count_66 rfl ?_
        refine v_iconst (v := nI 0) X dX5_count_67 (by decide) ?_
        refine v_iconst (v := nI 3) X dX5_count_68 (by decide) ?_
        refine v_cals X (m_in G _ _ _) cs_X5_69 (by decide) rfl (by rfl) (Nat.le_of_ble_eq_true rfl) dX5_count_69 (fun r τ9 hq => ?_)
        obtain ⟨e9, rfl⟩ := hq
        rw [e9]
        refine v_if_ne (tgt := 78) X dX5_count_72 (by decide) (fun h72 => ?_) (fun h72 => ?_)
        · skip
          obtain ⟨w, hw, rfl, hwn, -⟩ := in_ix (n := 4) (by decide) (by decide) (in_t (bI_nz.mp h72))
          have hwr := in_t (bI_nz.mp h72)
          have n4 : ¬ nI w = 4 := h2
          have n5 : ¬ nI w = 5 := h12
          have loop : ∀ (n s : Nat) (τ : Sg), 6 - s < n → s ≤ 6 → mR τ A → cO σ τ → V G Z τ 82 [some (.ref (G.2.2.1 156)), some (.int (nI w)), some (.int (nI (ctB (fun s => decide (0 < (A.1 s).length) && cfn A.1 w s) s))), some (.int (nI s))] [] := by
            intro n
            induction n with
            | zero => intro s τ h; omega
            | succ n ih =>
              intro s τ hn hsl hB hm
              refine v_iload_n X dX5_count_82 rfl ?_
              refine v_bipush (v := nI 6) X dX5_count_83 (by decide) ?_
              refine v_icmp_ge (tgt := 119) X dX5_count_85 (by decide) (fun h85 => ?_) (fun h85 => ?_)
              · skip
                have hs := nI_lem (a := 6) (by decide) (by omega) h85
                have hs : s = 6 := by omega
                subst hs
                refine v_iload_n X dX5_count_119 rfl ?_
                refine v_ret X hR dX5_count_120 rfl ?_
                have e : sp_count (nI w) A = (nI (cnt A.1 (nI w)), A) := by exact (if_neg n4).trans ((if_neg n5).trans ((if_neg (fun q => q hout)).trans (if_neg hwr)))
                rw [e]
                exact ⟨by rw [cfn_cnt _ hw], hB, hm⟩
              · skip
                have s6 := nI_len (a := 6) (by decide) (by omega) h85
                have sP := hB.1 s (by omega)
                refine v_iload_n X dX5_count_88 rfl ?_
                refine v_aload_n X dX5_count_89 rfl ?_
                refine v_iload_n X dX5_count_90 rfl ?_
                refine v_cali X (m_isEmpty G (s := s) (by omega) sP) cv_X5_120 obX5 rfl (by decide) rfl (by rfl) (Nat.le_of_ble_eq_true rfl) dX5_count_91 (fun r τ9 hq => ?_)
                obtain ⟨e9, rfl⟩ := hq
                rw [e9]
                refine v_if_ne (tgt := 110) X dX5_count_94 (by decide) (fun h94 => ?_) (fun h94 => ?_)
                · skip
                  have s0 : (A.1 s).length = 0 := of_decide_eq_true (bI_nz.mp h94)
                  have hc : (decide (0 < (A.1 s).length) && cfn A.1 w s) = false := by rw [decide_eq_false (by omega)]; rfl
                  refine v_iconst (v := nI 0) X dX5_count_110 (by decide) ?_
                  refine v_iadd X dX5_count_111 ?_
                  refine v_top (nI_add _ _) ?_
                  refine v_istore_n X dX5_count_112 (Nat.le_of_ble_eq_true rfl) ?_
                  show V G Z _ 113 [_, _, _, _] _
                  refine v_iincE X dX5_count_113 rfl (nI_inc s) ?_
                  show V G Z _ 116 [_, _, _, _] _
                  refine v_goto (tgt := 82) X dX5_count_116 (by decide) ?_
                  have ihk := ih (s + 1) _ (by omega) (by omega) hB hm
                  rw [ctB, hc] at ihk
                  exact ihk
                · skip
                  have s0 : ¬ (A.1 s).length = 0 := of_decide_eq_false (bI_z.mp h94)
                  have sp : 0 < (A.1 s).length := by omega
                  refine v_aload_n X dX5_count_97 rfl ?_
                  refine v_iload_n X dX5_count_98 rfl ?_
                  refine v_iload_n X dX5_count_99 rfl ?_
                  refine v_cali X (m_counts G hB s6 sp hw) cv_X5_183 obX5 rfl (by decide) rfl (by rfl) (Nat.le_of_ble_eq_true rfl) dX5_count_100 (fun r τ2 hp2 => ?_)
                  obtain ⟨o2, rfl⟩ := hp2
                  refine v_if_eq (tgt := 110) X dX5_count_103 (by decide) (fun h103 => ?_) (fun h103 => ?_)
                  · skip
                    have hc : (decide (0 < (A.1 s).length) && cfn A.1 w s) = false := by rw [bI_z.mp h103]; simp
                    refine v_iconst (v := nI 0) X dX5_count_110 (by decide) ?_
                    refine v_iadd X dX5_count_111 ?_
                    refine v_top (nI_add _ _) ?_
                    refine v_istore_n X dX5_count_112 (Nat.le_of_ble_eq_true rfl) ?_
                    show V G Z _ 113 [_, _, _, _] _
                    refine v_iincE X dX5_count_113 rfl (nI_inc s) ?_
                    show V G Z _ 116 [_, _, _, _] _
                    refine v_goto (tgt := 82) X dX5_count_116 (by decide) ?_
                    have ihk := ih (s + 1) _ (by omega) (by omega) (mR_kO hB o2) (hm.trans o2.c)
                    rw [ctB, hc] at ihk
                    exact ihk
                  · skip
                    have hc : (decide (0 < (A.1 s).length) && cfn A.1 w s) = true := by rw [bI_nz.mp h103, decide_eq_true sp]; rfl
                    refine v_iconst (v := nI 1) X dX5_count_106 (by decide) ?_
                    refine v_goto (tgt := 111) X dX5_count_107 (by decide) ?_
                    refine v_iadd X dX5_count_111 ?_
                    refine v_top (nI_add _ _) ?_
                    refine v_istore_n X dX5_count_112 (Nat.le_of_ble_eq_true rfl) ?_
                    show V G Z _ 113 [_, _, _, _] _
                    refine v_iincE X dX5_count_113 rfl (nI_inc s) ?_
                    show V G Z _ 116 [_, _, _, _] _
                    refine v_goto (tgt := 82) X dX5_count_116 (by decide) ?_
                    have ihk := ih (s + 1) _ (by omega) (by omega) (mR_kO hB o2) (hm.trans o2.c)
                    rw [ctB, hc] at ihk
                    exact ihk
          refine v_iconst (v := nI 0) X dX5_count_78 (by decide) ?_
          refine v_istore_n X dX5_count_79 (Nat.le_of_ble_eq_true rfl) ?_
          show V G Z _ 80 [_, _, _, _] _
          refine v_iconst (v := nI 0) X dX5_count_80 (by decide) ?_
          refine v_istore_n X dX5_count_81 (Nat.le_of_ble_eq_true rfl) ?_
          show V G Z _ 82 [_, _, _, _] _
          exact loop 7 0 σ (by omega) (by omega) hA cO.rfl
        · skip
          have hwr := in_f (bI_z.mp h72)
          refine v_bipush (v := (-2)) X dX5_count_75 (by decide) ?_
          refine v_ret X hR dX5_count_77 rfl ?_
          have e : sp_count x A = (-2, A) := by exact (if_neg h2).trans ((if_neg h12).trans ((if_neg (fun q => q hout)).trans (if_pos hwr)))
          rw [e]
          exact ⟨rfl, hA, cO.rfl⟩
      · skip
        have hin := in_t (bI_nz.mp h53)
        obtain ⟨j, j6, j2, rfl⟩ : ∃ j, j < 6 ∧ x - nI 10 = nI j ∧ x = nI (10 + j) := by
          rcases sub_10 x with ⟨-, q⟩ | q
          · exact absurd q hin
          · exact q
        have jP := hA.1 j (by omega)
        refine v_aload_n X dX5_count_56 rfl ?_
        refine v_getr X fl_X5_7 shX5_0 dX5_count_57 ?_
        refine v_iload_n X dX5_count_60 rfl ?_
        refine v_bipush (v := nI 10) X dX5_count_61 (by decide) ?_
        refine v_isub X dX5_count_63 ?_
        refine v_ialdE X arX5_0 j2 (show j < 18 by omega) dX5_count_64 ?_
        refine v_ret X hR dX5_count_65 rfl ?_
        rw [jP.2.2.1]
        have e : sp_count (nI (10 + j)) A = (nI (A.1 j).length, A) := by refine (if_neg h2).trans ((if_neg h12).trans ((if_pos hin).trans ?_)); rw [nI_toInt (by omega), show ((10 + j : Nat) : Int).toNat - 10 = j by omega]
        rw [e]
        exact ⟨rfl, hA, cO.rfl⟩
    · skip
      refine v_aload_n X dX5_count_15 rfl ?_
      refine v_getr X fl_X5_66 shX5_24 dX5_count_16 ?_
      refine v_iconst (v := nI 0) X dX5_count_19 (by decide) ?_
      refine v_zaldE X arX5_24 rfl (show 0 < 2 by decide) dX5_count_20 ?_
      rw [hA.2.2.2.1 0 (by decide)]
      refine v_if_eq (tgt := 28) X dX5_count_21 (by decide) (fun h21 => ?_) (fun h21 => ?_)
      · skip
        have c0 := bI_z.mp h21
        refine v_iconst (v := nI 0) X dX5_count_28 (by decide) ?_
        refine v_aload_n X dX5_count_29 rfl ?_
        refine v_getr X fl_X5_66 shX5_24 dX5_count_30 ?_
        refine v_iconst (v := nI 1) X dX5_count_33 (by decide) ?_
        refine v_zaldE X arX5_24 rfl (show 1 < 2 by decide) dX5_count_34 ?_
        rw [hA.2.2.2.1 1 (by decide)]
        refine v_if_eq (tgt := 42) X dX5_count_35 (by decide) (fun h35 => ?_) (fun h35 => ?_)
        · skip
          have c1 := bI_z.mp h35
          refine v_iconst (v := nI 0) X dX5_count_42 (by decide) ?_
          refine v_iadd X dX5_count_43 ?_
          refine v_ret X hR dX5_count_44 rfl ?_
          have e : sp_count x A = (nI A.2.2.2, A) := by exact (if_neg h2).trans (if_pos h12)
          rw [e]
          exact ⟨kept_sum hA.2.2.2.2 c0 c1, hA, cO.rfl⟩
        · skip
          have c1 := bI_nz.mp h35
          refine v_iconst (v := nI 2) X dX5_count_38 (by decide) ?_
          refine v_goto (tgt := 43) X dX5_count_39 (by decide) ?_
          refine v_iadd X dX5_count_43 ?_
          refine v_ret X hR dX5_count_44 rfl ?_
          have e : sp_count x A = (nI A.2.2.2, A) := by exact (if_neg h2).trans (if_pos h12)
          rw [e]
          exact ⟨kept_sum hA.2.2.2.2 c0 c1, hA, cO.rfl⟩
      · skip
        have c0 := bI_nz.mp h21
        refine v_iconst (v := nI 1) X dX5_count_24 (by decide) ?_
        refine v_goto (tgt := 29) X dX5_count_25 (by decide) ?_
        refine v_aload_n X dX5_count_29 rfl ?_
        refine v_getr X fl_X5_66 shX5_24 dX5_count_30 ?_
        refine v_iconst (v := nI 1) X dX5_count_33 (by decide) ?_
        refine v_zaldE X arX5_24 rfl (show 1 < 2 by decide) dX5_count_34 ?_
        rw [hA.2.2.2.1 1 (by decide)]
        refine v_if_eq (tgt := 42) X dX5_count_35 (by decide) (fun h35 => ?_) (fun h35 => ?_)
        · skip
          have c1 := bI_z.mp h35
          refine v_iconst (v := nI 0) X dX5_count_42 (by decide) ?_
          refine v_iadd X dX5_count_43 ?_
          refine v_ret X hR dX5_count_44 rfl ?_
          have e : sp_count x A = (nI A.2.2.2, A) := by exact (if_neg h2).trans (if_pos h12)
          rw [e]
          exact ⟨kept_sum hA.2.2.2.2 c0 c1, hA, cO.rfl⟩
        · skip
          have c1 := bI_nz.mp h35
          refine v_iconst (v := nI 2) X dX5_count_38 (by decide) ?_
          refine v_goto (tgt := 43) X dX5_count_39 (by decide) ?_
          refine v_iadd X dX5_count_43 ?_
          refine v_ret X hR dX5_count_44 rfl ?_
          have e : sp_count x A = (nI A.2.2.2, A) := by exact (if_neg h2).trans (if_pos h12)
          rw [e]
          exact ⟨kept_sum hA.2.2.2.2 c0 c1, hA, cO.rfl⟩
  · skip
    refine v_aload_n X dX5_count_5 rfl ?_
    refine v_geti X fl_X5_100 shX5_5 dX5_count_6 ?_
    rw [hA.2.1.2.1]
    refine v_ret X hR dX5_count_9 rfl ?_
    have e : sp_count x A = (nI A.2.1.length, A) := by rw [sp_count, if_pos (show x = 4 from h2)]
    rw [e]
    exact ⟨rfl, hA, cO.rfl⟩

