theorem v_refe {G : GT} {Z : ZT} {σ : Sg} {pc : Nat} {lo : List (Option Value)} {st : List Value} {i j : Nat} (e : i = j) (h : V G Z σ pc lo (.ref (G.2.2.1 j) :: st)) : V G Z σ pc lo (.ref (G.2.2.1 i) :: st) := e ▸ h
/-! THE STATE of the whole: what the six slots, and the slots of the two images, hold; the text; the place of the fault; which images are kept -/
abbrev ASt : Type := (Nat → Sen) × List Nat × Int32 × Nat
def stS (S : Nat → Sen) (j : Nat) (P : Sen) : Nat → Sen := fun i => if i = j then P else S i
def cR (σ : Sg) (A : ASt) : Prop := (∀ j, j < 18 → hz σ j (A.1 j)) ∧ tX σ A.2.1 ∧ σ 155 4 = A.2.2.1 ∧ σ 155 2 = nI A.2.2.2 ∧ A.2.2.2 < 4 ∧ ∃ P, frm σ P
def mO (σ τ : Sg) : Prop := ∀ i, 156 ≤ i → τ i = σ i
theorem mO.rfl {σ : Sg} : mO σ σ := fun _ _ => by rfl
theorem mO.trans {σ τ υ : Sg} (h1 : mO σ τ) (h2 : mO τ υ) : mO σ υ := fun i h => (h2 i h).trans (h1 i h)
/-- a slot's number -/
def sN (x : Int32) : Option Nat := if 0 ≤ x.toInt ∧ x.toInt < 6 then some x.toInt.toNat else none
theorem sN_nI {j : Nat} (h : j < 6) : sN (nI j) = some j := by
  rw [sN, nI_toInt (by omega), if_pos (by omega)]; rfl
theorem sN_of (x : Int32) : (sN x = none ∧ (x < 0 ∨ nI 6 ≤ x)) ∨ ∃ j, j < 6 ∧ x = nI j ∧ sN x = some j := by
  rcases pk_ix x (n := 6) (by decide) with h | h | ⟨j, hj, rfl⟩
  · refine Or.inl ⟨if_neg (fun z => ?_), Or.inl h⟩
    have := Int32.lt_iff_toInt_lt.mp h
    have e : (0 : Int32).toInt = 0 := by decide
    omega
  · refine Or.inl ⟨if_neg (fun z => ?_), Or.inr h⟩
    have := Int32.le_iff_toInt_le.mp h
    rw [nI_toInt (by decide)] at this
    omega
  · exact Or.inr ⟨j, hj, rfl, sN_nI hj⟩
theorem hz_fT {σ τ : Sg} {j : Nat} {P : Sen} (h : hz σ j P) (ho : fT σ τ) (hj : j < 19) : hz τ j P := by
  have key : ∀ q, q < 7 → τ (7 * j + q) = σ (7 * j + q) := fun q hq => ho _ (by omega)
  have k0 : τ (7 * j) = σ (7 * j) := ho _ (by omega)
  exact ⟨hs_cong h.1 (by rw [k0]) (fun q h1 h2 => key q (by omega)), by rw [k0]; exact h.2⟩
theorem tX_cong {σ τ : Sg} {tx : List Nat} (h : tX σ tx) (h0 : τ 147 0 = σ 147 0) (h1 : τ 148 = σ 148) : tX τ tx := ⟨h.1, by rw [h0]; exact h.2.1, fun i s hs => by rw [h1]; exact h.2.2 i s hs⟩
theorem frm_cong {σ τ : Sg} {P : Sen} (h : frm σ P) (h1 : ∀ i, 133 ≤ i → i < 140 → τ i = σ i) (h2 : ∀ i, 151 ≤ i → i < 155 → τ i = σ i) : frm τ P := by
  obtain ⟨a1, a2⟩ := h
  refine ⟨⟨hs_cong a1.1 (by rw [h1 _ (by decide) (by decide)]) (fun q _ _ => h1 _ (by omega) (by omega)), by rw [h1 _ (by decide) (by decide)]; exact a1.2⟩, fun h0 => ?_⟩
  obtain ⟨f, e, ⟨b1, b2, b3, b4⟩, b5⟩ := a2 h0
  refine ⟨f, e, ⟨b1, by rw [h2 _ (by decide) (by decide)]; exact b2, by rw [h2 _ (by decide) (by decide)]; exact b3, fun y q hy => ?_⟩, b5⟩
  rw [h2 152 (by decide) (by decide), h2 153 (by decide) (by decide), h2 154 (by decide) (by decide)]
  exact b4 y q hy
theorem cR_fT {σ τ : Sg} {A : ASt} {Q : Sen} (h : cR σ A) (ho : fT σ τ) (hf : frm τ Q) : cR τ A := by
  obtain ⟨a1, a2, a3, a4, a5, -⟩ := h
  exact ⟨fun j hj => hz_fT (a1 j hj) ho (by omega), tX_cong a2 (by rw [ho 147 (by omega)]) (ho 148 (by omega)), by rw [ho 155 (by omega)]; exact a3, by rw [ho 155 (by omega)]; exact a4, a5, Q, hf⟩
theorem cR_off {σ τ : Sg} {A : ASt} (h : cR σ A) (ho : offS 18 σ τ) : cR τ A := by
  obtain ⟨a1, a2, a3, a4, a5, P, a6⟩ := h
  exact ⟨fun j hj => hz_off (a1 j hj) ho (by omega), tX_cong a2 (by rw [ho 147 (by omega)]) (ho 148 (by omega)), by rw [ho 155 (by omega)]; exact a3, by rw [ho 155 (by omega)]; exact a4, a5, P, frm_cong a6 (fun i _ _ => ho i (by omega)) (fun i _ _ => ho i (by omega))⟩
theorem cR_tR {σ τ : Sg} {A : ASt} (h : cR σ A) (ho : tR σ τ) : cR τ A := by
  obtain ⟨a1, a2, a3, a4, a5, P, a6⟩ := h
  refine ⟨fun j hj => ?_, tX_cong a2 ho.2 (ho.1 148 (by omega) (by decide) (by decide) (by decide)), by rw [ho.1 155 (by omega) (by decide) (by decide) (by decide)]; exact a3, by rw [ho.1 155 (by omega) (by decide) (by decide) (by decide)]; exact a4, a5, P, frm_cong a6 (fun i _ _ => ho.1 i (by omega) (by omega) (by omega) (by omega)) (fun i _ _ => ho.1 i (by omega) (by omega) (by omega) (by omega))⟩
  have key : ∀ q, q < 7 → τ (7 * j + q) = σ (7 * j + q) := fun q hq => ho.1 _ (by omega) (by omega) (by omega) (by omega)
  have k0 : τ (7 * j) = σ (7 * j) := ho.1 _ (by omega) (by omega) (by omega) (by omega)
  exact ⟨hs_cong (a1 j hj).1 (by rw [k0]) (fun q h1 h2 => key q (by omega)), by rw [k0]; exact (a1 j hj).2⟩
theorem cR_slot {σ τ : Sg} {A : ASt} {t : Nat} {P : Sen} (ht : t < 18) (h : cR σ A) (ho : offS t σ τ) (hP : hz τ t P) : cR τ (stS A.1 t P, A.2) := by
  obtain ⟨a1, a2, a3, a4, a5, Q, a6⟩ := h
  refine ⟨fun j hj => ?_, tX_cong a2 (by rw [ho 147 (by omega)]) (ho 148 (by omega)), by rw [ho 155 (by omega)]; exact a3, by rw [ho 155 (by omega)]; exact a4, a5, Q, frm_cong a6 (fun i _ _ => ho i (by omega)) (fun i _ _ => ho i (by omega))⟩
  show hz τ j (if j = t then P else A.1 j)
  by_cases e : j = t
  · rw [if_pos e, e]; exact hP
  · rw [if_neg e]; exact hz_off (a1 j hj) ho e
/-- true by rows; plain -/
def rowT (P : Sen) : Bool := decide (0 < P.length ∧ (rwL P).getD (P.length - 1) 0 = 65535)
def pln (P : Sen) : Bool := rowT P && decide (nrf (wlK P) (P.length - 1) = 0)
theorem kw_lt {P : Sen} (hl : P.length ≤ 11) : ∀ i, i < (wlK P).length → kw (wlK P) i < 2 ^ 31 := by
  have key : ∀ (l : List Nat), ∀ q ∈ sfL P l, q.1 ∈ l := by
    intro l
    induction l with
    | nil => intro q h; simp [sfL] at h
    | cons w l ih =>
      intro q h
      rw [sfL, csd] at h
      split at h
      · rcases List.mem_cons.mp h with rfl | h
        · exact List.mem_cons_self
        · exact List.mem_cons_of_mem _ (ih q h)
      · exact List.mem_cons_of_mem _ (ih q h)
  intro i hi
  have e1 : (wlK P).getD i (0, 0, 0) = (wlK P)[i] := by rw [List.getD_eq_getElem?_getD, List.getElem?_eq_getElem hi]; rfl
  rw [kw, e1]
  have := clL_lt (key _ _ (List.getElem_mem hi))
  exact Nat.lt_of_lt_of_le this (Nat.pow_le_pow_right (by decide) (by omega))
set_option maxHeartbeats 4000000 in
set_option maxRecDepth 100000 in
theorem c_isSlot (G : GT) {σ : Sg} (x : Int32) : MC G yX4_isSlot cX4_isSlot 1 .boolean 0 [.int x] σ (fun r τ => τ = σ ∧ r = bI (sN x).isSome) := by
  refine MC_of (by decide) (ca1 rfl ca0) (Nat.le_of_ble_eq_true rfl) ?_
  intro Z X hR
  show V G Z σ 0 [some (.int x)] []
  refine v_iload_n X dX4_isSlot_0 rfl ?_
  refine v_if_lt (tgt := 14) X dX4_isSlot_1 (by decide) (fun h1 => ?_) (fun h1 => ?_)
  · skip
    refine v_iconst (v := nI 0) X dX4_isSlot_14 (by decide) ?_
    refine v_ret X hR dX4_isSlot_15 rfl ?_
    refine ⟨rfl, ?_⟩
    rcases sN_of x with ⟨z, -⟩ | ⟨j, hj, rfl, z⟩
    · rw [z]; rfl
    · exact absurd h1 (nI_pos (by omega))
  · skip
    refine v_iload_n X dX4_isSlot_4 rfl ?_
    refine v_bipush (v := nI 6) X dX4_isSlot_5 (by decide) ?_
    refine v_icmp_ge (tgt := 14) X dX4_isSlot_7 (by decide) (fun h7 => ?_) (fun h7 => ?_)
    · skip
      refine v_iconst (v := nI 0) X dX4_isSlot_14 (by decide) ?_
      refine v_ret X hR dX4_isSlot_15 rfl ?_
      refine ⟨rfl, ?_⟩
      rcases sN_of x with ⟨z, -⟩ | ⟨j, hj, rfl, z⟩
      · rw [z]; rfl
      · exact absurd (nI_lem (a := 6) (by decide) (by omega) h7) (by omega)
    · skip
      refine v_iconst (v := nI 1) X dX4_isSlot_10 (by decide) ?_
      refine v_goto (tgt := 15) X dX4_isSlot_11 (by decide) ?_
      refine v_ret X hR dX4_isSlot_15 rfl ?_
      refine ⟨rfl, ?_⟩
      rcases sN_of x with ⟨-, z | z⟩ | ⟨j, hj, rfl, z⟩
      · exact absurd z h1
      · exact absurd z h7
      · rw [z]; rfl

set_option maxHeartbeats 4000000 in
set_option maxRecDepth 100000 in
theorem c_isImage (G : GT) {σ : Sg} (x : Int32) : MC G yX4_isImage cX4_isImage 1 .boolean 0 [.int x] σ (fun r τ => τ = σ ∧ r = bI (decide (¬ x < 0 ∧ ¬ nI 2 ≤ x))) := by
  refine MC_of (by decide) (ca1 rfl ca0) (Nat.le_of_ble_eq_true rfl) ?_
  intro Z X hR
  show V G Z σ 0 [some (.int x)] []
  refine v_iload_n X dX4_isImage_0 rfl ?_
  refine v_if_lt (tgt := 13) X dX4_isImage_1 (by decide) (fun h1 => ?_) (fun h1 => ?_)
  · skip
    refine v_iconst (v := nI 0) X dX4_isImage_13 (by decide) ?_
    refine v_ret X hR dX4_isImage_14 rfl ?_
    exact ⟨rfl, bI_f (fun q => q.1 h1)⟩
  · skip
    refine v_iload_n X dX4_isImage_4 rfl ?_
    refine v_iconst (v := nI 2) X dX4_isImage_5 (by decide) ?_
    refine v_icmp_ge (tgt := 13) X dX4_isImage_6 (by decide) (fun h6 => ?_) (fun h6 => ?_)
    · skip
      refine v_iconst (v := nI 0) X dX4_isImage_13 (by decide) ?_
      refine v_ret X hR dX4_isImage_14 rfl ?_
      exact ⟨rfl, bI_f (fun q => q.2 h6)⟩
    · skip
      refine v_iconst (v := nI 1) X dX4_isImage_9 (by decide) ?_
      refine v_goto (tgt := 14) X dX4_isImage_10 (by decide) ?_
      refine v_ret X hR dX4_isImage_14 rfl ?_
      exact ⟨rfl, bI_t ⟨h1, h6⟩⟩

set_option maxHeartbeats 4000000 in
set_option maxRecDepth 100000 in
theorem c_isEmpty (G : GT) {σ : Sg} {s : Nat} (hs6 : s < 6) {P : Sen} (hP : hz σ s P) : MC G yX4_isEmpty cX4_isEmpty 2 .boolean 0 [.ref (G.2.2.1 155), .int (nI s)] σ (fun r τ => τ = σ ∧ r = bI (decide (P.length = 0))) := by
  refine MC_of (by decide) (ca1 rfl (ca1 rfl ca0)) (Nat.le_of_ble_eq_true rfl) ?_
  intro Z X hR
  show V G Z σ 0 [some (.ref (G.2.2.1 155)), some (.int (nI s))] []
  refine v_aload_n X dX4_isEmpty_0 rfl ?_
  refine v_getr X fl_X4_10 shX4_0 dX4_isEmpty_1 ?_
  refine v_getr X fl_X4_74 (shX2_0 (by first | assumption | omega)) dX4_isEmpty_4 ?_
  refine v_iload_n X dX4_isEmpty_7 rfl ?_
  refine v_aaldE X (arX2_0 (by first | assumption | omega)) (Or.inl rfl) rfl (by first | assumption | omega) dX4_isEmpty_8 ?_
  refine v_refe (show _ = 7 * s from by omega) ?_
  refine v_geti X fl_X4_117 (shX1_0 (by first | assumption | omega)) dX4_isEmpty_9 ?_
  rw [hP.1.2.2.1]
  refine v_if_ne (tgt := 19) X dX4_isEmpty_12 (by decide) (fun h12 => ?_) (fun h12 => ?_)
  · skip
    have h0 : ¬ P.length = 0 := fun z => h12 (by rw [z]; rfl)
    refine v_iconst (v := nI 0) X dX4_isEmpty_19 (by decide) ?_
    refine v_ret X hR dX4_isEmpty_20 rfl ?_
    exact ⟨rfl, bI_f h0⟩
  · skip
    have h0 : P.length = 0 := nI_eqm (b := 0) (by have := hP.1.1; omega) (by decide) h12
    refine v_iconst (v := nI 1) X dX4_isEmpty_15 (by decide) ?_
    refine v_goto (tgt := 20) X dX4_isEmpty_16 (by decide) ?_
    refine v_ret X hR dX4_isEmpty_20 rfl ?_
    exact ⟨rfl, bI_t h0⟩

set_option maxHeartbeats 4000000 in
set_option maxRecDepth 100000 in
theorem c_putDraft (G : GT) {σ : Sg} {t : Nat} (ht : t < 6) {A : ASt} (hA : cR σ A) {P : Sen} (hP : hz σ 18 P) : MC G yX4_putDraft cX4_putDraft 2 .int 1 [.ref (G.2.2.1 155), .int (nI t)] σ (fun r τ => r = nI P.length ∧ cR τ (stS A.1 t P, A.2) ∧ mO σ τ) := by
  refine MC_of (by decide) (ca1 rfl (ca1 rfl ca0)) (Nat.le_of_ble_eq_true rfl) ?_
  intro Z X hR
  show V G Z σ 0 [some (.ref (G.2.2.1 155)), some (.int (nI t))] []
  refine v_aload_n X dX4_putDraft_0 rfl ?_
  refine v_getr X fl_X4_10 shX4_0 dX4_putDraft_1 ?_
  refine v_getr X fl_X4_74 (shX2_0 (by first | assumption | omega)) dX4_putDraft_4 ?_
  refine v_iload_n X dX4_putDraft_7 rfl ?_
  refine v_aaldE X (arX2_0 (by first | assumption | omega)) (Or.inl rfl) rfl (by first | assumption | omega) dX4_putDraft_8 ?_
  refine v_refe (show _ = 7 * t from by omega) ?_
  refine v_aload_n X dX4_putDraft_9 rfl ?_
  refine v_getr X fl_X4_37 shX4_5 dX4_putDraft_10 ?_
  refine v_calv X (c_copyFrom G (j := t) (i := 18) (by omega) (by decide) (by omega) hP.1 hP.2) cv_X4_176 (obX1 (by first | assumption | omega)) rfl (by decide) rfl (by rfl) (Nat.le_of_ble_eq_true rfl) dX4_putDraft_13 (fun τ hp => ?_)
  obtain ⟨a1, a2, a3, a4⟩ := hp
  refine v_aload_n X dX4_putDraft_16 rfl ?_
  refine v_getr X fl_X4_37 shX4_5 dX4_putDraft_17 ?_
  refine v_geti X fl_X4_117 (shX1_0 (by first | assumption | omega)) dX4_putDraft_20 ?_
  rw [(hs_off hP.1 a1 (by omega)).2.2.1]
  refine v_ret X hR dX4_putDraft_23 rfl ?_
  exact ⟨rfl, cR_slot (by omega) hA a1 ⟨a2, a3⟩, fun i hi => a1 i (by omega)⟩

set_option maxHeartbeats 4000000 in
set_option maxRecDepth 100000 in
theorem c_isPlain (G : GT) {σ : Sg} {i : Nat} (hi : i < 19) {A : ASt} (hA : cR σ A) {P : Sen} (hP : hz σ i P) (h0 : 0 < P.length) : MC G yX4_isPlain cX4_isPlain 2 .boolean 4 [.ref (G.2.2.1 155), .ref (G.2.2.1 (7 * i))] σ (fun r τ => r = bI (pln P) ∧ cR τ A ∧ mO σ τ ∧ ∀ j, j < 19 → ∀ Q, hz σ j Q → hz τ j Q) := by
  refine MC_of (by decide) (ca1 rfl (ca1 rfl ca0)) (Nat.le_of_ble_eq_true rfl) ?_
  intro Z X hR
  show V G Z σ 0 [some (.ref (G.2.2.1 155)), some (.ref (G.2.2.1 (7 * i)))] []
  refine v_aload_n X dX4_isPlain_0 rfl ?_
  refine v_cali X (c_isTrueByRows G (j := i) (by omega) hP.1) cv_X4_113 (obX1 (by first | assumption | omega)) rfl (by decide) rfl (by rfl) (Nat.le_of_ble_eq_true rfl) dX4_isPlain_1 (fun r τ hp => ?_)
  obtain ⟨e9, rfl⟩ := hp
  rw [e9]
  refine v_if_ne (tgt := 9) X dX4_isPlain_4 (by decide) (fun h4 => ?_) (fun h4 => ?_)
  · skip
    have hr : rowT P = true := bI_nz.mp h4
    refine v_aload_n X dX4_isPlain_9 rfl ?_
    refine v_getr X fl_X4_44 shX4_6 dX4_isPlain_10 ?_
    refine v_aload_n X dX4_isPlain_13 rfl ?_
    obtain ⟨F, hF⟩ := hA.2.2.2.2.2
    refine v_calv X (c_turnTo G hi hF hP h0) cv_X4_120 obX0 rfl (by decide) rfl (by rfl) (Nat.le_of_ble_eq_true rfl) dX4_isPlain_14 (fun τ1 hp => ?_)
    obtain ⟨b1, b2⟩ := hp
    obtain ⟨f, e, c1, c2⟩ := b2.2 h0
    have hm : mO σ τ1 := fun i hi => b1 i (by omega)
    have hcr := cR_fT hA b1 b2
    refine v_aload_n X dX4_isPlain_17 rfl ?_
    refine v_getr X fl_X4_44 shX4_6 dX4_isPlain_18 ?_
    refine v_cali X (c_refuting G c1 c2 b2.1.1 h0) cv_X4_130 obX0 rfl (by decide) rfl (by rfl) (Nat.le_of_ble_eq_true rfl) dX4_isPlain_21 (fun r τ9 hq => ?_)
    obtain ⟨e9, rfl⟩ := hq
    rw [e9]
    have hle : nrf (wlK P) (P.length - 1) ≤ 2048 := Nat.le_trans (ctB_le _ _) (by have := c1.1; omega)
    refine v_if_ne (tgt := 31) X dX4_isPlain_24 (by decide) (fun h24 => ?_) (fun h24 => ?_)
    · skip
      have hn : ¬ nrf (wlK P) (P.length - 1) = 0 := fun z => h24 (by rw [z]; rfl)
      refine v_iconst (v := nI 0) X dX4_isPlain_31 (by decide) ?_
      refine v_ret X hR dX4_isPlain_32 rfl ?_
      exact ⟨by rw [pln, hr, decide_eq_false hn]; rfl, hcr, hm, fun j hj Q h => hz_fT h b1 hj⟩
    · skip
      have hn : nrf (wlK P) (P.length - 1) = 0 := nI_eqm (b := 0) (by omega) (by decide) h24
      refine v_iconst (v := nI 1) X dX4_isPlain_27 (by decide) ?_
      refine v_goto (tgt := 32) X dX4_isPlain_28 (by decide) ?_
      refine v_ret X hR dX4_isPlain_32 rfl ?_
      exact ⟨by rw [pln, hr, decide_eq_true hn]; rfl, hcr, hm, fun j hj Q h => hz_fT h b1 hj⟩
  · skip
    have hr : rowT P = false := bI_z.mp h4
    refine v_iconst (v := nI 0) X dX4_isPlain_7 (by decide) ?_
    refine v_ret X hR dX4_isPlain_8 rfl ?_
    exact ⟨by rw [pln, hr]; rfl, hA, mO.rfl, fun _ _ _ h => h⟩

