set_option maxHeartbeats 4000000 in
set_option maxRecDepth 100000 in
theorem c_sift (G : GT) {σ : Sg} {P : Sen} (hP : hs σ 19 P) (he : σ 151 5 = nI (clL P P.length).length) (hL : arr (σ 152) (clL P P.length)) : MV G yX0_sift cX0_sift 3 2 [.ref (G.2.2.1 151)] σ (fun τ => fO σ τ ∧ ∃ f e, kI τ (wlK P) f e ∧ e ≤ 2048) := by
  refine MV_of (by decide) (ca1 rfl ca0) (Nat.le_of_ble_eq_true rfl) ?_
  intro Z X hR
  show V G Z σ 0 [some (.ref (G.2.2.1 151)), none, none] []
  have hP11 := hP.1
  have hlen : (clL P P.length).length ≤ 2048 := Nat.le_trans (clL_len P _) (Nat.le_trans (Nat.pow_le_pow_right (by decide) hP11) (by decide))
  have loop : ∀ (c : Nat) (τ : Sg) (f : Nat) (v : Int32), ((c = 0 ∧ v = -1) ∨ (0 < c ∧ v = nI (c - 1))) → c ≤ f → c ≤ (clL P P.length).length → fO σ τ → (∀ x w, x < c → (clL P P.length)[x]? = some w → τ 152 x = nI w) → kI τ (sfL P ((clL P P.length).drop c)) f (clL P P.length).length → V G Z τ 20 [some (.ref (G.2.2.1 151)), some (.int (nI (imp P))), some (.int v)] [] := by
    intro c
    induction c with
    | zero =>
      intro τ f v hv hcf hcl g1 g2 g3
      have hv : v = -1 := by
        rcases hv with ⟨-, z⟩ | ⟨z, -⟩
        · exact z
        · omega
      subst hv
      refine v_iload_n X dX0_sift_20 rfl ?_
      refine v_if_lt (tgt := 50) X dX0_sift_21 (by decide) (fun h21 => ?_) (fun h21 => ?_)
      · skip
        refine v_vret X hR dX0_sift_50 ?_
        exact ⟨g1, f, _, g3, hlen⟩
      · skip
        exact absurd (by decide) h21
    | succ c ih =>
      intro τ f v hv hcf hcl g1 g2 g3
      have hv : v = nI c := by
        rcases hv with ⟨z, -⟩ | ⟨-, z⟩
        · omega
        · exact z
      subst hv
      obtain ⟨w, hw⟩ : ∃ w, (clL P P.length)[c]? = some w := ⟨(clL P P.length)[c]'(by omega), List.getElem?_eq_getElem (by omega)⟩
      have ew := g2 c w (by omega) hw
      have hwl : w < 2 ^ P.length := clL_lt (List.mem_of_getElem? hw)
      have hw31 : w < 2 ^ 31 := Nat.lt_of_lt_of_le hwl (Nat.pow_le_pow_right (by decide) (by omega))
      have hd : (clL P P.length).drop c = w :: (clL P P.length).drop (c + 1) := by
        have := List.drop_eq_getElem_cons (l := clL P P.length) (i := c) (by omega)
        rw [(List.getElem?_eq_some_iff.mp hw).2] at this
        exact this
      refine v_iload_n X dX0_sift_20 rfl ?_
      refine v_if_lt (tgt := 50) X dX0_sift_21 (by decide) (fun h21 => ?_) (fun h21 => ?_)
      · skip
        exact absurd h21 (nI_pos (by omega))
      · skip
        refine v_aload_n X dX0_sift_24 rfl ?_
        refine v_aload_n X dX0_sift_25 rfl ?_
        refine v_getr X fl_X0_18 shX0_1 dX0_sift_26 ?_
        refine v_iload_n X dX0_sift_29 rfl ?_
        refine v_ialdE X arX0_1 rfl (show c < 2048 by omega) dX0_sift_30 ?_
        rw [ew]
        refine v_iload_n X dX0_sift_31 rfl ?_
        refine v_aload_n X dX0_sift_32 rfl ?_
        refine v_getr X fl_X0_18 shX0_1 dX0_sift_33 ?_
        refine v_iload_n X dX0_sift_36 rfl ?_
        refine v_ialdE X arX0_1 rfl (show c < 2048 by omega) dX0_sift_37 ?_
        rw [ew]
        refine v_iconst (v := (-1)) X dX0_sift_38 (by decide) ?_
        refine v_ixor X dX0_sift_39 ?_
        refine v_iand X dX0_sift_40 ?_
        refine v_top (nb_not _ _) ?_
        refine v_calv X (c_consider G (hs_fO hP g1 (by decide)) g3 hlen (by omega) hw31) cv_X0_80 obX0 rfl (by decide) rfl (by rfl) (Nat.le_of_ble_eq_true rfl) dX0_sift_41 (fun υ hp => ?_)
        obtain ⟨k1, k2, f', k3, k4, k5⟩ := hp
        refine v_iinc X dX0_sift_44 rfl ?_
        show V G Z _ 47 [_, _, _] _
        refine v_goto (tgt := 20) X dX0_sift_47 (by decide) ?_
        refine ih υ f' _ ?_ (by omega) (by omega) (g1.trans k1) (fun x w' hx hx' => ?_) ?_
        · rcases Nat.eq_zero_or_pos c with z | z
          · subst z; exact Or.inl ⟨rfl, by decide⟩
          · exact Or.inr ⟨z, nI_dec z⟩
        · rw [k2 x (by omega)]; exact g2 x w' (by omega) hx'
        · rw [hd]; exact k3
  refine v_aload_n X dX0_sift_0 rfl ?_
  refine v_cali X (c_implications G hP) cv_X0_76 obX0 rfl (by decide) rfl (by rfl) (Nat.le_of_ble_eq_true rfl) dX0_sift_1 (fun r τ9 hq => ?_)
  obtain ⟨e9, rfl⟩ := hq
  rw [e9]
  refine v_istore_n X dX0_sift_4 (Nat.le_of_ble_eq_true rfl) ?_
  show V G Z _ 5 [_, _, _] _
  refine v_aload_n X dX0_sift_5 rfl ?_
  refine v_aload_n X dX0_sift_6 rfl ?_
  refine v_geti X fl_X0_32 shX0_5 dX0_sift_7 ?_
  rw [he]
  refine v_puti X fw_X0_28 shX0_4 dX0_sift_10 rfl rfl ?_
  refine v_aload_n X dX0_sift_13 rfl ?_
  refine v_geti X fl_X0_32 shX0_5 dX0_sift_14 ?_
  rw [s2_ap, if_neg (by decide), he]
  refine v_iconst (v := nI 1) X dX0_sift_17 (by decide) ?_
  refine v_isub X dX0_sift_18 ?_
  refine v_istore_n X dX0_sift_19 (Nat.le_of_ble_eq_true rfl) ?_
  show V G Z _ 20 [_, _, _] _
  refine loop (clL P P.length).length _ (clL P P.length).length _ ?_ (Nat.le_refl _) (Nat.le_refl _) (fO.rfl.s2 (by decide) (by decide)) (fun x w _ h => ?_) ?_
  · rcases Nat.eq_zero_or_pos (clL P P.length).length with z | z
    · rw [z]; exact Or.inl ⟨rfl, by decide⟩
    · exact Or.inr ⟨z, nI_s1 z⟩
  · rw [s2_nc (by decide)]; exact hL x w h
  · rw [List.drop_length]
    exact ⟨rfl, s2_at _ _ _ _, by rw [s2_ap, if_neg (by decide)]; exact he, fun y q h => by simp [sfL] at h⟩
/-- the Frame: turned to P, and its rows hold the worlds of P -/
def frm (τ : Sg) (P : Sen) : Prop := hz τ 19 P ∧ (0 < P.length → ∃ f e, kI τ (wlK P) f e ∧ e ≤ 2048)
def fT (σ τ : Sg) : Prop := ∀ c, (c < 133 ∨ (140 ≤ c ∧ c < 151) ∨ 155 ≤ c) → τ c = σ c
theorem fT.rfl {σ : Sg} : fT σ σ := fun _ _ => by rfl
theorem fT.trans {σ τ υ : Sg} (h1 : fT σ τ) (h2 : fT τ υ) : fT σ υ := fun i h => (h2 i h).trans (h1 i h)
theorem clL_0 (P : Sen) : clL P 0 = [0] := by simp [clL, clP]
set_option maxHeartbeats 4000000 in
set_option maxRecDepth 100000 in
theorem c_turnTo (G : GT) {σ : Sg} {i : Nat} (hi : i < 19) {P Q : Sen} (hF : frm σ P) (hQ : hz σ i Q) (hQ0 : 0 < Q.length) : MV G yX0_turnTo cX0_turnTo 3 3 [.ref (G.2.2.1 151), .ref (G.2.2.1 (7 * i))] σ (fun τ => fT σ τ ∧ frm τ Q) := by
  refine MV_of (by decide) (ca1 rfl (ca1 rfl ca0)) (Nat.le_of_ble_eq_true rfl) ?_
  intro Z X hR
  show V G Z σ 0 [some (.ref (G.2.2.1 151)), some (.ref (G.2.2.1 (7 * i))), none] []
  have loop : ∀ (n k : Nat) (τ : Sg), Q.length - k < n → k ≤ Q.length → fT σ τ → hz τ 19 Q → τ 151 5 = nI (clL Q k).length → arr (τ 152) (clL Q k) → V G Z τ 34 [some (.ref (G.2.2.1 151)), some (.ref (G.2.2.1 (7 * i))), some (.int (nI k))] [] := by
    intro n
    induction n with
    | zero => intro k τ h; omega
    | succ n ih =>
      intro k τ hn hkl g1 g2 g3 g4
      have hQ11 := hQ.1.1
      refine v_iload_n X dX0_turnTo_34 rfl ?_
      refine v_aload_n X dX0_turnTo_35 rfl ?_
      refine v_getr X fl_X0_12 shX0_0 dX0_turnTo_36 ?_
      refine v_geti X fl_X0_43 (shX1_0 (by first | assumption | omega)) dX0_turnTo_39 ?_
      rw [g2.1.2.2.1]
      refine v_icmp_ge (tgt := 56) X dX0_turnTo_42 (by decide) (fun h42 => ?_) (fun h42 => ?_)
      · skip
        have hk := nI_lem (by omega) (by omega) h42
        have hk : k = Q.length := by omega
        subst hk
        refine v_aload_n X dX0_turnTo_56 rfl ?_
        refine v_calv X (c_sift G g2.1 g3 g4) cv_X0_50 obX0 rfl (by decide) rfl (by rfl) (Nat.le_of_ble_eq_true rfl) dX0_turnTo_57 (fun υ hq => ?_)
        obtain ⟨k1, f, e, k2, k3⟩ := hq
        refine v_vret X hR dX0_turnTo_60 ?_
        exact ⟨g1.trans (fun c hc => k1 c (by omega)), ⟨hs_fO g2.1 k1 (by decide), by rw [k1 _ (by omega)]; exact g2.2⟩, fun _ => ⟨f, e, k2, k3⟩⟩
      · skip
        have hk := nI_len (by omega) (by omega) h42
        obtain ⟨p, hp⟩ : ∃ p, Q[k]? = some p := ⟨Q[k], List.getElem?_eq_getElem hk⟩
        refine v_aload_n X dX0_turnTo_45 rfl ?_
        refine v_iload_n X dX0_turnTo_46 rfl ?_
        refine v_calv X (c_decide G g2.1 hp g3 g4) cv_X0_46 obX0 rfl (by decide) rfl (by rfl) (Nat.le_of_ble_eq_true rfl) dX0_turnTo_47 (fun υ hq => ?_)
        obtain ⟨k1, k2, k3⟩ := hq
        refine v_iincE X dX0_turnTo_50 rfl (nI_inc k) ?_
        show V G Z _ 53 [_, _, _] _
        refine v_goto (tgt := 34) X dX0_turnTo_53 (by decide) ?_
        exact ih (k + 1) υ (by omega) (by omega) (g1.trans (fun c hc => k1 c (by omega))) ⟨hs_fO g2.1 k1 (by decide), by rw [k1 _ (by omega)]; exact g2.2⟩ k2 k3
  refine v_aload_n X dX0_turnTo_0 rfl ?_
  refine v_getr X fl_X0_12 shX0_0 dX0_turnTo_1 ?_
  refine v_aload_n X dX0_turnTo_4 rfl ?_
  refine v_cali X (c_sameAs G (j := 19) (i := i) (by decide) (by omega) hF.1.1 hQ.1) cv_X0_35 (obX1 (by first | assumption | omega)) rfl (by decide) rfl (by rfl) (Nat.le_of_ble_eq_true rfl) dX0_turnTo_5 (fun r τ9 hq => ?_)
  obtain ⟨e9, rfl⟩ := hq
  rw [e9]
  refine v_if_eq (tgt := 12) X dX0_turnTo_8 (by decide) (fun h8 => ?_) (fun h8 => ?_)
  · skip
    have hne := of_decide_eq_false (bI_z.mp h8)
    refine v_aload_n X dX0_turnTo_12 rfl ?_
    refine v_getr X fl_X0_12 shX0_0 dX0_turnTo_13 ?_
    refine v_aload_n X dX0_turnTo_16 rfl ?_
    refine v_calv X (c_copyFrom G (j := 19) (i := i) (by decide) (by omega) (by omega) hQ.1 hQ.2) cv_X0_39 (obX1 (by first | assumption | omega)) rfl (by decide) rfl (by rfl) (Nat.le_of_ble_eq_true rfl) dX0_turnTo_17 (fun υ hq => ?_)
    obtain ⟨k1, k2, k3, k4⟩ := hq
    refine v_aload_n X dX0_turnTo_20 rfl ?_
    refine v_getr X fl_X0_18 shX0_1 dX0_turnTo_21 ?_
    refine v_iconst (v := nI 0) X dX0_turnTo_24 (by decide) ?_
    refine v_iconst (v := nI 0) X dX0_turnTo_25 (by decide) ?_
    refine v_iastE X arX0_1 rfl (show 0 < 2048 by decide) dX0_turnTo_26 ?_
    refine v_aload_n X dX0_turnTo_27 rfl ?_
    refine v_iconst (v := nI 1) X dX0_turnTo_28 (by decide) ?_
    refine v_puti X fw_X0_32 shX0_5 dX0_turnTo_29 rfl rfl ?_
    refine v_iconst (v := nI 0) X dX0_turnTo_32 (by decide) ?_
    refine v_istore_n X dX0_turnTo_33 (Nat.le_of_ble_eq_true rfl) ?_
    show V G Z _ 34 [_, _, _] _
    refine loop (Q.length + 1) 0 _ (by omega) (by omega) (fun c hc => ?_) ⟨hs_cong k2 ?_ (fun q _ _ => ?_), ?_⟩ ?_ ?_
    · rw [s2_nc (by omega), s2_nc (by omega)]; exact k1 c (by omega)
    · rw [s2_nc (by decide), s2_nc (by decide)]
    · rw [s2_nc (by omega), s2_nc (by omega)]
    · rw [s2_nc (by decide), s2_nc (by decide)]; exact k3
    · rw [s2_at, clL_0]; rfl
    · rw [s2_nc (by decide), clL_0]
      intro x w hx
      cases x with
      | zero => have : 0 = w := by simpa using hx
                rw [← this, s2_at]
      | succ x => simp at hx
  · skip
    have heq := of_decide_eq_true (bI_nz.mp h8)
    subst heq
    refine v_vret X hR dX0_turnTo_11 ?_
    exact ⟨fT.rfl, hF⟩
