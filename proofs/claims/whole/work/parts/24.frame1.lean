set_option maxHeartbeats 4000000 in
set_option maxRecDepth 100000 in
theorem c_has (G : GT) {σ : Sg} (w : Nat) {k : Nat} (hk : k < 32) : MC G yX4_has cX4_has 2 .boolean 0 [.int (nI w), .int (nI k)] σ (fun r τ => τ = σ ∧ r = bI (w.testBit k)) := by
  refine MC_of (by decide) (ca1 rfl (ca1 rfl ca0)) (Nat.le_of_ble_eq_true rfl) ?_
  intro Z X hR
  show V G Z σ 0 [some (.int (nI w)), some (.int (nI k))] []
  refine v_iload_n X dX4_has_0 rfl ?_
  refine v_iload_n X dX4_has_1 rfl ?_
  refine v_iushr X dX4_has_2 ?_
  refine v_iconst (v := nI 1) X dX4_has_3 (by decide) ?_
  refine v_iand X dX4_has_4 ?_
  refine v_top (nb_has w hk) ?_
  refine v_if_eq (tgt := 12) X dX4_has_5 (by decide) (fun h5 => ?_) (fun h5 => ?_)
  · skip
    have e := bI_z.mp h5
    refine v_iconst (v := nI 0) X dX4_has_12 (by decide) ?_
    refine v_ret X hR dX4_has_13 rfl ?_
    exact ⟨rfl, by rw [e]; rfl⟩
  · skip
    have e := bI_nz.mp h5
    refine v_iconst (v := nI 1) X dX4_has_8 (by decide) ?_
    refine v_goto (tgt := 13) X dX4_has_9 (by decide) ?_
    refine v_ret X hR dX4_has_13 rfl ?_
    exact ⟨rfl, by rw [e]; rfl⟩

section VFRAME
variable {G : GT} {own : String} {cc : ByteArray} {lev : Nat} {Z : ZT} {σ : Sg} {pc : Nat} {lo : List (Option Value)} {st : List Value}
theorem wd_has1 : Cond.static yX4_has ∈ BG := bg_of 476 (by decide +kernel) rfl
theorem wd_has2 : Cond.code yX4_has cX4_has 2 (some .boolean) ∈ BG := bg_of 477 (by decide +kernel) rfl
theorem wd_has3 : Cond.initialized yX4_has.cls ∈ BG := cs_X4_161.1.2.2.1
theorem v_hasN {w k : Nat} {rest : List Value} (X : Cx G RX0 cc lev Z) (h0 : 0 < lev) (hk : k < 32) (hcat : (rest.map fun v => v.category).sum ≤ 8) (d : decode cc pc = .ok (.invokestatic 72, 3)) (kk : V G Z σ (pc + 3) lo (.int (bI (w.testBit k)) :: rest)) : V G Z σ pc lo (.int (nI k) :: .int (nI w) :: rest) := by
  have hM : MC G yX4_has cX4_has 2 .boolean 0 [.int (nI w), .int (nI k)] σ (fun r τ => τ = σ ∧ r = bI (w.testBit k)) := c_has G w hk
  obtain ⟨p, l, e, R, s, m, args, below, meth, c, cs, sl, Q⟩ := Z
  obtain ⟨hx, hb, ho, ht, hK, hG, hS0, hr, hlk⟩ := X
  intro H locs ls hP hS hl
  have hT := (rml_ok (n := 2) h0 (by decide) ⟨hr.1, hr.2.1⟩)
  have cw : va_CN R s args RX0 72 yX4_has "StrictSentences" cX4_has 2 (some .boolean) (.code yX4_has cX4_has 2 (some .boolean) :: BG) (rml 0) 0 0 2 ∧ (Cond.static yX4_has).before args s = true ∧ True := ⟨va_cnB 2 ht (good_cons wd_has2) rfl rfl rfl hS0.2.2.2.2.1 (ht _ wd_has3) ⟨by decide +kernel, by decide +kernel, by decide +kernel⟩ hT, ht _ wd_has1, trivial⟩
  refine va_calli (va_runSN (As := [.int (nI w), .int (nI k)]) (rest := rest) ⟨hx, hb, rfl, ho, ht⟩ (hM l) cw ⟨wd_blind G σ _, fun U hU hW => ⟨rfl, hG, by rw [hU]; exact hP, va_K.moved hW.alike hK, ?_⟩⟩ rfl rfl hl.2.2.1 rfl (lv_room hcat) d ⟨hr.2.2.1, hr.2.2.2⟩) hS (fun q _ h => h) (fun q h => h) (fun r u t H1 locs1 ht1 hvm hw hB hz1 hk1 hS1 => ?_)
  · rw [hU]; exact St.warm hW (hS0.kept (fun a h1 h2 => hS.2.1 a h1 h2))
  · obtain ⟨rfl, rfl⟩ := hw
    exact kk H1 locs1 ls (by rw [← ht1]; exact hB) hS1 hl
theorem wd_cp1 : Cond.methodLink RX0 57 arraycopyName ∈ BG := bg_of 478 (by decide +kernel) rfl
theorem wd_cp2 : Cond.static arraycopyName ∈ BG := bg_of 479 (by decide +kernel) rfl
theorem wd_cp3 : Cond.native arraycopyName ∈ BG := bg_of 480 (by decide +kernel) rfl
theorem wd_cp4 : Cond.initialized "java/lang/System" ∈ BG := bg_of 61 (by decide +kernel) rfl
theorem nf_words : nativeFrameWords "java/lang/System" "arraycopy" 5 + 11 + 8 ≤ 60 := by decide +kernel
theorem v_copyi {i0 i1 n0 n1 sp dp n : Nat} {rest : List Value} (X : Cx G RX0 cc lev Z) (h0 : 0 < lev) (ha0 : aI i0 n0) (ha1 : aI i1 n1) (h1 : sp + n ≤ n0) (h2 : dp + n ≤ n1) (hn0 : n0 ≤ 2048) (hn1 : n1 ≤ 2048) (hcat : (rest.map fun v => v.category).sum ≤ 8) (d : decode cc pc = .ok (.invokestatic 57, 3)) (kk : V G Z (s1 σ i1 (va_cpy (σ i0) (σ i1) sp dp n)) (pc + 3) lo rest) : V G Z σ pc lo (.int (nI n) :: .int (nI dp) :: .ref (G.2.2.1 i1) :: .int (nI sp) :: .ref (G.2.2.1 i0) :: rest) := by
  obtain ⟨p, l, e, R, s, m, args, below, meth, c, cs, sl, Q⟩ := Z
  obtain ⟨hx, hb, ho, ht, hK, hG, hS0, hr, hlk⟩ := X
  intro H locs ls hP hS hl
  obtain ⟨hi0, e0⟩ := ha0
  obtain ⟨hi1, e1⟩ := ha1
  have he0 := wl_at G σ hi0
  have he1 := wl_at G σ hi1
  rw [e0] at he0
  rw [e1] at he1
  have c1 : (nI sp).toNatClampNeg = sp := nI_clamp (by omega)
  have c2 : (nI dp).toNatClampNeg = dp := nI_clamp (by omega)
  have c3 : (nI n).toNatClampNeg = n := nI_clamp (by omega)
  have hr1 := hr.1
  have hr2 := hr.2.1
  simp only [lcl] at hr2
  have hnf := nf_words
  refine va_copyi hx hb hl.2.2.1.symm ho (ht _ wd_cp1) (ht _ wd_cp3) (ht _ wd_cp2) (ht _ wd_cp4) hK hP (wl_D hG σ) hS i0 i1 0 0 he0 he1 rfl rfl rfl (nI_pos (by omega)) (nI_pos (by omega)) (nI_pos (by omega)) (by rw [c1, c3]; exact h1) (by rw [c2, c3]; exact h2) (fun _ _ => rfl) (by omega) (by omega) d (fun H1 locs1 hP1 _ hS1 => ?_)
  rw [c1, c2, c3] at hP1
  have hw := wl_set G σ hi1 (va_cpy (σ i0) (σ i1) sp dp n)
  rw [e1] at hw
  rw [show (Sum.inl (G.2.1 0, n1, Sum.inl (va_cpy (σ i0) (σ i1) sp dp n)) : va_E) = ce G (.inl (0, n1)) (va_cpy (σ i0) (σ i1) sp dp n) from rfl, hw] at hP1
  exact kk H1 locs1 ls hP1 hS1 hl
end VFRAME
def arr (f : Nat → Int32) (L : List Nat) : Prop := ∀ x w, L[x]? = some w → f x = nI w
theorem arr_snoc {f : Nat → Int32} {L : List Nat} {w : Nat} (h : arr f L) : arr (upd f L.length (nI w)) (L ++ [w]) := by
  intro x v hx
  rw [List.getElem?_append] at hx
  split at hx
  · rename_i hlt
    rw [upd, if_neg (by omega)]; exact h x v hx
  · have : x - L.length = 0 := by
      rcases Nat.eq_zero_or_pos (x - L.length) with z | z
      · exact z
      · rw [List.getElem?_eq_none (by simp; omega)] at hx; cases hx
    rw [this] at hx
    have hx : w = v := by simpa using hx
    subst hx
    rw [upd, if_pos (by omega)]
theorem arr_upd {f : Nat → Int32} {L : List Nat} {k : Nat} {v : Int32} (h : arr f L) (hk : L.length ≤ k) : arr (upd f k v) L := by
  intro x w hx
  have := (List.getElem?_eq_some_iff.mp hx).1
  rw [upd, if_neg (by omega)]; exact h x w hx
theorem s2_c (σ : Sg) (i k : Nat) (x : Int32) : s2 σ i k x i = upd (σ i) k x := by simp [s2, s1]
theorem or_add {w k : Nat} (h : w < 2 ^ k) : w ||| 2 ^ k = 2 ^ k + w := by
  have := Nat.two_pow_add_eq_or_of_lt h 1
  rw [Nat.mul_one] at this
  rw [this, Nat.or_comm]
set_option maxHeartbeats 4000000 in
set_option maxRecDepth 100000 in
theorem c_waysOf (G : GT) {σ : Sg} {P : Sen} (hP : hs σ 19 P) {k : Nat} {p : Pt} (hp : P[k]? = some p) (w : Nat) : MC G yX0_waysOf cX0_waysOf 5 .int 1 [.ref (G.2.2.1 151), .int (nI k), .int (nI w)] σ (fun r τ => τ = σ ∧ r = nI ((if wyI p w then 2 else 0) + (if wyO p w then 1 else 0))) := by
  refine MC_of (by decide) (ca1 rfl (ca1 rfl (ca1 rfl ca0))) (Nat.le_of_ble_eq_true rfl) ?_
  intro Z X hR
  show V G Z σ 0 [some (.ref (G.2.2.1 151)), some (.int (nI k)), some (.int (nI w)), none, none] []
  obtain ⟨p1, p2, p3, p4, p5⟩ := hP
  have hk := (List.getElem?_eq_some_iff.mp hp).1
  obtain ⟨e1, e2, e3⟩ := p4 k p hp
  have hok := p2 k p hp
  have hk4 := hok.k4
  refine v_aload_n X dX0_waysOf_0 rfl ?_
  refine v_getr X fl_X0_12 shX0_0 dX0_waysOf_1 ?_
  refine v_getr X fl_X0_63 (shX1_3 (by first | assumption | omega)) dX0_waysOf_4 ?_
  refine v_iload_n X dX0_waysOf_7 rfl ?_
  refine v_ialdE X (arX1_3 (by first | assumption | omega)) rfl (show k < 11 by omega) dX0_waysOf_8 ?_
  rw [e2]
  refine v_istore_n X dX0_waysOf_9 (Nat.le_of_ble_eq_true rfl) ?_
  show V G Z _ 10 [_, _, _, _, _] _
  refine v_aload_n X dX0_waysOf_10 rfl ?_
  refine v_getr X fl_X0_12 shX0_0 dX0_waysOf_11 ?_
  refine v_getr X fl_X0_66 (shX1_4 (by first | assumption | omega)) dX0_waysOf_14 ?_
  refine v_iload_n X dX0_waysOf_17 rfl ?_
  refine v_ialdE X (arX1_4 (by first | assumption | omega)) rfl (show k < 11 by omega) dX0_waysOf_18 ?_
  rw [e3]
  refine v_istore X dX0_waysOf_19 (Nat.le_of_ble_eq_true rfl) ?_
  show V G Z _ 21 [_, _, _, _, _] _
  refine v_aload_n X dX0_waysOf_21 rfl ?_
  refine v_getr X fl_X0_12 shX0_0 dX0_waysOf_22 ?_
  refine v_getr X fl_X0_69 (shX1_2 (by first | assumption | omega)) dX0_waysOf_25 ?_
  refine v_iload_n X dX0_waysOf_28 rfl ?_
  refine v_ialdE X (arX1_2 (by first | assumption | omega)) rfl (show k < 11 by omega) dX0_waysOf_29 ?_
  rw [e1]
  rcases (show p.1 = 0 ∨ p.1 = 1 ∨ p.1 = 2 ∨ p.1 = 3 ∨ p.1 = 4 by omega) with z | z | z | z | z
  · rw [show pK p = nI 0 from by rw [pK, z]]
    refine v_tabIn (off := 34) (tgt := 64) X dX0_waysOf_30 (by decide) (by decide) (by decide) (by decide) ?_
    refine v_iconst (v := nI 3) X dX0_waysOf_64 (by decide) ?_
    refine v_ret X hR dX0_waysOf_65 rfl ?_
    exact ⟨rfl, by simp [wyI, wyO, z]⟩
  · rw [show pK p = nI 1 from by rw [pK, z]]
    refine v_tabIn (off := 109) (tgt := 139) X dX0_waysOf_30 (by decide) (by decide) (by decide) (by decide) ?_
    refine v_iconst (v := nI 1) X dX0_waysOf_139 (by decide) ?_
    refine v_ret X hR dX0_waysOf_140 rfl ?_
    exact ⟨rfl, by simp [wyI, wyO, z]⟩
  · rw [show pK p = nI 2 from by rw [pK, z]]
    refine v_tabIn (off := 36) (tgt := 66) X dX0_waysOf_30 (by decide) (by decide) (by decide) (by decide) ?_
    rw [show pA p = nI p.2.1 from if_neg (by omega), show pB p = nI p.2.2 from if_neg (by omega)]
    have hab : p.2.1 < k ∧ p.2.2 < k := by
      rcases hok with ⟨q, -⟩ | ⟨q, -⟩ | ⟨-, -, q1, q2⟩
      · omega
      · omega
      · exact ⟨q1, q2⟩
    refine v_iload_n X dX0_waysOf_66 rfl ?_
    refine v_iload_n X dX0_waysOf_67 rfl ?_
    refine v_hasN X (by decide) (by omega) (Nat.le_of_ble_eq_true rfl) dX0_waysOf_68 ?_
    refine v_if_eq (tgt := 87) X dX0_waysOf_71 (by decide) (fun h71 => ?_) (fun h71 => ?_)
    · skip
      have ha := bI_z.mp h71
      refine v_iconst (v := nI 1) X dX0_waysOf_87 (by decide) ?_
      refine v_ret X hR dX0_waysOf_88 rfl ?_
      exact ⟨rfl, by simp [wyI, wyO, z, ha]⟩
    · skip
      have ha := bI_nz.mp h71
      refine v_iload_n X dX0_waysOf_74 rfl ?_
      refine v_iload X dX0_waysOf_75 rfl ?_
      refine v_hasN X (by decide) (by omega) (Nat.le_of_ble_eq_true rfl) dX0_waysOf_77 ?_
      refine v_if_eq (tgt := 87) X dX0_waysOf_80 (by decide) (fun h80 => ?_) (fun h80 => ?_)
      · skip
        have hb := bI_z.mp h80
        refine v_iconst (v := nI 1) X dX0_waysOf_87 (by decide) ?_
        refine v_ret X hR dX0_waysOf_88 rfl ?_
        exact ⟨rfl, by simp [wyI, wyO, z, ha, hb]⟩
      · skip
        have hb := bI_nz.mp h80
        refine v_iconst (v := nI 2) X dX0_waysOf_83 (by decide) ?_
        refine v_goto (tgt := 88) X dX0_waysOf_84 (by decide) ?_
        refine v_ret X hR dX0_waysOf_88 rfl ?_
        exact ⟨rfl, by simp [wyI, wyO, z, ha, hb]⟩
  · rw [show pK p = nI 3 from by rw [pK, z]]
    refine v_tabIn (off := 59) (tgt := 89) X dX0_waysOf_30 (by decide) (by decide) (by decide) (by decide) ?_
    rw [show pA p = nI p.2.1 from if_neg (by omega), show pB p = nI p.2.2 from if_neg (by omega)]
    have hab : p.2.1 < k ∧ p.2.2 < k := by
      rcases hok with ⟨q, -⟩ | ⟨q, -⟩ | ⟨-, -, q1, q2⟩
      · omega
      · omega
      · exact ⟨q1, q2⟩
    refine v_iload_n X dX0_waysOf_89 rfl ?_
    refine v_iload_n X dX0_waysOf_90 rfl ?_
    refine v_hasN X (by decide) (by omega) (Nat.le_of_ble_eq_true rfl) dX0_waysOf_91 ?_
    refine v_if_ne (tgt := 106) X dX0_waysOf_94 (by decide) (fun h94 => ?_) (fun h94 => ?_)
    · skip
      have ha := bI_nz.mp h94
      refine v_iconst (v := nI 2) X dX0_waysOf_106 (by decide) ?_
      refine v_goto (tgt := 111) X dX0_waysOf_107 (by decide) ?_
      refine v_ret X hR dX0_waysOf_111 rfl ?_
      exact ⟨rfl, by simp [wyI, wyO, z, ha]⟩
    · skip
      have ha := bI_z.mp h94
      refine v_iload_n X dX0_waysOf_97 rfl ?_
      refine v_iload X dX0_waysOf_98 rfl ?_
      refine v_hasN X (by decide) (by omega) (Nat.le_of_ble_eq_true rfl) dX0_waysOf_100 ?_
      refine v_if_eq (tgt := 110) X dX0_waysOf_103 (by decide) (fun h103 => ?_) (fun h103 => ?_)
      · skip
        have hb := bI_z.mp h103
        refine v_iconst (v := nI 1) X dX0_waysOf_110 (by decide) ?_
        refine v_ret X hR dX0_waysOf_111 rfl ?_
        exact ⟨rfl, by simp [wyI, wyO, z, ha, hb]⟩
      · skip
        have hb := bI_nz.mp h103
        refine v_iconst (v := nI 2) X dX0_waysOf_106 (by decide) ?_
        refine v_goto (tgt := 111) X dX0_waysOf_107 (by decide) ?_
        refine v_ret X hR dX0_waysOf_111 rfl ?_
        exact ⟨rfl, by simp [wyI, wyO, z, ha, hb]⟩
  · rw [show pK p = nI 4 from by rw [pK, z]]
    refine v_tabIn (off := 82) (tgt := 112) X dX0_waysOf_30 (by decide) (by decide) (by decide) (by decide) ?_
    rw [show pA p = nI p.2.1 from if_neg (by omega), show pB p = nI p.2.2 from if_neg (by omega)]
    have hab : p.2.1 < k ∧ p.2.2 < k := by
      rcases hok with ⟨q, -⟩ | ⟨q, -⟩ | ⟨-, -, q1, q2⟩
      · omega
      · omega
      · exact ⟨q1, q2⟩
    refine v_iload_n X dX0_waysOf_112 rfl ?_
    refine v_iload X dX0_waysOf_113 rfl ?_
    refine v_hasN X (by decide) (by omega) (Nat.le_of_ble_eq_true rfl) dX0_waysOf_115 ?_
    refine v_if_eq (tgt := 125) X dX0_waysOf_118 (by decide) (fun h118 => ?_) (fun h118 => ?_)
    · skip
      have ha := bI_z.mp h118
      refine v_iload_n X dX0_waysOf_125 rfl ?_
      refine v_iload_n X dX0_waysOf_126 rfl ?_
      refine v_hasN X (by decide) (by omega) (Nat.le_of_ble_eq_true rfl) dX0_waysOf_127 ?_
      refine v_if_eq (tgt := 137) X dX0_waysOf_130 (by decide) (fun h130 => ?_) (fun h130 => ?_)
      · skip
        have hb := bI_z.mp h130
        refine v_iconst (v := nI 3) X dX0_waysOf_137 (by decide) ?_
        refine v_ret X hR dX0_waysOf_138 rfl ?_
        exact ⟨rfl, by simp [wyI, wyO, z, ha, hb]⟩
      · skip
        have hb := bI_nz.mp h130
        refine v_iconst (v := nI 1) X dX0_waysOf_133 (by decide) ?_
        refine v_goto (tgt := 138) X dX0_waysOf_134 (by decide) ?_
        refine v_ret X hR dX0_waysOf_138 rfl ?_
        exact ⟨rfl, by simp [wyI, wyO, z, ha, hb]⟩
    · skip
      have ha := bI_nz.mp h118
      refine v_iconst (v := nI 2) X dX0_waysOf_121 (by decide) ?_
      refine v_goto (tgt := 138) X dX0_waysOf_122 (by decide) ?_
      refine v_ret X hR dX0_waysOf_138 rfl ?_
      exact ⟨rfl, by simp [wyI, wyO, z, ha]⟩
