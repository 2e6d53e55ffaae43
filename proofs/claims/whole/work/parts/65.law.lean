def R_law : String := "StrictSentencesLaw"
def lw_P (b : Addr) (xs : List Int32) (args : Array Value) (s : State) : Prop := args = #[.ref b] ∧ s.IntsAt b xs ∧ xs.length ≤ 2560 ∧ (Jvm.Cond.and given_1 narrow_1).before args s = true
def lw_Q (_ : Array Value) (s : State) (o : Outcome) (t : State) : Prop := o = .returned (some (.int 1)) ∧ Framed s o t [] 600000 7302250
def lw_Z (below : List Frame) (a : Array Value) (s : State) : State → Prop := fun t => ∃ o, t.status = .running ∧ Ended t below o ∧ lw_Q a s o t
/-- the law's own end, with 1 on the stack, nothing written that was there before, its room as the claim has it -/
theorem lw_ret {p : Program} {l : Launch} {e : Env} {s : State} {m : MethodId} {below : List Frame} {meth : Method} {c : Code} {b : Nat} (hx : p.tables.exec = Jvm.exec) (hb : c.code = code) (hr : meth.sig.returnType = ret) (hlocks : meth.locks = false) {pc : Nat} {H : Heap} {ls : Array Slot} (hdg : decode code pc = .ok (.ireturn, 1)) : W p l e room_1 s m #[Value.ref b] below meth c H [] 600000 7302250 (lw_Z below #[Value.ref b] s) (F0 m pc ls [.int 1]) := by
  intro T hT X
  obtain ⟨fs, hret, hrun, hended, hW, hframe⟩ := X.leave (v := some (.int 1)) (hlocks := hlocks) (fun h => by rw [hr] at h; cases h)
  have hmeth' : T.vm.method? m = some meth := X.method'
  refine ⟨T.setFrames fs, ?_, .returned (some (.int 1)), hrun, hended, rfl, ⟨_, rfl⟩, hW, hframe⟩
  jvm_step X.here [X.here.top, hx, hb, hdg, hmeth', hr, ret, narrow_b1]
  (try refine ⟨rfl, ?_⟩); (try refine ⟨rfl, ?_⟩)
  first | (intro acts; rw [hret _ acts rfl rfl rfl]) | rw [hret _ _ rfl rfl rfl]
  exact Steps.refl _
/-- what holds at the law's entry: the machine, the code, the tables' words (any of lw_tbl by 'hts w (by decide +kernel)'), the script of L ints xs at the cell b, what the Statement gives of the start (any of its parts by flat_of_before) -/
def lw_At (p : Program) (s : State) (m : MethodId) (meth : Method) (c : Code) (b L : Nat) (xs : Nat → Int32) : Prop :=
  p.tables.exec = Jvm.exec ∧ c.code = code ∧ meth.sig.returnType = ret ∧ c.maxLocals = 4 ∧ s.vm.findClass R_law = some m.cls ∧ (∀ w ∈ lw_tbl, w.before #[Value.ref b] s = true) ∧ va_X b L xs s s.heap ∧ b < s.heap.size ∧ meth.locks = false ∧ (Jvm.Cond.and given_1 narrow_1).before #[Value.ref b] s = true
/-! THE LAW'S LOOP -/
theorem mR_mO {σ τ : Sg} {A : ASt} (h : mR σ A) (o : mO σ τ) : mR τ A := by
  obtain ⟨h1, h2, h3, h4, h5⟩ := h
  refine ⟨fun i hi => ?_, ⟨h2.1, by rw [o 156 (by omega)]; exact h2.2.1, fun i s hs => by rw [o 161 (by omega)]; exact h2.2.2 i s hs⟩, by rw [o 156 (by omega)]; exact h3, fun k hk => by rw [o 174 (by omega)]; exact h4 k hk, h5⟩
  have := h1 i hi
  exact ⟨this.1, this.2.1, by rw [o 157 (by omega)]; exact this.2.2.1, fun k p hk => by rw [o 158 (by omega), o 159 (by omega), o 160 (by omega)]; exact this.2.2.2 k p hk⟩
theorem cR_cO {σ τ : Sg} {A : ASt} (h : cR σ A) (o : cO σ τ) : cR τ A := by
  obtain ⟨h1, h2, h3, h4, h5, P, h6⟩ := h
  refine ⟨fun j hj => ?_, tX_cong h2 (by rw [o 147 (by omega)]) (o 148 (by omega)), by rw [o 155 (by omega)]; exact h3, by rw [o 155 (by omega)]; exact h4, h5, P, frm_cong h6 (fun i h1 h2 => o i (by omega)) (fun i h1 h2 => o i (by omega))⟩
  have := h1 j hj
  exact ⟨hs_cong this.1 (by rw [o (7 * j) (by omega)]) (fun q h1 h2 => o _ (by omega)), by rw [o (7 * j) (by omega)]; exact this.2⟩
def LX (G : GT) (Z : ZT) (b L : Nat) (xs : Nat → Int32) : Prop := match Z with
  | (_, _, _, _, s, _, _, _, _, _, _, _, _) => va_X b L xs s s.heap ∧ b < s.heap.size ∧ ¬ Ain G b
def LEd (G : GT) (Z : ZT) (b : Nat) : Prop := match Z with
  | (_, _, _, R, s, _, args, below, meth, _, cs, sl, Q) => R = room_1 ∧ args = #[Value.ref b] ∧ meth.sig.returnType = ret ∧ Q = lw_Z below #[Value.ref b] s ∧ cs ≤ 600000 ∧ sl ≤ 7302250 ∧ ∀ q, Ain G q → s.heap.size ≤ q
section LAWROWS
variable {G : GT} {own : String} {cc : ByteArray} {lev : Nat} {Z : ZT} {σ : Sg} {pc : Nat} {lo : List (Option Value)} {st : List Value}
theorem v_scx {b L k : Nat} {xs : Nat → Int32} {j : Int32} (X : Cx G own cc lev Z) (hL : LX G Z b L xs) (e : j = nI k) (hk : k < L) (h25 : L ≤ 2560) (d : decode cc pc = .ok (.iaload, 1)) (kk : V G Z σ (pc + 1) lo (.int (xs k) :: st)) : V G Z σ pc lo (.int j :: .ref b :: st) := by
  subst e
  obtain ⟨p, l, e, R, s, m, args, below, meth, c, cs, sl, Q⟩ := Z
  obtain ⟨hx, hb, ho, ht, hK, hG, hS0, hr, hlk⟩ := X
  obtain ⟨h1, h2, h3⟩ := hL
  intro H locs ls hP hS hl
  have hc : (nI k).toNatClampNeg = k := nI_clamp (by omega)
  refine va_sld hx hb h1 h2 h3 hS (fun q => ?_) d ?_
  · rcases q with q | q
    · exact nI_pos (by omega) q
    · rw [hc] at q; omega
  · rw [hc]; exact kk H locs ls hP hS hl
theorem v_scl {b L : Nat} {xs : Nat → Int32} (X : Cx G own cc lev Z) (hL : LX G Z b L xs) (d : decode cc pc = .ok (.arraylength, 1)) (kk : V G Z σ (pc + 1) lo (.int (nI L) :: st)) : V G Z σ pc lo (.ref b :: st) := by
  obtain ⟨p, l, e, R, s, m, args, below, meth, c, cs, sl, Q⟩ := Z
  obtain ⟨hx, hb, ho, ht, hK, hG, hS0, hr, hlk⟩ := X
  obtain ⟨h1, h2, h3⟩ := hL
  intro H locs ls hP hS hl
  exact va_slen hx hb h1 h2 h3 hS d (kk H locs ls hP hS hl)
theorem v_lawend {b : Nat} (X : Cx G own code lev Z) (hE : LEd G Z b) (d : decode code pc = .ok (.ireturn, 1)) : V G Z σ pc lo [.int 1] := by
  obtain ⟨p, l, e, R, s, m, args, below, meth, c, cs, sl, Q⟩ := Z
  obtain ⟨hx, hb, ho, ht, hK, hG, hS0, hr, hlk⟩ := X
  obtain ⟨rfl, rfl, h3, rfl, h5, h6, h7⟩ := hE
  intro H locs ls hP hS hl
  refine va_forget (fun q hq => h7 _ (hS.2.2 q hq)) ?_
  refine W.widen (k := 600000) (n := 7302250) h5 h6 ?_
  exact lw_ret hx hb h3 hlk d
end LAWROWS
theorem sw_18 (x : Int32) : (x.toInt < 0 ∨ 17 < x.toInt) ∨ ∃ j, j < 18 ∧ x = nI j := by
  rcases pk_ix x (n := 18) (by decide) with h | h | z
  · left; left; exact lt0_iff.mpr h
  · left; right
    have := Int32.le_iff_toInt_le.mp h
    rw [nI_toInt (by decide)] at this
    omega
  · exact Or.inr z
theorem lt5 {i L : Nat} (hL : L ≤ 2560) (hi : i ≤ L) (h : ¬ nI L - nI 5 < nI i) : i + 5 ≤ L := by
  rcases Nat.lt_or_ge L 5 with z | z
  · exfalso
    apply h
    have hneg : nI L - nI 5 < 0 := by
      rcases (show L = 0 ∨ L = 1 ∨ L = 2 ∨ L = 3 ∨ L = 4 by omega) with rfl | rfl | rfl | rfl | rfl <;> decide
    exact Int32.lt_of_lt_of_le hneg (Int32.not_lt.mp (nI_pos (by omega)))
  · rw [pk_sub z] at h
    have := nI_ltn (by omega) (by omega) h
    omega
theorem nI_i5 (i : Nat) : nI i + Int32.ofInt 5 = nI (i + 5) := by rw [show Int32.ofInt 5 = nI 5 by decide, nI_add]
set_option maxHeartbeats 4000000 in
set_option maxRecDepth 100000 in
theorem law_loop {G : GT} {Z : ZT} {b L : Nat} {xs : Nat → Int32} (X : Cx G RL cL_law 15 Z) (hL : LX G Z b L xs) (hE : LEd G Z b) (h25 : L ≤ 2560) : ∀ (n i : Nat) (σ : Sg) (A : ASt), L - i < n → i ≤ L → cR σ A → mR σ A → V G Z σ 18 [some (.ref b), some (.ref (G.2.2.1 155)), some (.ref (G.2.2.1 156)), some (.int (nI i))] [] := by
  intro n
  induction n with
  | zero => intro i σ A h; omega
  | succ n ih =>
    intro i σ A hn hil hA hM
    refine v_iload_n X dL_law_18 rfl ?_
    refine v_aload_n X dL_law_19 rfl ?_
    refine v_scl X hL dL_law_20 ?_
    refine v_iconst (v := nI 5) X dL_law_21 (by decide) ?_
    refine v_isub X dL_law_22 ?_
    refine v_icmp_gt (tgt := 660) X dL_law_23 (by decide) (fun h23 => ?_) (fun h23 => ?_)
    · refine v_iconst (v := 1) X dL_law_660 (by decide) ?_
      exact v_lawend X hE dL_law_661
    · have h5 := lt5 h25 hil h23
      have nxt : ∀ (τ : Sg) (B : ASt), cR τ B → mR τ B → V G Z τ 654 [some (.ref b), some (.ref (G.2.2.1 155)), some (.ref (G.2.2.1 156)), some (.int (nI i))] [] := by
        intro τ B hB1 hB2
        refine v_iincE X dL_law_654 rfl (nI_i5 i) ?_
        show V G Z _ 657 [_, _, _, _] _
        refine v_goto (tgt := 18) X dL_law_657 (by decide) ?_
        exact ih (i + 5) τ B (by omega) (by omega) hB1 hB2
      refine v_aload_n X dL_law_26 rfl ?_
      refine v_iload_n X dL_law_27 rfl ?_
      refine v_scx (k := i) X hL rfl (by omega) h25 dL_law_28 ?_
      refine v_bipush (v := nI 31) X dL_law_29 (by decide) ?_
      refine v_iand X dL_law_31 ?_
      rcases sw_18 (xs i &&& nI 31) with hx | ⟨j, hj, e⟩
      · refine v_tabOut (tgt := 654) X dL_law_32 hx (by decide) ?_
        exact nxt σ A hA hM
      · refine v_top e ?_
        rcases (show j = 0 ∨ j = 1 ∨ j = 2 ∨ j = 3 ∨ j = 4 ∨ j = 5 ∨ j = 6 ∨ j = 7 ∨ j = 8 ∨ j = 9 ∨ j = 10 ∨ j = 11 ∨ j = 12 ∨ j = 13 ∨ j = 14 ∨ j = 15 ∨ j = 16 ∨ j = 17 by omega) with rfl | rfl | rfl | rfl | rfl | rfl | rfl | rfl | rfl | rfl | rfl | rfl | rfl | rfl | rfl | rfl | rfl | rfl
        · refine v_tabIn (off := 88) (tgt := 120) X dL_law_32 (by decide) (by decide) (by decide) (by decide) ?_
          refine v_aload_n X dL_law_120 rfl ?_
          refine v_aload_n X dL_law_121 rfl ?_
          refine v_iload_n X dL_law_122 rfl ?_
          refine v_iconst (v := nI 1) X dL_law_123 (by decide) ?_
          refine v_iadd X dL_law_124 ?_
          refine v_scx (k := i + 1) X hL (nI_add i 1) (by omega) h25 dL_law_125 ?_
          refine v_cali X (x_say G hA (xs (i + 1))) cv_L_13 obX4 rfl (by decide) rfl (by rfl) (Nat.le_of_ble_eq_true rfl) dL_law_126 (fun r1 τ h1 => ?_)
          obtain ⟨e1, c1, o1⟩ := h1
          have m1 := mR_mO hM o1
          refine v_aload_n X dL_law_129 rfl ?_
          refine v_aload_n X dL_law_130 rfl ?_
          refine v_iload_n X dL_law_131 rfl ?_
          refine v_iconst (v := nI 1) X dL_law_132 (by decide) ?_
          refine v_iadd X dL_law_133 ?_
          refine v_scx (k := i + 1) X hL (nI_add i 1) (by omega) h25 dL_law_134 ?_
          refine v_cali X (y_say G m1 (xs (i + 1))) cv_L_17 obX5 rfl (by decide) rfl (by rfl) (Nat.le_of_ble_eq_true rfl) dL_law_135 (fun r2 υ h2 => ?_)
          obtain ⟨e2, m2, o2⟩ := h2
          have c2 := cR_cO c1 o2
          exact v_icmp_eq (tgt := 654) X dL_law_138 (by decide) (fun _ => nxt υ _ c2 m2) (fun h => absurd (e1.trans e2.symm) h)
        · refine v_tabIn (off := 111) (tgt := 143) X dL_law_32 (by decide) (by decide) (by decide) (by decide) ?_
          refine v_aload_n X dL_law_143 rfl ?_
          refine v_cali X (x_wipe G hA ) cv_L_18 obX4 rfl (by decide) rfl (by rfl) (Nat.le_of_ble_eq_true rfl) dL_law_144 (fun r1 τ h1 => ?_)
          obtain ⟨e1, c1, o1⟩ := h1
          have m1 := mR_mO hM o1
          refine v_aload_n X dL_law_147 rfl ?_
          refine v_cali X (y_wipe G m1 ) cv_L_22 obX5 rfl (by decide) rfl (by rfl) (Nat.le_of_ble_eq_true rfl) dL_law_148 (fun r2 υ h2 => ?_)
          obtain ⟨e2, m2, o2⟩ := h2
          have c2 := cR_cO c1 o2
          exact v_icmp_eq (tgt := 654) X dL_law_151 (by decide) (fun _ => nxt υ _ c2 m2) (fun h => absurd (e1.trans e2.symm) h)
        · refine v_tabIn (off := 124) (tgt := 156) X dL_law_32 (by decide) (by decide) (by decide) (by decide) ?_
          refine v_aload_n X dL_law_156 rfl ?_
          refine v_aload_n X dL_law_157 rfl ?_
          refine v_iload_n X dL_law_158 rfl ?_
          refine v_iconst (v := nI 1) X dL_law_159 (by decide) ?_
          refine v_iadd X dL_law_160 ?_
          refine v_scx (k := i + 1) X hL (nI_add i 1) (by omega) h25 dL_law_161 ?_
          refine v_cali X (x_read G hA (xs (i + 1))) cv_L_23 obX4 rfl (by decide) rfl (by rfl) (Nat.le_of_ble_eq_true rfl) dL_law_162 (fun r1 τ h1 => ?_)
          obtain ⟨e1, c1, o1⟩ := h1
          have m1 := mR_mO hM o1
          refine v_aload_n X dL_law_165 rfl ?_
          refine v_aload_n X dL_law_166 rfl ?_
          refine v_iload_n X dL_law_167 rfl ?_
          refine v_iconst (v := nI 1) X dL_law_168 (by decide) ?_
          refine v_iadd X dL_law_169 ?_
          refine v_scx (k := i + 1) X hL (nI_add i 1) (by omega) h25 dL_law_170 ?_
          refine v_cali X (y_read G m1 (xs (i + 1))) cv_L_26 obX5 rfl (by decide) rfl (by rfl) (Nat.le_of_ble_eq_true rfl) dL_law_171 (fun r2 υ h2 => ?_)
          obtain ⟨e2, m2, o2⟩ := h2
          have c2 := cR_cO c1 o2
          exact v_icmp_eq (tgt := 654) X dL_law_174 (by decide) (fun _ => nxt υ _ c2 m2) (fun h => absurd (e1.trans e2.symm) h)
        · refine v_tabIn (off := 147) (tgt := 179) X dL_law_32 (by decide) (by decide) (by decide) (by decide) ?_
          refine v_aload_n X dL_law_179 rfl ?_
          refine v_cali X (x_fault G hA ) cv_L_27 obX4 rfl (by decide) rfl (by rfl) (Nat.le_of_ble_eq_true rfl) dL_law_180 (fun r1 τ h1 => ?_)
          obtain ⟨e1, c1, o1⟩ := h1
          have m1 := mR_mO hM o1
          refine v_aload_n X dL_law_183 rfl ?_
          refine v_cali X (y_fault G m1 ) cv_L_30 obX5 rfl (by decide) rfl (by rfl) (Nat.le_of_ble_eq_true rfl) dL_law_184 (fun r2 υ h2 => ?_)
          obtain ⟨e2, m2, o2⟩ := h2
          have c2 := cR_cO c1 o2
          exact v_icmp_eq (tgt := 654) X dL_law_187 (by decide) (fun _ => nxt υ _ c2 m2) (fun h => absurd (e1.trans e2.symm) h)
        · refine v_tabIn (off := 160) (tgt := 192) X dL_law_32 (by decide) (by decide) (by decide) (by decide) ?_
          refine v_aload_n X dL_law_192 rfl ?_
          refine v_aload_n X dL_law_193 rfl ?_
          refine v_iload_n X dL_law_194 rfl ?_
          refine v_iconst (v := nI 1) X dL_law_195 (by decide) ?_
          refine v_iadd X dL_law_196 ?_
          refine v_scx (k := i + 1) X hL (nI_add i 1) (by omega) h25 dL_law_197 ?_
          refine v_aload_n X dL_law_198 rfl ?_
          refine v_iload_n X dL_law_199 rfl ?_
          refine v_iconst (v := nI 2) X dL_law_200 (by decide) ?_
          refine v_iadd X dL_law_201 ?_
          refine v_scx (k := i + 2) X hL (nI_add i 2) (by omega) h25 dL_law_202 ?_
          refine v_aload_n X dL_law_203 rfl ?_
          refine v_iload_n X dL_law_204 rfl ?_
          refine v_iconst (v := nI 3) X dL_law_205 (by decide) ?_
          refine v_iadd X dL_law_206 ?_
          refine v_scx (k := i + 3) X hL (nI_add i 3) (by omega) h25 dL_law_207 ?_
          refine v_aload_n X dL_law_208 rfl ?_
          refine v_iload_n X dL_law_209 rfl ?_
          refine v_iconst (v := nI 4) X dL_law_210 (by decide) ?_
          refine v_iadd X dL_law_211 ?_
          refine v_scx (k := i + 4) X hL (nI_add i 4) (by omega) h25 dL_law_212 ?_
          refine v_cali X (x_make G hA (xs (i + 1)) (xs (i + 2)) (xs (i + 3)) (xs (i + 4))) cv_L_31 obX4 rfl (by decide) rfl (by rfl) (Nat.le_of_ble_eq_true rfl) dL_law_213 (fun r1 τ h1 => ?_)
          obtain ⟨e1, c1, o1⟩ := h1
          have m1 := mR_mO hM o1
          refine v_aload_n X dL_law_216 rfl ?_
          refine v_aload_n X dL_law_217 rfl ?_
          refine v_iload_n X dL_law_218 rfl ?_
          refine v_iconst (v := nI 1) X dL_law_219 (by decide) ?_
          refine v_iadd X dL_law_220 ?_
          refine v_scx (k := i + 1) X hL (nI_add i 1) (by omega) h25 dL_law_221 ?_
          refine v_aload_n X dL_law_222 rfl ?_
          refine v_iload_n X dL_law_223 rfl ?_
          refine v_iconst (v := nI 2) X dL_law_224 (by decide) ?_
          refine v_iadd X dL_law_225 ?_
          refine v_scx (k := i + 2) X hL (nI_add i 2) (by omega) h25 dL_law_226 ?_
          refine v_aload_n X dL_law_227 rfl ?_
          refine v_iload_n X dL_law_228 rfl ?_
          refine v_iconst (v := nI 3) X dL_law_229 (by decide) ?_
          refine v_iadd X dL_law_230 ?_
          refine v_scx (k := i + 3) X hL (nI_add i 3) (by omega) h25 dL_law_231 ?_
          refine v_aload_n X dL_law_232 rfl ?_
          refine v_iload_n X dL_law_233 rfl ?_
          refine v_iconst (v := nI 4) X dL_law_234 (by decide) ?_
          refine v_iadd X dL_law_235 ?_
          refine v_scx (k := i + 4) X hL (nI_add i 4) (by omega) h25 dL_law_236 ?_
          refine v_cali X (y_make G m1 (xs (i + 1)) (xs (i + 2)) (xs (i + 3)) (xs (i + 4))) cv_L_35 obX5 rfl (by decide) rfl (by rfl) (Nat.le_of_ble_eq_true rfl) dL_law_237 (fun r2 υ h2 => ?_)
          obtain ⟨e2, m2, o2⟩ := h2
          have c2 := cR_cO c1 o2
          exact v_icmp_eq (tgt := 654) X dL_law_240 (by decide) (fun _ => nxt υ _ c2 m2) (fun h => absurd (e1.trans e2.symm) h)
        · refine v_tabIn (off := 213) (tgt := 245) X dL_law_32 (by decide) (by decide) (by decide) (by decide) ?_
          refine v_aload_n X dL_law_245 rfl ?_
          refine v_aload_n X dL_law_246 rfl ?_
          refine v_iload_n X dL_law_247 rfl ?_
          refine v_iconst (v := nI 1) X dL_law_248 (by decide) ?_
          refine v_iadd X dL_law_249 ?_
          refine v_scx (k := i + 1) X hL (nI_add i 1) (by omega) h25 dL_law_250 ?_
          refine v_aload_n X dL_law_251 rfl ?_
          refine v_iload_n X dL_law_252 rfl ?_
          refine v_iconst (v := nI 2) X dL_law_253 (by decide) ?_
          refine v_iadd X dL_law_254 ?_
          refine v_scx (k := i + 2) X hL (nI_add i 2) (by omega) h25 dL_law_255 ?_
          refine v_aload_n X dL_law_256 rfl ?_
          refine v_iload_n X dL_law_257 rfl ?_
          refine v_iconst (v := nI 3) X dL_law_258 (by decide) ?_
          refine v_iadd X dL_law_259 ?_
          refine v_scx (k := i + 3) X hL (nI_add i 3) (by omega) h25 dL_law_260 ?_
          refine v_cali X (x_part G hA (xs (i + 1)) (xs (i + 2)) (xs (i + 3))) cv_L_36 obX4 rfl (by decide) rfl (by rfl) (Nat.le_of_ble_eq_true rfl) dL_law_261 (fun r1 τ h1 => ?_)
          obtain ⟨e1, c1, o1⟩ := h1
          have m1 := mR_mO hM o1
          refine v_aload_n X dL_law_264 rfl ?_
          refine v_aload_n X dL_law_265 rfl ?_
          refine v_iload_n X dL_law_266 rfl ?_
          refine v_iconst (v := nI 1) X dL_law_267 (by decide) ?_
          refine v_iadd X dL_law_268 ?_
          refine v_scx (k := i + 1) X hL (nI_add i 1) (by omega) h25 dL_law_269 ?_
          refine v_aload_n X dL_law_270 rfl ?_
          refine v_iload_n X dL_law_271 rfl ?_
          refine v_iconst (v := nI 2) X dL_law_272 (by decide) ?_
          refine v_iadd X dL_law_273 ?_
          refine v_scx (k := i + 2) X hL (nI_add i 2) (by omega) h25 dL_law_274 ?_
          refine v_aload_n X dL_law_275 rfl ?_
          refine v_iload_n X dL_law_276 rfl ?_
          refine v_iconst (v := nI 3) X dL_law_277 (by decide) ?_
          refine v_iadd X dL_law_278 ?_
          refine v_scx (k := i + 3) X hL (nI_add i 3) (by omega) h25 dL_law_279 ?_
          refine v_cali X (y_part G m1 (xs (i + 1)) (xs (i + 2)) (xs (i + 3))) cv_L_40 obX5 rfl (by decide) rfl (by rfl) (Nat.le_of_ble_eq_true rfl) dL_law_280 (fun r2 υ h2 => ?_)
          obtain ⟨e2, m2, o2⟩ := h2
          have c2 := cR_cO c1 o2
          exact v_icmp_eq (tgt := 654) X dL_law_283 (by decide) (fun _ => nxt υ _ c2 m2) (fun h => absurd (e1.trans e2.symm) h)
        · refine v_tabIn (off := 256) (tgt := 288) X dL_law_32 (by decide) (by decide) (by decide) (by decide) ?_
          refine v_aload_n X dL_law_288 rfl ?_
          refine v_aload_n X dL_law_289 rfl ?_
          refine v_iload_n X dL_law_290 rfl ?_
          refine v_iconst (v := nI 1) X dL_law_291 (by decide) ?_
          refine v_iadd X dL_law_292 ?_
          refine v_scx (k := i + 1) X hL (nI_add i 1) (by omega) h25 dL_law_293 ?_
          refine v_aload_n X dL_law_294 rfl ?_
          refine v_iload_n X dL_law_295 rfl ?_
          refine v_iconst (v := nI 2) X dL_law_296 (by decide) ?_
          refine v_iadd X dL_law_297 ?_
          refine v_scx (k := i + 2) X hL (nI_add i 2) (by omega) h25 dL_law_298 ?_
          refine v_cali X (x_sign G hA (xs (i + 1)) (xs (i + 2))) cv_L_41 obX4 rfl (by decide) rfl (by rfl) (Nat.le_of_ble_eq_true rfl) dL_law_299 (fun r1 τ h1 => ?_)
          obtain ⟨e1, c1, o1⟩ := h1
          have m1 := mR_mO hM o1
          refine v_aload_n X dL_law_302 rfl ?_
          refine v_aload_n X dL_law_303 rfl ?_
          refine v_iload_n X dL_law_304 rfl ?_
          refine v_iconst (v := nI 1) X dL_law_305 (by decide) ?_
          refine v_iadd X dL_law_306 ?_
          refine v_scx (k := i + 1) X hL (nI_add i 1) (by omega) h25 dL_law_307 ?_
          refine v_aload_n X dL_law_308 rfl ?_
          refine v_iload_n X dL_law_309 rfl ?_
          refine v_iconst (v := nI 2) X dL_law_310 (by decide) ?_
          refine v_iadd X dL_law_311 ?_
          refine v_scx (k := i + 2) X hL (nI_add i 2) (by omega) h25 dL_law_312 ?_
          refine v_cali X (y_sign G m1 (xs (i + 1)) (xs (i + 2))) cv_L_45 obX5 rfl (by decide) rfl (by rfl) (Nat.le_of_ble_eq_true rfl) dL_law_313 (fun r2 υ h2 => ?_)
          obtain ⟨e2, m2, o2⟩ := h2
          have c2 := cR_cO c1 o2
          exact v_icmp_eq (tgt := 654) X dL_law_316 (by decide) (fun _ => nxt υ _ c2 m2) (fun h => absurd (e1.trans e2.symm) h)
        · refine v_tabIn (off := 289) (tgt := 321) X dL_law_32 (by decide) (by decide) (by decide) (by decide) ?_
          refine v_aload_n X dL_law_321 rfl ?_
          refine v_aload_n X dL_law_322 rfl ?_
          refine v_iload_n X dL_law_323 rfl ?_
          refine v_iconst (v := nI 1) X dL_law_324 (by decide) ?_
          refine v_iadd X dL_law_325 ?_
          refine v_scx (k := i + 1) X hL (nI_add i 1) (by omega) h25 dL_law_326 ?_
          refine v_aload_n X dL_law_327 rfl ?_
          refine v_iload_n X dL_law_328 rfl ?_
          refine v_iconst (v := nI 2) X dL_law_329 (by decide) ?_
          refine v_iadd X dL_law_330 ?_
          refine v_scx (k := i + 2) X hL (nI_add i 2) (by omega) h25 dL_law_331 ?_
          refine v_aload_n X dL_law_332 rfl ?_
          refine v_iload_n X dL_law_333 rfl ?_
          refine v_iconst (v := nI 3) X dL_law_334 (by decide) ?_
          refine v_iadd X dL_law_335 ?_
          refine v_scx (k := i + 3) X hL (nI_add i 3) (by omega) h25 dL_law_336 ?_
          refine v_cali X (x_told G hA (xs (i + 1)) (xs (i + 2)) (xs (i + 3))) cv_L_46 obX4 rfl (by decide) rfl (by rfl) (Nat.le_of_ble_eq_true rfl) dL_law_337 (fun r1 τ h1 => ?_)
          obtain ⟨e1, c1, o1⟩ := h1
          have m1 := mR_mO hM o1
          refine v_aload_n X dL_law_340 rfl ?_
          refine v_aload_n X dL_law_341 rfl ?_
          refine v_iload_n X dL_law_342 rfl ?_
          refine v_iconst (v := nI 1) X dL_law_343 (by decide) ?_
          refine v_iadd X dL_law_344 ?_
          refine v_scx (k := i + 1) X hL (nI_add i 1) (by omega) h25 dL_law_345 ?_
          refine v_aload_n X dL_law_346 rfl ?_
          refine v_iload_n X dL_law_347 rfl ?_
          refine v_iconst (v := nI 2) X dL_law_348 (by decide) ?_
          refine v_iadd X dL_law_349 ?_
          refine v_scx (k := i + 2) X hL (nI_add i 2) (by omega) h25 dL_law_350 ?_
          refine v_aload_n X dL_law_351 rfl ?_
          refine v_iload_n X dL_law_352 rfl ?_
          refine v_iconst (v := nI 3) X dL_law_353 (by decide) ?_
          refine v_iadd X dL_law_354 ?_
          refine v_scx (k := i + 3) X hL (nI_add i 3) (by omega) h25 dL_law_355 ?_
          refine v_cali X (y_told G m1 (xs (i + 1)) (xs (i + 2)) (xs (i + 3))) cv_L_49 obX5 rfl (by decide) rfl (by rfl) (Nat.le_of_ble_eq_true rfl) dL_law_356 (fun r2 υ h2 => ?_)
          obtain ⟨e2, m2, o2⟩ := h2
          have c2 := cR_cO c1 o2
          exact v_icmp_eq (tgt := 654) X dL_law_359 (by decide) (fun _ => nxt υ _ c2 m2) (fun h => absurd (e1.trans e2.symm) h)
        · refine v_tabIn (off := 332) (tgt := 364) X dL_law_32 (by decide) (by decide) (by decide) (by decide) ?_
          refine v_aload_n X dL_law_364 rfl ?_
          refine v_aload_n X dL_law_365 rfl ?_
          refine v_iload_n X dL_law_366 rfl ?_
          refine v_iconst (v := nI 1) X dL_law_367 (by decide) ?_
          refine v_iadd X dL_law_368 ?_
          refine v_scx (k := i + 1) X hL (nI_add i 1) (by omega) h25 dL_law_369 ?_
          refine v_cali X (x_drop G hA (xs (i + 1))) cv_L_50 obX4 rfl (by decide) rfl (by rfl) (Nat.le_of_ble_eq_true rfl) dL_law_370 (fun r1 τ h1 => ?_)
          obtain ⟨e1, c1, o1⟩ := h1
          have m1 := mR_mO hM o1
          refine v_aload_n X dL_law_373 rfl ?_
          refine v_aload_n X dL_law_374 rfl ?_
          refine v_iload_n X dL_law_375 rfl ?_
          refine v_iconst (v := nI 1) X dL_law_376 (by decide) ?_
          refine v_iadd X dL_law_377 ?_
          refine v_scx (k := i + 1) X hL (nI_add i 1) (by omega) h25 dL_law_378 ?_
          refine v_cali X (y_drop G m1 (xs (i + 1))) cv_L_53 obX5 rfl (by decide) rfl (by rfl) (Nat.le_of_ble_eq_true rfl) dL_law_379 (fun r2 υ h2 => ?_)
          obtain ⟨e2, m2, o2⟩ := h2
          have c2 := cR_cO c1 o2
          exact v_icmp_eq (tgt := 654) X dL_law_382 (by decide) (fun _ => nxt υ _ c2 m2) (fun h => absurd (e1.trans e2.symm) h)
        · refine v_tabIn (off := 355) (tgt := 387) X dL_law_32 (by decide) (by decide) (by decide) (by decide) ?_
          refine v_aload_n X dL_law_387 rfl ?_
          refine v_aload_n X dL_law_388 rfl ?_
          refine v_iload_n X dL_law_389 rfl ?_
          refine v_iconst (v := nI 1) X dL_law_390 (by decide) ?_
          refine v_iadd X dL_law_391 ?_
          refine v_scx (k := i + 1) X hL (nI_add i 1) (by omega) h25 dL_law_392 ?_
          refine v_cali X (x_plain G hA (xs (i + 1))) cv_L_54 obX4 rfl (by decide) rfl (by rfl) (Nat.le_of_ble_eq_true rfl) dL_law_393 (fun r1 τ h1 => ?_)
          obtain ⟨e1, c1, o1⟩ := h1
          have m1 := mR_mO hM o1
          refine v_aload_n X dL_law_396 rfl ?_
          refine v_aload_n X dL_law_397 rfl ?_
          refine v_iload_n X dL_law_398 rfl ?_
          refine v_iconst (v := nI 1) X dL_law_399 (by decide) ?_
          refine v_iadd X dL_law_400 ?_
          refine v_scx (k := i + 1) X hL (nI_add i 1) (by omega) h25 dL_law_401 ?_
          refine v_cali X (y_plain G m1 (xs (i + 1))) cv_L_57 obX5 rfl (by decide) rfl (by rfl) (Nat.le_of_ble_eq_true rfl) dL_law_402 (fun r2 υ h2 => ?_)
          obtain ⟨e2, m2, o2⟩ := h2
          have c2 := cR_cO c1 o2
          exact v_icmp_eq (tgt := 654) X dL_law_405 (by decide) (fun _ => nxt υ _ c2 m2) (fun h => absurd (e1.trans e2.symm) h)
        · refine v_tabIn (off := 378) (tgt := 410) X dL_law_32 (by decide) (by decide) (by decide) (by decide) ?_
          refine v_aload_n X dL_law_410 rfl ?_
          refine v_aload_n X dL_law_411 rfl ?_
          refine v_iload_n X dL_law_412 rfl ?_
          refine v_iconst (v := nI 1) X dL_law_413 (by decide) ?_
          refine v_iadd X dL_law_414 ?_
          refine v_scx (k := i + 1) X hL (nI_add i 1) (by omega) h25 dL_law_415 ?_
          refine v_cali X (x_rows G hA (xs (i + 1))) cv_L_58 obX4 rfl (by decide) rfl (by rfl) (Nat.le_of_ble_eq_true rfl) dL_law_416 (fun r1 τ h1 => ?_)
          obtain ⟨e1, c1, o1⟩ := h1
          have m1 := mR_mO hM o1
          refine v_aload_n X dL_law_419 rfl ?_
          refine v_aload_n X dL_law_420 rfl ?_
          refine v_iload_n X dL_law_421 rfl ?_
          refine v_iconst (v := nI 1) X dL_law_422 (by decide) ?_
          refine v_iadd X dL_law_423 ?_
          refine v_scx (k := i + 1) X hL (nI_add i 1) (by omega) h25 dL_law_424 ?_
          refine v_cali X (y_rows G m1 (xs (i + 1))) cv_L_61 obX5 rfl (by decide) rfl (by rfl) (Nat.le_of_ble_eq_true rfl) dL_law_425 (fun r2 υ h2 => ?_)
          obtain ⟨e2, m2, o2⟩ := h2
          have c2 := cR_cO c1 o2
          exact v_icmp_eq (tgt := 654) X dL_law_428 (by decide) (fun _ => nxt υ _ c2 m2) (fun h => absurd (e1.trans e2.symm) h)
        · refine v_tabIn (off := 401) (tgt := 433) X dL_law_32 (by decide) (by decide) (by decide) (by decide) ?_
          refine v_aload_n X dL_law_433 rfl ?_
          refine v_aload_n X dL_law_434 rfl ?_
          refine v_iload_n X dL_law_435 rfl ?_
          refine v_iconst (v := nI 1) X dL_law_436 (by decide) ?_
          refine v_iadd X dL_law_437 ?_
          refine v_scx (k := i + 1) X hL (nI_add i 1) (by omega) h25 dL_law_438 ?_
          refine v_aload_n X dL_law_439 rfl ?_
          refine v_iload_n X dL_law_440 rfl ?_
          refine v_iconst (v := nI 2) X dL_law_441 (by decide) ?_
          refine v_iadd X dL_law_442 ?_
          refine v_scx (k := i + 2) X hL (nI_add i 2) (by omega) h25 dL_law_443 ?_
          refine v_cali X (x_follows G hA (xs (i + 1)) (xs (i + 2))) cv_L_62 obX4 rfl (by decide) rfl (by rfl) (Nat.le_of_ble_eq_true rfl) dL_law_444 (fun r1 τ h1 => ?_)
          obtain ⟨e1, c1, o1⟩ := h1
          have m1 := mR_mO hM o1
          refine v_aload_n X dL_law_447 rfl ?_
          refine v_aload_n X dL_law_448 rfl ?_
          refine v_iload_n X dL_law_449 rfl ?_
          refine v_iconst (v := nI 1) X dL_law_450 (by decide) ?_
          refine v_iadd X dL_law_451 ?_
          refine v_scx (k := i + 1) X hL (nI_add i 1) (by omega) h25 dL_law_452 ?_
          refine v_aload_n X dL_law_453 rfl ?_
          refine v_iload_n X dL_law_454 rfl ?_
          refine v_iconst (v := nI 2) X dL_law_455 (by decide) ?_
          refine v_iadd X dL_law_456 ?_
          refine v_scx (k := i + 2) X hL (nI_add i 2) (by omega) h25 dL_law_457 ?_
          refine v_cali X (y_follows G m1 (xs (i + 1)) (xs (i + 2))) cv_L_65 obX5 rfl (by decide) rfl (by rfl) (Nat.le_of_ble_eq_true rfl) dL_law_458 (fun r2 υ h2 => ?_)
          obtain ⟨e2, m2, o2⟩ := h2
          have c2 := cR_cO c1 o2
          exact v_icmp_eq (tgt := 654) X dL_law_461 (by decide) (fun _ => nxt υ _ c2 m2) (fun h => absurd (e1.trans e2.symm) h)
        · refine v_tabIn (off := 434) (tgt := 466) X dL_law_32 (by decide) (by decide) (by decide) (by decide) ?_
          refine v_aload_n X dL_law_466 rfl ?_
          refine v_aload_n X dL_law_467 rfl ?_
          refine v_iload_n X dL_law_468 rfl ?_
          refine v_iconst (v := nI 1) X dL_law_469 (by decide) ?_
          refine v_iadd X dL_law_470 ?_
          refine v_scx (k := i + 1) X hL (nI_add i 1) (by omega) h25 dL_law_471 ?_
          refine v_aload_n X dL_law_472 rfl ?_
          refine v_iload_n X dL_law_473 rfl ?_
          refine v_iconst (v := nI 2) X dL_law_474 (by decide) ?_
          refine v_iadd X dL_law_475 ?_
          refine v_scx (k := i + 2) X hL (nI_add i 2) (by omega) h25 dL_law_476 ?_
          refine v_aload_n X dL_law_477 rfl ?_
          refine v_iload_n X dL_law_478 rfl ?_
          refine v_iconst (v := nI 3) X dL_law_479 (by decide) ?_
          refine v_iadd X dL_law_480 ?_
          refine v_scx (k := i + 3) X hL (nI_add i 3) (by omega) h25 dL_law_481 ?_
          refine v_cali X (x_from G hA (xs (i + 1)) (xs (i + 2)) (xs (i + 3))) cv_L_66 obX4 rfl (by decide) rfl (by rfl) (Nat.le_of_ble_eq_true rfl) dL_law_482 (fun r1 τ h1 => ?_)
          obtain ⟨e1, c1, o1⟩ := h1
          have m1 := mR_mO hM o1
          refine v_aload_n X dL_law_485 rfl ?_
          refine v_aload_n X dL_law_486 rfl ?_
          refine v_iload_n X dL_law_487 rfl ?_
          refine v_iconst (v := nI 1) X dL_law_488 (by decide) ?_
          refine v_iadd X dL_law_489 ?_
          refine v_scx (k := i + 1) X hL (nI_add i 1) (by omega) h25 dL_law_490 ?_
          refine v_aload_n X dL_law_491 rfl ?_
          refine v_iload_n X dL_law_492 rfl ?_
          refine v_iconst (v := nI 2) X dL_law_493 (by decide) ?_
          refine v_iadd X dL_law_494 ?_
          refine v_scx (k := i + 2) X hL (nI_add i 2) (by omega) h25 dL_law_495 ?_
          refine v_aload_n X dL_law_496 rfl ?_
          refine v_iload_n X dL_law_497 rfl ?_
          refine v_iconst (v := nI 3) X dL_law_498 (by decide) ?_
          refine v_iadd X dL_law_499 ?_
          refine v_scx (k := i + 3) X hL (nI_add i 3) (by omega) h25 dL_law_500 ?_
          refine v_cali X (y_from G m1 (xs (i + 1)) (xs (i + 2)) (xs (i + 3))) cv_L_69 obX5 rfl (by decide) rfl (by rfl) (Nat.le_of_ble_eq_true rfl) dL_law_501 (fun r2 υ h2 => ?_)
          obtain ⟨e2, m2, o2⟩ := h2
          have c2 := cR_cO c1 o2
          exact v_icmp_eq (tgt := 654) X dL_law_504 (by decide) (fun _ => nxt υ _ c2 m2) (fun h => absurd (e1.trans e2.symm) h)
        · refine v_tabIn (off := 477) (tgt := 509) X dL_law_32 (by decide) (by decide) (by decide) (by decide) ?_
          refine v_aload_n X dL_law_509 rfl ?_
          refine v_aload_n X dL_law_510 rfl ?_
          refine v_iload_n X dL_law_511 rfl ?_
          refine v_iconst (v := nI 1) X dL_law_512 (by decide) ?_
          refine v_iadd X dL_law_513 ?_
          refine v_scx (k := i + 1) X hL (nI_add i 1) (by omega) h25 dL_law_514 ?_
          refine v_aload_n X dL_law_515 rfl ?_
          refine v_iload_n X dL_law_516 rfl ?_
          refine v_iconst (v := nI 2) X dL_law_517 (by decide) ?_
          refine v_iadd X dL_law_518 ?_
          refine v_scx (k := i + 2) X hL (nI_add i 2) (by omega) h25 dL_law_519 ?_
          refine v_cali X (x_worlds G hA (xs (i + 1)) (xs (i + 2))) cv_L_70 obX4 rfl (by decide) rfl (by rfl) (Nat.le_of_ble_eq_true rfl) dL_law_520 (fun r1 τ h1 => ?_)
          obtain ⟨e1, c1, o1⟩ := h1
          have m1 := mR_mO hM o1
          refine v_aload_n X dL_law_523 rfl ?_
          refine v_aload_n X dL_law_524 rfl ?_
          refine v_iload_n X dL_law_525 rfl ?_
          refine v_iconst (v := nI 1) X dL_law_526 (by decide) ?_
          refine v_iadd X dL_law_527 ?_
          refine v_scx (k := i + 1) X hL (nI_add i 1) (by omega) h25 dL_law_528 ?_
          refine v_aload_n X dL_law_529 rfl ?_
          refine v_iload_n X dL_law_530 rfl ?_
          refine v_iconst (v := nI 2) X dL_law_531 (by decide) ?_
          refine v_iadd X dL_law_532 ?_
          refine v_scx (k := i + 2) X hL (nI_add i 2) (by omega) h25 dL_law_533 ?_
          refine v_cali X (y_worlds G m1 (xs (i + 1)) (xs (i + 2))) cv_L_73 obX5 rfl (by decide) rfl (by rfl) (Nat.le_of_ble_eq_true rfl) dL_law_534 (fun r2 υ h2 => ?_)
          obtain ⟨e2, m2, o2⟩ := h2
          have c2 := cR_cO c1 o2
          exact v_icmp_eq (tgt := 654) X dL_law_537 (by decide) (fun _ => nxt υ _ c2 m2) (fun h => absurd (e1.trans e2.symm) h)
        · refine v_tabIn (off := 510) (tgt := 542) X dL_law_32 (by decide) (by decide) (by decide) (by decide) ?_
          refine v_aload_n X dL_law_542 rfl ?_
          refine v_aload_n X dL_law_543 rfl ?_
          refine v_iload_n X dL_law_544 rfl ?_
          refine v_iconst (v := nI 1) X dL_law_545 (by decide) ?_
          refine v_iadd X dL_law_546 ?_
          refine v_scx (k := i + 1) X hL (nI_add i 1) (by omega) h25 dL_law_547 ?_
          refine v_aload_n X dL_law_548 rfl ?_
          refine v_iload_n X dL_law_549 rfl ?_
          refine v_iconst (v := nI 2) X dL_law_550 (by decide) ?_
          refine v_iadd X dL_law_551 ?_
          refine v_scx (k := i + 2) X hL (nI_add i 2) (by omega) h25 dL_law_552 ?_
          refine v_aload_n X dL_law_553 rfl ?_
          refine v_iload_n X dL_law_554 rfl ?_
          refine v_iconst (v := nI 3) X dL_law_555 (by decide) ?_
          refine v_iadd X dL_law_556 ?_
          refine v_scx (k := i + 3) X hL (nI_add i 3) (by omega) h25 dL_law_557 ?_
          refine v_cali X (x_world G hA (xs (i + 1)) (xs (i + 2)) (xs (i + 3))) cv_L_74 obX4 rfl (by decide) rfl (by rfl) (Nat.le_of_ble_eq_true rfl) dL_law_558 (fun r1 τ h1 => ?_)
          obtain ⟨e1, c1, o1⟩ := h1
          have m1 := mR_mO hM o1
          refine v_aload_n X dL_law_561 rfl ?_
          refine v_aload_n X dL_law_562 rfl ?_
          refine v_iload_n X dL_law_563 rfl ?_
          refine v_iconst (v := nI 1) X dL_law_564 (by decide) ?_
          refine v_iadd X dL_law_565 ?_
          refine v_scx (k := i + 1) X hL (nI_add i 1) (by omega) h25 dL_law_566 ?_
          refine v_aload_n X dL_law_567 rfl ?_
          refine v_iload_n X dL_law_568 rfl ?_
          refine v_iconst (v := nI 2) X dL_law_569 (by decide) ?_
          refine v_iadd X dL_law_570 ?_
          refine v_scx (k := i + 2) X hL (nI_add i 2) (by omega) h25 dL_law_571 ?_
          refine v_aload_n X dL_law_572 rfl ?_
          refine v_iload_n X dL_law_573 rfl ?_
          refine v_iconst (v := nI 3) X dL_law_574 (by decide) ?_
          refine v_iadd X dL_law_575 ?_
          refine v_scx (k := i + 3) X hL (nI_add i 3) (by omega) h25 dL_law_576 ?_
          refine v_cali X (y_world G m1 (xs (i + 1)) (xs (i + 2)) (xs (i + 3))) cv_L_77 obX5 rfl (by decide) rfl (by rfl) (Nat.le_of_ble_eq_true rfl) dL_law_577 (fun r2 υ h2 => ?_)
          obtain ⟨e2, m2, o2⟩ := h2
          have c2 := cR_cO c1 o2
          exact v_icmp_eq (tgt := 654) X dL_law_580 (by decide) (fun _ => nxt υ _ c2 m2) (fun h => absurd (e1.trans e2.symm) h)
        · refine v_tabIn (off := 553) (tgt := 585) X dL_law_32 (by decide) (by decide) (by decide) (by decide) ?_
          refine v_aload_n X dL_law_585 rfl ?_
          refine v_aload_n X dL_law_586 rfl ?_
          refine v_iload_n X dL_law_587 rfl ?_
          refine v_iconst (v := nI 1) X dL_law_588 (by decide) ?_
          refine v_iadd X dL_law_589 ?_
          refine v_scx (k := i + 1) X hL (nI_add i 1) (by omega) h25 dL_law_590 ?_
          refine v_cali X (x_image G hA (xs (i + 1))) cv_L_78 obX4 rfl (by decide) rfl (by rfl) (Nat.le_of_ble_eq_true rfl) dL_law_591 (fun r1 τ h1 => ?_)
          obtain ⟨e1, c1, o1⟩ := h1
          have m1 := mR_mO hM o1
          refine v_aload_n X dL_law_594 rfl ?_
          refine v_aload_n X dL_law_595 rfl ?_
          refine v_iload_n X dL_law_596 rfl ?_
          refine v_iconst (v := nI 1) X dL_law_597 (by decide) ?_
          refine v_iadd X dL_law_598 ?_
          refine v_scx (k := i + 1) X hL (nI_add i 1) (by omega) h25 dL_law_599 ?_
          refine v_cali X (y_image G m1 (xs (i + 1))) cv_L_81 obX5 rfl (by decide) rfl (by rfl) (Nat.le_of_ble_eq_true rfl) dL_law_600 (fun r2 υ h2 => ?_)
          obtain ⟨e2, m2, o2⟩ := h2
          have c2 := cR_cO c1 o2
          exact v_icmp_eq (tgt := 654) X dL_law_603 (by decide) (fun _ => nxt υ _ c2 m2) (fun h => absurd (e1.trans e2.symm) h)
        · refine v_tabIn (off := 576) (tgt := 608) X dL_law_32 (by decide) (by decide) (by decide) (by decide) ?_
          refine v_aload_n X dL_law_608 rfl ?_
          refine v_aload_n X dL_law_609 rfl ?_
          refine v_iload_n X dL_law_610 rfl ?_
          refine v_iconst (v := nI 1) X dL_law_611 (by decide) ?_
          refine v_iadd X dL_law_612 ?_
          refine v_scx (k := i + 1) X hL (nI_add i 1) (by omega) h25 dL_law_613 ?_
          refine v_cali X (x_restore G hA (xs (i + 1))) cv_L_82 obX4 rfl (by decide) rfl (by rfl) (Nat.le_of_ble_eq_true rfl) dL_law_614 (fun r1 τ h1 => ?_)
          obtain ⟨e1, c1, o1⟩ := h1
          have m1 := mR_mO hM o1
          refine v_aload_n X dL_law_617 rfl ?_
          refine v_aload_n X dL_law_618 rfl ?_
          refine v_iload_n X dL_law_619 rfl ?_
          refine v_iconst (v := nI 1) X dL_law_620 (by decide) ?_
          refine v_iadd X dL_law_621 ?_
          refine v_scx (k := i + 1) X hL (nI_add i 1) (by omega) h25 dL_law_622 ?_
          refine v_cali X (y_restore G m1 (xs (i + 1))) cv_L_85 obX5 rfl (by decide) rfl (by rfl) (Nat.le_of_ble_eq_true rfl) dL_law_623 (fun r2 υ h2 => ?_)
          obtain ⟨e2, m2, o2⟩ := h2
          have c2 := cR_cO c1 o2
          exact v_icmp_eq (tgt := 654) X dL_law_626 (by decide) (fun _ => nxt υ _ c2 m2) (fun h => absurd (e1.trans e2.symm) h)
        · refine v_tabIn (off := 599) (tgt := 631) X dL_law_32 (by decide) (by decide) (by decide) (by decide) ?_
          refine v_aload_n X dL_law_631 rfl ?_
          refine v_aload_n X dL_law_632 rfl ?_
          refine v_iload_n X dL_law_633 rfl ?_
          refine v_iconst (v := nI 1) X dL_law_634 (by decide) ?_
          refine v_iadd X dL_law_635 ?_
          refine v_scx (k := i + 1) X hL (nI_add i 1) (by omega) h25 dL_law_636 ?_
          refine v_cali X (x_count G hA (xs (i + 1))) cv_L_86 obX4 rfl (by decide) rfl (by rfl) (Nat.le_of_ble_eq_true rfl) dL_law_637 (fun r1 τ h1 => ?_)
          obtain ⟨e1, c1, o1⟩ := h1
          have m1 := mR_mO hM o1
          refine v_aload_n X dL_law_640 rfl ?_
          refine v_aload_n X dL_law_641 rfl ?_
          refine v_iload_n X dL_law_642 rfl ?_
          refine v_iconst (v := nI 1) X dL_law_643 (by decide) ?_
          refine v_iadd X dL_law_644 ?_
          refine v_scx (k := i + 1) X hL (nI_add i 1) (by omega) h25 dL_law_645 ?_
          refine v_cali X (y_count G m1 (xs (i + 1))) cv_L_89 obX5 rfl (by decide) rfl (by rfl) (Nat.le_of_ble_eq_true rfl) dL_law_646 (fun r2 υ h2 => ?_)
          obtain ⟨e2, m2, o2⟩ := h2
          have c2 := cR_cO c1 o2
          exact v_icmp_eq (tgt := 654) X dL_law_649 (by decide) (fun _ => nxt υ _ c2 m2) (fun h => absurd (e1.trans e2.symm) h)
