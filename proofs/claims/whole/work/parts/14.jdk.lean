section VSTRI
variable {G : GT} {own : String} {cc : ByteArray} {lev : Nat} {Z : ZT} {σ : Sg} {pc : Nat} {lo : List (Option Value)} {st : List Value}
theorem v_coder {i idx : Nat} (X : Cx G own cc lev Z) (hi : i < 4) (hw : Cond.fieldLink own idx "java/lang/String" "coder" "B" ∈ BG) (d : decode cc pc = .ok (.getfield idx, 3)) (k : V G Z σ (pc + 3) lo (.int 0 :: st)) : V G Z σ pc lo (.ref (G.2.2.2 (1 + i)) :: st) := by
  obtain ⟨p, l, e, R, s, m, args, below, meth, c, cs, sl, Q⟩ := Z
  obtain ⟨hx, hb, ho, ht, hK, hG, hS0, hr, hlk⟩ := X
  intro H locs ls hP hS hl
  obtain ⟨-, -, -, -, -, h5⟩ := hS0
  exact vk_getf hx hb (h5 i hi).2.2.1 hS ho (ht _ hw) (fun _ h => h) d (k H locs ls hP hS hl)
theorem v_value {i idx : Nat} (X : Cx G own cc lev Z) (hi : i < 4) (hw : Cond.fieldLink own idx "java/lang/String" "value" "[B" ∈ BG) (d : decode cc pc = .ok (.getfield idx, 3)) (k : V G Z σ (pc + 3) lo (.ref (G.2.2.2 (5 + i)) :: st)) : V G Z σ pc lo (.ref (G.2.2.2 (1 + i)) :: st) := by
  obtain ⟨p, l, e, R, s, m, args, below, meth, c, cs, sl, Q⟩ := Z
  obtain ⟨hx, hb, ho, ht, hK, hG, hS0, hr, hlk⟩ := X
  intro H locs ls hP hS hl
  obtain ⟨-, -, -, -, -, h5⟩ := hS0
  exact vk_getf hx hb (h5 i hi).2.2.2.1 hS ho (ht _ hw) (fun _ h => h) d (k H locs ls hP hS hl)
theorem v_slen {i : Nat} (X : Cx G own cc lev Z) (hi : i < 4) (d : decode cc pc = .ok (.arraylength, 1)) (k : V G Z σ (pc + 1) lo (.int (nI (strI i).2.2.2.length) :: st)) : V G Z σ pc lo (.ref (G.2.2.2 (5 + i)) :: st) := by
  obtain ⟨p, l, e, R, s, m, args, below, meth, c, cs, sl, Q⟩ := Z
  obtain ⟨hx, hb, ho, ht, hK, hG, hS0, hr, hlk⟩ := X
  intro H locs ls hP hS hl
  obtain ⟨-, -, -, -, -, h5⟩ := hS0
  exact va_tlen hx hb (h5 i hi).2.2.2.2 hS rfl d (k H locs ls hP hS hl)
theorem str_len : ∀ i, i < 4 → (strI i).2.2.2.length ≤ 4 := by decide
theorem v_sald {i k : Nat} {j : Int32} (X : Cx G own cc lev Z) (hi : i < 4) (e' : j = nI k) (hk : k < (strI i).2.2.2.length) (d : decode cc pc = .ok (.baload, 1)) (kk : V G Z σ (pc + 1) lo (.int ((strI i).2.2.2.getD k 0) :: st)) : V G Z σ pc lo (.int j :: .ref (G.2.2.2 (5 + i)) :: st) := by
  subst e'
  have hle := str_len i hi
  obtain ⟨p, l, e, R, s, m, args, below, meth, c, cs, sl, Q⟩ := Z
  obtain ⟨hx, hb, ho, ht, hK, hG, hS0, hr, hlk⟩ := X
  intro H locs ls hP hS hl
  obtain ⟨-, -, -, -, -, h5⟩ := hS0
  exact va_tb hx hb (h5 i hi).2.2.2.2 hS (vp_in_nI hk (by omega)) (v := .int ((strI i).2.2.2.getD k 0)) (by rw [nI_clamp (by omega)]) d (kk H locs ls hP hS hl)
theorem v_compact {idx : Nat} (X : Cx G own cc lev Z) (hw : Cond.fieldLink own idx "java/lang/String" "COMPACT_STRINGS" "Z" ∈ BG) (d : decode cc pc = .ok (.getstatic idx, 3)) (k : V G Z σ (pc + 3) lo (.int 1 :: st)) : V G Z σ pc lo st := by
  obtain ⟨p, l, e, R, s, m, args, below, meth, c, cs, sl, Q⟩ := Z
  obtain ⟨hx, hb, ho, ht, hK, hG, hS0, hr, hlk⟩ := X
  intro H locs ls hP hS hl
  exact va_gets hx hb hS0.2.2.1 hS ho (ht _ hw) (fun _ h => h) d (k H locs ls hP hS hl)
theorem v_fmt {idx : Nat} (X : Cx G own cc lev Z) (hw : Cond.fieldLink own idx "jdk/internal/util/Preconditions" "SIOOBE_FORMATTER" "Ljava/util/function/BiFunction;" ∈ BG) (d : decode cc pc = .ok (.getstatic idx, 3)) (k : ∀ f : Value, f.category = 1 → V G Z σ (pc + 3) lo (f :: st)) : V G Z σ pc lo st := by
  obtain ⟨p, l, e, R, s, m, args, below, meth, c, cs, sl, Q⟩ := Z
  obtain ⟨hx, hb, ho, ht, hK, hG, hS0, hr, hlk⟩ := X
  intro H locs ls hP hS hl
  rcases hS0.2.2.2.1 with h | ⟨t, h⟩
  · exact va_gets hx hb h hS ho (ht _ hw) (fun _ h => h) d (k .null rfl H locs ls hP hS hl)
  · exact va_gets hx hb h hS ho (ht _ hw) (fun _ h => h) d (k (.ref t) rfl H locs ls hP hS hl)
theorem v_calz {idx n na lev' i : Nat} {y : MethodName} {bc : ByteArray} {ty : FieldType} {post : Int32 → Sg → Prop} {As rest : List Value} (X : Cx G own cc lev Z) (hi : i < 4) (hM : MC G y bc n ty lev' (.ref (G.2.2.2 (1 + i)) :: As) σ post) (hC : CV own idx y bc n (some ty) na) (hy : y.cls = "java/lang/String") (hlev : lev' < lev) (hna : As.length = na) (hst : st = As.reverse ++ .ref (G.2.2.2 (1 + i)) :: rest) (hcat : (rest.map fun v => v.category).sum ≤ 8) (d : decode cc pc = .ok (.invokevirtual idx, 3))
    (kk : ∀ (r : Int32) (τ : Sg), post r τ → V G Z τ (pc + 3) lo (.int r :: rest)) : V G Z σ pc lo st := by
  subst hst
  obtain ⟨p, l, e, R, s, m, args, below, meth, c, cs, sl, Q⟩ := Z
  obtain ⟨hx, hb, ho, ht, hK, hG, hS0, hr, hlk⟩ := X
  intro H locs ls hP hS hl
  obtain ⟨⟨w1, w2, w3, w4, w5⟩, w6, w7⟩ := hC
  have hrec : ∃ cell : Cell, H[G.2.2.2 (1 + i)]? = some cell ∧ cell.vm.isStatics = false ∧ s.vm.findClass y.cls = some cell.cls := by
    obtain ⟨-, -, -, -, -, h5⟩ := hS0
    obtain ⟨cell, h1, h2, h3, -⟩ := (h5 i hi).2.1.kept hS.2.1
    exact ⟨cell, h1, h2, by rw [hy]; exact h3⟩
  have hT := (rml_ok hlev w7 ⟨hr.1, hr.2.1⟩)
  have cw : CallW R s args own y.cls idx y bc n (some ty) (.code y bc n (some ty) :: BG) (rml lev') 0 0 na := ⟨callB_of na ht (good_cons w5) rfl rfl rfl (ht _ w4) (ht _ w1) w6 hT, ht _ w2, ht _ w3⟩
  refine va_calli (va_runV (As := As) (rest := rest) ⟨hx, hb, rfl, ho, ht⟩ (hM l) cw ⟨wd_blind G σ _, hrec, fun U hU hW => ⟨rfl, hG, by rw [hU]; exact hP, va_K.moved hW.alike hK, ?_⟩⟩ rfl hna hl.2.2.1 rfl (lv_room hcat) d ⟨hr.2.2.1, hr.2.2.2⟩) hS (fun q _ h => h) (fun q h => h) (fun r u t H1 locs1 ht1 hvm hw hB hz1 hk1 hS1 => ?_)
  · rw [hU]; exact St.warm hW (hS0.kept (fun a h1 h2 => hS.2.1 a h1 h2))
  · exact kk r u hw H1 locs1 ls (by rw [← ht1]; exact hB) hS1 hl
theorem v_calsv {idx n na lev' : Nat} {y : MethodName} {bc : ByteArray} {post : Sg → Prop} {As rest : List Value} (X : Cx G own cc lev Z) (hM : MV G y bc n lev' As σ post) (hC : CS own idx y bc n none na) (hlev : lev' < lev) (hna : As.length = na) (hst : st = As.reverse ++ rest) (hcat : (rest.map fun v => v.category).sum ≤ 8) (d : decode cc pc = .ok (.invokestatic idx, 3))
    (kk : ∀ (τ : Sg), post τ → V G Z τ (pc + 3) lo rest) : V G Z σ pc lo st := by
  subst hst
  obtain ⟨p, l, e, R, s, m, args, below, meth, c, cs, sl, Q⟩ := Z
  obtain ⟨hx, hb, ho, ht, hK, hG, hS0, hr, hlk⟩ := X
  intro H locs ls hP hS hl
  obtain ⟨⟨w1, w2, w4, w5⟩, w6, w7⟩ := hC
  have hT := (rml_ok hlev w7 ⟨hr.1, hr.2.1⟩)
  have cw : CallB R s args own idx y bc n none (.code y bc n none :: BG) (rml lev') 0 0 na ∧ (Cond.static y).before args s = true := ⟨callB_of na ht (good_cons w5) rfl rfl rfl (ht _ w4) (ht _ w1) w6 hT, ht _ w2⟩
  refine va_callv (va_runS (As := As) (rest := rest) ⟨hx, hb, rfl, ho, ht⟩ (hM l) cw ⟨wd_blind G σ _, fun U hU hW => ⟨rfl, hG, by rw [hU]; exact hP, va_K.moved hW.alike hK, ?_⟩⟩ rfl hna hl.2.2.1 rfl (lv_room hcat) d ⟨hr.2.2.1, hr.2.2.2⟩) hS (fun q _ h => h) (fun q h => h) (fun u t H1 locs1 ht1 hvm hw hB hz1 hk1 hS1 => ?_)
  · rw [hU]; exact St.warm hW (hS0.kept (fun a h1 h2 => hS.2.1 a h1 h2))
  · exact kk u hw H1 locs1 ls (by rw [← ht1]; exact hB) hS1 hl
theorem v_mmax {x y : Int32} {idx : Nat} {rest : List Value} (X : Cx G own cc lev Z) (h0 : 0 < lev) (hC : CS own idx Lib.Math.max.name Lib.Math.max.code 2 (some .int) 2) (hcat : (rest.map fun v => v.category).sum ≤ 8) (d : decode cc pc = .ok (.invokestatic idx, 3)) (k : V G Z σ (pc + 3) lo (.int (if x < y then y else x) :: rest)) : V G Z σ pc lo (.int y :: .int x :: rest) := by
  obtain ⟨p, l, e, R, s, m, args, below, meth, c, cs, sl, Q⟩ := Z
  obtain ⟨hx, hb, ho, ht, hK, hG, hS0, hr, hlk⟩ := X
  intro H locs ls hP hS hl
  obtain ⟨⟨w1, w2, w4, w5⟩, w6, w7⟩ := hC
  have hr1 := hr.1
  have hr2 := hr.2.1
  simp only [lcl] at hr2
  exact va_mmax hx hb hl.2.2.1.symm ho (ht _ w1) (ht _ w2) (ht _ w4) (ht _ w5) (by omega) (by omega) hr.2.2.1 hr.2.2.2 d (k H locs ls hP hS hl)
theorem v_mmin {x y : Int32} {idx : Nat} {rest : List Value} (X : Cx G own cc lev Z) (h0 : 0 < lev) (hC : CS own idx Lib.Math.min.name Lib.Math.min.code 2 (some .int) 2) (hcat : (rest.map fun v => v.category).sum ≤ 8) (d : decode cc pc = .ok (.invokestatic idx, 3)) (k : V G Z σ (pc + 3) lo (.int (if y < x then y else x) :: rest)) : V G Z σ pc lo (.int y :: .int x :: rest) := by
  obtain ⟨p, l, e, R, s, m, args, below, meth, c, cs, sl, Q⟩ := Z
  obtain ⟨hx, hb, ho, ht, hK, hG, hS0, hr, hlk⟩ := X
  intro H locs ls hP hS hl
  obtain ⟨⟨w1, w2, w4, w5⟩, w6, w7⟩ := hC
  have hr1 := hr.1
  have hr2 := hr.2.1
  simp only [lcl] at hr2
  exact va_mmin hx hb hl.2.2.1.symm ho (ht _ w1) (ht _ w2) (ht _ w4) (ht _ w5) (by omega) (by omega) hr.2.2.1 hr.2.2.2 d (k H locs ls hP hS hl)
end VSTRI
theorem fs_J0_38 : Cond.fieldLink RJ0 38 "java/lang/String" "COMPACT_STRINGS" "Z" ∈ BG := bg_of 276 (by decide +kernel) rfl
theorem fs_J0_1053 : Cond.fieldLink RJ0 1053 "jdk/internal/util/Preconditions" "SIOOBE_FORMATTER" "Ljava/util/function/BiFunction;" ∈ BG := bg_of 319 (by decide +kernel) rfl
theorem fs_J0_15 : Cond.fieldLink RJ0 15 "java/lang/String" "coder" "B" ∈ BG := bg_of 878 (by decide +kernel) rfl
theorem fs_J0_9 : Cond.fieldLink RJ0 9 "java/lang/String" "value" "[B" ∈ BG := bg_of 879 (by decide +kernel) rfl
set_option maxHeartbeats 4000000 in
set_option maxRecDepth 100000 in
theorem c_jcheck3 (G : GT) {σ : Sg} {k m : Nat} (hkm : k < m) (hm : m < 2 ^ 31) (f : Value) (hf : f.category = 1) : MC G yJ3_checkIndex_8e157 cJ3_checkIndex_8e157 3 .int 0 [.int (nI k), .int (nI m), f] σ (fun r τ => τ = σ ∧ r = nI k) := by
  refine MC_of (by decide) (ca1 rfl (ca1 rfl (ca1 hf ca0))) (Nat.le_of_ble_eq_true rfl) ?_
  intro Z X hR
  show V G Z σ 0 [some (.int (nI k)), some (.int (nI m)), some (f)] []
  refine v_iload_n X dJ3_checkIndex_8e157_0 rfl ?_
  refine v_if_lt (tgt := 9) X dJ3_checkIndex_8e157_1 (by decide) (fun h1 => ?_) (fun h1 => ?_)
  · skip
    exact absurd h1 (nI_pos (by omega))
  · skip
    refine v_iload_n X dJ3_checkIndex_8e157_4 rfl ?_
    refine v_iload_n X dJ3_checkIndex_8e157_5 rfl ?_
    refine v_icmp_lt (tgt := 16) X dJ3_checkIndex_8e157_6 (by decide) (fun h6 => ?_) (fun h6 => ?_)
    · skip
      refine v_iload_n X dJ3_checkIndex_8e157_16 rfl ?_
      refine v_ret X hR dJ3_checkIndex_8e157_17 rfl ?_
      exact ⟨rfl, rfl⟩
    · skip
      exact absurd (nI_lt hkm hm) h6

set_option maxHeartbeats 4000000 in
set_option maxRecDepth 100000 in
theorem c_jcheck0 (G : GT) {σ : Sg} {k m : Nat} (hkm : k < m) (hm : m < 2 ^ 31) : MV G yJ0_checkIndex_df160 cJ0_checkIndex_df160 2 1 [.int (nI k), .int (nI m)] σ (fun τ => τ = σ) := by
  refine MV_of (by decide) (ca1 rfl (ca1 rfl ca0)) (Nat.le_of_ble_eq_true rfl) ?_
  intro Z X hR
  show V G Z σ 0 [some (.int (nI k)), some (.int (nI m))] []
  refine v_iload_n X dJ0_checkIndex_df160_0 rfl ?_
  refine v_iload_n X dJ0_checkIndex_df160_1 rfl ?_
  refine v_fmt X fs_J0_1053 dJ0_checkIndex_df160_2 (fun f hf => ?_)
  refine v_cals X (c_jcheck3 G hkm hm f hf) cs_J0_1059 (by decide) rfl (by rfl) (Nat.le_of_ble_eq_true rfl) dJ0_checkIndex_df160_5 (fun r τ hp => ?_)
  obtain ⟨rfl, rfl⟩ := hp
  refine v_pop X dJ0_checkIndex_df160_8 rfl ?_
  refine v_vret X hR dJ0_checkIndex_df160_9 ?_
  rfl

theorem str_byte : ∀ i, i < 4 → ∀ k, k < (strI i).2.2.2.length → (((strI i).2.2.2.getD k 0 &&& nI 255).toUInt32 % 65536).toInt32 = (strI i).2.2.2.getD k 0 ∧ narrow .char (.int ((strI i).2.2.2.getD k 0)) = .int ((strI i).2.2.2.getD k 0) := by decide
set_option maxHeartbeats 4000000 in
set_option maxRecDepth 100000 in
theorem c_j1charAt (G : GT) {σ : Sg} {i k : Nat} (hi : i < 4) (hk : k < (strI i).2.2.2.length) : MC G yJ1_charAt_3b067 cJ1_charAt_3b067 2 .char 2 [.ref (G.2.2.2 (5 + i)), .int (nI k)] σ (fun r τ => τ = σ ∧ r = (strI i).2.2.2.getD k 0) := by
  refine MC_of (by decide) (ca1 rfl (ca1 rfl ca0)) (Nat.le_of_ble_eq_true rfl) ?_
  intro Z X hR
  show V G Z σ 0 [some (.ref (G.2.2.2 (5 + i))), some (.int (nI k))] []
  refine v_iload_n X dJ1_charAt_3b067_0 rfl ?_
  refine v_aload_n X dJ1_charAt_3b067_1 rfl ?_
  refine v_slen X hi dJ1_charAt_3b067_2 ?_
  refine v_calsv X (c_jcheck0 G hk (by have := str_len i hi; omega)) cs_J1_9 (by decide) rfl (by rfl) (Nat.le_of_ble_eq_true rfl) dJ1_charAt_3b067_3 (fun τ hp => ?_)
  subst hp
  refine v_aload_n X dJ1_charAt_3b067_6 rfl ?_
  refine v_iload_n X dJ1_charAt_3b067_7 rfl ?_
  refine v_sald X hi rfl hk dJ1_charAt_3b067_8 ?_
  refine v_sipush (v := nI 255) X dJ1_charAt_3b067_9 (by decide) ?_
  refine v_iand X dJ1_charAt_3b067_12 ?_
  refine v_i2c X dJ1_charAt_3b067_13 ?_
  refine v_top (str_byte i hi k hk).1 ?_
  refine v_ret X hR dJ1_charAt_3b067_14 (str_byte i hi k hk).2 ?_
  exact ⟨rfl, rfl⟩

set_option maxHeartbeats 4000000 in
set_option maxRecDepth 100000 in
theorem c_isLatin1 (G : GT) {σ : Sg} {i : Nat} (hi : i < 4) : MC G yJ0_isLatin1_aae02 cJ0_isLatin1_aae02 1 .boolean 0 [.ref (G.2.2.2 (1 + i))] σ (fun r τ => τ = σ ∧ r = nI 1) := by
  refine MC_of (by decide) (ca1 rfl ca0) (Nat.le_of_ble_eq_true rfl) ?_
  intro Z X hR
  show V G Z σ 0 [some (.ref (G.2.2.2 (1 + i)))] []
  refine v_compact X fs_J0_38 dJ0_isLatin1_aae02_0 ?_
  refine v_if_eq (tgt := 17) X dJ0_isLatin1_aae02_3 (by decide) (fun h3 => ?_) (fun h3 => ?_)
  · skip
    exact absurd h3 (by decide)
  · skip
    refine v_aload_n X dJ0_isLatin1_aae02_6 rfl ?_
    refine v_coder X hi fs_J0_15 dJ0_isLatin1_aae02_7 ?_
    refine v_if_ne (tgt := 17) X dJ0_isLatin1_aae02_10 (by decide) (fun h10 => ?_) (fun h10 => ?_)
    · skip
      exact absurd rfl h10
    · skip
      refine v_iconst (v := nI 1) X dJ0_isLatin1_aae02_13 (by decide) ?_
      refine v_goto (tgt := 18) X dJ0_isLatin1_aae02_14 (by decide) ?_
      refine v_ret X hR dJ0_isLatin1_aae02_18 rfl ?_
      exact ⟨rfl, rfl⟩

set_option maxHeartbeats 4000000 in
set_option maxRecDepth 100000 in
theorem c_charAt (G : GT) {σ : Sg} {i k : Nat} (hi : i < 4) (hk : k < (strI i).2.2.2.length) : MC G yJ0_charAt_5068e cJ0_charAt_5068e 2 .char 3 [.ref (G.2.2.2 (1 + i)), .int (nI k)] σ (fun r τ => τ = σ ∧ r = (strI i).2.2.2.getD k 0) := by
  refine MC_of (by decide) (ca1 rfl (ca1 rfl ca0)) (Nat.le_of_ble_eq_true rfl) ?_
  intro Z X hR
  show V G Z σ 0 [some (.ref (G.2.2.2 (1 + i))), some (.int (nI k))] []
  refine v_aload_n X dJ0_charAt_5068e_0 rfl ?_
  refine v_calz X hi (c_isLatin1 G hi) cv_J0_492 rfl (by decide) rfl (by rfl) (Nat.le_of_ble_eq_true rfl) dJ0_charAt_5068e_1 (fun r τ hp => ?_)
  obtain ⟨rfl, rfl⟩ := hp
  refine v_if_eq (tgt := 16) X dJ0_charAt_5068e_4 (by decide) (fun h4 => ?_) (fun h4 => ?_)
  · skip
    exact absurd h4 (by decide)
  · skip
    refine v_aload_n X dJ0_charAt_5068e_7 rfl ?_
    refine v_value X hi fs_J0_9 dJ0_charAt_5068e_8 ?_
    refine v_iload_n X dJ0_charAt_5068e_11 rfl ?_
    refine v_cals X (c_j1charAt G hi hk) cs_J0_495 (by decide) rfl (by rfl) (Nat.le_of_ble_eq_true rfl) dJ0_charAt_5068e_12 (fun r τ hp => ?_)
    obtain ⟨rfl, rfl⟩ := hp
    refine v_ret X hR dJ0_charAt_5068e_15 (str_byte i hi k hk).2 ?_
    exact ⟨rfl, rfl⟩

set_option maxHeartbeats 4000000 in
set_option maxRecDepth 100000 in
theorem c_coder (G : GT) {σ : Sg} {i : Nat} (hi : i < 4) : MC G yJ0_coder_7d493 cJ0_coder_7d493 1 .byte 0 [.ref (G.2.2.2 (1 + i))] σ (fun r τ => τ = σ ∧ r = 0) := by
  refine MC_of (by decide) (ca1 rfl ca0) (Nat.le_of_ble_eq_true rfl) ?_
  intro Z X hR
  show V G Z σ 0 [some (.ref (G.2.2.2 (1 + i)))] []
  refine v_compact X fs_J0_38 dJ0_coder_7d493_0 ?_
  refine v_if_eq (tgt := 13) X dJ0_coder_7d493_3 (by decide) (fun h3 => ?_) (fun h3 => ?_)
  · skip
    exact absurd h3 (by decide)
  · skip
    refine v_aload_n X dJ0_coder_7d493_6 rfl ?_
    refine v_coder X hi fs_J0_15 dJ0_coder_7d493_7 ?_
    refine v_goto (tgt := 14) X dJ0_coder_7d493_10 (by decide) ?_
    refine v_ret X hR dJ0_coder_7d493_14 rfl ?_
    exact ⟨rfl, rfl⟩

set_option maxHeartbeats 4000000 in
set_option maxRecDepth 100000 in
theorem c_jlength (G : GT) {σ : Sg} {i : Nat} (hi : i < 4) : MC G yJ0_length_8abf5 cJ0_length_8abf5 1 .int 1 [.ref (G.2.2.2 (1 + i))] σ (fun r τ => τ = σ ∧ r = nI (strI i).2.2.2.length) := by
  refine MC_of (by decide) (ca1 rfl ca0) (Nat.le_of_ble_eq_true rfl) ?_
  intro Z X hR
  show V G Z σ 0 [some (.ref (G.2.2.2 (1 + i)))] []
  refine v_aload_n X dJ0_length_8abf5_0 rfl ?_
  refine v_value X hi fs_J0_9 dJ0_length_8abf5_1 ?_
  refine v_slen X hi dJ0_length_8abf5_4 ?_
  refine v_aload_n X dJ0_length_8abf5_5 rfl ?_
  refine v_calz X hi (c_coder G hi) cv_J0_335 rfl (by decide) rfl (by rfl) (Nat.le_of_ble_eq_true rfl) dJ0_length_8abf5_6 (fun r τ hp => ?_)
  obtain ⟨rfl, rfl⟩ := hp
  refine v_ishr X dJ0_length_8abf5_9 ?_
  refine v_top (sb_shr0 _) ?_
  refine v_ret X hR dJ0_length_8abf5_10 rfl ?_
  exact ⟨rfl, rfl⟩

set_option maxHeartbeats 4000000 in
set_option maxRecDepth 100000 in
theorem c_canEncode (G : GT) {σ : Sg} (c : Int32) : MC G yJ1_canEncode_9a6ad cJ1_canEncode_9a6ad 1 .boolean 0 [.int c] σ (fun r τ => τ = σ ∧ r = bI (decide (¬ c < 0 ∧ ¬ nI 255 < c))) := by
  refine MC_of (by decide) (ca1 rfl ca0) (Nat.le_of_ble_eq_true rfl) ?_
  intro Z X hR
  show V G Z σ 0 [some (.int c)] []
  refine v_iload_n X dJ1_canEncode_9a6ad_0 rfl ?_
  refine v_if_lt (tgt := 15) X dJ1_canEncode_9a6ad_1 (by decide) (fun h1 => ?_) (fun h1 => ?_)
  · skip
    refine v_iconst (v := nI 0) X dJ1_canEncode_9a6ad_15 (by decide) ?_
    refine v_ret X hR dJ1_canEncode_9a6ad_16 rfl ?_
    exact ⟨rfl, bI_f (fun q => q.1 h1)⟩
  · skip
    refine v_iload_n X dJ1_canEncode_9a6ad_4 rfl ?_
    refine v_sipush (v := nI 255) X dJ1_canEncode_9a6ad_5 (by decide) ?_
    refine v_icmp_gt (tgt := 15) X dJ1_canEncode_9a6ad_8 (by decide) (fun h8 => ?_) (fun h8 => ?_)
    · skip
      refine v_iconst (v := nI 0) X dJ1_canEncode_9a6ad_15 (by decide) ?_
      refine v_ret X hR dJ1_canEncode_9a6ad_16 rfl ?_
      exact ⟨rfl, bI_f (fun q => q.2 h8)⟩
    · skip
      refine v_iconst (v := nI 1) X dJ1_canEncode_9a6ad_11 (by decide) ?_
      refine v_goto (tgt := 16) X dJ1_canEncode_9a6ad_12 (by decide) ?_
      refine v_ret X hR dJ1_canEncode_9a6ad_16 rfl ?_
      exact ⟨rfl, bI_t ⟨h1, h8⟩⟩

set_option maxHeartbeats 4000000 in
set_option maxRecDepth 100000 in
theorem c_indexOfChar (G : GT) {σ : Sg} {i c : Nat} (hi : i < 4) (hc : c < 128) : MC G yJ1_indexOfChar_4cfef cJ1_indexOfChar_4cfef 6 .int 0 [.ref (G.2.2.2 (5 + i)), .int (nI c), .int (nI 0), .int (nI (strI i).2.2.2.length)] σ (fun r τ => τ = σ ∧ ((∃ k, k < (strI i).2.2.2.length ∧ (strI i).2.2.2.getD k 0 = nI c ∧ r = nI k) ∨ ((∀ k, k < (strI i).2.2.2.length → (strI i).2.2.2.getD k 0 ≠ nI c) ∧ r = -1))) := by
  refine MC_of (by decide) (ca1 rfl (ca1 rfl (ca1 rfl (ca1 rfl ca0)))) (Nat.le_of_ble_eq_true rfl) ?_
  intro Z X hR
  show V G Z σ 0 [some (.ref (G.2.2.2 (5 + i))), some (.int (nI c)), some (.int (nI 0)), some (.int (nI (strI i).2.2.2.length)), none, none] []
  have hle := str_len i hi
  have loop : ∀ (n k : Nat), (strI i).2.2.2.length - k < n → k ≤ (strI i).2.2.2.length → (∀ x, x < k → (strI i).2.2.2.getD x 0 ≠ nI c) → V G Z σ 7 [some (.ref (G.2.2.2 (5 + i))), some (.int (nI c)), some (.int (nI 0)), some (.int (nI (strI i).2.2.2.length)), some (.int (nI c)), some (.int (nI k))] [] := by
    intro n
    induction n with
    | zero => intro k h; omega
    | succ n ih =>
      intro k hn hkl hin
      refine v_iload X dJ1_indexOfChar_4cfef_7 rfl ?_
      refine v_iload_n X dJ1_indexOfChar_4cfef_9 rfl ?_
      refine v_icmp_ge (tgt := 31) X dJ1_indexOfChar_4cfef_10 (by decide) (fun h10 => ?_) (fun h10 => ?_)
      · skip
        have hk := nI_lem (by omega) (by omega) h10
        refine v_iconst (v := (-1)) X dJ1_indexOfChar_4cfef_31 (by decide) ?_
        refine v_ret X hR dJ1_indexOfChar_4cfef_32 rfl ?_
        exact ⟨rfl, Or.inr ⟨fun x hx => hin x (by omega), rfl⟩⟩
      · skip
        have hk := nI_len (by omega) (by omega) h10
        refine v_aload_n X dJ1_indexOfChar_4cfef_13 rfl ?_
        refine v_iload X dJ1_indexOfChar_4cfef_14 rfl ?_
        refine v_sald X hi rfl hk dJ1_indexOfChar_4cfef_16 ?_
        refine v_iload X dJ1_indexOfChar_4cfef_17 rfl ?_
        refine v_icmp_ne (tgt := 25) X dJ1_indexOfChar_4cfef_19 (by decide) (fun h19 => ?_) (fun h19 => ?_)
        · skip
          refine v_iincE X dJ1_indexOfChar_4cfef_25 rfl (nI_inc k) ?_
          show V G Z _ 28 [_, _, _, _, _, _] _
          refine v_goto (tgt := 7) X dJ1_indexOfChar_4cfef_28 (by decide) ?_
          exact ih (k + 1) (by omega) (by omega) (fun x hx => by
            rcases Nat.lt_or_ge x k with h | h
            · exact hin x h
            · rw [show x = k by omega]; exact h19)
        · skip
          refine v_iload X dJ1_indexOfChar_4cfef_22 rfl ?_
          refine v_ret X hR dJ1_indexOfChar_4cfef_24 rfl ?_
          exact ⟨rfl, Or.inl ⟨k, hk, h19, rfl⟩⟩
  refine v_iload_n X dJ1_indexOfChar_4cfef_0 rfl ?_
  refine v_i2b X dJ1_indexOfChar_4cfef_1 ?_
  refine v_top (y := nI c) (by
    have h3 : ∀ n, n < 128 → (nI n).toInt8.toInt32 = nI n := by decide
    exact h3 c hc) ?_
  refine v_istore X dJ1_indexOfChar_4cfef_2 (Nat.le_of_ble_eq_true rfl) ?_
  show V G Z _ 4 [_, _, _, _, _, _] _
  refine v_iload_n X dJ1_indexOfChar_4cfef_4 rfl ?_
  refine v_istore X dJ1_indexOfChar_4cfef_5 (Nat.le_of_ble_eq_true rfl) ?_
  show V G Z _ 7 [_, _, _, _, _, _] _
  exact loop ((strI i).2.2.2.length + 1) 0 (by omega) (by omega) (fun x h => by omega)
set_option maxHeartbeats 4000000 in
set_option maxRecDepth 100000 in
theorem c_indexOf1 (G : GT) {σ : Sg} {i c : Nat} (hi : i < 4) (hc : c < 128) : MC G yJ1_indexOf_4cfef cJ1_indexOf_4cfef 4 .int 1 [.ref (G.2.2.2 (5 + i)), .int (nI c), .int (nI 0), .int (nI (strI i).2.2.2.length)] σ (fun r τ => τ = σ ∧ ((∃ k, k < (strI i).2.2.2.length ∧ (strI i).2.2.2.getD k 0 = nI c ∧ r = nI k) ∨ ((∀ k, k < (strI i).2.2.2.length → (strI i).2.2.2.getD k 0 ≠ nI c) ∧ r = -1))) := by
  refine MC_of (by decide) (ca1 rfl (ca1 rfl (ca1 rfl (ca1 rfl ca0)))) (Nat.le_of_ble_eq_true rfl) ?_
  intro Z X hR
  show V G Z σ 0 [some (.ref (G.2.2.2 (5 + i))), some (.int (nI c)), some (.int (nI 0)), some (.int (nI (strI i).2.2.2.length))] []
  have hle := str_len i hi
  have hpos : 0 < (strI i).2.2.2.length := by
    have : ∀ i, i < 4 → 0 < (strI i).2.2.2.length := by decide
    exact this i hi
  refine v_iload_n X dJ1_indexOf_4cfef_0 rfl ?_
  refine v_cals X (c_canEncode G _) cs_J1_88 (by decide) rfl (by rfl) (Nat.le_of_ble_eq_true rfl) dJ1_indexOf_4cfef_1 (fun r τ hp => ?_)
  obtain ⟨rfl, rfl⟩ := hp
  have hen : decide (¬ nI c < 0 ∧ ¬ nI 255 < nI c) = true := decide_eq_true ⟨nI_pos (by omega), nI_nlt (by omega) (by omega)⟩
  rw [hen]
  refine v_if_ne (tgt := 9) X dJ1_indexOf_4cfef_4 (by decide) (fun h4 => ?_) (fun h4 => ?_)
  · skip
    refine v_iload_n X dJ1_indexOf_4cfef_9 rfl ?_
    refine v_iconst (v := nI 0) X dJ1_indexOf_4cfef_10 (by decide) ?_
    refine v_mmax X (by decide) cs_J1_92 (Nat.le_of_ble_eq_true rfl) dJ1_indexOf_4cfef_11 ?_
    refine v_top (y := nI 0) (by decide) ?_
    refine v_istore_n X dJ1_indexOf_4cfef_14 (Nat.le_of_ble_eq_true rfl) ?_
    show V G Z _ 15 [_, _, _, _] _
    refine v_iload_n X dJ1_indexOf_4cfef_15 rfl ?_
    refine v_aload_n X dJ1_indexOf_4cfef_16 rfl ?_
    refine v_slen X hi dJ1_indexOf_4cfef_17 ?_
    refine v_mmin X (by decide) cs_J1_38 (Nat.le_of_ble_eq_true rfl) dJ1_indexOf_4cfef_18 ?_
    refine v_top (y := nI (strI i).2.2.2.length) (by simp) ?_
    refine v_istore_n X dJ1_indexOf_4cfef_21 (Nat.le_of_ble_eq_true rfl) ?_
    show V G Z _ 22 [_, _, _, _] _
    refine v_iload_n X dJ1_indexOf_4cfef_22 rfl ?_
    refine v_iload_n X dJ1_indexOf_4cfef_23 rfl ?_
    refine v_icmp_lt (tgt := 29) X dJ1_indexOf_4cfef_24 (by decide) (fun h24 => ?_) (fun h24 => ?_)
    · skip
      refine v_aload_n X dJ1_indexOf_4cfef_29 rfl ?_
      refine v_iload_n X dJ1_indexOf_4cfef_30 rfl ?_
      refine v_iload_n X dJ1_indexOf_4cfef_31 rfl ?_
      refine v_iload_n X dJ1_indexOf_4cfef_32 rfl ?_
      refine v_cals X (c_indexOfChar G hi hc) cs_J1_95 (by decide) rfl (by rfl) (Nat.le_of_ble_eq_true rfl) dJ1_indexOf_4cfef_33 (fun r τ hp => ?_)
      obtain ⟨rfl, hp⟩ := hp
      refine v_ret X hR dJ1_indexOf_4cfef_36 rfl ?_
      exact ⟨rfl, hp⟩
    · skip
      exact absurd (nI_ltn (by omega) (by omega) h24) (by omega)
  · skip
    exact absurd h4 (by decide)

set_option maxHeartbeats 4000000 in
set_option maxRecDepth 100000 in
theorem c_indexOf2 (G : GT) {σ : Sg} {i c : Nat} (hi : i < 4) (hc : c < 128) : MC G yJ0_indexOf_7cf53 cJ0_indexOf_7cf53 3 .int 2 [.ref (G.2.2.2 (1 + i)), .int (nI c), .int (nI 0)] σ (fun r τ => τ = σ ∧ ((∃ k, k < (strI i).2.2.2.length ∧ (strI i).2.2.2.getD k 0 = nI c ∧ r = nI k) ∨ ((∀ k, k < (strI i).2.2.2.length → (strI i).2.2.2.getD k 0 ≠ nI c) ∧ r = -1))) := by
  refine MC_of (by decide) (ca1 rfl (ca1 rfl (ca1 rfl ca0))) (Nat.le_of_ble_eq_true rfl) ?_
  intro Z X hR
  show V G Z σ 0 [some (.ref (G.2.2.2 (1 + i))), some (.int (nI c)), some (.int (nI 0))] []
  refine v_aload_n X dJ0_indexOf_7cf53_0 rfl ?_
  refine v_calz X hi (c_isLatin1 G hi) cv_J0_492 rfl (by decide) rfl (by rfl) (Nat.le_of_ble_eq_true rfl) dJ0_indexOf_7cf53_1 (fun r τ hp => ?_)
  obtain ⟨rfl, rfl⟩ := hp
  refine v_if_eq (tgt := 23) X dJ0_indexOf_7cf53_4 (by decide) (fun h4 => ?_) (fun h4 => ?_)
  · skip
    exact absurd h4 (by decide)
  · skip
    refine v_aload_n X dJ0_indexOf_7cf53_7 rfl ?_
    refine v_value X hi fs_J0_9 dJ0_indexOf_7cf53_8 ?_
    refine v_iload_n X dJ0_indexOf_7cf53_11 rfl ?_
    refine v_iload_n X dJ0_indexOf_7cf53_12 rfl ?_
    refine v_aload_n X dJ0_indexOf_7cf53_13 rfl ?_
    refine v_calz X hi (c_jlength G hi) cv_J0_505 rfl (by decide) rfl (by rfl) (Nat.le_of_ble_eq_true rfl) dJ0_indexOf_7cf53_14 (fun r τ hp => ?_)
    obtain ⟨rfl, rfl⟩ := hp
    refine v_cals X (c_indexOf1 G hi hc) cs_J0_637 (by decide) rfl (by rfl) (Nat.le_of_ble_eq_true rfl) dJ0_indexOf_7cf53_17 (fun r τ hp => ?_)
    obtain ⟨rfl, hp⟩ := hp
    refine v_goto (tgt := 36) X dJ0_indexOf_7cf53_20 (by decide) ?_
    refine v_ret X hR dJ0_indexOf_7cf53_36 rfl ?_
    exact ⟨rfl, hp⟩

set_option maxHeartbeats 4000000 in
set_option maxRecDepth 100000 in
theorem c_indexOf (G : GT) {σ : Sg} {i c : Nat} (hi : i < 4) (hc : c < 128) : MC G yJ0_indexOf_0f7a4 cJ0_indexOf_0f7a4 2 .int 3 [.ref (G.2.2.2 (1 + i)), .int (nI c)] σ (fun r τ => τ = σ ∧ ((∃ k, k < (strI i).2.2.2.length ∧ (strI i).2.2.2.getD k 0 = nI c ∧ r = nI k) ∨ ((∀ k, k < (strI i).2.2.2.length → (strI i).2.2.2.getD k 0 ≠ nI c) ∧ r = -1))) := by
  refine MC_of (by decide) (ca1 rfl (ca1 rfl ca0)) (Nat.le_of_ble_eq_true rfl) ?_
  intro Z X hR
  show V G Z σ 0 [some (.ref (G.2.2.2 (1 + i))), some (.int (nI c))] []
  refine v_aload_n X dJ0_indexOf_0f7a4_0 rfl ?_
  refine v_iload_n X dJ0_indexOf_0f7a4_1 rfl ?_
  refine v_iconst (v := nI 0) X dJ0_indexOf_0f7a4_2 (by decide) ?_
  refine v_calz X hi (c_indexOf2 G hi hc) cv_J0_633 rfl (by decide) rfl (by rfl) (Nat.le_of_ble_eq_true rfl) dJ0_indexOf_0f7a4_3 (fun r τ hp => ?_)
  obtain ⟨rfl, hp⟩ := hp
  refine v_ret X hR dJ0_indexOf_0f7a4_6 rfl ?_
  exact ⟨rfl, hp⟩

