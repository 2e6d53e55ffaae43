/-- of the Frame only its own rows may change -/
def fO (σ τ : Sg) : Prop := ∀ i, (i < 151 ∨ 155 ≤ i) → τ i = σ i
theorem fO.rfl {σ : Sg} : fO σ σ := fun _ _ => by rfl
theorem fO.trans {σ τ υ : Sg} (h1 : fO σ τ) (h2 : fO τ υ) : fO σ υ := fun i h => (h2 i h).trans (h1 i h)
theorem fO.s2 {σ τ : Sg} {i k : Nat} {x : Int32} (h : fO σ τ) (h1 : 151 ≤ i) (h2 : i < 155) : fO σ (s2 τ i k x) := fun q hq => by rw [s2_nc (by omega)]; exact h q hq
theorem fO.s1 {σ τ : Sg} {i : Nat} {f : Nat → Int32} (h : fO σ τ) (h1 : 151 ≤ i) (h2 : i < 155) : fO σ (s1 τ i f) := fun q hq => by
  show (if q = i then f else τ q) = σ q
  rw [if_neg (by omega)]; exact h q hq
theorem hs_fO {σ τ : Sg} {j : Nat} {P : Sen} (h : hs σ j P) (ho : fO σ τ) (hj : j < 20) : hs τ j P := hs_cong h (by rw [ho _ (by omega)]) (fun q _ _ => ho _ (by omega))
def dcI (σ τ : Sg) (L : List Nat) (k : Nat) (p : Pt) (i : Nat) : Prop := (∀ c, c ≠ 152 → c ≠ 153 → τ c = σ c) ∧ (∀ x w, i ≤ x → L[x]? = some w → τ 152 x = nI w) ∧ arr (τ 152) ((L.take i).filter (wyO p)) ∧ arr (τ 153) (((L.take i).filter (wyI p)).map (fun w => 2 ^ k + w))
theorem flen (L : List Nat) (f : Nat → Bool) (i : Nat) (hi : i ≤ L.length) : ((L.take i).filter f).length ≤ i := by
  have := List.length_filter_le f (L.take i)
  rw [List.length_take] at this
  omega
theorem take_s {L : List Nat} {i w : Nat} (h : L[i]? = some w) : L.take (i + 1) = L.take i ++ [w] := by
  rw [List.take_succ, h]; rfl
theorem fil_s {L : List Nat} {i w : Nat} (f : Nat → Bool) (h : L[i]? = some w) : (L.take (i + 1)).filter f = (L.take i).filter f ++ (if f w then [w] else []) := by
  rw [take_s h, List.filter_append]
  simp [List.filter_cons]
set_option maxHeartbeats 4000000 in
set_option maxRecDepth 100000 in
theorem c_decide (G : GT) {σ : Sg} {P : Sen} (hP : hs σ 19 P) {k : Nat} {p : Pt} (hp : P[k]? = some p) (he : σ 151 5 = nI (clL P k).length) (hL : arr (σ 152) (clL P k)) : MV G yX0_decide cX0_decide 7 2 [.ref (G.2.2.1 151), .int (nI k)] σ (fun τ => fO σ τ ∧ τ 151 5 = nI (clL P (k + 1)).length ∧ arr (τ 152) (clL P (k + 1))) := by
  refine MV_of (by decide) (ca1 rfl (ca1 rfl ca0)) (Nat.le_of_ble_eq_true rfl) ?_
  intro Z X hR
  show V G Z σ 0 [some (.ref (G.2.2.1 151)), some (.int (nI k)), none, none, none, none, none] []
  have hk := (List.getElem?_eq_some_iff.mp hp).1
  have hP11 := hP.1
  have hlen : (clL P k).length ≤ 1024 := Nat.le_trans (clL_len P k) (Nat.le_trans (Nat.pow_le_pow_right (by decide) (show k ≤ 10 by omega)) (by decide))
  have loop : ∀ (n i : Nat) (τ : Sg) (wo wi : Nat) (l5 l6 : Option Value), (clL P k).length - i < n → i ≤ (clL P k).length → wo = (((clL P k).take i).filter (wyO p)).length → wi = (((clL P k).take i).filter (wyI p)).length → dcI σ τ (clL P k) k p i → V G Z τ 7 [some (.ref (G.2.2.1 151)), some (.int (nI k)), some (.int (nI wo)), some (.int (nI wi)), some (.int (nI i)), l5, l6] [] := by
    intro n
    induction n with
    | zero => intro i τ wo wi l5 l6 h; omega
    | succ n ih =>
      intro i τ wo wi l5 l6 hn hil hwo hwi hinv
      obtain ⟨i1, i2, i3, i4⟩ := hinv
      have e5 : τ 151 5 = nI (clL P k).length := by rw [i1 151 (by decide) (by decide)]; exact he
      have hT : hs τ 19 P := hs_cong hP (by rw [i1 _ (by decide) (by decide)]) (fun q _ _ => i1 _ (by omega) (by omega))
      have bo : wo ≤ i := by rw [hwo]; exact flen _ _ _ hil
      have bi : wi ≤ i := by rw [hwi]; exact flen _ _ _ hil
      refine v_iload X dX0_decide_7 rfl ?_
      refine v_aload_n X dX0_decide_9 rfl ?_
      refine v_geti X fl_X0_32 shX0_5 dX0_decide_10 ?_
      rw [e5]
      refine v_icmp_ge (tgt := 80) X dX0_decide_13 (by decide) (fun h13 => ?_) (fun h13 => ?_)
      · skip
        have hi := nI_lem (by omega) (by omega) h13
        have hi : i = (clL P k).length := by omega
        subst hi
        rw [List.take_length] at hwo hwi i3 i4
        refine v_aload_n X dX0_decide_80 rfl ?_
        refine v_getr X fl_X0_22 shX0_2 dX0_decide_81 ?_
        refine v_iconst (v := nI 0) X dX0_decide_84 (by decide) ?_
        refine v_aload_n X dX0_decide_85 rfl ?_
        refine v_getr X fl_X0_18 shX0_1 dX0_decide_86 ?_
        refine v_iload_n X dX0_decide_89 rfl ?_
        refine v_iload_n X dX0_decide_90 rfl ?_
        refine v_copyi X (by decide) arX0_2 arX0_1 (by omega) (by omega) (by decide) (by decide) (Nat.le_of_ble_eq_true rfl) dX0_decide_91 ?_
        refine v_aload_n X dX0_decide_94 rfl ?_
        refine v_iload_n X dX0_decide_95 rfl ?_
        refine v_iload_n X dX0_decide_96 rfl ?_
        refine v_iadd X dX0_decide_97 ?_
        refine v_top (nI_add wo wi) ?_
        refine v_puti X fw_X0_32 shX0_5 dX0_decide_98 rfl rfl ?_
        refine v_vret X hR dX0_decide_101 ?_
        have es := clL_succ hP.2.1 hp
        refine ⟨?_, ?_, ?_⟩
        · have hf : fO σ τ := fun c hc => i1 c (by omega) (by omega)
          exact (hf.s1 (by decide) (by decide)).s2 (by decide) (by decide)
        · rw [s2_at, es, List.length_append, List.length_map, ← hwo, ← hwi]
        · rw [s2_nc (by decide), es]
          intro x v hx
          show (if (152 : Nat) = 152 then va_cpy (τ 153) (τ 152) 0 wo wi else τ 152) x = nI v
          rw [if_pos rfl]
          rw [List.getElem?_append] at hx
          split at hx
          · rename_i hlt
            rw [pk_cpy_out (by omega)]
            exact i3 x v hx
          · rename_i hge
            have hlt := (List.getElem?_eq_some_iff.mp hx).1
            rw [List.length_map] at hlt
            rw [pk_cpy_in (by omega) (by omega), hwo, Nat.zero_add]
            exact i4 _ v hx
      · skip
        have hi := nI_len (by omega) (by omega) h13
        obtain ⟨w, hw⟩ : ∃ w, (clL P k)[i]? = some w := ⟨(clL P k)[i], List.getElem?_eq_getElem hi⟩
        have hwk : w < 2 ^ k := clL_lt (List.mem_of_getElem? hw)
        have fo := fil_s (wyO p) hw
        have fi := fil_s (wyI p) hw
        refine v_aload_n X dX0_decide_16 rfl ?_
        refine v_getr X fl_X0_18 shX0_1 dX0_decide_17 ?_
        refine v_iload X dX0_decide_20 rfl ?_
        refine v_ialdE X arX0_1 rfl (show i < 2048 by omega) dX0_decide_22 ?_
        rw [i2 i w (Nat.le_refl i) hw]
        refine v_istore X dX0_decide_23 (Nat.le_of_ble_eq_true rfl) ?_
        show V G Z _ 25 [_, _, _, _, _, _, _] _
        refine v_aload_n X dX0_decide_25 rfl ?_
        refine v_iload_n X dX0_decide_26 rfl ?_
        refine v_iload X dX0_decide_27 rfl ?_
        refine v_cali X (c_waysOf G hT hp w) cv_X0_53 obX0 rfl (by decide) rfl (by rfl) (Nat.le_of_ble_eq_true rfl) dX0_decide_29 (fun r τ9 hq => ?_)
        obtain ⟨e9, rfl⟩ := hq
        rw [e9]
        have mid : ∀ (υ : Sg) (wi2 : Nat), wi2 = (((clL P k).take (i + 1)).filter (wyI p)).length → (∀ c, c ≠ 153 → υ c = τ c) → arr (υ 153) ((((clL P k).take (i + 1)).filter (wyI p)).map (fun w => 2 ^ k + w)) → V G Z υ 56 [some (.ref (G.2.2.1 151)), some (.int (nI k)), some (.int (nI wo)), some (.int (nI wi2)), some (.int (nI i)), some (.int (nI w)), some (.int (nI ((if wyI p w then 2 else 0) + (if wyO p w then 1 else 0))))] [] := by
          intro υ wi2 m1 m2 m3
          refine v_iload X dX0_decide_56 rfl ?_
          refine v_iconst (v := nI 1) X dX0_decide_58 (by decide) ?_
          refine v_iand X dX0_decide_59 ?_
          refine v_top (y := bI (wyO p w)) (by cases wyI p w <;> cases wyO p w <;> decide) ?_
          refine v_if_eq (tgt := 74) X dX0_decide_60 (by decide) (fun h60 => ?_) (fun h60 => ?_)
          · skip
            have eo := bI_z.mp h60
            rw [eo] at fo
            refine v_iincE X dX0_decide_74 rfl (nI_inc i) ?_
            show V G Z _ 77 [_, _, _, _, _, _, _] _
            refine v_goto (tgt := 7) X dX0_decide_77 (by decide) ?_
            refine ih (i + 1) _ _ _ _ _ (by omega) (by omega) (by rw [fo, List.length_append, ← hwo]; rfl) m1 ⟨fun c c1 c2 => ?_, fun x v hx hv => ?_, ?_, m3⟩
            · rw [m2 c c2]; exact i1 c c1 c2
            · rw [m2 152 (by decide)]; exact i2 x v (by omega) hv
            · rw [m2 152 (by decide), fo]; simpa using i3
          · skip
            have eo := bI_nz.mp h60
            rw [eo] at fo
            refine v_aload_n X dX0_decide_63 rfl ?_
            refine v_getr X fl_X0_18 shX0_1 dX0_decide_64 ?_
            refine v_iload_n X dX0_decide_67 rfl ?_
            refine v_iload X dX0_decide_68 rfl ?_
            refine v_iastE X arX0_1 rfl (show wo < 2048 by omega) dX0_decide_70 ?_
            refine v_iincE X dX0_decide_71 rfl (nI_inc wo) ?_
            show V G Z _ 74 [_, _, _, _, _, _, _] _
            refine v_iincE X dX0_decide_74 rfl (nI_inc i) ?_
            show V G Z _ 77 [_, _, _, _, _, _, _] _
            refine v_goto (tgt := 7) X dX0_decide_77 (by decide) ?_
            refine ih (i + 1) _ _ _ _ _ (by omega) (by omega) (by rw [fo, List.length_append, ← hwo]; rfl) m1 ⟨fun c c1 c2 => ?_, fun x v hx hv => ?_, ?_, ?_⟩
            · rw [s2_nc c1, m2 c c2]; exact i1 c c1 c2
            · rw [s2_ap, if_neg (by omega), m2 152 (by decide)]; exact i2 x v (by omega) hv
            · rw [s2_c, m2 152 (by decide), fo, hwo]; exact arr_snoc i3
            · rw [s2_nc (by decide)]; exact m3
        refine v_istore X dX0_decide_32 (Nat.le_of_ble_eq_true rfl) ?_
        show V G Z _ 34 [_, _, _, _, _, _, _] _
        refine v_iload X dX0_decide_34 rfl ?_
        refine v_iconst (v := nI 2) X dX0_decide_36 (by decide) ?_
        refine v_iand X dX0_decide_37 ?_
        refine v_top (y := if wyI p w then 2 else 0) (by cases wyI p w <;> cases wyO p w <;> decide) ?_
        refine v_if_eq (tgt := 56) X dX0_decide_38 (by decide) (fun h38 => ?_) (fun h38 => ?_)
        · skip
          have ei : wyI p w = false := by
            cases h : wyI p w with
            | false => rfl
            | true => rw [h] at h38; exact absurd h38 (by decide)
          rw [ei] at fi
          refine mid τ wi ?_ (fun _ _ => rfl) ?_
          · rw [fi, hwi]; simp
          · rw [fi]; simpa using i4
        · skip
          have ei : wyI p w = true := by
            cases h : wyI p w with
            | true => rfl
            | false => rw [h] at h38; exact absurd rfl h38
          rw [ei] at fi
          refine v_aload_n X dX0_decide_41 rfl ?_
          refine v_getr X fl_X0_22 shX0_2 dX0_decide_42 ?_
          refine v_iload_n X dX0_decide_45 rfl ?_
          refine v_iload X dX0_decide_46 rfl ?_
          refine v_iconst (v := nI 1) X dX0_decide_48 (by decide) ?_
          refine v_iload_n X dX0_decide_49 rfl ?_
          refine v_ishl X dX0_decide_50 ?_
          refine v_top (nb_shl (by omega)) ?_
          refine v_ior X dX0_decide_51 ?_
          refine v_top (y := nI (2 ^ k + w)) (by rw [nb_or, or_add hwk]) ?_
          refine v_iastE X arX0_2 rfl (show wi < 2048 by omega) dX0_decide_52 ?_
          refine v_iincE X dX0_decide_53 rfl (nI_inc wi) ?_
          show V G Z _ 56 [_, _, _, _, _, _, _] _
          refine mid _ (wi + 1) ?_ (fun c hc => s2_nc hc) ?_
          · rw [fi, List.length_append, ← hwi]; rfl
          · rw [s2_c, fi, List.map_append]
            have := arr_snoc (w := 2 ^ k + w) i4
            rw [List.length_map, ← hwi] at this
            exact this
  refine v_iconst (v := nI 0) X dX0_decide_0 (by decide) ?_
  refine v_istore_n X dX0_decide_1 (Nat.le_of_ble_eq_true rfl) ?_
  show V G Z _ 2 [_, _, _, _, _, _, _] _
  refine v_iconst (v := nI 0) X dX0_decide_2 (by decide) ?_
  refine v_istore_n X dX0_decide_3 (Nat.le_of_ble_eq_true rfl) ?_
  show V G Z _ 4 [_, _, _, _, _, _, _] _
  refine v_iconst (v := nI 0) X dX0_decide_4 (by decide) ?_
  refine v_istore X dX0_decide_5 (Nat.le_of_ble_eq_true rfl) ?_
  show V G Z _ 7 [_, _, _, _, _, _, _] _
  refine loop ((clL P k).length + 1) 0 σ 0 0 _ _ (by omega) (by omega) rfl rfl ⟨fun _ _ _ => rfl, fun x w _ h => hL x w h, fun x w h => by simp at h, fun x w h => by simp at h⟩
