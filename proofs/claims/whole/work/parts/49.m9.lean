theorem filter_less {p q : Nat → Bool} : ∀ (L : List Nat), (∀ v ∈ L, p v = true → q v = true) → (∃ v ∈ L, q v = true ∧ p v = false) → (L.filter p).length < (L.filter q).length
  | [], _, ⟨v, h, _⟩ => by cases h
  | w :: L, h1, ⟨v, h2, h3, h4⟩ => by
    have le : ∀ (L : List Nat), (∀ v ∈ L, p v = true → q v = true) → (L.filter p).length ≤ (L.filter q).length := by
      intro L
      induction L with
      | nil => intro _; exact Nat.le_refl _
      | cons w L ih =>
        intro h
        have := ih (fun v hv => h v (List.mem_cons_of_mem _ hv))
        have hw := h w List.mem_cons_self
        rw [List.filter_cons, List.filter_cons]
        cases hp : p w with
        | true => rw [hw hp]; simpa using this
        | false =>
          cases hq : q w with
          | true => simp; omega
          | false => simpa using this
    rw [List.filter_cons, List.filter_cons]
    have htl : ∀ v ∈ L, p v = true → q v = true := fun v hv => h1 v (List.mem_cons_of_mem _ hv)
    rcases List.mem_cons.mp h2 with rfl | h2
    · rw [h3, h4]
      have := le L htl
      simp; omega
    · have ih := filter_less L htl ⟨v, h2, h3, h4⟩
      have hw := h1 w List.mem_cons_self
      cases hp : p w with
      | true => rw [hw hp]; simpa using ih
      | false =>
        cases hq : q w with
        | true => simp; omega
        | false => simpa using ih
def wI (τ : Sg) (P : Sen) : Prop := (wlK P).length ≤ 2048 ∧ τ 156 22 = nI (wlK P).length ∧ arr (τ 171) ((wlK P).map (fun q => q.1))
theorem clL_inj {P : Sen} {n x y v : Nat} (hx : (clL P n)[x]? = some v) (hy : (clL P n)[y]? = some v) : x = y := by
  have h := clL_pair P n
  rw [List.pairwise_iff_getElem] at h
  obtain ⟨a1, a2⟩ := List.getElem?_eq_some_iff.mp hx
  obtain ⟨b1, b2⟩ := List.getElem?_eq_some_iff.mp hy
  rcases Nat.lt_trichotomy x y with z | z | z
  · have := h x y a1 b1 z; rw [a2, b2] at this; omega
  · exact z
  · have := h y x b1 a1 z; rw [a2, b2] at this; omega
set_option maxHeartbeats 4000000 in
set_option maxRecDepth 100000 in
theorem m_layWorlds (G : GT) {σ : Sg} {P : Sen} (hP : wS σ P) (hl : P.length ≤ 11) : MV G yX5_layWorlds cX5_layWorlds 4 2 [.ref (G.2.2.1 156)] σ (fun τ => vO σ τ ∧ wI τ P) := by
  refine MV_of (by decide) (ca1 rfl ca0) (Nat.le_of_ble_eq_true rfl) ?_
  intro Z X hR
  show V G Z σ 0 [some (.ref (G.2.2.1 156)), none, none, none] []
  have hpow : 2 ^ P.length ≤ 2048 := Nat.le_trans (Nat.pow_le_pow_right (by decide) hl) (by decide)
  have hLlen : (clL P P.length).length ≤ 2048 := Nat.le_trans (clL_len P _) hpow
  have hL31 : ∀ w ∈ clL P P.length, w < 2 ^ 31 := fun w hw => by have := clL_lt hw; omega
  have st3 : ∀ (n y : Nat) (τ : Sg) (g : Nat → Bool) (lf : Nat) (l1 : Option Value), (clL P P.length).length - y < n → y ≤ (clL P P.length).length → vO σ τ → (∀ q ∈ wlK P, g q.1 = false) → (∀ w ∈ clL P P.length, g w = false → ndd P (clL P P.length) g w) → lf = (((clL P P.length).take y).filter (fun w => !g w)).length → τ 156 22 = nI (clL P P.length).length → arr (τ 171) (((clL P P.length).take y).filter (fun w => !g w)) → (∀ x w, y ≤ x → (clL P P.length)[x]? = some w → τ 171 x = nI w) → (∀ x w, (clL P P.length)[x]? = some w → τ 172 x = bI (g w)) → V G Z τ 123 [some (.ref (G.2.2.1 156)), l1, some (.int (nI lf)), some (.int (nI y))] [] := by
    intro n
    induction n with
    | zero => intro y τ g lf l1 h; omega
    | succ n ih =>
      intro y τ g lf l1 hn hyl g1 g2 g3 g4 g5 g6 g7 g8
      have hlf : lf ≤ y := by rw [g4]; exact flen _ _ _ hyl
      refine v_iload_n X dX5_layWorlds_123 rfl ?_
      refine v_aload_n X dX5_layWorlds_124 rfl ?_
      refine v_geti X fl_X5_138 shX5_22 dX5_layWorlds_125 ?_
      rw [g5]
      refine v_icmp_ge (tgt := 161) X dX5_layWorlds_128 (by decide) (fun h128 => ?_) (fun h128 => ?_)
      · skip
        have hy := nI_lem (by omega) (by omega) h128
        have hy : y = (clL P P.length).length := by omega
        subst hy
        rw [List.take_length] at g4 g6
        rw [gone_whole g2 g3] at g4 g6
        refine v_aload_n X dX5_layWorlds_161 rfl ?_
        refine v_iload_n X dX5_layWorlds_162 rfl ?_
        refine v_puti X fw_X5_138 shX5_22 dX5_layWorlds_163 rfl rfl ?_
        refine v_vret X hR dX5_layWorlds_166 ?_
        refine ⟨g1.s2 (by omega), ?_, ?_, ?_⟩
        · rw [List.length_map] at g4; omega
        · rw [s2_at, g4, List.length_map]
        · rw [s2_nc (by decide)]; exact g6
      · skip
        have hy := nI_len (by omega) (by omega) h128
        obtain ⟨w, hw⟩ : ∃ w, (clL P P.length)[y]? = some w := ⟨(clL P P.length)[y], List.getElem?_eq_getElem hy⟩
        have fo := fil_s (fun w => !g w) hw
        refine v_aload_n X dX5_layWorlds_131 rfl ?_
        refine v_getr X fl_X5_59 shX5_21 dX5_layWorlds_132 ?_
        refine v_iload_n X dX5_layWorlds_135 rfl ?_
        refine v_zaldE X arX5_21 rfl (show y < 2048 by omega) dX5_layWorlds_136 ?_
        rw [g8 y w hw]
        refine v_if_ne (tgt := 155) X dX5_layWorlds_137 (by decide) (fun h137 => ?_) (fun h137 => ?_)
        · skip
          have eg := bI_nz.mp h137
          simp only [eg] at fo
          refine v_iincE X dX5_layWorlds_155 rfl (nI_inc y) ?_
          show V G Z _ 158 [_, _, _, _] _
          refine v_goto (tgt := 123) X dX5_layWorlds_158 (by decide) ?_
          refine ih (y + 1) _ g lf _ (by omega) (by omega) g1 g2 g3 (by rw [fo, g4]; simp) g5 (by rw [fo]; simpa using g6) (fun x w hx hw => g7 x w (by omega) hw) g8
        · skip
          have eg := bI_z.mp h137
          simp only [eg] at fo
          refine v_aload_n X dX5_layWorlds_140 rfl ?_
          refine v_getr X fl_X5_56 shX5_20 dX5_layWorlds_141 ?_
          refine v_iload_n X dX5_layWorlds_144 rfl ?_
          refine v_aload_n X dX5_layWorlds_145 rfl ?_
          refine v_getr X fl_X5_56 shX5_20 dX5_layWorlds_146 ?_
          refine v_iload_n X dX5_layWorlds_149 rfl ?_
          refine v_ialdE X arX5_20 rfl (show y < 2048 by omega) dX5_layWorlds_150 ?_
          rw [g7 y w (Nat.le_refl y) hw]
          refine v_iastE X arX5_20 rfl (show lf < 2048 by omega) dX5_layWorlds_151 ?_
          refine v_iincE X dX5_layWorlds_152 rfl (nI_inc lf) ?_
          show V G Z _ 155 [_, _, _, _] _
          refine v_iincE X dX5_layWorlds_155 rfl (nI_inc y) ?_
          show V G Z _ 158 [_, _, _, _] _
          refine v_goto (tgt := 123) X dX5_layWorlds_158 (by decide) ?_
          refine ih (y + 1) _ g (lf + 1) _ (by omega) (by omega) (g1.s2 (by omega)) g2 g3 (by rw [fo, List.length_append, ← g4]; rfl) (by rw [s2_nc (by decide)]; exact g5) ?_ (fun x w hx hw => ?_) (fun x w hw => ?_)
          · rw [s2_c, fo, g4]; exact arr_snoc g6
          · rw [s2_ap, if_neg (by omega)]; exact g7 x w (by omega) hw
          · rw [s2_nc (by decide)]; exact g8 x w hw
  have ex : ∀ (τ : Sg) (g : Nat → Bool) (l2 l3 : Option Value), vO σ τ → gI τ (clL P P.length) g → (∀ q ∈ wlK P, g q.1 = false) → (∀ w ∈ clL P P.length, g w = false → ndd P (clL P P.length) g w) → V G Z τ 63 [some (.ref (G.2.2.1 156)), some (.int (bI false)), l2, l3] [] := by
    intro τ g l2 l3 g1 g2 g3 g4
    refine v_iload_n X dX5_layWorlds_63 rfl ?_
    refine v_if_eq (tgt := 119) X dX5_layWorlds_64 (by decide) (fun h64 => ?_) (fun h64 => ?_)
    · skip
      refine v_iconst (v := nI 0) X dX5_layWorlds_119 (by decide) ?_
      refine v_istore_n X dX5_layWorlds_120 (Nat.le_of_ble_eq_true rfl) ?_
      show V G Z _ 121 [_, _, _, _] _
      refine v_iconst (v := nI 0) X dX5_layWorlds_121 (by decide) ?_
      refine v_istore_n X dX5_layWorlds_122 (Nat.le_of_ble_eq_true rfl) ?_
      show V G Z _ 123 [_, _, _, _] _
      refine st3 ((clL P P.length).length + 1) 0 τ g 0 _ (by omega) (by omega) g1 g3 g4 rfl g2.2.1 (fun x w h => by simp at h) (fun x w _ h => g2.2.2.1 x w h) g2.2.2.2
    · skip
      exact absurd rfl h64
  have st2 : ∀ (m : Nat) (τ : Sg) (g : Nat → Bool) (l2 l3 : Option Value), ((clL P P.length).filter (fun w => !g w)).length < m → vO σ τ → gI τ (clL P P.length) g → (∀ q ∈ wlK P, g q.1 = false) → V G Z τ 63 [some (.ref (G.2.2.1 156)), some (.int (bI true)), l2, l3] [] := by
    intro m
    induction m with
    | zero => intro τ g l2 l3 h; omega
    | succ m ih =>
      intro τ g l2 l3 hm g1 g2 g3
      have inner : ∀ (n y : Nat) (τ2 : Sg) (g' : Nat → Bool) (b : Bool) (l3 : Option Value), (clL P P.length).length - y < n → y ≤ (clL P P.length).length → vO σ τ2 → gI τ2 (clL P P.length) g' → (∀ q ∈ wlK P, g' q.1 = false) → (b = true → ((clL P P.length).filter (fun w => !g' w)).length < ((clL P P.length).filter (fun w => !g w)).length) → (∀ v ∈ clL P P.length, g v = true → g' v = true) → (b = false → ∀ x w, x < y → (clL P P.length)[x]? = some w → g' w = false → ndd P (clL P P.length) g' w) → V G Z τ2 71 [some (.ref (G.2.2.1 156)), some (.int (bI b)), some (.int (nI y)), l3] [] := by
        intro n
        induction n with
        | zero => intro y τ2 g' b l3 h; omega
        | succ n ihn =>
          intro y τ2 g' b l3 hn hyl k1 k2 k3 k4 k6 k5
          refine v_iload_n X dX5_layWorlds_71 rfl ?_
          refine v_aload_n X dX5_layWorlds_72 rfl ?_
          refine v_geti X fl_X5_138 shX5_22 dX5_layWorlds_73 ?_
          rw [k2.2.1]
          refine v_icmp_ge (tgt := 116) X dX5_layWorlds_76 (by decide) (fun h76 => ?_) (fun h76 => ?_)
          · skip
            have hy := nI_lem (by omega) (by omega) h76
            have hy : y = (clL P P.length).length := by omega
            subst hy
            refine v_goto (tgt := 63) X dX5_layWorlds_116 (by decide) ?_
            cases b with
            | true => exact ih τ2 g' _ _ (by have := k4 rfl; omega) k1 k2 k3
            | false =>
              refine ex τ2 g' _ _ k1 k2 k3 (fun w hw hg => ?_)
              obtain ⟨x, hx⟩ := List.getElem?_of_mem hw
              exact k5 rfl x w (List.getElem?_eq_some_iff.mp hx).1 hx hg
          · skip
            have hy := nI_len (by omega) (by omega) h76
            obtain ⟨w, hw⟩ : ∃ w, (clL P P.length)[y]? = some w := ⟨(clL P P.length)[y], List.getElem?_eq_getElem hy⟩
            have hwm := List.mem_of_getElem? hw
            refine v_aload_n X dX5_layWorlds_79 rfl ?_
            refine v_getr X fl_X5_59 shX5_21 dX5_layWorlds_80 ?_
            refine v_iload_n X dX5_layWorlds_83 rfl ?_
            refine v_zaldE X arX5_21 rfl (show y < 2048 by omega) dX5_layWorlds_84 ?_
            rw [k2.2.2.2 y w hw]
            refine v_if_ne (tgt := 110) X dX5_layWorlds_85 (by decide) (fun h85 => ?_) (fun h85 => ?_)
            · skip
              have eg := bI_nz.mp h85
              refine v_iincE X dX5_layWorlds_110 rfl (nI_inc y) ?_
              show V G Z _ 113 [_, _, _, _] _
              refine v_goto (tgt := 71) X dX5_layWorlds_113 (by decide) ?_
              exact ihn (y + 1) τ2 g' b _ (by omega) (by omega) k1 k2 k3 k4 k6 (fun hb x w' hx hx' hg => by
                rcases Nat.lt_or_ge x y with z | z
                · exact k5 hb x w' z hx' hg
                · rw [show x = y by omega, hw] at hx'
                  cases hx'
                  rw [eg] at hg; cases hg)
            · skip
              have eg := bI_z.mp h85
              refine v_aload_n X dX5_layWorlds_88 rfl ?_
              refine v_aload_n X dX5_layWorlds_89 rfl ?_
              refine v_getr X fl_X5_56 shX5_20 dX5_layWorlds_90 ?_
              refine v_iload_n X dX5_layWorlds_93 rfl ?_
              refine v_ialdE X arX5_20 rfl (show y < 2048 by omega) dX5_layWorlds_94 ?_
              rw [k2.2.2.1 y w hw]
              refine v_cali X (m_isNeeded G (wS_vO hP k1) hl k2 (hL31 w hwm)) cv_X5_144 obX5 rfl (by decide) rfl (by rfl) (Nat.le_of_ble_eq_true rfl) dX5_layWorlds_95 (fun r τ9 hq => ?_)
              obtain ⟨e9, nb, rfl, hnb⟩ := hq
              rw [e9]
              refine v_if_ne (tgt := 110) X dX5_layWorlds_98 (by decide) (fun h98 => ?_) (fun h98 => ?_)
              · skip
                have hnd := hnb.mp (bI_nz.mp h98)
                refine v_iincE X dX5_layWorlds_110 rfl (nI_inc y) ?_
                show V G Z _ 113 [_, _, _, _] _
                refine v_goto (tgt := 71) X dX5_layWorlds_113 (by decide) ?_
                exact ihn (y + 1) τ2 g' b _ (by omega) (by omega) k1 k2 k3 k4 k6 (fun hb x w' hx hx' hg => by
                  rcases Nat.lt_or_ge x y with z | z
                  · exact k5 hb x w' z hx' hg
                  · rw [show x = y by omega, hw] at hx'
                    cases hx'
                    exact hnd)
              · skip
                have hnd : ¬ ndd P (clL P P.length) g' w := fun z => by
                  have := hnb.mpr z
                  rw [bI_z.mp h98] at this; cases this
                refine v_aload_n X dX5_layWorlds_101 rfl ?_
                refine v_getr X fl_X5_59 shX5_21 dX5_layWorlds_102 ?_
                refine v_iload_n X dX5_layWorlds_105 rfl ?_
                refine v_iconst (v := nI 1) X dX5_layWorlds_106 (by decide) ?_
                refine v_zastE X arX5_21 rfl (show y < 2048 by omega) dX5_layWorlds_107 rfl ?_
                refine v_iconst (v := nI 1) X dX5_layWorlds_108 (by decide) ?_
                refine v_istore_n X dX5_layWorlds_109 (Nat.le_of_ble_eq_true rfl) ?_
                show V G Z _ 110 [_, _, _, _] _
                refine v_iincE X dX5_layWorlds_110 rfl (nI_inc y) ?_
                show V G Z _ 113 [_, _, _, _] _
                refine v_goto (tgt := 71) X dX5_layWorlds_113 (by decide) ?_
                have hnk : ∀ q ∈ wlK P, q.1 ≠ w := fun q hq z => hnd (kept_need k3 ⟨q, hq, z⟩)
                have hmono : ∀ v, (!(if v = w then true else g' v)) = true → (!g' v) = true := fun v hv => by
                  by_cases z : v = w
                  · rw [if_pos z] at hv; cases hv
                  · rw [if_neg z] at hv; exact hv
                refine ihn (y + 1) _ (fun v => if v = w then true else g' v) true _ (by omega) (by omega) (k1.s2 (by omega)) ⟨k2.1, by rw [s2_nc (by decide)]; exact k2.2.1, by rw [s2_nc (by decide)]; exact k2.2.2.1, fun x w' hx => ?_⟩ (fun q hq => by rw [if_neg (hnk q hq)]; exact k3 q hq) (fun _ => ?_) (fun v hv hg => ?_) (fun z => by cases z)
                · rw [s2_ap]
                  by_cases hxy : x = y
                  · subst hxy
                    rw [hw] at hx
                    cases hx
                    rw [if_pos ⟨rfl, rfl⟩]
                    show _ = bI (if w = w then true else g' w)
                    rw [if_pos rfl]; rfl
                  · rw [if_neg (fun z => hxy z.2)]
                    show _ = bI (if w' = w then true else g' w')
                    rw [if_neg (show ¬ w' = w from fun z => hxy (by subst z; exact clL_inj hx hw))]
                    exact k2.2.2.2 x w' hx
                · have hlt : ((clL P P.length).filter (fun v => !(if v = w then true else g' v))).length < ((clL P P.length).filter (fun v => !g' v)).length := filter_less _ (fun v _ => hmono v) ⟨w, hwm, by rw [eg]; rfl, by simp⟩
                  have hle : ((clL P P.length).filter (fun v => !g' v)).length ≤ ((clL P P.length).filter (fun v => !g v)).length := by
                    cases b with
                    | true => exact Nat.le_of_lt (k4 rfl)
                    | false =>
                      have hsub : ∀ (L : List Nat), (∀ v ∈ L, g v = true → g' v = true) → (L.filter (fun v => !g' v)).length ≤ (L.filter (fun v => !g v)).length := by
                        intro L
                        induction L with
                        | nil => intro _; exact Nat.le_refl _
                        | cons v L ihL =>
                          intro hv
                          have i1 := ihL (fun u hu => hv u (List.mem_cons_of_mem _ hu))
                          have i2 := hv v List.mem_cons_self
                          rw [List.filter_cons, List.filter_cons]
                          cases h1 : g v with
                          | true => rw [i2 h1]; simpa using i1
                          | false =>
                            cases h2 : g' v with
                            | true => simp; omega
                            | false => simpa using i1
                      exact hsub _ k6
                  omega
                · by_cases z : v = w
                  · rw [if_pos z]
                  · rw [if_neg z]; exact k6 v hv hg
      refine v_iload_n X dX5_layWorlds_63 rfl ?_
      refine v_if_eq (tgt := 119) X dX5_layWorlds_64 (by decide) (fun h64 => ?_) (fun h64 => ?_)
      · skip
        exact absurd h64 (by decide)
      · skip
        refine v_iconst (v := nI 0) X dX5_layWorlds_67 (by decide) ?_
        refine v_istore_n X dX5_layWorlds_68 (Nat.le_of_ble_eq_true rfl) ?_
        show V G Z _ 69 [_, _, _, _] _
        refine v_iconst (v := nI 0) X dX5_layWorlds_69 (by decide) ?_
        refine v_istore_n X dX5_layWorlds_70 (Nat.le_of_ble_eq_true rfl) ?_
        show V G Z _ 71 [_, _, _, _] _
        exact inner ((clL P P.length).length + 1) 0 τ g false _ (by omega) (by omega) g1 g2 g3 (fun z => by cases z) (fun _ _ h => h) (fun _ x w h => by omega)
  have st1 : ∀ (n x : Nat) (τ : Sg), 2 ^ P.length - x < n → x ≤ 2 ^ P.length → vO σ τ → gI τ ((List.range x).filter (clP P P.length)) (fun _ => false) → V G Z τ 7 [some (.ref (G.2.2.1 156)), some (.int (nI x)), none, none] [] := by
    intro n
    induction n with
    | zero => intro x τ h; omega
    | succ n ih =>
      intro x τ hn hxl g1 g2
      obtain ⟨k1, k2, k3, k4⟩ := id g2
      have hlx : ((List.range x).filter (clP P P.length)).length ≤ x := by
        have := List.length_filter_le (clP P P.length) (List.range x)
        rw [List.length_range] at this
        exact this
      have e7 : τ 156 7 = nI P.length := by rw [g1.2 7 (by decide)]; exact hP.2.2.1
      refine v_iload_n X dX5_layWorlds_7 rfl ?_
      refine v_iconst (v := nI 1) X dX5_layWorlds_8 (by decide) ?_
      refine v_aload_n X dX5_layWorlds_9 rfl ?_
      refine v_geti X fl_X5_73 shX5_7 dX5_layWorlds_10 ?_
      rw [e7]
      refine v_ishl X dX5_layWorlds_13 ?_
      refine v_top (nb_shl (by omega)) ?_
      refine v_icmp_ge (tgt := 61) X dX5_layWorlds_14 (by decide) (fun h14 => ?_) (fun h14 => ?_)
      · skip
        have hx := nI_lem (by omega) (by omega) h14
        have hx : x = 2 ^ P.length := by omega
        subst hx
        refine v_iconst (v := nI 1) X dX5_layWorlds_61 (by decide) ?_
        refine v_istore_n X dX5_layWorlds_62 (Nat.le_of_ble_eq_true rfl) ?_
        show V G Z _ 63 [_, _, _, _] _
        exact st2 (((clL P P.length).filter (fun w => !false)).length + 1) τ (fun _ => false) _ _ (by omega) g1 g2 (fun _ _ => rfl)
      · skip
        have hx := nI_len (by omega) (by omega) h14
        have hrs : (List.range (x + 1)).filter (clP P P.length) = (List.range x).filter (clP P P.length) ++ (if clP P P.length x then [x] else []) := by
          rw [List.range_succ, List.filter_append]
          simp [List.filter_cons]
        refine v_aload_n X dX5_layWorlds_17 rfl ?_
        refine v_iload_n X dX5_layWorlds_18 rfl ?_
        refine v_cali X (m_isClosed G (wS_vO hP g1) hl x) cv_X5_141 obX5 rfl (by decide) rfl (by rfl) (Nat.le_of_ble_eq_true rfl) dX5_layWorlds_19 (fun r τ9 hq => ?_)
        obtain ⟨e9, rfl⟩ := hq
        rw [e9]
        refine v_if_eq (tgt := 55) X dX5_layWorlds_22 (by decide) (fun h22 => ?_) (fun h22 => ?_)
        · skip
          have hc := bI_z.mp h22
          rw [hc] at hrs
          refine v_iincE X dX5_layWorlds_55 rfl (nI_inc x) ?_
          show V G Z _ 58 [_, _, _, _] _
          refine v_goto (tgt := 7) X dX5_layWorlds_58 (by decide) ?_
          exact ih (x + 1) τ (by omega) (by omega) g1 (by rw [hrs]; simpa using g2)
        · skip
          have hc := bI_nz.mp h22
          rw [hc] at hrs
          refine v_aload_n X dX5_layWorlds_25 rfl ?_
          refine v_getr X fl_X5_56 shX5_20 dX5_layWorlds_26 ?_
          refine v_aload_n X dX5_layWorlds_29 rfl ?_
          refine v_geti X fl_X5_138 shX5_22 dX5_layWorlds_30 ?_
          refine v_iload_n X dX5_layWorlds_33 rfl ?_
          refine v_iastE X arX5_20 k2 (show ((List.range x).filter (clP P P.length)).length < 2048 by omega) dX5_layWorlds_34 ?_
          refine v_aload_n X dX5_layWorlds_35 rfl ?_
          refine v_getr X fl_X5_59 shX5_21 dX5_layWorlds_36 ?_
          refine v_aload_n X dX5_layWorlds_39 rfl ?_
          refine v_geti X fl_X5_138 shX5_22 dX5_layWorlds_40 ?_
          refine v_iconst (v := nI 0) X dX5_layWorlds_43 (by decide) ?_
          refine v_zastE X arX5_21 (by rw [s2_nc (by decide)]; exact k2) (show ((List.range x).filter (clP P P.length)).length < 2048 by omega) dX5_layWorlds_44 rfl ?_
          refine v_aload_n X dX5_layWorlds_45 rfl ?_
          refine v_dup X dX5_layWorlds_46 rfl ?_
          refine v_geti X fl_X5_138 shX5_22 dX5_layWorlds_47 ?_
          rw [s2_nc (by decide), s2_nc (by decide), k2]
          refine v_iconst (v := nI 1) X dX5_layWorlds_50 (by decide) ?_
          refine v_iadd X dX5_layWorlds_51 ?_
          refine v_top (nI_add _ 1) ?_
          refine v_puti X fw_X5_138 shX5_22 dX5_layWorlds_52 rfl rfl ?_
          refine v_iincE X dX5_layWorlds_55 rfl (nI_inc x) ?_
          show V G Z _ 58 [_, _, _, _] _
          refine v_goto (tgt := 7) X dX5_layWorlds_58 (by decide) ?_
          refine ih (x + 1) _ (by omega) (by omega) (((g1.s2 (by omega)).s2 (by omega)).s2 (by omega)) ?_
          rw [hrs]
          refine ⟨by simp only [if_true, List.length_append, List.length_cons, List.length_nil]; omega, ?_, ?_, fun y w hy => ?_⟩
          · rw [s2_at]; simp
          · rw [s2_nc (by decide), s2_nc (by decide), s2_c]; exact arr_snoc k3
          · rw [s2_nc (by decide), s2_ap]
            by_cases hyl : y = ((List.range x).filter (clP P P.length)).length
            · rw [if_pos ⟨rfl, hyl⟩]; rfl
            · rw [if_neg (fun z => hyl z.2), s2_nc (by decide)]
              have hy' : y < ((List.range x).filter (clP P P.length)).length + 1 := by
                have := (List.getElem?_eq_some_iff.mp hy).1
                simpa using this
              simp only [if_true] at hy
              rw [List.getElem?_append_left (by omega)] at hy
              exact k4 y w hy
  refine v_aload_n X dX5_layWorlds_0 rfl ?_
  refine v_iconst (v := nI 0) X dX5_layWorlds_1 (by decide) ?_
  refine v_puti X fw_X5_138 shX5_22 dX5_layWorlds_2 rfl rfl ?_
  refine v_iconst (v := nI 0) X dX5_layWorlds_5 (by decide) ?_
  refine v_istore_n X dX5_layWorlds_6 (Nat.le_of_ble_eq_true rfl) ?_
  show V G Z _ 7 [_, _, _, _] _
  refine st1 (2 ^ P.length + 1) 0 _ (Nat.lt_succ_of_le (Nat.sub_le _ _)) (Nat.zero_le _) (vO.rfl.s2 (by omega)) ⟨Nat.zero_le _, s2_at _ _ _ _, fun x w h => by simp at h, fun x w h => by simp at h⟩
