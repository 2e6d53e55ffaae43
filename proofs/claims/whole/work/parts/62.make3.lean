def imf (b0 i : Nat) : Nat → Option Nat := fun j => if j < i then some (b0 + (68 + 44 * j)) else none
def x4L (G : GT) (b0 : Nat) (E : Nat → va_E) : Nat → Nat → va_E
  | 0 => frE G b0 (senE G b0 (txE G b0 (shE G b0 E 1) 46) 50) 57
  | i + 1 => shE G b0 (x4L G b0 E i) (68 + 44 * i)
def x4I (G : GT) (b0 : Nat) (E : Nat → va_E) (i : Nat) : Nat → va_E := fun k => if k = 0 then .inr (4, [.ref (b0 + 1), .ref (b0 + 45), .int 0, .ref (b0 + 46), .int (-6), .ref (b0 + 50), .ref (b0 + 57)]) else if k = 45 then .inl (G.2.1 3, 2, .inr (.inr (.inr (.inr (imf b0 i))))) else x4L G b0 E i k
theorem x4I_ne {G : GT} {b0 : Nat} {E : Nat → va_E} {i k : Nat} (h1 : k ≠ 0) (h2 : k ≠ 45) : x4I G b0 E i k = x4L G b0 E i k := by rw [x4I, if_neg h1, if_neg h2]
set_option maxHeartbeats 4000000 in
set_option maxRecDepth 100000 in
theorem k_X4 (G : GT) (b0 : Nat) {E : Nat → va_E} (hE : E 0 = .inr (4, blX4)) : MI G b0 yX4_init cX4_init 2 3 155 7780 0 E 156 (x4I G b0 E 2) := by
  refine MI_of (by decide) rfl (by decide) ?_
  intro Z X hI hR
  show U G b0 Z (0 + 1) E 0 0 0 [some (.ref (b0 + 0)), none] []
  have loop : ∀ (m i : Nat), 2 - i < m → i ≤ 2 → U G b0 Z (68 + 44 * i) (x4I G b0 E i) (67 + 44 * i) (6878 + 451 * i) 69 [some (.ref (b0 + 0)), some (.int (nI i))] [] := by
    intro m
    induction m with
    | zero => intro i h; omega
    | succ m ih =>
      intro i hm hi
      refine u_iload_n X dX4_init_69 rfl ?_
      refine u_iconst (v := nI 2) X dX4_init_70 (by decide) ?_
      refine u_icmp_ge (tgt := 93) X dX4_init_71 (by decide) (fun h71 => ?_) (fun h71 => ?_)
      · have h6 := nI_lem (a := 2) (by decide) (by omega) h71
        have h6 : i = 2 := by omega
        subst h6
        exact u_vret X hR dX4_init_93 rfl (fun k hk => rfl) rfl rfl
      · have h6 := nI_len (a := 2) (by decide) (by omega) h71
        refine u_aload_n X dX4_init_74 rfl ?_
        refine u_get (q := 0) (fs := [.ref (b0 + 1), .ref (b0 + 45), .int 0, .ref (b0 + 46), .int (-6), .ref (b0 + 50), .ref (b0 + 57)]) (v := .ref (b0 + 45)) X fl_X4_16 (by omega) (if_pos rfl) rfl dX4_init_75 ?_
        refine u_iload_n X dX4_init_78 rfl ?_
        refine u_new (C := RX2) (T := TX2) (N := 1) (ci := 2) (fs := blX2) X tyX2 tyX2_ok inX2 rfl wl_X4_7 wn_X2 wi_X2 blX2_ok (by omega) (by omega) dX4_init_79 ?_
        refine u_dup X dX4_init_82 rfl ?_
        refine u_cali (n := 68 + 44 * i) X (k_X2 G b0 (eU_at _ _ _)) wk_X4_9 wm_X2 wi_X2 wc_X2 rfl ⟨by decide +kernel, by decide +kernel, by decide +kernel⟩ (by decide) (by decide) (by omega) (by omega) (Nat.le_of_ble_eq_true rfl) dX4_init_83 ?_
        refine u_aast (t0 := 3) (qa := 45) (qv := 68 + 44 * i) (ci := 2) (r := (RX2, TX2, 1)) (f := imf b0 i) (N := 2) (i := i) X rfl (by omega) (by omega) (by rw [shE_off (by omega), eU_ne (by omega), x4I, if_neg (by omega), if_pos rfl]) (if_pos rfl) rfl rfl h6 (by decide) dX4_init_86 ?_
        refine u_iinc X dX4_init_87 rfl (nI_inc i) ?_
        show U G b0 Z _ _ _ _ 90 [_, _] _
        refine u_goto (tgt := 69) X dX4_init_90 (by decide) ?_
        refine u_cells (by omega) (fun k hk => ?_) (by omega) (by omega) (ih (i + 1) (by omega) (by omega))
        rcases (show k = 0 ∨ k = 45 ∨ (k ≠ 0 ∧ k ≠ 45) by omega) with z | z | ⟨z1, z2⟩
        · rw [eU_ne (by omega), shE_off (by omega), eU_ne (by omega), x4I, x4I, if_pos z, if_pos z]
        · subst z
          rw [eU_at, x4I, if_neg (by omega), if_pos rfl]
          have hfe : va_up (imf b0 i) i (some (b0 + (68 + 44 * i))) = imf b0 (i + 1) := by
            funext j
            show (if j = i then some (b0 + (68 + 44 * i)) else (if j < i then some (b0 + (68 + 44 * j)) else none)) = (if j < i + 1 then some (b0 + (68 + 44 * j)) else none)
            by_cases q : j = i
            · rw [if_pos q, if_pos (by omega), q]
            · rw [if_neg q]
              by_cases q2 : j < i
              · rw [if_pos q2, if_pos (by omega)]
              · rw [if_neg q2, if_neg (by omega)]
          rw [hfe]
        · rw [eU_ne z2, x4I_ne z1 z2]
          show _ = shE G b0 (x4L G b0 E i) (68 + 44 * i) k
          refine shE_c (fun z3 => ?_)
          rw [eU_ne z3, x4I_ne z1 z2]
  refine u_aload_n X dX4_init_0 rfl ?_
  refine u_objInit X wo_X4 (by decide) dX4_init_1 ?_
  refine u_aload_n X dX4_init_4 rfl ?_
  refine u_new (C := RX2) (T := TX2) (N := 1) (ci := 2) (fs := blX2) X tyX2 tyX2_ok inX2 rfl wl_X4_7 wn_X2 wi_X2 blX2_ok (Nat.le_of_ble_eq_true rfl) (Nat.le_of_ble_eq_true rfl) dX4_init_5 ?_
  refine u_nrm (n2 := 2) (cs2 := 1) (sl2 := 1) rfl rfl rfl ?_
  refine u_dup X dX4_init_8 rfl ?_
  refine u_cali (n := 1) X (k_X2 G b0 (eU_at _ _ _)) wk_X4_9 wm_X2 wi_X2 wc_X2 rfl ⟨by decide +kernel, by decide +kernel, by decide +kernel⟩ (by decide) (by decide) (Nat.le_of_ble_eq_true rfl) (Nat.le_of_ble_eq_true rfl) (Nat.le_of_ble_eq_true rfl) dX4_init_9 ?_
  refine u_nrm (n2 := 45) (cs2 := 44) (sl2 := 451) rfl rfl rfl ?_
  refine u_putr (q := 0) (a := b0 + 1) (fs := [.null, .null, .int 0, .null, .int 0, .null, .null]) X hI ff_X4_10 (by omega) (by (repeat (first | rw [eU_at] | rw [eU_ne (by omega)] | rw [senE_off (by omega)] | rw [shE_off (by omega)] | rw [txE_off (by omega)] | rw [frE_off (by omega)])) <;> first | rfl | assumption) (Nat.le_of_ble_eq_true rfl) rfl rfl dX4_init_12 ?_
  refine u_aload_n X dX4_init_15 rfl ?_
  refine u_iconst (v := nI 2) X dX4_init_16 (by decide) ?_
  refine u_newq (C := RX2) (t0 := 3) (N := 2) X rfl (fun _ h => h.2.1) wl_X4_7 rfl (by decide) (Nat.le_of_ble_eq_true rfl) (Nat.le_of_ble_eq_true rfl) dX4_init_17 ?_
  refine u_nrm (n2 := 46) (cs2 := 45) (sl2 := 453) rfl rfl rfl ?_
  refine u_putr (q := 0) (a := b0 + 45) (fs := [.ref (b0 + 1), .null, .int 0, .null, .int 0, .null, .null]) X hI ff_X4_16 (by omega) (by (repeat (first | rw [eU_at] | rw [eU_ne (by omega)] | rw [senE_off (by omega)] | rw [shE_off (by omega)] | rw [txE_off (by omega)] | rw [frE_off (by omega)])) <;> first | rfl | assumption) (Nat.le_of_ble_eq_true rfl) rfl rfl dX4_init_20 ?_
  refine u_aload_n X dX4_init_23 rfl ?_
  refine u_iconst (v := nI 0) X dX4_init_24 (by decide) ?_
  refine u_put (q := 0) (fs := [.ref (b0 + 1), .ref (b0 + 45), .int 0, .null, .int 0, .null, .null]) X fw_X4_20 (by omega) (by (repeat (first | rw [eU_at] | rw [eU_ne (by omega)] | rw [senE_off (by omega)] | rw [shE_off (by omega)] | rw [txE_off (by omega)] | rw [frE_off (by omega)])) <;> first | rfl | assumption) (Nat.le_of_ble_eq_true rfl) rfl rfl dX4_init_25 ?_
  refine u_aload_n X dX4_init_28 rfl ?_
  refine u_new (C := RX3) (T := TX3) (N := 7) (ci := 3) (fs := blX3) X tyX3 tyX3_ok inX3 rfl wl_X4_24 wn_X3 wi_X3 blX3_ok (Nat.le_of_ble_eq_true rfl) (Nat.le_of_ble_eq_true rfl) dX4_init_29 ?_
  refine u_nrm (n2 := 47) (cs2 := 46) (sl2 := 460) rfl rfl rfl ?_
  refine u_dup X dX4_init_32 rfl ?_
  refine u_calN (n := 46) X (k_X3 G b0 (eU_at _ _ _)) (fun _ h => h.2.2.2.1) wm_X3 wi_X3 wc_X3 rfl ⟨by decide +kernel, by decide +kernel, by decide +kernel⟩ (by decide) (by decide) (Nat.le_of_ble_eq_true rfl) (Nat.le_of_ble_eq_true rfl) (Nat.le_of_ble_eq_true rfl) dX4_init_33 ?_
  refine u_nrm (n2 := 50) (cs2 := 49) (sl2 := 580) rfl rfl rfl ?_
  refine u_putr (q := 0) (a := b0 + 46) (fs := [.ref (b0 + 1), .ref (b0 + 45), .int (nI 0), .null, .int 0, .null, .null]) X hI ff_X4_27 (by omega) (by (repeat (first | rw [eU_at] | rw [eU_ne (by omega)] | rw [senE_off (by omega)] | rw [shE_off (by omega)] | rw [txE_off (by omega)] | rw [frE_off (by omega)])) <;> first | rfl | assumption) (Nat.le_of_ble_eq_true rfl) rfl rfl dX4_init_36 ?_
  refine u_aload_n X dX4_init_39 rfl ?_
  refine u_bipush (v := (-6)) X dX4_init_40 (by decide) ?_
  refine u_put (q := 0) (fs := [.ref (b0 + 1), .ref (b0 + 45), .int (nI 0), .ref (b0 + 46), .int 0, .null, .null]) X fw_X4_31 (by omega) (by (repeat (first | rw [eU_at] | rw [eU_ne (by omega)] | rw [senE_off (by omega)] | rw [shE_off (by omega)] | rw [txE_off (by omega)] | rw [frE_off (by omega)])) <;> first | rfl | assumption) (Nat.le_of_ble_eq_true rfl) rfl rfl dX4_init_42 ?_
  refine u_aload_n X dX4_init_45 rfl ?_
  refine u_new (C := RX1) (T := TX1) (N := 8) (ci := 1) (fs := blX1) X tyX1 tyX1_ok inX1 rfl wl_X4_34 wn_X1 wi_X1 blX1_ok (Nat.le_of_ble_eq_true rfl) (Nat.le_of_ble_eq_true rfl) dX4_init_46 ?_
  refine u_nrm (n2 := 51) (cs2 := 50) (sl2 := 588) rfl rfl rfl ?_
  refine u_dup X dX4_init_49 rfl ?_
  refine u_calN (n := 50) X (k_X1 G b0 (eU_at _ _ _)) (fun _ h => h.2.2.2.2.1) wm_X1 wi_X1 wc_X1 rfl ⟨by decide +kernel, by decide +kernel, by decide +kernel⟩ (by decide) (by decide) (Nat.le_of_ble_eq_true rfl) (Nat.le_of_ble_eq_true rfl) (Nat.le_of_ble_eq_true rfl) dX4_init_50 ?_
  refine u_nrm (n2 := 57) (cs2 := 56) (sl2 := 654) rfl rfl rfl ?_
  refine u_putr (q := 0) (a := b0 + 50) (fs := [.ref (b0 + 1), .ref (b0 + 45), .int (nI 0), .ref (b0 + 46), .int ((-6)), .null, .null]) X hI ff_X4_37 (by omega) (by (repeat (first | rw [eU_at] | rw [eU_ne (by omega)] | rw [senE_off (by omega)] | rw [shE_off (by omega)] | rw [txE_off (by omega)] | rw [frE_off (by omega)])) <;> first | rfl | assumption) (Nat.le_of_ble_eq_true rfl) rfl rfl dX4_init_53 ?_
  refine u_aload_n X dX4_init_56 rfl ?_
  refine u_new (C := RX0) (T := TX0) (N := 6) (ci := 0) (fs := blX0) X tyX0 tyX0_ok inX0 rfl wl_X4_41 wn_X0 wi_X0 blX0_ok (Nat.le_of_ble_eq_true rfl) (Nat.le_of_ble_eq_true rfl) dX4_init_57 ?_
  refine u_nrm (n2 := 58) (cs2 := 57) (sl2 := 660) rfl rfl rfl ?_
  refine u_dup X dX4_init_60 rfl ?_
  refine u_calN (n := 57) X (k_X0 G b0 (eU_at _ _ _)) (fun _ h => h.2.2.2.2.2.1) wm_X0 wi_X0 wc_X0 rfl ⟨by decide +kernel, by decide +kernel, by decide +kernel⟩ (by decide) (by decide) (Nat.le_of_ble_eq_true rfl) (Nat.le_of_ble_eq_true rfl) (Nat.le_of_ble_eq_true rfl) dX4_init_61 ?_
  refine u_nrm (n2 := 68) (cs2 := 67) (sl2 := 6878) rfl rfl rfl ?_
  refine u_putr (q := 0) (a := b0 + 57) (fs := [.ref (b0 + 1), .ref (b0 + 45), .int (nI 0), .ref (b0 + 46), .int ((-6)), .ref (b0 + 50), .null]) X hI ff_X4_44 (by omega) (by (repeat (first | rw [eU_at] | rw [eU_ne (by omega)] | rw [senE_off (by omega)] | rw [shE_off (by omega)] | rw [txE_off (by omega)] | rw [frE_off (by omega)])) <;> first | rfl | assumption) (Nat.le_of_ble_eq_true rfl) rfl rfl dX4_init_64 ?_
  refine u_iconst (v := nI 0) X dX4_init_67 (by decide) ?_
  refine u_istore_n X dX4_init_68 (Nat.le_of_ble_eq_true rfl) ?_
  show U G b0 Z _ _ _ _ 69 [_, _] _
  refine u_cells (n2 := 68 + 44 * 0) (F := x4I G b0 E 0) (cs2 := 67 + 44 * 0) (sl2 := 6878 + 451 * 0) rfl (fun k hk => ?_) rfl rfl (loop 3 0 (by omega) (by omega))
  rcases (show k = 0 ∨ k = 45 ∨ (k ≠ 0 ∧ k ≠ 45) by omega) with rfl | rfl | ⟨z1, z2⟩
  · rw [x4I, if_pos rfl]
    (repeat (first | rw [eU_at] | rw [eU_ne (by omega)] | rw [senE_off (by omega)] | rw [shE_off (by omega)] | rw [txE_off (by omega)] | rw [frE_off (by omega)])) <;> rfl
  · rw [x4I, if_neg (by omega), if_pos rfl]
    (repeat (first | rw [eU_at] | rw [eU_ne (by omega)] | rw [senE_off (by omega)] | rw [shE_off (by omega)] | rw [txE_off (by omega)] | rw [frE_off (by omega)])) <;> rfl
  · rw [x4I_ne z1 z2]
    show _ = frE G b0 (senE G b0 (txE G b0 (shE G b0 E 1) 46) 50) 57 k
    repeat (first | rfl | rw [eU_ne (by omega)] | refine frE_c (fun _ => ?_) | refine senE_c (fun _ => ?_) | refine txE_c (fun _ => ?_) | refine shE_c (fun _ => ?_))
def moA (G : GT) (k : Nat) : va_E := match k with
  | 0 => arI G 18
  | 1 => arI G 198
  | 2 => arI G 198
  | 3 => arI G 198
  | 4 => arI G 40
  | 5 => arI G 128
  | 6 => arI G 128
  | 7 => arI G 128
  | 8 => arI G 64
  | 9 => arI G 64
  | 10 => arI G 64
  | 11 => arI G 16
  | 12 => arI G 64
  | 13 => arI G 16
  | 14 => arI G 2048
  | 15 => arZ G 2048
  | 16 => arI G 2048
  | _ => arZ G 2
def moO (b0 : Nat) : va_E := .inr (5, [.ref (b0 + 157), .ref (b0 + 158), .ref (b0 + 159), .ref (b0 + 160), .ref (b0 + 161), .int 0, .int ((-6)), .int 0, .ref (b0 + 162), .ref (b0 + 163), .ref (b0 + 164), .ref (b0 + 165), .ref (b0 + 166), .ref (b0 + 167), .int 0, .int 0, .int 0, .ref (b0 + 168), .ref (b0 + 169), .ref (b0 + 170), .ref (b0 + 171), .ref (b0 + 172), .int 0, .ref (b0 + 173), .ref (b0 + 174)])
def moE (G : GT) (b0 : Nat) (E : Nat → va_E) : Nat → va_E := fun k => if k = 156 then moO b0 else if 157 ≤ k then moA G (k - 157) else E k
set_option maxHeartbeats 4000000 in
set_option maxRecDepth 100000 in
theorem k_X5 (G : GT) (b0 : Nat) {E : Nat → va_E} (hE : E 156 = .inr (5, blX5)) : MI G b0 yX5_init cX5_init 1 1 18 7470 156 E 175 (moE G b0 E) := by
  refine MI_of (by decide) rfl (by decide) ?_
  intro Z X hI hR
  show U G b0 Z (156 + 1) E 0 0 0 [some (.ref (b0 + 156))] []
  refine u_aload_n X dX5_init_0 rfl ?_
  refine u_objInit X wo_X5 (by decide) dX5_init_1 ?_
  refine u_aload_n X dX5_init_4 rfl ?_
  refine u_bipush (v := nI 18) X dX5_init_5 (by decide) ?_
  refine u_newi (N := 18) X wd_ai rfl (by decide) (Nat.le_of_ble_eq_true rfl) (Nat.le_of_ble_eq_true rfl) dX5_init_7 ?_
  refine u_nrm (n2 := 158) (cs2 := 1) (sl2 := 18) rfl rfl rfl ?_
  refine u_putr (q := 156) (a := b0 + 157) (fs := [.null, .null, .null, .null, .null, .int 0, .int 0, .int 0, .null, .null, .null, .null, .null, .null, .int 0, .int 0, .int 0, .null, .null, .null, .null, .null, .int 0, .null, .null]) X hI ff_X5_7 (by omega) (by (repeat (first | rw [eU_at] | rw [eU_ne (by omega)] | rw [senE_off (by omega)] | rw [shE_off (by omega)] | rw [txE_off (by omega)] | rw [frE_off (by omega)])) <;> first | rfl | assumption) (Nat.le_of_ble_eq_true rfl) rfl rfl dX5_init_9 ?_
  refine u_aload_n X dX5_init_12 rfl ?_
  refine u_sipush (v := nI 198) X dX5_init_13 (by decide) ?_
  refine u_newi (N := 198) X wd_ai rfl (by decide) (Nat.le_of_ble_eq_true rfl) (Nat.le_of_ble_eq_true rfl) dX5_init_16 ?_
  refine u_nrm (n2 := 159) (cs2 := 2) (sl2 := 216) rfl rfl rfl ?_
  refine u_putr (q := 156) (a := b0 + 158) (fs := [.ref (b0 + 157), .null, .null, .null, .null, .int 0, .int 0, .int 0, .null, .null, .null, .null, .null, .null, .int 0, .int 0, .int 0, .null, .null, .null, .null, .null, .int 0, .null, .null]) X hI ff_X5_13 (by omega) (by (repeat (first | rw [eU_at] | rw [eU_ne (by omega)] | rw [senE_off (by omega)] | rw [shE_off (by omega)] | rw [txE_off (by omega)] | rw [frE_off (by omega)])) <;> first | rfl | assumption) (Nat.le_of_ble_eq_true rfl) rfl rfl dX5_init_18 ?_
  refine u_aload_n X dX5_init_21 rfl ?_
  refine u_sipush (v := nI 198) X dX5_init_22 (by decide) ?_
  refine u_newi (N := 198) X wd_ai rfl (by decide) (Nat.le_of_ble_eq_true rfl) (Nat.le_of_ble_eq_true rfl) dX5_init_25 ?_
  refine u_nrm (n2 := 160) (cs2 := 3) (sl2 := 414) rfl rfl rfl ?_
  refine u_putr (q := 156) (a := b0 + 159) (fs := [.ref (b0 + 157), .ref (b0 + 158), .null, .null, .null, .int 0, .int 0, .int 0, .null, .null, .null, .null, .null, .null, .int 0, .int 0, .int 0, .null, .null, .null, .null, .null, .int 0, .null, .null]) X hI ff_X5_16 (by omega) (by (repeat (first | rw [eU_at] | rw [eU_ne (by omega)] | rw [senE_off (by omega)] | rw [shE_off (by omega)] | rw [txE_off (by omega)] | rw [frE_off (by omega)])) <;> first | rfl | assumption) (Nat.le_of_ble_eq_true rfl) rfl rfl dX5_init_27 ?_
  refine u_aload_n X dX5_init_30 rfl ?_
  refine u_sipush (v := nI 198) X dX5_init_31 (by decide) ?_
  refine u_newi (N := 198) X wd_ai rfl (by decide) (Nat.le_of_ble_eq_true rfl) (Nat.le_of_ble_eq_true rfl) dX5_init_34 ?_
  refine u_nrm (n2 := 161) (cs2 := 4) (sl2 := 612) rfl rfl rfl ?_
  refine u_putr (q := 156) (a := b0 + 160) (fs := [.ref (b0 + 157), .ref (b0 + 158), .ref (b0 + 159), .null, .null, .int 0, .int 0, .int 0, .null, .null, .null, .null, .null, .null, .int 0, .int 0, .int 0, .null, .null, .null, .null, .null, .int 0, .null, .null]) X hI ff_X5_19 (by omega) (by (repeat (first | rw [eU_at] | rw [eU_ne (by omega)] | rw [senE_off (by omega)] | rw [shE_off (by omega)] | rw [txE_off (by omega)] | rw [frE_off (by omega)])) <;> first | rfl | assumption) (Nat.le_of_ble_eq_true rfl) rfl rfl dX5_init_36 ?_
  refine u_aload_n X dX5_init_39 rfl ?_
  refine u_bipush (v := nI 40) X dX5_init_40 (by decide) ?_
  refine u_newi (N := 40) X wd_ai rfl (by decide) (Nat.le_of_ble_eq_true rfl) (Nat.le_of_ble_eq_true rfl) dX5_init_42 ?_
  refine u_nrm (n2 := 162) (cs2 := 5) (sl2 := 652) rfl rfl rfl ?_
  refine u_putr (q := 156) (a := b0 + 161) (fs := [.ref (b0 + 157), .ref (b0 + 158), .ref (b0 + 159), .ref (b0 + 160), .null, .int 0, .int 0, .int 0, .null, .null, .null, .null, .null, .null, .int 0, .int 0, .int 0, .null, .null, .null, .null, .null, .int 0, .null, .null]) X hI ff_X5_22 (by omega) (by (repeat (first | rw [eU_at] | rw [eU_ne (by omega)] | rw [senE_off (by omega)] | rw [shE_off (by omega)] | rw [txE_off (by omega)] | rw [frE_off (by omega)])) <;> first | rfl | assumption) (Nat.le_of_ble_eq_true rfl) rfl rfl dX5_init_44 ?_
  refine u_aload_n X dX5_init_47 rfl ?_
  refine u_bipush (v := (-6)) X dX5_init_48 (by decide) ?_
  refine u_put (q := 156) (fs := [.ref (b0 + 157), .ref (b0 + 158), .ref (b0 + 159), .ref (b0 + 160), .ref (b0 + 161), .int 0, .int 0, .int 0, .null, .null, .null, .null, .null, .null, .int 0, .int 0, .int 0, .null, .null, .null, .null, .null, .int 0, .null, .null]) X fw_X5_25 (by omega) (by (repeat (first | rw [eU_at] | rw [eU_ne (by omega)] | rw [senE_off (by omega)] | rw [shE_off (by omega)] | rw [txE_off (by omega)] | rw [frE_off (by omega)])) <;> first | rfl | assumption) (Nat.le_of_ble_eq_true rfl) rfl rfl dX5_init_50 ?_
  refine u_aload_n X dX5_init_53 rfl ?_
  refine u_sipush (v := nI 128) X dX5_init_54 (by decide) ?_
  refine u_newi (N := 128) X wd_ai rfl (by decide) (Nat.le_of_ble_eq_true rfl) (Nat.le_of_ble_eq_true rfl) dX5_init_57 ?_
  refine u_nrm (n2 := 163) (cs2 := 6) (sl2 := 780) rfl rfl rfl ?_
  refine u_putr (q := 156) (a := b0 + 162) (fs := [.ref (b0 + 157), .ref (b0 + 158), .ref (b0 + 159), .ref (b0 + 160), .ref (b0 + 161), .int 0, .int ((-6)), .int 0, .null, .null, .null, .null, .null, .null, .int 0, .int 0, .int 0, .null, .null, .null, .null, .null, .int 0, .null, .null]) X hI ff_X5_29 (by omega) (by (repeat (first | rw [eU_at] | rw [eU_ne (by omega)] | rw [senE_off (by omega)] | rw [shE_off (by omega)] | rw [txE_off (by omega)] | rw [frE_off (by omega)])) <;> first | rfl | assumption) (Nat.le_of_ble_eq_true rfl) rfl rfl dX5_init_59 ?_
  refine u_aload_n X dX5_init_62 rfl ?_
  refine u_sipush (v := nI 128) X dX5_init_63 (by decide) ?_
  refine u_newi (N := 128) X wd_ai rfl (by decide) (Nat.le_of_ble_eq_true rfl) (Nat.le_of_ble_eq_true rfl) dX5_init_66 ?_
  refine u_nrm (n2 := 164) (cs2 := 7) (sl2 := 908) rfl rfl rfl ?_
  refine u_putr (q := 156) (a := b0 + 163) (fs := [.ref (b0 + 157), .ref (b0 + 158), .ref (b0 + 159), .ref (b0 + 160), .ref (b0 + 161), .int 0, .int ((-6)), .int 0, .ref (b0 + 162), .null, .null, .null, .null, .null, .int 0, .int 0, .int 0, .null, .null, .null, .null, .null, .int 0, .null, .null]) X hI ff_X5_32 (by omega) (by (repeat (first | rw [eU_at] | rw [eU_ne (by omega)] | rw [senE_off (by omega)] | rw [shE_off (by omega)] | rw [txE_off (by omega)] | rw [frE_off (by omega)])) <;> first | rfl | assumption) (Nat.le_of_ble_eq_true rfl) rfl rfl dX5_init_68 ?_
  refine u_aload_n X dX5_init_71 rfl ?_
  refine u_sipush (v := nI 128) X dX5_init_72 (by decide) ?_
  refine u_newi (N := 128) X wd_ai rfl (by decide) (Nat.le_of_ble_eq_true rfl) (Nat.le_of_ble_eq_true rfl) dX5_init_75 ?_
  refine u_nrm (n2 := 165) (cs2 := 8) (sl2 := 1036) rfl rfl rfl ?_
  refine u_putr (q := 156) (a := b0 + 164) (fs := [.ref (b0 + 157), .ref (b0 + 158), .ref (b0 + 159), .ref (b0 + 160), .ref (b0 + 161), .int 0, .int ((-6)), .int 0, .ref (b0 + 162), .ref (b0 + 163), .null, .null, .null, .null, .int 0, .int 0, .int 0, .null, .null, .null, .null, .null, .int 0, .null, .null]) X hI ff_X5_35 (by omega) (by (repeat (first | rw [eU_at] | rw [eU_ne (by omega)] | rw [senE_off (by omega)] | rw [shE_off (by omega)] | rw [txE_off (by omega)] | rw [frE_off (by omega)])) <;> first | rfl | assumption) (Nat.le_of_ble_eq_true rfl) rfl rfl dX5_init_77 ?_
  refine u_aload_n X dX5_init_80 rfl ?_
  refine u_bipush (v := nI 64) X dX5_init_81 (by decide) ?_
  refine u_newi (N := 64) X wd_ai rfl (by decide) (Nat.le_of_ble_eq_true rfl) (Nat.le_of_ble_eq_true rfl) dX5_init_83 ?_
  refine u_nrm (n2 := 166) (cs2 := 9) (sl2 := 1100) rfl rfl rfl ?_
  refine u_putr (q := 156) (a := b0 + 165) (fs := [.ref (b0 + 157), .ref (b0 + 158), .ref (b0 + 159), .ref (b0 + 160), .ref (b0 + 161), .int 0, .int ((-6)), .int 0, .ref (b0 + 162), .ref (b0 + 163), .ref (b0 + 164), .null, .null, .null, .int 0, .int 0, .int 0, .null, .null, .null, .null, .null, .int 0, .null, .null]) X hI ff_X5_38 (by omega) (by (repeat (first | rw [eU_at] | rw [eU_ne (by omega)] | rw [senE_off (by omega)] | rw [shE_off (by omega)] | rw [txE_off (by omega)] | rw [frE_off (by omega)])) <;> first | rfl | assumption) (Nat.le_of_ble_eq_true rfl) rfl rfl dX5_init_85 ?_
  refine u_aload_n X dX5_init_88 rfl ?_
  refine u_bipush (v := nI 64) X dX5_init_89 (by decide) ?_
  refine u_newi (N := 64) X wd_ai rfl (by decide) (Nat.le_of_ble_eq_true rfl) (Nat.le_of_ble_eq_true rfl) dX5_init_91 ?_
  refine u_nrm (n2 := 167) (cs2 := 10) (sl2 := 1164) rfl rfl rfl ?_
  refine u_putr (q := 156) (a := b0 + 166) (fs := [.ref (b0 + 157), .ref (b0 + 158), .ref (b0 + 159), .ref (b0 + 160), .ref (b0 + 161), .int 0, .int ((-6)), .int 0, .ref (b0 + 162), .ref (b0 + 163), .ref (b0 + 164), .ref (b0 + 165), .null, .null, .int 0, .int 0, .int 0, .null, .null, .null, .null, .null, .int 0, .null, .null]) X hI ff_X5_41 (by omega) (by (repeat (first | rw [eU_at] | rw [eU_ne (by omega)] | rw [senE_off (by omega)] | rw [shE_off (by omega)] | rw [txE_off (by omega)] | rw [frE_off (by omega)])) <;> first | rfl | assumption) (Nat.le_of_ble_eq_true rfl) rfl rfl dX5_init_93 ?_
  refine u_aload_n X dX5_init_96 rfl ?_
  refine u_bipush (v := nI 64) X dX5_init_97 (by decide) ?_
  refine u_newi (N := 64) X wd_ai rfl (by decide) (Nat.le_of_ble_eq_true rfl) (Nat.le_of_ble_eq_true rfl) dX5_init_99 ?_
  refine u_nrm (n2 := 168) (cs2 := 11) (sl2 := 1228) rfl rfl rfl ?_
  refine u_putr (q := 156) (a := b0 + 167) (fs := [.ref (b0 + 157), .ref (b0 + 158), .ref (b0 + 159), .ref (b0 + 160), .ref (b0 + 161), .int 0, .int ((-6)), .int 0, .ref (b0 + 162), .ref (b0 + 163), .ref (b0 + 164), .ref (b0 + 165), .ref (b0 + 166), .null, .int 0, .int 0, .int 0, .null, .null, .null, .null, .null, .int 0, .null, .null]) X hI ff_X5_44 (by omega) (by (repeat (first | rw [eU_at] | rw [eU_ne (by omega)] | rw [senE_off (by omega)] | rw [shE_off (by omega)] | rw [txE_off (by omega)] | rw [frE_off (by omega)])) <;> first | rfl | assumption) (Nat.le_of_ble_eq_true rfl) rfl rfl dX5_init_101 ?_
  refine u_aload_n X dX5_init_104 rfl ?_
  refine u_bipush (v := nI 16) X dX5_init_105 (by decide) ?_
  refine u_newi (N := 16) X wd_ai rfl (by decide) (Nat.le_of_ble_eq_true rfl) (Nat.le_of_ble_eq_true rfl) dX5_init_107 ?_
  refine u_nrm (n2 := 169) (cs2 := 12) (sl2 := 1244) rfl rfl rfl ?_
  refine u_putr (q := 156) (a := b0 + 168) (fs := [.ref (b0 + 157), .ref (b0 + 158), .ref (b0 + 159), .ref (b0 + 160), .ref (b0 + 161), .int 0, .int ((-6)), .int 0, .ref (b0 + 162), .ref (b0 + 163), .ref (b0 + 164), .ref (b0 + 165), .ref (b0 + 166), .ref (b0 + 167), .int 0, .int 0, .int 0, .null, .null, .null, .null, .null, .int 0, .null, .null]) X hI ff_X5_47 (by omega) (by (repeat (first | rw [eU_at] | rw [eU_ne (by omega)] | rw [senE_off (by omega)] | rw [shE_off (by omega)] | rw [txE_off (by omega)] | rw [frE_off (by omega)])) <;> first | rfl | assumption) (Nat.le_of_ble_eq_true rfl) rfl rfl dX5_init_109 ?_
  refine u_aload_n X dX5_init_112 rfl ?_
  refine u_bipush (v := nI 64) X dX5_init_113 (by decide) ?_
  refine u_newi (N := 64) X wd_ai rfl (by decide) (Nat.le_of_ble_eq_true rfl) (Nat.le_of_ble_eq_true rfl) dX5_init_115 ?_
  refine u_nrm (n2 := 170) (cs2 := 13) (sl2 := 1308) rfl rfl rfl ?_
  refine u_putr (q := 156) (a := b0 + 169) (fs := [.ref (b0 + 157), .ref (b0 + 158), .ref (b0 + 159), .ref (b0 + 160), .ref (b0 + 161), .int 0, .int ((-6)), .int 0, .ref (b0 + 162), .ref (b0 + 163), .ref (b0 + 164), .ref (b0 + 165), .ref (b0 + 166), .ref (b0 + 167), .int 0, .int 0, .int 0, .ref (b0 + 168), .null, .null, .null, .null, .int 0, .null, .null]) X hI ff_X5_50 (by omega) (by (repeat (first | rw [eU_at] | rw [eU_ne (by omega)] | rw [senE_off (by omega)] | rw [shE_off (by omega)] | rw [txE_off (by omega)] | rw [frE_off (by omega)])) <;> first | rfl | assumption) (Nat.le_of_ble_eq_true rfl) rfl rfl dX5_init_117 ?_
  refine u_aload_n X dX5_init_120 rfl ?_
  refine u_bipush (v := nI 16) X dX5_init_121 (by decide) ?_
  refine u_newi (N := 16) X wd_ai rfl (by decide) (Nat.le_of_ble_eq_true rfl) (Nat.le_of_ble_eq_true rfl) dX5_init_123 ?_
  refine u_nrm (n2 := 171) (cs2 := 14) (sl2 := 1324) rfl rfl rfl ?_
  refine u_putr (q := 156) (a := b0 + 170) (fs := [.ref (b0 + 157), .ref (b0 + 158), .ref (b0 + 159), .ref (b0 + 160), .ref (b0 + 161), .int 0, .int ((-6)), .int 0, .ref (b0 + 162), .ref (b0 + 163), .ref (b0 + 164), .ref (b0 + 165), .ref (b0 + 166), .ref (b0 + 167), .int 0, .int 0, .int 0, .ref (b0 + 168), .ref (b0 + 169), .null, .null, .null, .int 0, .null, .null]) X hI ff_X5_53 (by omega) (by (repeat (first | rw [eU_at] | rw [eU_ne (by omega)] | rw [senE_off (by omega)] | rw [shE_off (by omega)] | rw [txE_off (by omega)] | rw [frE_off (by omega)])) <;> first | rfl | assumption) (Nat.le_of_ble_eq_true rfl) rfl rfl dX5_init_125 ?_
  refine u_aload_n X dX5_init_128 rfl ?_
  refine u_sipush (v := nI 2048) X dX5_init_129 (by decide) ?_
  refine u_newi (N := 2048) X wd_ai rfl (by decide) (Nat.le_of_ble_eq_true rfl) (Nat.le_of_ble_eq_true rfl) dX5_init_132 ?_
  refine u_nrm (n2 := 172) (cs2 := 15) (sl2 := 3372) rfl rfl rfl ?_
  refine u_putr (q := 156) (a := b0 + 171) (fs := [.ref (b0 + 157), .ref (b0 + 158), .ref (b0 + 159), .ref (b0 + 160), .ref (b0 + 161), .int 0, .int ((-6)), .int 0, .ref (b0 + 162), .ref (b0 + 163), .ref (b0 + 164), .ref (b0 + 165), .ref (b0 + 166), .ref (b0 + 167), .int 0, .int 0, .int 0, .ref (b0 + 168), .ref (b0 + 169), .ref (b0 + 170), .null, .null, .int 0, .null, .null]) X hI ff_X5_56 (by omega) (by (repeat (first | rw [eU_at] | rw [eU_ne (by omega)] | rw [senE_off (by omega)] | rw [shE_off (by omega)] | rw [txE_off (by omega)] | rw [frE_off (by omega)])) <;> first | rfl | assumption) (Nat.le_of_ble_eq_true rfl) rfl rfl dX5_init_134 ?_
  refine u_aload_n X dX5_init_137 rfl ?_
  refine u_sipush (v := nI 2048) X dX5_init_138 (by decide) ?_
  refine u_newz (N := 2048) X wd_az rfl (by decide) (Nat.le_of_ble_eq_true rfl) (Nat.le_of_ble_eq_true rfl) dX5_init_141 ?_
  refine u_nrm (n2 := 173) (cs2 := 16) (sl2 := 5420) rfl rfl rfl ?_
  refine u_putr (q := 156) (a := b0 + 172) (fs := [.ref (b0 + 157), .ref (b0 + 158), .ref (b0 + 159), .ref (b0 + 160), .ref (b0 + 161), .int 0, .int ((-6)), .int 0, .ref (b0 + 162), .ref (b0 + 163), .ref (b0 + 164), .ref (b0 + 165), .ref (b0 + 166), .ref (b0 + 167), .int 0, .int 0, .int 0, .ref (b0 + 168), .ref (b0 + 169), .ref (b0 + 170), .ref (b0 + 171), .null, .int 0, .null, .null]) X hI ff_X5_59 (by omega) (by (repeat (first | rw [eU_at] | rw [eU_ne (by omega)] | rw [senE_off (by omega)] | rw [shE_off (by omega)] | rw [txE_off (by omega)] | rw [frE_off (by omega)])) <;> first | rfl | assumption) (Nat.le_of_ble_eq_true rfl) rfl rfl dX5_init_143 ?_
  refine u_aload_n X dX5_init_146 rfl ?_
  refine u_sipush (v := nI 2048) X dX5_init_147 (by decide) ?_
  refine u_newi (N := 2048) X wd_ai rfl (by decide) (Nat.le_of_ble_eq_true rfl) (Nat.le_of_ble_eq_true rfl) dX5_init_150 ?_
  refine u_nrm (n2 := 174) (cs2 := 17) (sl2 := 7468) rfl rfl rfl ?_
  refine u_putr (q := 156) (a := b0 + 173) (fs := [.ref (b0 + 157), .ref (b0 + 158), .ref (b0 + 159), .ref (b0 + 160), .ref (b0 + 161), .int 0, .int ((-6)), .int 0, .ref (b0 + 162), .ref (b0 + 163), .ref (b0 + 164), .ref (b0 + 165), .ref (b0 + 166), .ref (b0 + 167), .int 0, .int 0, .int 0, .ref (b0 + 168), .ref (b0 + 169), .ref (b0 + 170), .ref (b0 + 171), .ref (b0 + 172), .int 0, .null, .null]) X hI ff_X5_63 (by omega) (by (repeat (first | rw [eU_at] | rw [eU_ne (by omega)] | rw [senE_off (by omega)] | rw [shE_off (by omega)] | rw [txE_off (by omega)] | rw [frE_off (by omega)])) <;> first | rfl | assumption) (Nat.le_of_ble_eq_true rfl) rfl rfl dX5_init_152 ?_
  refine u_aload_n X dX5_init_155 rfl ?_
  refine u_iconst (v := nI 2) X dX5_init_156 (by decide) ?_
  refine u_newz (N := 2) X wd_az rfl (by decide) (Nat.le_of_ble_eq_true rfl) (Nat.le_of_ble_eq_true rfl) dX5_init_157 ?_
  refine u_nrm (n2 := 175) (cs2 := 18) (sl2 := 7470) rfl rfl rfl ?_
  refine u_putr (q := 156) (a := b0 + 174) (fs := [.ref (b0 + 157), .ref (b0 + 158), .ref (b0 + 159), .ref (b0 + 160), .ref (b0 + 161), .int 0, .int ((-6)), .int 0, .ref (b0 + 162), .ref (b0 + 163), .ref (b0 + 164), .ref (b0 + 165), .ref (b0 + 166), .ref (b0 + 167), .int 0, .int 0, .int 0, .ref (b0 + 168), .ref (b0 + 169), .ref (b0 + 170), .ref (b0 + 171), .ref (b0 + 172), .int 0, .ref (b0 + 173), .null]) X hI ff_X5_66 (by omega) (by (repeat (first | rw [eU_at] | rw [eU_ne (by omega)] | rw [senE_off (by omega)] | rw [shE_off (by omega)] | rw [txE_off (by omega)] | rw [frE_off (by omega)])) <;> first | rfl | assumption) (Nat.le_of_ble_eq_true rfl) rfl rfl dX5_init_159 ?_
  refine u_vret X hR dX5_init_162 rfl (fun k hk => ?_) rfl rfl
  rcases (show k < 156 ∨ k = 156 ∨ (157 ≤ k ∧ k < 175) by omega) with z | rfl | ⟨z1, z2⟩
  · rw [moE, if_neg (by omega), if_neg (by omega)]
    repeat rw [eU_ne (by omega)]
  · rw [moE, if_pos rfl]
    (repeat (first | rw [eU_at] | rw [eU_ne (by omega)])) <;> rfl
  · rw [moE, if_neg (by omega), if_pos z1]
    rcases (show k = 157 ∨ k = 158 ∨ k = 159 ∨ k = 160 ∨ k = 161 ∨ k = 162 ∨ k = 163 ∨ k = 164 ∨ k = 165 ∨ k = 166 ∨ k = 167 ∨ k = 168 ∨ k = 169 ∨ k = 170 ∨ k = 171 ∨ k = 172 ∨ k = 173 ∨ k = 174 by omega) with rfl | rfl | rfl | rfl | rfl | rfl | rfl | rfl | rfl | rfl | rfl | rfl | rfl | rfl | rfl | rfl | rfl | rfl <;> ((repeat (first | rw [eU_at] | rw [eU_ne (by omega)])) <;> rfl)
