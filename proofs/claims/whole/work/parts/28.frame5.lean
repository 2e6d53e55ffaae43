/-! WHAT IS ASKED OF THE WORLDS, by their places -/
def kw (K : Kw) (i : Nat) : Nat := (K.getD i (0, 0, 0)).1
def kh (K : Kw) (i : Nat) : Nat := (K.getD i (0, 0, 0)).2.2
theorem kI_at {σ : Sg} {K : Kw} {f e y : Nat} (h : kI σ K f e) (hy : y < K.length) : σ 152 (f + y) = nI (kw K y) ∧ σ 154 (f + y) = nI (kh K y) ∧ kh K y + y + 1 ≤ K.length := by
  obtain ⟨a1, a2, a3, a4⟩ := h
  obtain ⟨b1, b2, b3, b4⟩ := a4 y K[y] (List.getElem?_eq_getElem hy)
  have e1 : K.getD y (0, 0, 0) = K[y] := by rw [List.getD_eq_getElem?_getD, List.getElem?_eq_getElem hy]; rfl
  rw [kw, kh, e1]
  exact ⟨b1, b3, b4⟩
theorem sbs_eq2 {v w : Nat} (hw : v < 2 ^ 31) : nI v &&& nI w = nI v ↔ sbs v w = true := by
  rw [nb_and, nI_eq (Nat.lt_of_le_of_lt Nat.and_le_left hw) hw, sbs, beq_iff_eq, Nat.and_comm]
def mxB (h : Nat → Nat) : Nat → Nat
  | 0 => 0
  | n + 1 => max (mxB h n) (h n)
theorem mxB_le {h : Nat → Nat} {B : Nat} : ∀ {n}, (∀ i, i < n → h i ≤ B) → mxB h n ≤ B
  | 0, _ => Nat.zero_le _
  | n + 1, hB => Nat.max_le.mpr ⟨mxB_le (fun i hi => hB i (by omega)), hB n (by omega)⟩
def bel (K : Kw) (i : Nat) : Bool := (List.range i).any (fun j => sbs (kw K j) (kw K i))
def frc (K : Kw) (s k : Nat) : Bool := (List.range K.length).all (fun i => !sbs s (kw K i) || (kw K i).testBit k)
def nrf (K : Kw) (r : Nat) : Nat := ctB (fun i => !(kw K i).testBit r) K.length
def lrf (K : Kw) (r : Nat) : Int32 := if 0 < K.length ∧ (kw K 0).testBit r = false then nI (kw K 0) else -6
def nab (K : Kw) (i : Nat) : Nat := ctB (fun j => decide (i < j) && sbs (kw K i) (kw K j)) K.length
theorem ctB_0 {f : Nat → Bool} : ∀ {n}, (∀ i, i < n → f i = false) → ctB f n = 0
  | 0, _ => rfl
  | n + 1, h => by rw [ctB, ctB_0 (fun i hi => h i (by omega)), h n (by omega)]; rfl
set_option maxHeartbeats 4000000 in
set_option maxRecDepth 100000 in
theorem c_fsize (G : GT) {σ : Sg} {K : Kw} {f e : Nat} (hK : kI σ K f e) (he : e ≤ 2048) : MC G yX0_size cX0_size 1 .int 0 [.ref (G.2.2.1 151)] σ (fun r τ => τ = σ ∧ r = nI K.length) := by
  refine MC_of (by decide) (ca1 rfl ca0) (Nat.le_of_ble_eq_true rfl) ?_
  intro Z X hR
  show V G Z σ 0 [some (.ref (G.2.2.1 151))] []
  obtain ⟨a1, a2, a3, -⟩ := id hK
  refine v_aload_n X dX0_size_0 rfl ?_
  refine v_geti X fl_X0_32 shX0_5 dX0_size_1 ?_
  refine v_aload_n X dX0_size_4 rfl ?_
  refine v_geti X fl_X0_28 shX0_4 dX0_size_5 ?_
  rw [a2, a3]
  refine v_isub X dX0_size_8 ?_
  refine v_ret X hR dX0_size_9 rfl ?_
  exact ⟨rfl, by rw [pk_sub (by omega), show e - f = K.length by omega]⟩

set_option maxHeartbeats 4000000 in
set_option maxRecDepth 100000 in
theorem c_setAt (G : GT) {σ : Sg} {K : Kw} {f e : Nat} (hK : kI σ K f e) (he : e ≤ 2048) {i : Nat} (hi : i < K.length) : MC G yX0_setAt cX0_setAt 2 .int 0 [.ref (G.2.2.1 151), .int (nI i)] σ (fun r τ => τ = σ ∧ r = nI (kw K i)) := by
  refine MC_of (by decide) (ca1 rfl (ca1 rfl ca0)) (Nat.le_of_ble_eq_true rfl) ?_
  intro Z X hR
  show V G Z σ 0 [some (.ref (G.2.2.1 151)), some (.int (nI i))] []
  obtain ⟨a1, a2, a3, -⟩ := id hK
  refine v_aload_n X dX0_setAt_0 rfl ?_
  refine v_getr X fl_X0_18 shX0_1 dX0_setAt_1 ?_
  refine v_aload_n X dX0_setAt_4 rfl ?_
  refine v_geti X fl_X0_28 shX0_4 dX0_setAt_5 ?_
  refine v_iload_n X dX0_setAt_8 rfl ?_
  rw [a2]
  refine v_iadd X dX0_setAt_9 ?_
  refine v_ialdE X arX0_1 (nI_add f i) (show f + i < 2048 by omega) dX0_setAt_10 ?_
  refine v_ret X hR dX0_setAt_11 rfl ?_
  exact ⟨rfl, (kI_at hK hi).1⟩

set_option maxHeartbeats 4000000 in
set_option maxRecDepth 100000 in
theorem c_heightAt (G : GT) {σ : Sg} {K : Kw} {f e : Nat} (hK : kI σ K f e) (he : e ≤ 2048) {i : Nat} (hi : i < K.length) : MC G yX0_heightAt cX0_heightAt 2 .int 0 [.ref (G.2.2.1 151), .int (nI i)] σ (fun r τ => τ = σ ∧ r = nI (kh K i)) := by
  refine MC_of (by decide) (ca1 rfl (ca1 rfl ca0)) (Nat.le_of_ble_eq_true rfl) ?_
  intro Z X hR
  show V G Z σ 0 [some (.ref (G.2.2.1 151)), some (.int (nI i))] []
  obtain ⟨a1, a2, a3, -⟩ := id hK
  refine v_aload_n X dX0_heightAt_0 rfl ?_
  refine v_getr X fl_X0_25 shX0_3 dX0_heightAt_1 ?_
  refine v_aload_n X dX0_heightAt_4 rfl ?_
  refine v_geti X fl_X0_28 shX0_4 dX0_heightAt_5 ?_
  refine v_iload_n X dX0_heightAt_8 rfl ?_
  rw [a2]
  refine v_iadd X dX0_heightAt_9 ?_
  refine v_ialdE X arX0_3 (nI_add f i) (show f + i < 2048 by omega) dX0_heightAt_10 ?_
  refine v_ret X hR dX0_heightAt_11 rfl ?_
  exact ⟨rfl, (kI_at hK hi).2.1⟩

set_option maxHeartbeats 4000000 in
set_option maxRecDepth 100000 in
theorem c_forces (G : GT) {σ : Sg} {K : Kw} {f e : Nat} (hK : kI σ K f e) (he : e ≤ 2048) {s k : Nat} (hs : s < 2 ^ 31) (hk : k < 32) : MC G yX0_forces cX0_forces 4 .boolean 1 [.ref (G.2.2.1 151), .int (nI s), .int (nI k)] σ (fun r τ => τ = σ ∧ r = bI (frc K s k)) := by
  refine MC_of (by decide) (ca1 rfl (ca1 rfl (ca1 rfl ca0))) (Nat.le_of_ble_eq_true rfl) ?_
  intro Z X hR
  show V G Z σ 0 [some (.ref (G.2.2.1 151)), some (.int (nI s)), some (.int (nI k)), none] []
  obtain ⟨a1, a2, a3, -⟩ := id hK
  have loop : ∀ (n y : Nat), K.length - y < n → y ≤ K.length → (∀ x, x < y → (!sbs s (kw K x) || (kw K x).testBit k) = true) → V G Z σ 5 [some (.ref (G.2.2.1 151)), some (.int (nI s)), some (.int (nI k)), some (.int (nI (f + y)))] [] := by
    intro n
    induction n with
    | zero => intro y h; omega
    | succ n ih =>
      intro y hn hyl hin
      refine v_iload_n X dX0_forces_5 rfl ?_
      refine v_aload_n X dX0_forces_6 rfl ?_
      refine v_geti X fl_X0_32 shX0_5 dX0_forces_7 ?_
      rw [a3]
      refine v_icmp_ge (tgt := 46) X dX0_forces_10 (by decide) (fun h10 => ?_) (fun h10 => ?_)
      · skip
        have hy := nI_lem (by omega) (by omega) h10
        have hy : y = K.length := by omega
        subst hy
        refine v_iconst (v := nI 1) X dX0_forces_46 (by decide) ?_
        refine v_ret X hR dX0_forces_47 rfl ?_
        refine ⟨rfl, ?_⟩
        have : frc K s k = true := by
          rw [frc, List.all_eq_true]
          exact fun x hx => hin x (List.mem_range.mp hx)
        rw [this]; rfl
      · skip
        have hy := nI_len (by omega) (by omega) h10
        have hyK : y < K.length := by omega
        obtain ⟨b1, b2, b3⟩ := kI_at hK hyK
        refine v_aload_n X dX0_forces_13 rfl ?_
        refine v_getr X fl_X0_18 shX0_1 dX0_forces_14 ?_
        refine v_iload_n X dX0_forces_17 rfl ?_
        refine v_ialdE X arX0_1 rfl (show f + y < 2048 by omega) dX0_forces_18 ?_
        rw [b1]
        refine v_iload_n X dX0_forces_19 rfl ?_
        refine v_iand X dX0_forces_20 ?_
        refine v_iload_n X dX0_forces_21 rfl ?_
        refine v_icmp_ne (tgt := 40) X dX0_forces_22 (by decide) (fun h22 => ?_) (fun h22 => ?_)
        · skip
          have hc : (!sbs s (kw K y) || (kw K y).testBit k) = true := by
            have : sbs s (kw K y) = false := by
              cases h : sbs s (kw K y) with
              | false => rfl
              | true => exact absurd ((sbs_eq hs).mpr h) h22
            rw [this]; rfl
          refine v_iincE X dX0_forces_40 rfl (nI_inc (f + y)) ?_
          show V G Z _ 43 [_, _, _, _] _
          refine v_goto (tgt := 5) X dX0_forces_43 (by decide) ?_
          exact ih (y + 1) (by omega) (by omega) (fun x hx => by
            rcases Nat.lt_or_ge x y with h | h
            · exact hin x h
            · rw [show x = y by omega]; exact hc)
        · skip
          have hsb := (sbs_eq hs).mp h22
          refine v_aload_n X dX0_forces_25 rfl ?_
          refine v_getr X fl_X0_18 shX0_1 dX0_forces_26 ?_
          refine v_iload_n X dX0_forces_29 rfl ?_
          refine v_ialdE X arX0_1 rfl (show f + y < 2048 by omega) dX0_forces_30 ?_
          refine v_iload_n X dX0_forces_31 rfl ?_
          rw [b1]
          refine v_hasN X (by decide) hk (Nat.le_of_ble_eq_true rfl) dX0_forces_32 ?_
          refine v_if_ne (tgt := 40) X dX0_forces_35 (by decide) (fun h35 => ?_) (fun h35 => ?_)
          · skip
            have hc : (!sbs s (kw K y) || (kw K y).testBit k) = true := by rw [bI_nz.mp h35]; simp
            refine v_iincE X dX0_forces_40 rfl (nI_inc (f + y)) ?_
            show V G Z _ 43 [_, _, _, _] _
            refine v_goto (tgt := 5) X dX0_forces_43 (by decide) ?_
            exact ih (y + 1) (by omega) (by omega) (fun x hx => by
              rcases Nat.lt_or_ge x y with h | h
              · exact hin x h
              · rw [show x = y by omega]; exact hc)
          · skip
            have hf := bI_z.mp h35
            refine v_iconst (v := nI 0) X dX0_forces_38 (by decide) ?_
            refine v_ret X hR dX0_forces_39 rfl ?_
            refine ⟨rfl, ?_⟩
            have : frc K s k = false := by
              rw [frc, List.all_eq_false]
              exact ⟨y, List.mem_range.mpr hyK, by rw [hsb, hf]; decide⟩
            rw [this]; rfl
  refine v_aload_n X dX0_forces_0 rfl ?_
  refine v_geti X fl_X0_28 shX0_4 dX0_forces_1 ?_
  rw [a2]
  refine v_istore_n X dX0_forces_4 (Nat.le_of_ble_eq_true rfl) ?_
  show V G Z _ 5 [_, _, _, _] _
  exact loop (K.length + 1) 0 (by omega) (by omega) (fun x h => by omega)
set_option maxHeartbeats 4000000 in
set_option maxRecDepth 100000 in
theorem c_refuting (G : GT) {σ : Sg} {K : Kw} {f e : Nat} (hK : kI σ K f e) (he : e ≤ 2048) {P : Sen} (hP : hs σ 19 P) (h0 : 0 < P.length) : MC G yX0_refuting cX0_refuting 3 .int 1 [.ref (G.2.2.1 151)] σ (fun r τ => τ = σ ∧ r = nI (nrf K (P.length - 1))) := by
  refine MC_of (by decide) (ca1 rfl ca0) (Nat.le_of_ble_eq_true rfl) ?_
  intro Z X hR
  show V G Z σ 0 [some (.ref (G.2.2.1 151)), none, none] []
  obtain ⟨a1, a2, a3, -⟩ := id hK
  have hP11 := hP.1
  have p3 := hP.2.2.1
  have loop : ∀ (n y : Nat), K.length - y < n → y ≤ K.length → V G Z σ 7 [some (.ref (G.2.2.1 151)), some (.int (nI (ctB (fun i => !(kw K i).testBit (P.length - 1)) y))), some (.int (nI (f + y)))] [] := by
    intro n
    induction n with
    | zero => intro y h; omega
    | succ n ih =>
      intro y hn hyl 
      refine v_iload_n X dX0_refuting_7 rfl ?_
      refine v_aload_n X dX0_refuting_8 rfl ?_
      refine v_geti X fl_X0_32 shX0_5 dX0_refuting_9 ?_
      rw [a3]
      refine v_icmp_ge (tgt := 43) X dX0_refuting_12 (by decide) (fun h12 => ?_) (fun h12 => ?_)
      · skip
        have hy := nI_lem (by omega) (by omega) h12
        have hy : y = K.length := by omega
        subst hy
        refine v_iload_n X dX0_refuting_43 rfl ?_
        refine v_ret X hR dX0_refuting_44 rfl ?_
        exact ⟨rfl, rfl⟩
      · skip
        have hy := nI_len (by omega) (by omega) h12
        have hyK : y < K.length := by omega
        obtain ⟨b1, b2, b3⟩ := kI_at hK hyK
        have ihk := ih (y + 1) (by omega) (by omega)
        refine v_aload_n X dX0_refuting_15 rfl ?_
        refine v_getr X fl_X0_18 shX0_1 dX0_refuting_16 ?_
        refine v_iload_n X dX0_refuting_19 rfl ?_
        refine v_ialdE X arX0_1 rfl (show f + y < 2048 by omega) dX0_refuting_20 ?_
        refine v_aload_n X dX0_refuting_21 rfl ?_
        refine v_getr X fl_X0_12 shX0_0 dX0_refuting_22 ?_
        refine v_cali X (c_root G (j := 19) (by decide)) cv_X0_96 (obX1 (by first | assumption | omega)) rfl (by decide) rfl (by rfl) (Nat.le_of_ble_eq_true rfl) dX0_refuting_25 (fun r τ9 hq => ?_)
        obtain ⟨e9, rfl⟩ := hq
        rw [e9]
        rw [b1, p3, nI_s1 h0]
        refine v_hasN X (by decide) (by omega) (Nat.le_of_ble_eq_true rfl) dX0_refuting_28 ?_
        refine v_if_ne (tgt := 37) X dX0_refuting_31 (by decide) (fun h31 => ?_) (fun h31 => ?_)
        · skip
          have hc : (!(kw K y).testBit (P.length - 1)) = false := by rw [bI_nz.mp h31]; rfl
          refine v_iincE X dX0_refuting_37 rfl (nI_inc (f + y)) ?_
          show V G Z _ 40 [_, _, _] _
          refine v_goto (tgt := 7) X dX0_refuting_40 (by decide) ?_
          rw [ctB, hc] at ihk
          exact ihk
        · skip
          have hc : (!(kw K y).testBit (P.length - 1)) = true := by rw [bI_z.mp h31]; rfl
          refine v_iincE X dX0_refuting_34 rfl (nI_inc _) ?_
          show V G Z _ 37 [_, _, _] _
          refine v_iincE X dX0_refuting_37 rfl (nI_inc (f + y)) ?_
          show V G Z _ 40 [_, _, _] _
          refine v_goto (tgt := 7) X dX0_refuting_40 (by decide) ?_
          rw [ctB, hc] at ihk
          exact ihk
  refine v_iconst (v := nI 0) X dX0_refuting_0 (by decide) ?_
  refine v_istore_n X dX0_refuting_1 (Nat.le_of_ble_eq_true rfl) ?_
  show V G Z _ 2 [_, _, _] _
  refine v_aload_n X dX0_refuting_2 rfl ?_
  refine v_geti X fl_X0_28 shX0_4 dX0_refuting_3 ?_
  rw [a2]
  refine v_istore_n X dX0_refuting_6 (Nat.le_of_ble_eq_true rfl) ?_
  show V G Z _ 7 [_, _, _] _
  exact loop (K.length + 1) 0 (by omega) (by omega)
set_option maxHeartbeats 4000000 in
set_option maxRecDepth 100000 in
theorem c_highest (G : GT) {σ : Sg} {K : Kw} {f e : Nat} (hK : kI σ K f e) (he : e ≤ 2048) : MC G yX0_highest cX0_highest 3 .int 0 [.ref (G.2.2.1 151)] σ (fun r τ => τ = σ ∧ r = nI (ctB (fun i => decide (kh K i = 0)) K.length)) := by
  refine MC_of (by decide) (ca1 rfl ca0) (Nat.le_of_ble_eq_true rfl) ?_
  intro Z X hR
  show V G Z σ 0 [some (.ref (G.2.2.1 151)), none, none] []
  obtain ⟨a1, a2, a3, -⟩ := id hK
  have loop : ∀ (n y : Nat), K.length - y < n → y ≤ K.length → V G Z σ 7 [some (.ref (G.2.2.1 151)), some (.int (nI (ctB (fun i => decide (kh K i = 0)) y))), some (.int (nI (f + y)))] [] := by
    intro n
    induction n with
    | zero => intro y h; omega
    | succ n ih =>
      intro y hn hyl 
      refine v_iload_n X dX0_highest_7 rfl ?_
      refine v_aload_n X dX0_highest_8 rfl ?_
      refine v_geti X fl_X0_32 shX0_5 dX0_highest_9 ?_
      rw [a3]
      refine v_icmp_ge (tgt := 33) X dX0_highest_12 (by decide) (fun h12 => ?_) (fun h12 => ?_)
      · skip
        have hy := nI_lem (by omega) (by omega) h12
        have hy : y = K.length := by omega
        subst hy
        refine v_iload_n X dX0_highest_33 rfl ?_
        refine v_ret X hR dX0_highest_34 rfl ?_
        exact ⟨rfl, rfl⟩
      · skip
        have hy := nI_len (by omega) (by omega) h12
        have hyK : y < K.length := by omega
        obtain ⟨b1, b2, b3⟩ := kI_at hK hyK
        have ihk := ih (y + 1) (by omega) (by omega)
        refine v_aload_n X dX0_highest_15 rfl ?_
        refine v_getr X fl_X0_25 shX0_3 dX0_highest_16 ?_
        refine v_iload_n X dX0_highest_19 rfl ?_
        refine v_ialdE X arX0_3 rfl (show f + y < 2048 by omega) dX0_highest_20 ?_
        rw [b2]
        refine v_if_ne (tgt := 27) X dX0_highest_21 (by decide) (fun h21 => ?_) (fun h21 => ?_)
        · skip
          have hc : decide (kh K y = 0) = false := decide_eq_false (fun z => h21 (by rw [z]; rfl))
          refine v_iincE X dX0_highest_27 rfl (nI_inc (f + y)) ?_
          show V G Z _ 30 [_, _, _] _
          refine v_goto (tgt := 7) X dX0_highest_30 (by decide) ?_
          rw [ctB, hc] at ihk
          exact ihk
        · skip
          have hc : decide (kh K y = 0) = true := decide_eq_true (nI_eqm (b := 0) (by omega) (by decide) h21)
          refine v_iincE X dX0_highest_24 rfl (nI_inc _) ?_
          show V G Z _ 27 [_, _, _] _
          refine v_iincE X dX0_highest_27 rfl (nI_inc (f + y)) ?_
          show V G Z _ 30 [_, _, _] _
          refine v_goto (tgt := 7) X dX0_highest_30 (by decide) ?_
          rw [ctB, hc] at ihk
          exact ihk
  refine v_iconst (v := nI 0) X dX0_highest_0 (by decide) ?_
  refine v_istore_n X dX0_highest_1 (Nat.le_of_ble_eq_true rfl) ?_
  show V G Z _ 2 [_, _, _] _
  refine v_aload_n X dX0_highest_2 rfl ?_
  refine v_geti X fl_X0_28 shX0_4 dX0_highest_3 ?_
  rw [a2]
  refine v_istore_n X dX0_highest_6 (Nat.le_of_ble_eq_true rfl) ?_
  show V G Z _ 7 [_, _, _] _
  exact loop (K.length + 1) 0 (by omega) (by omega)
set_option maxHeartbeats 4000000 in
set_option maxRecDepth 100000 in
theorem c_greatestHeight (G : GT) {σ : Sg} {K : Kw} {f e : Nat} (hK : kI σ K f e) (he : e ≤ 2048) : MC G yX0_greatestHeight cX0_greatestHeight 3 .int 1 [.ref (G.2.2.1 151)] σ (fun r τ => τ = σ ∧ r = nI (mxB (kh K) K.length)) := by
  refine MC_of (by decide) (ca1 rfl ca0) (Nat.le_of_ble_eq_true rfl) ?_
  intro Z X hR
  show V G Z σ 0 [some (.ref (G.2.2.1 151)), none, none] []
  obtain ⟨a1, a2, a3, -⟩ := id hK
  have loop : ∀ (n y : Nat), K.length - y < n → y ≤ K.length → V G Z σ 7 [some (.ref (G.2.2.1 151)), some (.int (nI (mxB (kh K) y))), some (.int (nI (f + y)))] [] := by
    intro n
    induction n with
    | zero => intro y h; omega
    | succ n ih =>
      intro y hn hyl 
      refine v_iload_n X dX0_greatestHeight_7 rfl ?_
      refine v_aload_n X dX0_greatestHeight_8 rfl ?_
      refine v_geti X fl_X0_32 shX0_5 dX0_greatestHeight_9 ?_
      rw [a3]
      refine v_icmp_ge (tgt := 32) X dX0_greatestHeight_12 (by decide) (fun h12 => ?_) (fun h12 => ?_)
      · skip
        have hy := nI_lem (by omega) (by omega) h12
        have hy : y = K.length := by omega
        subst hy
        refine v_iload_n X dX0_greatestHeight_32 rfl ?_
        refine v_ret X hR dX0_greatestHeight_33 rfl ?_
        exact ⟨rfl, rfl⟩
      · skip
        have hy := nI_len (by omega) (by omega) h12
        have hyK : y < K.length := by omega
        obtain ⟨b1, b2, b3⟩ := kI_at hK hyK
        have ihk := ih (y + 1) (by omega) (by omega)
        have hm : mxB (kh K) y ≤ 2048 := mxB_le (fun i hi => by have := (kI_at hK (show i < K.length by omega)).2.2; omega)
        refine v_iload_n X dX0_greatestHeight_15 rfl ?_
        refine v_aload_n X dX0_greatestHeight_16 rfl ?_
        refine v_getr X fl_X0_25 shX0_3 dX0_greatestHeight_17 ?_
        refine v_iload_n X dX0_greatestHeight_20 rfl ?_
        refine v_ialdE X arX0_3 rfl (show f + y < 2048 by omega) dX0_greatestHeight_21 ?_
        rw [b2]
        refine v_mmax X (by decide) cs_X0_87 (Nat.le_of_ble_eq_true rfl) dX0_greatestHeight_22 ?_
        refine v_top (mx_nI (by omega) (by omega)) ?_
        refine v_istore_n X dX0_greatestHeight_25 (Nat.le_of_ble_eq_true rfl) ?_
        show V G Z _ 26 [_, _, _] _
        refine v_iincE X dX0_greatestHeight_26 rfl (nI_inc (f + y)) ?_
        show V G Z _ 29 [_, _, _] _
        refine v_goto (tgt := 7) X dX0_greatestHeight_29 (by decide) ?_
        exact ihk
  refine v_iconst (v := nI 0) X dX0_greatestHeight_0 (by decide) ?_
  refine v_istore_n X dX0_greatestHeight_1 (Nat.le_of_ble_eq_true rfl) ?_
  show V G Z _ 2 [_, _, _] _
  refine v_aload_n X dX0_greatestHeight_2 rfl ?_
  refine v_geti X fl_X0_28 shX0_4 dX0_greatestHeight_3 ?_
  rw [a2]
  refine v_istore_n X dX0_greatestHeight_6 (Nat.le_of_ble_eq_true rfl) ?_
  show V G Z _ 7 [_, _, _] _
  exact loop (K.length + 1) 0 (by omega) (by omega)
set_option maxHeartbeats 4000000 in
set_option maxRecDepth 100000 in
theorem c_isAboveAny (G : GT) {σ : Sg} {K : Kw} {f e : Nat} (hK : kI σ K f e) (he : e ≤ 2048) (hb : ∀ i, i < K.length → kw K i < 2 ^ 31) {i : Nat} (hi : i < K.length) : MC G yX0_isAboveAny cX0_isAboveAny 3 .boolean 0 [.ref (G.2.2.1 151), .int (nI (f + i))] σ (fun r τ => τ = σ ∧ r = bI (bel K i)) := by
  refine MC_of (by decide) (ca1 rfl (ca1 rfl ca0)) (Nat.le_of_ble_eq_true rfl) ?_
  intro Z X hR
  show V G Z σ 0 [some (.ref (G.2.2.1 151)), some (.int (nI (f + i))), none] []
  obtain ⟨a1, a2, a3, -⟩ := id hK
  have loop : ∀ (n y : Nat), K.length - y < n → y ≤ K.length → y ≤ i → (∀ x, x < y → sbs (kw K x) (kw K i) = false) → V G Z σ 5 [some (.ref (G.2.2.1 151)), some (.int (nI (f + i))), some (.int (nI (f + y)))] [] := by
    intro n
    induction n with
    | zero => intro y h; omega
    | succ n ih =>
      intro y hn hyl hyi hin
      refine v_iload_n X dX0_isAboveAny_5 rfl ?_
      refine v_iload_n X dX0_isAboveAny_6 rfl ?_
      refine v_icmp_ge (tgt := 40) X dX0_isAboveAny_7 (by decide) (fun h7 => ?_) (fun h7 => ?_)
      · skip
        have hy := nI_lem (by omega) (by omega) h7
        refine v_iconst (v := nI 0) X dX0_isAboveAny_40 (by decide) ?_
        refine v_ret X hR dX0_isAboveAny_41 rfl ?_
        refine ⟨rfl, ?_⟩
        have : bel K i = false := by
          rw [bel, List.any_eq_false]
          exact fun x hx => by rw [hin x (by have := List.mem_range.mp hx; omega)]; decide
        rw [this]; rfl
      · skip
        have hy := nI_len (by omega) (by omega) h7
        obtain ⟨b1, b2, b3⟩ := kI_at hK (show y < K.length by omega)
        obtain ⟨c1, c2, c3⟩ := kI_at hK hi
        refine v_aload_n X dX0_isAboveAny_10 rfl ?_
        refine v_getr X fl_X0_18 shX0_1 dX0_isAboveAny_11 ?_
        refine v_iload_n X dX0_isAboveAny_14 rfl ?_
        refine v_ialdE X arX0_1 rfl (show f + y < 2048 by omega) dX0_isAboveAny_15 ?_
        rw [b1]
        refine v_aload_n X dX0_isAboveAny_16 rfl ?_
        refine v_getr X fl_X0_18 shX0_1 dX0_isAboveAny_17 ?_
        refine v_iload_n X dX0_isAboveAny_20 rfl ?_
        refine v_ialdE X arX0_1 rfl (show f + i < 2048 by omega) dX0_isAboveAny_21 ?_
        rw [c1]
        refine v_iand X dX0_isAboveAny_22 ?_
        refine v_aload_n X dX0_isAboveAny_23 rfl ?_
        refine v_getr X fl_X0_18 shX0_1 dX0_isAboveAny_24 ?_
        refine v_iload_n X dX0_isAboveAny_27 rfl ?_
        refine v_ialdE X arX0_1 rfl (show f + y < 2048 by omega) dX0_isAboveAny_28 ?_
        rw [b1]
        refine v_icmp_ne (tgt := 34) X dX0_isAboveAny_29 (by decide) (fun h29 => ?_) (fun h29 => ?_)
        · skip
          have hc : sbs (kw K y) (kw K i) = false := by
            cases h : sbs (kw K y) (kw K i) with
            | false => rfl
            | true => exact absurd ((sbs_eq2 (hb y (by omega))).mpr h) h29
          refine v_iincE X dX0_isAboveAny_34 rfl (nI_inc (f + y)) ?_
          show V G Z _ 37 [_, _, _] _
          refine v_goto (tgt := 5) X dX0_isAboveAny_37 (by decide) ?_
          exact ih (y + 1) (by omega) (by omega) (by omega) (fun x hx => by
            rcases Nat.lt_or_ge x y with h | h
            · exact hin x h
            · rw [show x = y by omega]; exact hc)
        · skip
          have hc := (sbs_eq2 (hb y (by omega))).mp h29
          refine v_iconst (v := nI 1) X dX0_isAboveAny_32 (by decide) ?_
          refine v_ret X hR dX0_isAboveAny_33 rfl ?_
          refine ⟨rfl, ?_⟩
          have : bel K i = true := List.any_eq_true.mpr ⟨y, List.mem_range.mpr (by omega), hc⟩
          rw [this]; rfl
  refine v_aload_n X dX0_isAboveAny_0 rfl ?_
  refine v_geti X fl_X0_28 shX0_4 dX0_isAboveAny_1 ?_
  rw [a2]
  refine v_istore_n X dX0_isAboveAny_4 (Nat.le_of_ble_eq_true rfl) ?_
  show V G Z _ 5 [_, _, _] _
  exact loop (K.length + 1) 0 (by omega) (by omega) (by omega) (fun x h => by omega)
set_option maxHeartbeats 4000000 in
set_option maxRecDepth 100000 in
theorem c_lowest (G : GT) {σ : Sg} {K : Kw} {f e : Nat} (hK : kI σ K f e) (he : e ≤ 2048) (hb : ∀ i, i < K.length → kw K i < 2 ^ 31) : MC G yX0_lowest cX0_lowest 3 .int 1 [.ref (G.2.2.1 151)] σ (fun r τ => τ = σ ∧ r = nI (ctB (fun i => !bel K i) K.length)) := by
  refine MC_of (by decide) (ca1 rfl ca0) (Nat.le_of_ble_eq_true rfl) ?_
  intro Z X hR
  show V G Z σ 0 [some (.ref (G.2.2.1 151)), none, none] []
  obtain ⟨a1, a2, a3, -⟩ := id hK
  have loop : ∀ (n y : Nat), K.length - y < n → y ≤ K.length → V G Z σ 7 [some (.ref (G.2.2.1 151)), some (.int (nI (ctB (fun i => !bel K i) y))), some (.int (nI (f + y)))] [] := by
    intro n
    induction n with
    | zero => intro y h; omega
    | succ n ih =>
      intro y hn hyl 
      refine v_iload_n X dX0_lowest_7 rfl ?_
      refine v_aload_n X dX0_lowest_8 rfl ?_
      refine v_geti X fl_X0_32 shX0_5 dX0_lowest_9 ?_
      rw [a3]
      refine v_icmp_ge (tgt := 32) X dX0_lowest_12 (by decide) (fun h12 => ?_) (fun h12 => ?_)
      · skip
        have hy := nI_lem (by omega) (by omega) h12
        have hy : y = K.length := by omega
        subst hy
        refine v_iload_n X dX0_lowest_32 rfl ?_
        refine v_ret X hR dX0_lowest_33 rfl ?_
        exact ⟨rfl, rfl⟩
      · skip
        have hy := nI_len (by omega) (by omega) h12
        have hyK : y < K.length := by omega
        obtain ⟨b1, b2, b3⟩ := kI_at hK hyK
        have ihk := ih (y + 1) (by omega) (by omega)
        refine v_aload_n X dX0_lowest_15 rfl ?_
        refine v_iload_n X dX0_lowest_16 rfl ?_
        refine v_cali X (c_isAboveAny G hK he hb hyK) cv_X0_99 obX0 rfl (by decide) rfl (by rfl) (Nat.le_of_ble_eq_true rfl) dX0_lowest_17 (fun r τ9 hq => ?_)
        obtain ⟨e9, rfl⟩ := hq
        rw [e9]
        refine v_if_ne (tgt := 26) X dX0_lowest_20 (by decide) (fun h20 => ?_) (fun h20 => ?_)
        · skip
          have hc : (!bel K y) = false := by rw [bI_nz.mp h20]; rfl
          refine v_iincE X dX0_lowest_26 rfl (nI_inc (f + y)) ?_
          show V G Z _ 29 [_, _, _] _
          refine v_goto (tgt := 7) X dX0_lowest_29 (by decide) ?_
          rw [ctB, hc] at ihk
          exact ihk
        · skip
          have hc : (!bel K y) = true := by rw [bI_z.mp h20]; rfl
          refine v_iincE X dX0_lowest_23 rfl (nI_inc _) ?_
          show V G Z _ 26 [_, _, _] _
          refine v_iincE X dX0_lowest_26 rfl (nI_inc (f + y)) ?_
          show V G Z _ 29 [_, _, _] _
          refine v_goto (tgt := 7) X dX0_lowest_29 (by decide) ?_
          rw [ctB, hc] at ihk
          exact ihk
  refine v_iconst (v := nI 0) X dX0_lowest_0 (by decide) ?_
  refine v_istore_n X dX0_lowest_1 (Nat.le_of_ble_eq_true rfl) ?_
  show V G Z _ 2 [_, _, _] _
  refine v_aload_n X dX0_lowest_2 rfl ?_
  refine v_geti X fl_X0_28 shX0_4 dX0_lowest_3 ?_
  rw [a2]
  refine v_istore_n X dX0_lowest_6 (Nat.le_of_ble_eq_true rfl) ?_
  show V G Z _ 7 [_, _, _] _
  exact loop (K.length + 1) 0 (by omega) (by omega)
set_option maxHeartbeats 4000000 in
set_option maxRecDepth 100000 in
theorem c_leastRefuting (G : GT) {σ : Sg} {K : Kw} {f e : Nat} (hK : kI σ K f e) (he : e ≤ 2048) {P : Sen} (hP : hs σ 19 P) (h0 : 0 < P.length) : MC G yX0_leastRefuting cX0_leastRefuting 1 .int 1 [.ref (G.2.2.1 151)] σ (fun r τ => τ = σ ∧ r = lrf K (P.length - 1)) := by
  refine MC_of (by decide) (ca1 rfl ca0) (Nat.le_of_ble_eq_true rfl) ?_
  intro Z X hR
  show V G Z σ 0 [some (.ref (G.2.2.1 151))] []
  obtain ⟨a1, a2, a3, -⟩ := id hK
  have hP11 := hP.1
  have p3 := hP.2.2.1
  refine v_aload_n X dX0_leastRefuting_0 rfl ?_
  refine v_geti X fl_X0_28 shX0_4 dX0_leastRefuting_1 ?_
  refine v_aload_n X dX0_leastRefuting_4 rfl ?_
  refine v_geti X fl_X0_32 shX0_5 dX0_leastRefuting_5 ?_
  rw [a2, a3]
  refine v_icmp_ge (tgt := 45) X dX0_leastRefuting_8 (by decide) (fun h8 => ?_) (fun h8 => ?_)
  · skip
    have hl := nI_lem (by omega) (by omega) h8
    refine v_bipush (v := (-6)) X dX0_leastRefuting_45 (by decide) ?_
    refine v_ret X hR dX0_leastRefuting_47 rfl ?_
    exact ⟨rfl, by rw [lrf, if_neg (by omega)]⟩
  · skip
    have hl := nI_len (by omega) (by omega) h8
    obtain ⟨b1, b2, b3⟩ := kI_at hK (show 0 < K.length by omega)
    rw [Nat.add_zero] at b1
    refine v_aload_n X dX0_leastRefuting_11 rfl ?_
    refine v_getr X fl_X0_18 shX0_1 dX0_leastRefuting_12 ?_
    refine v_aload_n X dX0_leastRefuting_15 rfl ?_
    refine v_geti X fl_X0_28 shX0_4 dX0_leastRefuting_16 ?_
    refine v_ialdE X arX0_1 a2 (show f < 2048 by omega) dX0_leastRefuting_19 ?_
    refine v_aload_n X dX0_leastRefuting_20 rfl ?_
    refine v_getr X fl_X0_12 shX0_0 dX0_leastRefuting_21 ?_
    refine v_cali X (c_root G (j := 19) (by decide)) cv_X0_96 (obX1 (by first | assumption | omega)) rfl (by decide) rfl (by rfl) (Nat.le_of_ble_eq_true rfl) dX0_leastRefuting_24 (fun r τ9 hq => ?_)
    obtain ⟨e9, rfl⟩ := hq
    rw [e9]
    rw [b1, p3, nI_s1 h0]
    refine v_hasN X (by decide) (by omega) (Nat.le_of_ble_eq_true rfl) dX0_leastRefuting_27 ?_
    refine v_if_ne (tgt := 45) X dX0_leastRefuting_30 (by decide) (fun h30 => ?_) (fun h30 => ?_)
    · skip
      have hc := bI_nz.mp h30
      refine v_bipush (v := (-6)) X dX0_leastRefuting_45 (by decide) ?_
      refine v_ret X hR dX0_leastRefuting_47 rfl ?_
      exact ⟨rfl, by rw [lrf, if_neg (fun z => by rw [hc] at z; cases z.2)]⟩
    · skip
      have hc := bI_z.mp h30
      refine v_aload_n X dX0_leastRefuting_33 rfl ?_
      refine v_getr X fl_X0_18 shX0_1 dX0_leastRefuting_34 ?_
      refine v_aload_n X dX0_leastRefuting_37 rfl ?_
      refine v_geti X fl_X0_28 shX0_4 dX0_leastRefuting_38 ?_
      refine v_ialdE X arX0_1 a2 (show f < 2048 by omega) dX0_leastRefuting_41 ?_
      refine v_goto (tgt := 47) X dX0_leastRefuting_42 (by decide) ?_
      refine v_ret X hR dX0_leastRefuting_47 rfl ?_
      exact ⟨rfl, by rw [lrf, if_pos ⟨by omega, hc⟩, b1]⟩

set_option maxHeartbeats 4000000 in
set_option maxRecDepth 100000 in
theorem c_above (G : GT) {σ : Sg} {K : Kw} {f e : Nat} (hK : kI σ K f e) (he : e ≤ 2048) (hb : ∀ i, i < K.length → kw K i < 2 ^ 31) {i : Nat} (hi : i < K.length) : MC G yX0_above cX0_above 5 .int 1 [.ref (G.2.2.1 151), .int (nI i)] σ (fun r τ => τ = σ ∧ r = nI (nab K i)) := by
  refine MC_of (by decide) (ca1 rfl (ca1 rfl ca0)) (Nat.le_of_ble_eq_true rfl) ?_
  intro Z X hR
  show V G Z σ 0 [some (.ref (G.2.2.1 151)), some (.int (nI i)), none, none, none] []
  obtain ⟨a1, a2, a3, -⟩ := id hK
  have loop : ∀ (n y : Nat), K.length - y < n → y ≤ K.length → i < y → V G Z σ 18 [some (.ref (G.2.2.1 151)), some (.int (nI i)), some (.int (nI (kw K i))), some (.int (nI (ctB (fun j => decide (i < j) && sbs (kw K i) (kw K j)) y))), some (.int (nI (f + y)))] [] := by
    intro n
    induction n with
    | zero => intro y h; omega
    | succ n ih =>
      intro y hn hyl hiy
      refine v_iload X dX0_above_18 rfl ?_
      refine v_aload_n X dX0_above_20 rfl ?_
      refine v_geti X fl_X0_32 shX0_5 dX0_above_21 ?_
      rw [a3]
      refine v_icmp_ge (tgt := 49) X dX0_above_24 (by decide) (fun h24 => ?_) (fun h24 => ?_)
      · skip
        have hy := nI_lem (by omega) (by omega) h24
        have hy : y = K.length := by omega
        subst hy
        refine v_iload_n X dX0_above_49 rfl ?_
        refine v_ret X hR dX0_above_50 rfl ?_
        exact ⟨rfl, rfl⟩
      · skip
        have hy := nI_len (by omega) (by omega) h24
        have hyK : y < K.length := by omega
        obtain ⟨b1, b2, b3⟩ := kI_at hK hyK
        have ihk := ih (y + 1) (by omega) (by omega) (by omega)
        have hd : decide (i < y) = true := decide_eq_true hiy
        refine v_aload_n X dX0_above_27 rfl ?_
        refine v_getr X fl_X0_18 shX0_1 dX0_above_28 ?_
        refine v_iload X dX0_above_31 rfl ?_
        refine v_ialdE X arX0_1 rfl (show f + y < 2048 by omega) dX0_above_33 ?_
        rw [b1]
        refine v_iload_n X dX0_above_34 rfl ?_
        refine v_iand X dX0_above_35 ?_
        refine v_iload_n X dX0_above_36 rfl ?_
        refine v_icmp_ne (tgt := 43) X dX0_above_37 (by decide) (fun h37 => ?_) (fun h37 => ?_)
        · skip
          have hc : (decide (i < y) && sbs (kw K i) (kw K y)) = false := by
            cases h : sbs (kw K i) (kw K y) with
            | false => rw [hd]; rfl
            | true => exact absurd ((sbs_eq (hb i hi)).mpr h) h37
          refine v_iincE X dX0_above_43 rfl (nI_inc (f + y)) ?_
          show V G Z _ 46 [_, _, _, _, _] _
          refine v_goto (tgt := 18) X dX0_above_46 (by decide) ?_
          rw [ctB, hc] at ihk
          exact ihk
        · skip
          have hc : (decide (i < y) && sbs (kw K i) (kw K y)) = true := by rw [hd, (sbs_eq (hb i hi)).mp h37]; rfl
          refine v_iincE X dX0_above_40 rfl (nI_inc _) ?_
          show V G Z _ 43 [_, _, _, _, _] _
          refine v_iincE X dX0_above_43 rfl (nI_inc (f + y)) ?_
          show V G Z _ 46 [_, _, _, _, _] _
          refine v_goto (tgt := 18) X dX0_above_46 (by decide) ?_
          rw [ctB, hc] at ihk
          exact ihk
  refine v_aload_n X dX0_above_0 rfl ?_
  refine v_iload_n X dX0_above_1 rfl ?_
  refine v_cali X (c_setAt G hK he hi) cv_X0_92 obX0 rfl (by decide) rfl (by rfl) (Nat.le_of_ble_eq_true rfl) dX0_above_2 (fun r τ9 hq => ?_)
  obtain ⟨e9, rfl⟩ := hq
  rw [e9]
  refine v_istore_n X dX0_above_5 (Nat.le_of_ble_eq_true rfl) ?_
  show V G Z _ 6 [_, _, _, _, _] _
  refine v_iconst (v := nI 0) X dX0_above_6 (by decide) ?_
  refine v_istore_n X dX0_above_7 (Nat.le_of_ble_eq_true rfl) ?_
  show V G Z _ 8 [_, _, _, _, _] _
  refine v_aload_n X dX0_above_8 rfl ?_
  refine v_geti X fl_X0_28 shX0_4 dX0_above_9 ?_
  rw [a2]
  refine v_iload_n X dX0_above_12 rfl ?_
  refine v_iadd X dX0_above_13 ?_
  refine v_top (nI_add f i) ?_
  refine v_iconst (v := nI 1) X dX0_above_14 (by decide) ?_
  refine v_iadd X dX0_above_15 ?_
  refine v_top (nI_add (f + i) 1) ?_
  refine v_istore X dX0_above_16 (Nat.le_of_ble_eq_true rfl) ?_
  show V G Z _ 18 [_, _, _, _, _] _
  have := loop (K.length + 1) (i + 1) (by omega) (by omega) (by omega)
  rw [ctB_0 (fun j hj => by rw [decide_eq_false (by omega)]; rfl)] at this
  exact this
