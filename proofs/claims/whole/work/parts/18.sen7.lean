/-! one part of a sentence, its own parts numbered as they are first whole -/
abbrev Mm : Type := Sen × (Nat → Option Nat)
def sbP (k : Nat) (q : Pt) (st : Mm) : Mm := (addP st.1 q, fun x => if x = k then some ((addP st.1 q).idxOf q) else st.2 x)
def sbR (P : Sen) : Nat → Nat → Mm → Mm
  | 0, _, st => st
  | f + 1, k, st => match st.2 k with
    | some _ => st
    | none => if (P.getD k (1, 0, 0)).1 < 2 then sbP k (P.getD k (1, 0, 0)) st else
      sbP k ((P.getD k (1, 0, 0)).1, ((sbR P f (P.getD k (1, 0, 0)).2.2 (sbR P f (P.getD k (1, 0, 0)).2.1 st)).2 (P.getD k (1, 0, 0)).2.1).getD 0, ((sbR P f (P.getD k (1, 0, 0)).2.2 (sbR P f (P.getD k (1, 0, 0)).2.1 st)).2 (P.getD k (1, 0, 0)).2.2).getD 0) (sbR P f (P.getD k (1, 0, 0)).2.2 (sbR P f (P.getD k (1, 0, 0)).2.1 st))
def subP (P : Sen) (k : Nat) : Sen := (sbR P 11 k ([], fun _ => none)).1
theorem getD_of {P : Sen} {k : Nat} {p : Pt} (hp : P[k]? = some p) : P.getD k (1, 0, 0) = p := by rw [List.getD_eq_getElem?_getD, hp]; rfl
theorem sbR_some {P : Sen} {f k v : Nat} {st : Mm} (h : st.2 k = some v) : sbR P (f + 1) k st = st := by rw [sbR, h]
theorem sbR_leaf {P : Sen} {f k : Nat} {st : Mm} {p : Pt} (hp : P[k]? = some p) (h : st.2 k = none) (h2 : p.1 < 2) : sbR P (f + 1) k st = sbP k p st := by
  rw [sbR, h]; simp only [getD_of hp]; rw [if_pos h2]
theorem sbR_pair {P : Sen} {f k : Nat} {st : Mm} {p : Pt} (hp : P[k]? = some p) (h : st.2 k = none) (h2 : ¬ p.1 < 2) : sbR P (f + 1) k st = sbP k (p.1, ((sbR P f p.2.2 (sbR P f p.2.1 st)).2 p.2.1).getD 0, ((sbR P f p.2.2 (sbR P f p.2.1 st)).2 p.2.2).getD 0) (sbR P f p.2.2 (sbR P f p.2.1 st)) := by
  rw [sbR, h]; simp only [getD_of hp]; rw [if_neg h2]
theorem wf_pair {P : Sen} (hw : wf P) {k : Nat} {p : Pt} (hp : P[k]? = some p) (h2 : ¬ p.1 < 2) : p.2.1 < k ∧ p.2.2 < k ∧ p.1 ≤ 4 := by
  rcases hw k p hp with ⟨q, -⟩ | ⟨q, -⟩ | ⟨-, q0, q1, q2⟩
  · omega
  · omega
  · exact ⟨q1, q2, q0⟩
theorem sbR_hi {P : Sen} (hw : wf P) : ∀ (f k : Nat) (st : Mm) (x : Nat), k < P.length → k < x → (sbR P f k st).2 x = st.2 x
  | 0, _, _, _, _, _ => rfl
  | f + 1, k, st, x, hk, hx => by
    obtain ⟨p, hp⟩ : ∃ p, P[k]? = some p := ⟨P[k], List.getElem?_eq_getElem hk⟩
    cases h : st.2 k with
    | some v => rw [sbR_some h]
    | none =>
      by_cases h2 : p.1 < 2
      · rw [sbR_leaf hp h h2]; simp [sbP]; omega
      · rw [sbR_pair hp h h2]
        obtain ⟨ha, hb, -⟩ := wf_pair hw hp h2
        simp only [sbP]
        rw [if_neg (by omega), sbR_hi hw f p.2.2 _ x (by omega) (by omega), sbR_hi hw f p.2.1 _ x (by omega) (by omega)]
theorem sbR_set {P : Sen} (hw : wf P) : ∀ (f k : Nat) (st : Mm), k < P.length → k < f → ∃ v, (sbR P f k st).2 k = some v
  | 0, _, _, _, h => absurd h (Nat.not_lt_zero _)
  | f + 1, k, st, hk, hf => by
    obtain ⟨p, hp⟩ : ∃ p, P[k]? = some p := ⟨P[k], List.getElem?_eq_getElem hk⟩
    cases h : st.2 k with
    | some v => exact ⟨v, by rw [sbR_some h]; exact h⟩
    | none =>
      by_cases h2 : p.1 < 2
      · rw [sbR_leaf hp h h2]; exact ⟨_, if_pos rfl⟩
      · rw [sbR_pair hp h h2]; exact ⟨_, if_pos rfl⟩
theorem sbR_keep {P : Sen} (hw : wf P) : ∀ (f k : Nat) (st : Mm) (x v : Nat), k < P.length → st.2 x = some v → (sbR P f k st).2 x = some v
  | 0, _, _, _, _, _, h => h
  | f + 1, k, st, x, v, hk, hx => by
    obtain ⟨p, hp⟩ : ∃ p, P[k]? = some p := ⟨P[k], List.getElem?_eq_getElem hk⟩
    cases h : st.2 k with
    | some v => rw [sbR_some h]; exact hx
    | none =>
      have hne : x ≠ k := fun e => by rw [e, h] at hx; cases hx
      by_cases h2 : p.1 < 2
      · rw [sbR_leaf hp h h2]; simp only [sbP]; rw [if_neg hne]; exact hx
      · rw [sbR_pair hp h h2]
        obtain ⟨ha, hb, -⟩ := wf_pair hw hp h2
        simp only [sbP]
        rw [if_neg hne]
        exact sbR_keep hw f p.2.2 _ x v (by omega) (sbR_keep hw f p.2.1 _ x v (by omega) hx)
/-- how many are numbered -/
def ctN (num : Nat → Option Nat) : Nat → Nat
  | 0 => 0
  | n + 1 => ctN num n + (if (num n).isSome then 1 else 0)
theorem ctN_le (num : Nat → Option Nat) : ∀ n, ctN num n ≤ n
  | 0 => Nat.le_refl _
  | n + 1 => by have := ctN_le num n; rw [ctN]; split <;> omega
theorem ctN_lt {num : Nat → Option Nat} {k : Nat} (h : num k = none) : ∀ {n}, k < n → ctN num n < n
  | 0, hk => absurd hk (Nat.not_lt_zero _)
  | n + 1, hk => by
    rw [ctN]
    by_cases e : k = n
    · subst e
      rw [h]; have := ctN_le num k; simp; omega
    · have := ctN_lt h (n := n) (by omega)
      split <;> omega
theorem ctN_up {num : Nat → Option Nat} {k v : Nat} (h : num k = none) : ∀ {n}, (k < n → ctN (fun x => if x = k then some v else num x) n = ctN num n + 1) ∧ (n ≤ k → ctN (fun x => if x = k then some v else num x) n = ctN num n)
  | 0 => ⟨fun hk => absurd hk (Nat.not_lt_zero _), fun _ => rfl⟩
  | n + 1 => by
    obtain ⟨i1, i2⟩ := ctN_up (v := v) h (n := n)
    constructor
    · intro hk
      rw [ctN, ctN]
      by_cases e : k = n
      · subst e
        rw [i2 (Nat.le_refl _), h]; simp
      · rw [i1 (by omega), if_neg (Ne.symm e)]; omega
    · intro hk
      rw [ctN, ctN, i2 (by omega), if_neg (show ¬ n = k by omega)]
def enc (v : Option Nat) : Int32 := match v with
  | none => -6
  | some v => nI v
def sbI (τ : Sg) (j : Nat) (P : Sen) (st : Mm) : Prop := hs τ j st.1 ∧ τ (7 * j) 1 = bI false ∧ (∀ x, x < 11 → τ (7 * j + 6) x = enc (st.2 x)) ∧ (∀ x v, st.2 x = some v → v < st.1.length) ∧ st.1.length ≤ ctN st.2 P.length
set_option maxHeartbeats 4000000 in
set_option maxRecDepth 100000 in
theorem c_addPart (G : GT) {i j : Nat} (hj : j < 20) (hi : i < 20) (hij : i ≠ j) {P : Sen} : ∀ (f k d : Nat) (σ : Sg) (st : Mm), hs σ i P → k < f → k < P.length → d + k ≤ 10 → sbI σ j P st → MC G yX1_addPart cX1_addPart 6 .int (f + 1) [.ref (G.2.2.1 (7 * j)), .ref (G.2.2.1 (7 * i)), .int (nI k), .int (nI d)] σ (fun r τ => offS j σ τ ∧ sbI τ j P (sbR P f k st) ∧ r = nI (((sbR P f k st).2 k).getD 0)) := by
  intro f
  induction f with
  | zero => intro k d σ st h0 h1; omega
  | succ f ihf =>
  intro k d σ st hP hkf hk hd hI
  refine MC_of (by decide) (ca1 rfl (ca1 rfl (ca1 rfl (ca1 rfl ca0)))) (Nat.le_of_ble_eq_true rfl) ?_
  intro Z X hR
  show V G Z σ 0 [some (.ref (G.2.2.1 (7 * j))), some (.ref (G.2.2.1 (7 * i))), some (.int (nI k)), some (.int (nI d)), none, none] []
  have hP0 := hP
  obtain ⟨p1, p2, p3, p4, p5⟩ := hP
  have hI0 := hI
  obtain ⟨i1, i2, i3, i4, i5⟩ := hI
  obtain ⟨p, hp⟩ : ∃ p, P[k]? = some p := ⟨P[k], List.getElem?_eq_getElem hk⟩
  obtain ⟨e1, e2, e3⟩ := p4 k p hp
  have hok := p2 k p hp
  have tail : ∀ (τ : Sg) (s2' : Mm) (q : Pt), offS j σ τ → sbI τ j P s2' → s2'.2 k = none → okp s2'.1.length q → q.1 = p.1 → sbR P (f + 1) k st = sbP k q s2' → V G Z τ 74 [some (.ref (G.2.2.1 (7 * j))), some (.ref (G.2.2.1 (7 * i))), some (.int (nI k)), some (.int (nI d)), some (.int (pA q)), some (.int (pB q))] [] := by
    intro τ s2' q o1 hs2 hnone hokq hqp hfin
    obtain ⟨j1, j2, j3, j4, j5⟩ := hs2
    have hct := ctN_lt hnone hk
    have ek : τ (7 * i + 1) k = pK q := by rw [o1 (7 * i + 1) (by omega), e1, pK, pK, hqp]
    refine v_aload_n X dX1_addPart_74 rfl ?_
    refine v_getr X fl_X1_35 (shX1_7 (by first | assumption | omega)) dX1_addPart_75 ?_
    refine v_iload_n X dX1_addPart_78 rfl ?_
    refine v_aload_n X dX1_addPart_79 rfl ?_
    refine v_aload_n X dX1_addPart_80 rfl ?_
    refine v_getr X fl_X1_19 (shX1_2 (by first | assumption | omega)) dX1_addPart_81 ?_
    refine v_iload_n X dX1_addPart_84 rfl ?_
    refine v_ialdE X (arX1_2 (by first | assumption | omega)) rfl (by first | assumption | omega) dX1_addPart_85 ?_
    rw [ek]
    refine v_iload X dX1_addPart_86 rfl ?_
    refine v_iload X dX1_addPart_88 rfl ?_
    refine v_cali X (c_add G hj j1 hokq) cv_X1_58 (obX1 (by first | assumption | omega)) rfl (by omega) rfl (by rfl) (Nat.le_of_ble_eq_true rfl) dX1_addPart_90 (fun r τ' hp => ?_)
    obtain ⟨a1, a2, a3⟩ := hp
    have key : hs τ' j (addP s2'.1 q) ∧ τ' (7 * j) 1 = bI false ∧ r = nI ((addP s2'.1 q).idxOf q) := by
      rcases a3 with ⟨b1, rfl, b3⟩ | ⟨b1, b2, b3, b4⟩ | ⟨b1, b2, b3, b4, b5⟩
      · rw [addP_in b1]; exact ⟨j1, j2, b3⟩
      · omega
      · rw [addP_new b1, idx_new b1]; exact ⟨b3, by rw [b4]; exact j2, b5⟩
    obtain ⟨c1, c2, rfl⟩ := key
    refine v_iastE X (arX1_7 (by first | assumption | omega)) rfl (show k < 11 by omega) dX1_addPart_93 ?_
    refine v_aload_n X dX1_addPart_94 rfl ?_
    refine v_getr X fl_X1_35 (shX1_7 (by first | assumption | omega)) dX1_addPart_95 ?_
    refine v_iload_n X dX1_addPart_98 rfl ?_
    refine v_ialdE X (arX1_7 (by first | assumption | omega)) rfl (show k < 11 by omega) dX1_addPart_99 ?_
    refine v_top (s2_at _ _ _ _) ?_
    refine v_ret X hR dX1_addPart_100 rfl ?_
    refine ⟨(o1.trans a1).s2 (by omega) (by omega), ?_, ?_⟩
    · rw [hfin]
      refine ⟨hs_cong c1 (by rw [s2_nc (by omega)]) (fun q q1 q2 => by rw [s2_nc (by omega)]), by rw [s2_nc (by omega)]; exact c2, fun x hx => ?_, fun x v hv => ?_, ?_⟩
      · rw [s2_ap]
        simp only [sbP]
        by_cases hxk : x = k
        · subst hxk
          rw [if_pos ⟨trivial, rfl⟩, if_pos rfl]; rfl
        · rw [if_neg (fun z => hxk z.2), if_neg hxk, a2]; exact j3 x hx
      · simp only [sbP] at hv ⊢
        by_cases hxk : x = k
        · rw [if_pos hxk] at hv
          cases hv
          exact idx_lt _ _
        · rw [if_neg hxk] at hv
          exact Nat.lt_of_lt_of_le (j4 x v hv) (addP_le _ _)
      · simp only [sbP]
        rw [(ctN_up hnone).1 hk]
        have := addP_le1 s2'.1 q
        omega
    · rw [hfin]
      simp [sbP]
  refine v_aload_n X dX1_addPart_0 rfl ?_
  refine v_getr X fl_X1_35 (shX1_7 (by first | assumption | omega)) dX1_addPart_1 ?_
  refine v_iload_n X dX1_addPart_4 rfl ?_
  refine v_ialdE X (arX1_7 (by first | assumption | omega)) rfl (show k < 11 by omega) dX1_addPart_5 ?_
  rw [i3 k (by omega)]
  refine v_bipush (v := (-6)) X dX1_addPart_6 (by decide) ?_
  refine v_icmp_ne (tgt := 17) X dX1_addPart_8 (by decide) (fun h8 => ?_) (fun h8 => ?_)
  · skip
    obtain ⟨v, hv⟩ : ∃ v, st.2 k = some v := by
      cases h : st.2 k with
      | none => rw [h] at h8; exact absurd rfl h8
      | some v => exact ⟨v, rfl⟩
    refine v_aload_n X dX1_addPart_17 rfl ?_
    refine v_getr X fl_X1_35 (shX1_7 (by first | assumption | omega)) dX1_addPart_18 ?_
    refine v_iload_n X dX1_addPart_21 rfl ?_
    refine v_ialdE X (arX1_7 (by first | assumption | omega)) rfl (show k < 11 by omega) dX1_addPart_22 ?_
    refine v_top (y := nI v) (by rw [i3 k (by omega), hv]; rfl) ?_
    refine v_ret X hR dX1_addPart_23 rfl ?_
    exact ⟨offS.rfl, by rw [sbR_some hv]; exact hI0, by rw [sbR_some hv, hv]; rfl⟩
  · skip
    have hnone : st.2 k = none := by
      cases h : st.2 k with
      | none => rfl
      | some v =>
        rw [h] at h8
        exact absurd h8 (nI_m6 (by have := i4 k v h; have := i1.1; omega))
    refine v_iload_n X dX1_addPart_11 rfl ?_
    refine v_bipush (v := nI 11) X dX1_addPart_12 (by decide) ?_
    refine v_icmp_lt (tgt := 24) X dX1_addPart_14 (by decide) (fun h14 => ?_) (fun h14 => ?_)
    · skip
      refine v_aload_n X dX1_addPart_24 rfl ?_
      refine v_getr X fl_X1_23 (shX1_3 (by first | assumption | omega)) dX1_addPart_25 ?_
      refine v_iload_n X dX1_addPart_28 rfl ?_
      refine v_ialdE X (arX1_3 (by first | assumption | omega)) rfl (show k < 11 by omega) dX1_addPart_29 ?_
      rw [e2]
      refine v_istore X dX1_addPart_30 (Nat.le_of_ble_eq_true rfl) ?_
      show V G Z _ 32 [_, _, _, _, _, _] _
      refine v_aload_n X dX1_addPart_32 rfl ?_
      refine v_getr X fl_X1_26 (shX1_4 (by first | assumption | omega)) dX1_addPart_33 ?_
      refine v_iload_n X dX1_addPart_36 rfl ?_
      refine v_ialdE X (arX1_4 (by first | assumption | omega)) rfl (show k < 11 by omega) dX1_addPart_37 ?_
      rw [e3]
      refine v_istore X dX1_addPart_38 (Nat.le_of_ble_eq_true rfl) ?_
      show V G Z _ 40 [_, _, _, _, _, _] _
      refine v_aload_n X dX1_addPart_40 rfl ?_
      refine v_getr X fl_X1_19 (shX1_2 (by first | assumption | omega)) dX1_addPart_41 ?_
      refine v_iload_n X dX1_addPart_44 rfl ?_
      refine v_ialdE X (arX1_2 (by first | assumption | omega)) rfl (show k < 11 by omega) dX1_addPart_45 ?_
      refine v_iconst (v := nI 2) X dX1_addPart_46 (by decide) ?_
      rw [e1]
      refine v_icmp_lt (tgt := 74) X dX1_addPart_47 (by decide) (fun h47 => ?_) (fun h47 => ?_)
      · skip
        have h2 : p.1 < 2 := nI_ltm (b := 2) (by have := hok.k4; omega) (by decide) h47
        refine tail σ st p offS.rfl hI0 hnone ?_ rfl (sbR_leaf hp hnone h2)
        rcases hok with q | q | ⟨q, -⟩
        · exact Or.inl q
        · exact Or.inr (Or.inl q)
        · omega
      · skip
        have h2 : ¬ p.1 < 2 := by have := nI_ltn (b := 2) (by have := hok.k4; omega) (by decide) h47; omega
        obtain ⟨ha, hb, hk4⟩ := wf_pair p2 hp h2
        have q2 : pA p = nI p.2.1 := if_neg (show ¬ p.1 = 1 by omega)
        have q3 : pB p = nI p.2.2 := if_neg h2
        rw [q2, q3]
        refine v_aload_n X dX1_addPart_50 rfl ?_
        refine v_aload_n X dX1_addPart_51 rfl ?_
        refine v_iload X dX1_addPart_52 rfl ?_
        refine v_iload_n X dX1_addPart_54 rfl ?_
        refine v_iconst (v := nI 1) X dX1_addPart_55 (by decide) ?_
        refine v_iadd X dX1_addPart_56 ?_
        refine v_top (nI_add d 1) ?_
        refine v_cals X (ihf p.2.1 (d + 1) σ st hP0 (by omega) (by omega) (by omega) hI0) cs_X1_68 (by omega) rfl (by rfl) (Nat.le_of_ble_eq_true rfl) dX1_addPart_57 (fun r τ1 hq => ?_)
        obtain ⟨o1, hI1, rfl⟩ := hq
        refine v_istore X dX1_addPart_60 (Nat.le_of_ble_eq_true rfl) ?_
        show V G Z _ 62 [_, _, _, _, _, _] _
        refine v_aload_n X dX1_addPart_62 rfl ?_
        refine v_aload_n X dX1_addPart_63 rfl ?_
        refine v_iload X dX1_addPart_64 rfl ?_
        refine v_iload_n X dX1_addPart_66 rfl ?_
        refine v_iconst (v := nI 1) X dX1_addPart_67 (by decide) ?_
        refine v_iadd X dX1_addPart_68 ?_
        refine v_top (nI_add d 1) ?_
        refine v_cals X (ihf p.2.2 (d + 1) τ1 (sbR P f p.2.1 st) (hs_off hP0 o1 hij) (by omega) (by omega) (by omega) hI1) cs_X1_68 (by omega) rfl (by rfl) (Nat.le_of_ble_eq_true rfl) dX1_addPart_69 (fun r τ2 hq => ?_)
        obtain ⟨o2, hI2, rfl⟩ := hq
        refine v_istore X dX1_addPart_72 (Nat.le_of_ble_eq_true rfl) ?_
        show V G Z _ 74 [_, _, _, _, _, _] _
        obtain ⟨va, hva⟩ := sbR_set p2 f p.2.1 st (by omega) (by omega)
        have hva2 := sbR_keep p2 f p.2.2 (sbR P f p.2.1 st) p.2.1 va (by omega) hva
        obtain ⟨vb, hvb⟩ := sbR_set p2 f p.2.2 (sbR P f p.2.1 st) (by omega) (by omega)
        have hfin := sbR_pair (f := f) hp hnone h2
        rw [hva2, hvb] at hfin
        rw [hva, hvb]
        have hok2 : okp (sbR P f p.2.2 (sbR P f p.2.1 st)).1.length (p.1, va, vb) := Or.inr (Or.inr ⟨by show 2 ≤ p.1; omega, hk4, hI2.2.2.2.1 _ _ hva2, hI2.2.2.2.1 _ _ hvb⟩)
        have z1 : pA (p.1, va, vb) = nI va := if_neg (show ¬ p.1 = 1 by omega)
        have z2 : pB (p.1, va, vb) = nI vb := if_neg h2
        have ht := tail τ2 _ (p.1, va, vb) (o1.trans o2) hI2 (by rw [sbR_hi p2 f p.2.2 _ k (by omega) hb, sbR_hi p2 f p.2.1 _ k (by omega) ha]; exact hnone) hok2 rfl hfin
        rw [z1, z2] at ht
        exact ht
    · skip
      exact absurd (nI_ltn (b := 11) (by omega) (by decide) h14) (by omega)
set_option maxHeartbeats 4000000 in
set_option maxRecDepth 100000 in
theorem c_becomePart (G : GT) {σ : Sg} {i j : Nat} (hj : j < 20) (hi : i < 20) (hij : i ≠ j) {P : Sen} (hP : hs σ i P) {k : Nat} (hk : k < P.length) : MV G yX1_becomePart cX1_becomePart 4 13 [.ref (G.2.2.1 (7 * j)), .ref (G.2.2.1 (7 * i)), .int (nI k)] σ (fun τ => offS j σ τ ∧ hs τ j (subP P k) ∧ τ (7 * j) 1 = bI false) := by
  refine MV_of (by decide) (ca1 rfl (ca1 rfl (ca1 rfl ca0))) (Nat.le_of_ble_eq_true rfl) ?_
  intro Z X hR
  show V G Z σ 0 [some (.ref (G.2.2.1 (7 * j))), some (.ref (G.2.2.1 (7 * i))), some (.int (nI k)), none] []
  have loop : ∀ (n x : Nat) (τ : Sg), 11 - x < n → x ≤ 11 → (offS j σ τ ∧ τ (7 * j) 0 = nI 0 ∧ τ (7 * j) 1 = bI false ∧ ∀ y, y < x → τ (7 * j + 6) y = -6) → V G Z τ 6 [some (.ref (G.2.2.1 (7 * j))), some (.ref (G.2.2.1 (7 * i))), some (.int (nI k)), some (.int (nI x))] [] := by
    intro n
    induction n with
    | zero => intro x τ h; omega
    | succ n ih =>
      intro x τ hn hxl hinv
      obtain ⟨i1, i2, i3, i4⟩ := hinv
      refine v_iload_n X dX1_becomePart_6 rfl ?_
      refine v_bipush (v := nI 11) X dX1_becomePart_7 (by decide) ?_
      refine v_icmp_ge (tgt := 26) X dX1_becomePart_9 (by decide) (fun h9 => ?_) (fun h9 => ?_)
      · skip
        have hx := nI_lem (a := 11) (by decide) (by omega) h9
        refine v_aload_n X dX1_becomePart_26 rfl ?_
        refine v_aload_n X dX1_becomePart_27 rfl ?_
        refine v_iload_n X dX1_becomePart_28 rfl ?_
        refine v_iconst (v := nI 0) X dX1_becomePart_29 (by decide) ?_
        have hI : sbI τ j P ([], fun _ => none) := by
          refine ⟨⟨Nat.zero_le _, fun q p h => by simp at h, i2, fun q p h => by simp at h, fun q h => absurd h (Nat.not_lt_zero _)⟩, i3, fun y hy => i4 y (by omega), fun y v h => by simp at h, Nat.zero_le _⟩
        refine v_cals X (c_addPart G hj hi hij 11 k 0 τ _ (hs_off hP i1 hij) (by have := hP.1; omega) hk (by have := hP.1; omega) hI) cs_X1_68 (by decide) rfl (by rfl) (Nat.le_of_ble_eq_true rfl) dX1_becomePart_30 (fun r τ' hp => ?_)
        obtain ⟨o1, hI1, rfl⟩ := hp
        refine v_pop X dX1_becomePart_33 rfl ?_
        refine v_vret X hR dX1_becomePart_34 ?_
        exact ⟨i1.trans o1, hI1.1, hI1.2.1⟩
      · skip
        have hx := nI_len (a := 11) (by decide) (by omega) h9
        refine v_aload_n X dX1_becomePart_12 rfl ?_
        refine v_getr X fl_X1_35 (shX1_7 (by first | assumption | omega)) dX1_becomePart_13 ?_
        refine v_iload_n X dX1_becomePart_16 rfl ?_
        refine v_bipush (v := (-6)) X dX1_becomePart_17 (by decide) ?_
        refine v_iastE X (arX1_7 (by first | assumption | omega)) rfl (by first | assumption | omega) dX1_becomePart_19 ?_
        refine v_iincE X dX1_becomePart_20 rfl (nI_inc x) ?_
        show V G Z _ 23 [_, _, _, _] _
        refine v_goto (tgt := 6) X dX1_becomePart_23 (by decide) ?_
        refine ih (x + 1) _ (by omega) (by omega) ⟨i1.s2 (by omega) (by omega), by rw [s2_nc (by omega)]; exact i2, by rw [s2_nc (by omega)]; exact i3, fun y hy => ?_⟩
        rw [s2_ap]
        by_cases hyx : y = x
        · rw [if_pos ⟨rfl, hyx⟩]
        · rw [if_neg (fun z => hyx z.2)]; exact i4 y (by omega)
  refine v_aload_n X dX1_becomePart_0 rfl ?_
  refine v_calv X (c_clear G hj) cv_X1_65 (obX1 (by first | assumption | omega)) rfl (by decide) rfl (by rfl) (Nat.le_of_ble_eq_true rfl) dX1_becomePart_1 (fun τ hp => ?_)
  subst hp
  refine v_iconst (v := nI 0) X dX1_becomePart_4 (by decide) ?_
  refine v_istore_n X dX1_becomePart_5 (Nat.le_of_ble_eq_true rfl) ?_
  show V G Z _ 6 [_, _, _, _] _
  refine loop 12 0 _ (by omega) (by omega) ⟨(offS.rfl.s2 (by omega) (by omega)).s2 (by omega) (by omega), ?_, s2_at _ _ _ _, fun y h => by omega⟩
  rw [s2_ap, if_neg (by simp), s2_at]
