/-! THE MAKING OF THE OBJECTS: cells from b0 on, in the order in which they are made; E k: what the k-th holds -/
def Ab (b0 : Nat) : Nat → Prop := fun q => b0 ≤ q
def wE (b0 n : Nat) (E : Nat → va_E) : va_W := (List.range n).map (fun k => (b0 + k, E k))
def eU (E : Nat → va_E) (k : Nat) (e : va_E) : Nat → va_E := fun j => if j = k then e else E j
theorem eU_at (E : Nat → va_E) (k : Nat) (e : va_E) : eU E k e k = e := if_pos rfl
theorem eU_ne {E : Nat → va_E} {k : Nat} {e : va_E} {j : Nat} (h : j ≠ k) : eU E k e j = E j := if_neg h
theorem wE_at (b0 : Nat) {n : Nat} (E : Nat → va_E) {k : Nat} (hk : k < n) : (wE b0 n E)[k]? = some (b0 + k, E k) := by
  rw [wE, List.getElem?_map, List.getElem?_range hk]; rfl
theorem wE_no (b0 : Nat) {n : Nat} (E : Nat → va_E) {k : Nat} (hk : n ≤ k) : (wE b0 n E)[k]? = none := by simp [wE]; omega
theorem wE_D (b0 n : Nat) (E : Nat → va_E) : va_D (Ab b0) (wE b0 n E) := by
  have key : ∀ (i : Nat) (q : Nat × va_E), (wE b0 n E)[i]? = some q → q.1 = b0 + i := by
    intro i q h
    by_cases hi : i < n
    · rw [wE_at b0 E hi] at h; cases h; rfl
    · rw [wE_no b0 E (by omega)] at h; cases h
  refine ⟨fun i j p q hi hj e => ?_, fun k q hk => ?_⟩
  · have := key i p hi
    have := key j q hj
    omega
  · have := key k q hk
    show b0 ≤ q.1
    omega
theorem wE_set (b0 : Nat) {n : Nat} (E : Nat → va_E) {k : Nat} (hk : k < n) (e : va_E) : (wE b0 n E).set k (b0 + k, e) = wE b0 n (eU E k e) := by
  apply List.ext_getElem?
  intro j
  rw [List.getElem?_set]
  by_cases hj : j < n
  · by_cases h : k = j
    · subst h
      rw [if_pos rfl, wE_at b0 _ hj, eU_at]
      simp [wE, hk]
    · rw [if_neg h, wE_at b0 E hj, wE_at b0 _ hj, eU_ne (Ne.symm h)]
  · rw [wE_no b0 E (show n ≤ j by omega), wE_no b0 (eU E k e) (show n ≤ j by omega), if_neg (by omega)]
theorem wE_cong {b0 n : Nat} {E F : Nat → va_E} (h : ∀ k, k < n → E k = F k) : wE b0 n E = wE b0 n F := by
  apply List.ext_getElem?
  intro j
  by_cases hj : j < n
  · rw [wE_at b0 E hj, wE_at b0 F hj, h j hj]
  · rw [wE_no b0 E (by omega), wE_no b0 F (by omega)]
theorem wE_push (b0 n : Nat) (E : Nat → va_E) (e : va_E) : wE b0 n E ++ [(b0 + n, e)] = wE b0 (n + 1) (eU E n e) := by
  have h1 : wE b0 (n + 1) (eU E n e) = wE b0 n (eU E n e) ++ [(b0 + n, eU E n e n)] := by
    rw [wE, List.range_succ, List.map_append]; rfl
  rw [h1, eU_at, wE_cong (fun k hk => eU_ne (by omega))]
/-- what the tables say of the makings -/
def MK (U : State) : Prop := va_AO RX1 U ∧ va_AO RX2 U ∧ va_Nw (.methodLinkNest RX2 17 yX1_init RX4) U ∧ va_Nw (.methodLinkNest RX4 26 yX3_init RX4) U ∧ va_Nw (.methodLinkNest RX4 36 yX1_init RX4) U ∧ va_Nw (.methodLinkNest RX4 43 yX0_init RX4) U ∧ va_Nw (.methodLinkNest RX0 11 yX1_init RX4) U
theorem MK.warm {s U : State} (hW : s.WarmedH U.vm) (h : MK s) : MK U := by
  obtain ⟨h1, h2, h3, h4, h5, h6, h7⟩ := h
  exact ⟨va_AO.moved hW.alike h1, va_AO.moved hW.alike h2, va_Nw.warmM hW h3, va_Nw.warmM hW h4, va_Nw.warmM hW h5, va_Nw.warmM hW h6, va_Nw.warmM hW h7⟩
theorem MK.same {u U : State} (hv : U.vm = u.vm) (h : MK u) : MK U := by
  have ha : u.vm.Alike U.vm := by rw [hv]; exact Vm.Alike.refl _
  obtain ⟨h1, h2, h3, h4, h5, h6, h7⟩ := h
  exact ⟨va_AO.moved ha h1, va_AO.moved ha h2, va_Nw.same rfl hv.symm h3, va_Nw.same rfl hv.symm h4, va_Nw.same rfl hv.symm h5, va_Nw.same rfl hv.symm h6, va_Nw.same rfl hv.symm h7⟩
def WdU (G : GT) (b0 n : Nat) (E : Nat → va_E) (U : State) : Prop := U.heap.size = b0 + n ∧ va_P G.1 vwCl (wE b0 n E) U.heap ∧ va_K G.1 vwCl (tysG G) U ∧ MK U
def rmi (lev mc ms : Nat) : Room := { frames := lev, cells := mc, slots := ms, locals := lcl lev }
def Eb (G : GT) (b0 n : Nat) (E : Nat → va_E) (t : State) : Prop := t.heap.size = b0 + n ∧ va_P G.1 vwCl (wE b0 n E) t.heap
/-- a constructor's contract: the object is the n-th cell; behind it there are n' cells that hold E' -/
def MI (G : GT) (b0 : Nat) (y : MethodName) (cc : ByteArray) (nL lev mc ms n : Nat) (E : Nat → va_E) (n' : Nat) (E' : Nat → va_E) : Prop := ∀ l, Met l y (.code y cc nL none :: BG) (rmi lev mc ms) (va_Pc [.ref (b0 + n)] (WdU G b0 (n + 1) E)) (va_Qv (fun _ : Unit => True) (fun _ t => Eb G b0 n' E' t) (Ab b0)) mc ms (Ab b0)
def U (G : GT) (b0 : Nat) (Z : ZT) (n : Nat) (E : Nat → va_E) (cs sl pc : Nat) (lo : List (Option Value)) (st : List Value) : Prop := match Z with
  | (p, l, e, R, s, m, args, below, meth, c, _, _, Q) => ∀ (H : Heap) (locs : List Loc) (ls : Array Slot), H.size = b0 + n → va_P G.1 vwCl (wE b0 n E) H → va_S (Ab b0) s.heap H locs → lh ls c.maxLocals lo → W p l e R s m args below meth c H locs cs sl Q (F0 m pc ls st)
def UX (G : GT) (b0 : Nat) (own : String) (cc : ByteArray) (lev mc ms : Nat) (Z : ZT) : Prop := match Z with
  | (p, _, _, R, s, m, args, _, meth, c, _, _, _) => p.tables.exec = Jvm.exec ∧ c.code = cc ∧ s.vm.findClass own = some m.cls ∧ (∀ w ∈ BG, w.before args s = true) ∧ va_K G.1 vwCl (tysG G) s ∧ MK s ∧ b0 ≤ s.heap.size ∧ (lev ≤ R.frames ∧ lcl lev ≤ R.locals ∧ mc ≤ R.cells ∧ ms ≤ R.slots) ∧ meth.locks = false
def UI (Z : ZT) : Prop := match Z with
  | (_, _, _, _, _, _, _, _, meth, _, _, _, _) => meth.name = "<init>"
def UR (G : GT) (b0 : Nat) (Z : ZT) (mc ms n' : Nat) (E' : Nat → va_E) : Prop := match Z with
  | (_, _, _, _, s, _, args, below, meth, _, _, _, Q) => meth.sig.returnType = none ∧ Q = MQ below (va_Qv (fun _ : Unit => True) (fun _ t => Eb G b0 n' E' t) (Ab b0)) args s mc ms (Ab b0)
theorem MI_of {G : GT} {b0 : Nat} {y : MethodName} {cc : ByteArray} {nL lev mc ms n n' : Nat} {E E' : Nat → va_E} (hy : plainName y.cls = true) (hi : y.name = "<init>") (hn : 1 ≤ nL)
    (h : ∀ Z : ZT, UX G b0 y.cls cc lev mc ms Z → UI Z → UR G b0 Z mc ms n' E' → U G b0 Z (n + 1) E 0 0 0 ([.ref (b0 + n)].map some ++ List.replicate (nL - 1) none) []) : MI G b0 y cc nL lev mc ms n E n' E' := by
  intro l
  refine Met.ofW (cc := cc) (maxL := nL) (ret := none) hy rfl ?_
  intro p e s m args below meth c s₁ B hml hv
  obtain ⟨rfl, hsz, hP, hK, hM⟩ := hv
  have hts := atoms_spec (ws := .code y cc nL none :: BG) B.pre
  have hin : meth.name = y.name := (name_of_methodNamed B.named B.method).1
  have hV := h (p, l, e, rmi lev mc ms, s, m, ([.ref (b0 + n)] : List Value).toArray, below, meth, c, 0, 0, MQ below (va_Qv (fun _ : Unit => True) (fun _ t => Eb G b0 n' E' t) (Ab b0)) ([.ref (b0 + n)] : List Value).toArray s mc ms (Ab b0)) ⟨B.exec, B.bytes, findClass_of_methodNamed B.named, fun w hw => hts w (List.mem_cons_of_mem _ hw), hK, hM, by omega, ⟨Nat.le_refl _, Nat.le_refl _, Nat.le_refl _, Nat.le_refl _⟩, B.notSynchronized⟩ (hin.trans hi) ⟨B.returns, rfl⟩
  rw [lg_entry_eq]
  exact hV s.heap [] _ hsz hP va_S.rf (by rw [hml]; exact lh_entry (av := [.ref (b0 + n)]) (fun v hv => by rcases List.mem_cons.mp hv with rfl | hv <;> first | rfl | cases hv) hn)
theorem wdU_blind (G : GT) (b0 n : Nat) (E : Nat → va_E) (av : List Value) : FrameBlind (va_Pc av (WdU G b0 n E)) := fun a U g mk q => by
  obtain ⟨q0, q1, q2, q3, q4⟩ := q
  exact ⟨q0, q1, q2, va_K.moved (u := U) (U := U.calling g mk a) (Vm.Alike.refl U.vm) q3, MK.same rfl q4⟩
theorem wd_oi1 : Cond.instanceMethod objectInit ∈ BG := bg_of 68 (by decide +kernel) rfl
theorem wd_oi2 : Cond.code objectInit ⟨#[0xb1]⟩ 1 none ∈ BG := bg_of 69 (by decide +kernel) rfl
section UROWS
variable {G : GT} {b0 : Nat} {own : String} {cc : ByteArray} {lev mc ms : Nat} {Z : ZT} {n : Nat} {E : Nat → va_E} {cs sl pc : Nat} {lo : List (Option Value)} {st : List Value}
theorem u_aload_n {k : Fin 4} {x : Nat} (X : UX G b0 own cc lev mc ms Z) (d : decode cc pc = .ok (.aload_n k, 1)) (h : lo[(k : Nat)]? = some (some (.ref x))) (kk : U G b0 Z n E cs sl (pc + 1) lo (.ref x :: st)) : U G b0 Z n E cs sl pc lo st := by
  obtain ⟨p, l, e, R, s, m, args, below, meth, c, zc, zs, Q⟩ := Z
  obtain ⟨hx, hb, ho, ht, hK, hM, hz, hr, hlk⟩ := X
  intro H locs ls hs hP hS hl
  exact lv_aload_n hx hb d rfl (lh_at hl h) (kk H locs ls hs hP hS hl)
theorem u_iload_n {k : Fin 4} {x : Int32} (X : UX G b0 own cc lev mc ms Z) (d : decode cc pc = .ok (.iload_n k, 1)) (h : lo[(k : Nat)]? = some (some (.int x))) (kk : U G b0 Z n E cs sl (pc + 1) lo (.int x :: st)) : U G b0 Z n E cs sl pc lo st := by
  obtain ⟨p, l, e, R, s, m, args, below, meth, c, zc, zs, Q⟩ := Z
  obtain ⟨hx, hb, ho, ht, hK, hM, hz, hr, hlk⟩ := X
  intro H locs ls hs hP hS hl
  exact lv_iload_n hx hb d rfl (lh_at hl h) (kk H locs ls hs hP hS hl)
theorem u_iconst {j : Int} {v : Int32} (X : UX G b0 own cc lev mc ms Z) (d : decode cc pc = .ok (.iconst j, 1)) (hv : Int32.ofInt j = v) (kk : U G b0 Z n E cs sl (pc + 1) lo (.int v :: st)) : U G b0 Z n E cs sl pc lo st := by
  obtain ⟨p, l, e, R, s, m, args, below, meth, c, zc, zs, Q⟩ := Z
  obtain ⟨hx, hb, ho, ht, hK, hM, hz, hr, hlk⟩ := X
  intro H locs ls hs hP hS hl
  exact lv_iconst hx hb d hv (kk H locs ls hs hP hS hl)
theorem u_bipush {j : Int} {v : Int32} (X : UX G b0 own cc lev mc ms Z) (d : decode cc pc = .ok (.bipush j, 2)) (hv : (Int8.ofInt j).toInt32 = v) (kk : U G b0 Z n E cs sl (pc + 2) lo (.int v :: st)) : U G b0 Z n E cs sl pc lo st := by
  obtain ⟨p, l, e, R, s, m, args, below, meth, c, zc, zs, Q⟩ := Z
  obtain ⟨hx, hb, ho, ht, hK, hM, hz, hr, hlk⟩ := X
  intro H locs ls hs hP hS hl
  exact lv_bipush hx hb d hv (kk H locs ls hs hP hS hl)
theorem u_sipush {j : Int} {v : Int32} (X : UX G b0 own cc lev mc ms Z) (d : decode cc pc = .ok (.sipush j, 3)) (hv : (Int16.ofInt j).toInt32 = v) (kk : U G b0 Z n E cs sl (pc + 3) lo (.int v :: st)) : U G b0 Z n E cs sl pc lo st := by
  obtain ⟨p, l, e, R, s, m, args, below, meth, c, zc, zs, Q⟩ := Z
  obtain ⟨hx, hb, ho, ht, hK, hM, hz, hr, hlk⟩ := X
  intro H locs ls hs hP hS hl
  exact lv_sipush hx hb d hv (kk H locs ls hs hP hS hl)
theorem u_dup {v : Value} (X : UX G b0 own cc lev mc ms Z) (d : decode cc pc = .ok (.dup, 1)) (hv : v.category = 1) (kk : U G b0 Z n E cs sl (pc + 1) lo (v :: v :: st)) : U G b0 Z n E cs sl pc lo (v :: st) := by
  obtain ⟨p, l, e, R, s, m, args, below, meth, c, zc, zs, Q⟩ := Z
  obtain ⟨hx, hb, ho, ht, hK, hM, hz, hr, hlk⟩ := X
  intro H locs ls hs hP hS hl
  exact lv_dup hx hb d hv (kk H locs ls hs hP hS hl)
theorem u_goto {off : Int} {tgt : Nat} (X : UX G b0 own cc lev mc ms Z) (d : decode cc pc = .ok (.goto off, 3)) (ht' : (pc : Int) + off = (tgt : Int)) (kk : U G b0 Z n E cs sl tgt lo st) : U G b0 Z n E cs sl pc lo st := by
  obtain ⟨p, l, e, R, s, m, args, below, meth, c, zc, zs, Q⟩ := Z
  obtain ⟨hx, hb, ho, ht, hK, hM, hz, hr, hlk⟩ := X
  intro H locs ls hs hP hS hl
  exact lv_goto hx hb d ht' (kk H locs ls hs hP hS hl)
theorem u_istore_n {k : Fin 4} {x : Int32} (X : UX G b0 own cc lev mc ms Z) (d : decode cc pc = .ok (.istore_n k, 1)) (h : (k : Nat) < lo.length) (kk : U G b0 Z n E cs sl (pc + 1) (lo.set (k : Nat) (some (.int x))) st) : U G b0 Z n E cs sl pc lo (.int x :: st) := by
  obtain ⟨p, l, e, R, s, m, args, below, meth, c, zc, zs, Q⟩ := Z
  obtain ⟨hx, hb, ho, ht, hK, hM, hz, hr, hlk⟩ := X
  intro H locs ls hs hP hS hl
  have hi : (k : Nat) < c.maxLocals := by rw [← hl.1]; exact h
  exact lv_istore_n hx hb d rfl hl.2.2 hi rfl (fun ls' h' => kk H locs ls' hs hP hS (lh_st hl hi rfl h'))
theorem u_astore_n {k : Fin 4} {x : Nat} (X : UX G b0 own cc lev mc ms Z) (d : decode cc pc = .ok (.astore_n k, 1)) (h : (k : Nat) < lo.length) (kk : U G b0 Z n E cs sl (pc + 1) (lo.set (k : Nat) (some (.ref x))) st) : U G b0 Z n E cs sl pc lo (.ref x :: st) := by
  obtain ⟨p, l, e, R, s, m, args, below, meth, c, zc, zs, Q⟩ := Z
  obtain ⟨hx, hb, ho, ht, hK, hM, hz, hr, hlk⟩ := X
  intro H locs ls hs hP hS hl
  have hi : (k : Nat) < c.maxLocals := by rw [← hl.1]; exact h
  exact lv_astore_n hx hb d rfl hl.2.2 hi rfl (fun ls' h' => kk H locs ls' hs hP hS (lh_st hl hi rfl h'))
theorem u_iinc {k : Nat} {j : Int} {x y : Int32} (X : UX G b0 own cc lev mc ms Z) (d : decode cc pc = .ok (.iinc k j, 3)) (h : lo[k]? = some (some (.int x))) (e : x + Int32.ofInt j = y) (kk : U G b0 Z n E cs sl (pc + 3) (lo.set k (some (.int y))) st) : U G b0 Z n E cs sl pc lo st := by
  subst e
  obtain ⟨p, l, e, R, s, m, args, below, meth, c, zc, zs, Q⟩ := Z
  obtain ⟨hx, hb, ho, ht, hK, hM, hz, hr, hlk⟩ := X
  intro H locs ls hs hP hS hl
  have hi : k < c.maxLocals := by rw [← hl.1]; exact (List.getElem?_eq_some_iff.mp h).1
  obtain ⟨j, hj⟩ := List.getElem?_of_mem ((mem_posL (q := (k, .int x))).mpr h)
  exact lv_iinc hx hb d hl.2.2 hj rfl hi rfl (fun ls' h' => kk H locs ls' hs hP hS (lh_st hl hi rfl h'))
theorem u_icmp_ge {x y : Int32} {off : Int} {tgt : Nat} (X : UX G b0 own cc lev mc ms Z) (d : decode cc pc = .ok (.if_icmp .ge off, 3)) (ht' : (pc : Int) + off = (tgt : Int)) (kt : y ≤ x → U G b0 Z n E cs sl tgt lo st) (kf : ¬ y ≤ x → U G b0 Z n E cs sl (pc + 3) lo st) : U G b0 Z n E cs sl pc lo (.int y :: .int x :: st) := by
  obtain ⟨p, l, e, R, s, m, args, below, meth, c, zc, zs, Q⟩ := Z
  obtain ⟨hx, hb, ho, ht, hK, hM, hz, hr, hlk⟩ := X
  intro H locs ls hs hP hS hl
  exact lv_icmp_ge hx hb d ht' (fun h => kt h H locs ls hs hP hS hl) (fun h => kf h H locs ls hs hP hS hl)
theorem u_cells {n2 : Nat} {F : Nat → va_E} {cs2 sl2 : Nat} (hn : n = n2) (hE : ∀ k, k < n → E k = F k) (h1 : cs = cs2) (h2 : sl = sl2) (kk : U G b0 Z n2 F cs2 sl2 pc lo st) : U G b0 Z n E cs sl pc lo st := by
  subst hn h1 h2
  obtain ⟨p, l, e, R, s, m, args, below, meth, c, zc, zs, Q⟩ := Z
  intro H locs ls hs hP hS hl
  exact kk H locs ls hs (by rw [← wE_cong hE]; exact hP) hS hl
theorem u_objInit {idx a : Nat} (X : UX G b0 own cc lev mc ms Z) (hw : Cond.methodLink own idx objectInit ∈ BG) (h1 : 1 ≤ lev) (d : decode cc pc = .ok (.invokespecial idx, 3)) (kk : U G b0 Z n E cs sl (pc + 3) lo []) : U G b0 Z n E cs sl pc lo [.ref a] := by
  obtain ⟨p, l, e, R, s, m, args, below, meth, c, zc, zs, Q⟩ := Z
  obtain ⟨hx, hb, ho, ht, hK, hM, hz, hr, hlk⟩ := X
  intro H locs ls hs hP hS hl
  have hr2 := hr.2.1
  simp only [lcl] at hr2
  exact W.objInit hx hb ho (ht _ hw) (ht _ wd_oi1) (ht _ wd_oi2) rfl hl.2.2.1 rfl d (by omega) (by show 2 * 0 + 0 + 12 ≤ R.locals; omega) (kk H locs ls hs hP hS hl)
theorem u_new {C : String} {T : u_T} {N ci idx : Nat} {fs : List Value} (X : UX G b0 own cc lev mc ms Z) (ty : Nat → FieldType) (hty : ∀ k, k < N → parseFieldDescriptor (T k).2.2.1 = some (ty k)) (hin : ∀ w ∈ u_ws C T N, w ∈ BG) (hc : vwCl[ci]? = some (C, T, N)) (w1 : Cond.classLink own idx C ∈ BG) (w2 : Cond.instantiable C N ∈ BG) (w3 : Cond.initialized C ∈ BG) (hfs : ∀ j, j < N → defaultValue (ty j) = vp_V fs j) (h1 : cs + 1 ≤ mc) (h2 : sl + N ≤ ms) (d : decode cc pc = .ok (.new idx, 3)) (kk : U G b0 Z (n + 1) (eU E n (.inr (ci, fs))) (cs + 1) (sl + N) (pc + 3) lo (.ref (b0 + n) :: st)) : U G b0 Z n E cs sl pc lo st := by
  obtain ⟨p, l, e, R, s, m, args, below, meth, c, zc, zs, Q⟩ := Z
  obtain ⟨hx, hb, ho, ht, hK, hM, hz, hr, hlk⟩ := X
  intro H locs ls hs hP hS hl
  have hKn := hK.1 ci _ hc
  refine W.newcK hx hb ho (ht _ w1) (ht _ w2) (ht _ w3) rfl d (by omega) (by omega) hKn.2.1 hs fun H1 kC hkC e1 z1 o1 => ?_
  refine kk H1 locs ls z1 ?_ ⟨Nat.le_trans hS.1 (by omega), fun x h1 h2 => (o1 x (by have := hS.1; omega)).trans (hS.2.1 x h1 h2), hS.2.2⟩ hl
  rw [← wE_push]
  refine (hP.kept (fun k x hx => o1 x.1 (by have := (hP k x hx).lt; omega))).app (fun k x hx => ?_)
  have hz : k < 1 := (List.getElem?_eq_some_iff.mp hx).1
  rw [show k = 0 by omega] at hx
  cases hx
  exact ⟨_, hc, (u_born ty ht hin hKn hkC e1 hty).to hfs⟩
theorem u_newi {j : Int32} {N : Nat} (X : UX G b0 own cc lev mc ms Z) (w1 : Cond.arrayClass .int ∈ BG) (hj : j = nI N) (hN : N ≤ 2048) (h1 : cs + 1 ≤ mc) (h2 : sl + N ≤ ms) (d : decode cc pc = .ok (.newarray .int, 2)) (kk : U G b0 Z (n + 1) (eU E n (.inl (G.2.1 0, N, .inl (fun _ => 0)))) (cs + 1) (sl + N) (pc + 2) lo (.ref (b0 + n) :: st)) : U G b0 Z n E cs sl pc lo (.int j :: st) := by
  subst hj
  obtain ⟨p, l, e, R, s, m, args, below, meth, c, zc, zs, Q⟩ := Z
  obtain ⟨hx, hb, ho, ht, hK, hM, hz, hr, hlk⟩ := X
  intro H locs ls hs hP hS hl
  refine va_newaK (atype := .int) (N := N) hx hb (ht _ w1) rfl d rfl (nI_pos (by omega)) (nI_clamp (by omega)) (by show N * _ ≤ _; simp only [newarray.typeOf, componentBytes]; omega) (by omega) (by omega) hs fun H1 cA e1 z1 o1 hAr hNm => ?_
  have hcA : cA = G.2.1 0 := Option.some.inj (hNm.symm.trans (hK.2 0 _ rfl).2)
  subst hcA
  refine kk H1 locs ls z1 ?_ ⟨Nat.le_trans hS.1 (by omega), fun x h1 h2 => (o1 x (by have := hS.1; omega)).trans (hS.2.1 x h1 h2), hS.2.2⟩ hl
  rw [← wE_push]
  refine (hP.kept (fun k x hx => o1 x.1 (by have := (hP k x hx).lt; omega))).app (fun k x hx => ?_)
  have hz : k < 1 := (List.getElem?_eq_some_iff.mp hx).1
  rw [show k = 0 by omega] at hx
  cases hx
  exact e1
theorem u_newz {j : Int32} {N : Nat} (X : UX G b0 own cc lev mc ms Z) (w1 : Cond.arrayClass .boolean ∈ BG) (hj : j = nI N) (hN : N ≤ 2048) (h1 : cs + 1 ≤ mc) (h2 : sl + N ≤ ms) (d : decode cc pc = .ok (.newarray .boolean, 2)) (kk : U G b0 Z (n + 1) (eU E n (.inl (G.2.1 1, N, .inl (fun _ => 0)))) (cs + 1) (sl + N) (pc + 2) lo (.ref (b0 + n) :: st)) : U G b0 Z n E cs sl pc lo (.int j :: st) := by
  subst hj
  obtain ⟨p, l, e, R, s, m, args, below, meth, c, zc, zs, Q⟩ := Z
  obtain ⟨hx, hb, ho, ht, hK, hM, hz, hr, hlk⟩ := X
  intro H locs ls hs hP hS hl
  refine va_newaK (atype := .boolean) (N := N) hx hb (ht _ w1) rfl d rfl (nI_pos (by omega)) (nI_clamp (by omega)) (by show N * _ ≤ _; simp only [newarray.typeOf, componentBytes]; omega) (by omega) (by omega) hs fun H1 cA e1 z1 o1 hAr hNm => ?_
  have hcA : cA = G.2.1 1 := Option.some.inj (hNm.symm.trans (hK.2 1 _ rfl).2)
  subst hcA
  refine kk H1 locs ls z1 ?_ ⟨Nat.le_trans hS.1 (by omega), fun x h1 h2 => (o1 x (by have := hS.1; omega)).trans (hS.2.1 x h1 h2), hS.2.2⟩ hl
  rw [← wE_push]
  refine (hP.kept (fun k x hx => o1 x.1 (by have := (hP k x hx).lt; omega))).app (fun k x hx => ?_)
  have hz : k < 1 := (List.getElem?_eq_some_iff.mp hx).1
  rw [show k = 0 by omega] at hx
  cases hx
  exact e1
theorem u_newq {C : String} {idx t0 : Nat} {j : Int32} {N : Nat} (X : UX G b0 own cc lev mc ms Z) (ht0 : (tysG G)[t0]? = some (G.2.1 t0, .object C)) (hov : ∀ s, MK s → va_AO C s) (w1 : Cond.classLink own idx C ∈ BG) (hj : j = nI N) (hN : N ≤ 2048) (h1 : cs + 1 ≤ mc) (h2 : sl + N ≤ ms) (d : decode cc pc = .ok (.anewarray idx, 3)) (kk : U G b0 Z (n + 1) (eU E n (.inl (G.2.1 t0, N, .inr (.inr (.inr (.inr (fun _ => none))))))) (cs + 1) (sl + N) (pc + 3) lo (.ref (b0 + n) :: st)) : U G b0 Z n E cs sl pc lo (.int j :: st) := by
  subst hj
  obtain ⟨p, l, e, R, s, m, args, below, meth, c, zc, zs, Q⟩ := Z
  obtain ⟨hx, hb, ho, ht, hK, hM, hz, hr, hlk⟩ := X
  intro H locs ls hs hP hS hl
  have hcl : (nI N).toNatClampNeg = N := nI_clamp (by omega)
  refine W.anew hx hb ho (ht _ w1) (va_AO.use (hov s hM)) rfl d rfl (nI_pos (by omega)) (by rw [hcl]; omega) (by omega) (by rw [hcl]; omega) fun cA kA comp f1 f2 f3 f4 => ?_
  rw [hcl]
  obtain ⟨-, -, -, -, -, g4⟩ := (hK.2 t0 _ ht0).2
  have hcA : cA = G.2.1 t0 := Option.some.inj (f1.symm.trans g4)
  subst hcA
  generalize hH1 : H.push ({ cls := G.2.1 t0, slots := Array.replicate N .null, vm := .none } : Cell) = H1
  have z1 : H1.size = b0 + n + 1 := by rw [← hH1, Array.size_push, hs]
  have e1 : H1[b0 + n]? = some (arrV (G.2.1 t0) N (fun _ => .null)) := by rw [← hs, ← hH1, Array.getElem?_push_size, ← arrV_new]
  have o1 : ∀ q : Nat, q < b0 + n → H1[q]? = H[q]? := fun q hq => by rw [← hH1, Array.getElem?_push, if_neg (by omega)]
  rw [hs]
  refine kk H1 locs ls z1 ?_ ⟨Nat.le_trans hS.1 (by omega), fun x h1 h2 => (o1 x (by have := hS.1; omega)).trans (hS.2.1 x h1 h2), hS.2.2⟩ hl
  rw [← wE_push]
  refine (hP.kept (fun k x hx => o1 x.1 (by have := (hP k x hx).lt; omega))).app (fun k x hx => ?_)
  have hz : k < 1 := (List.getElem?_eq_some_iff.mp hx).1
  rw [show k = 0 by omega] at hx
  cases hx
  exact e1
/-- a final field of a class that its own constructor writes -/
def FF (own : String) (idx ci k : Nat) (ty : FieldType) : Prop := ∃ (C : String) (T : u_T) (N : Nat) (ty0 : Nat → FieldType), vwCl[ci]? = some (C, T, N) ∧ (∀ w ∈ u_ws C T N, w ∈ BG) ∧ (∀ k, k < N → parseFieldDescriptor (T k).2.2.1 = some (ty0 k)) ∧ (∀ a, a < N → ∀ b, b < N → a ≠ b → (T a).2.1 ≠ (T b).2.1) ∧ k < N ∧ Cond.fieldLink own idx (T k).1 (T k).2.1 (T k).2.2.1 ∈ BG ∧ (T k).2.2.2 = true ∧ (T k).1 = own ∧ parseFieldDescriptor (T k).2.2.1 = some ty
theorem u_put {idx ci k q : Nat} {ty : FieldType} {fs : List Value} {x : Int32} (X : UX G b0 own cc lev mc ms Z) (hF : FW own idx ci k ty) (hq : q < n) (he : E q = .inr (ci, fs)) (hl : k < fs.length) (hnar : narrow ty (.int x) = .int x) (hfit : fits ty (.int x) = true) (d : decode cc pc = .ok (.putfield idx, 3)) (kk : U G b0 Z n (eU E q (.inr (ci, fs.set k (.int x)))) cs sl (pc + 3) lo st) : U G b0 Z n E cs sl pc lo (.int x :: .ref (b0 + q) :: st) := by
  obtain ⟨p, l, e, R, s, m, args, below, meth, c, zc, zs, Q⟩ := Z
  obtain ⟨hx, hb, ho, ht, hK, hM, hz, hr, hlok⟩ := X
  intro H locs ls hs hP hS hlo
  obtain ⟨C, T, N, ty0, hc, hin, hty, hnm, hk, hlink, hfin, hd⟩ := hF
  have he' := wE_at b0 E hq
  rw [he] at he'
  have hap := va_apart (own := own) ht hin ty0 hty hnm hK hc
  obtain ⟨r, h1, cell, q1, q2, q3, q4⟩ := hP q _ he'
  have hr' : r = (C, T, N) := Option.some.inj (h1.symm.trans hc)
  subst hr'
  obtain ⟨hSl, hfc, kC, hkC, hkind⟩ := hK.1 ci _ hc
  obtain ⟨cf, kf, fi, f, hi, hsl⟩ := hSl k hk
  have hlay := ht _ (hin _ (u_in_lay hk))
  unfold u_lay at hlay
  rw [if_neg (by rw [hfin]; decide)] at hlay
  have hst := (u_facts hfc hkC (u_lays ht hin hk) hi).1
  have h6 := u_store hfc hkC hkind hlay hi hd hnar hfit
  refine W.putK hx hb (f := f) ⟨ho, ht _ hlink, ⟨_, _, _, hi⟩, hst⟩ (by rw [q2]; exact h6) q1 q3 (by rw [hsl]; exact k2_hasslot (q4 k hk)) rfl rfl d fun H1 e1 e2 e3 => ?_
  rw [hsl] at e1 ⊢
  have hP1 := hP.set (wE_D b0 n E) he' (e := .inr (ci, fs.set k (.int x))) ⟨_, hc, t_OB.to (V := updV (vp_V fs) k (.int x)) ⟨_, e1, q2, q3, t_set q4 hap hk (.int x)⟩ (fun j _ => vp_updV_set hl (.int x) j)⟩ e3
  rw [wE_set b0 E hq] at hP1
  exact kk H1 _ ls (e2.trans hs) hP1 (hS.put e2 e3 (by show b0 ≤ b0 + q; omega)) hlo
theorem u_putr {idx ci k q a : Nat} {ty : FieldType} {fs : List Value} (X : UX G b0 own cc lev mc ms Z) (hI : UI Z) (hF : FF own idx ci k ty) (hq : q < n) (he : E q = .inr (ci, fs)) (hl : k < fs.length) (hnar : narrow ty (.ref a) = .ref a) (hfit : fits ty (.ref a) = true) (d : decode cc pc = .ok (.putfield idx, 3)) (kk : U G b0 Z n (eU E q (.inr (ci, fs.set k (.ref a)))) cs sl (pc + 3) lo st) : U G b0 Z n E cs sl pc lo (.ref a :: .ref (b0 + q) :: st) := by
  obtain ⟨p, l, e, R, s, m, args, below, meth, c, zc, zs, Q⟩ := Z
  obtain ⟨hx, hb, ho, ht, hK, hM, hz, hr, hlok⟩ := X
  intro H locs ls hs hP hS hlo
  obtain ⟨C, T, N, ty0, hc, hin, hty, hnm, hk, hlink, hfin, hdecl, hd⟩ := hF
  have he' := wE_at b0 E hq
  rw [he] at he'
  have hap := va_apart (own := own) ht hin ty0 hty hnm hK hc
  obtain ⟨r, h1, cell, q1, q2, q3, q4⟩ := hP q _ he'
  have hr' : r = (C, T, N) := Option.some.inj (h1.symm.trans hc)
  subst hr'
  obtain ⟨hSl, hfc, kC, hkC, hkind⟩ := hK.1 ci _ hc
  obtain ⟨cf, kf, fi, f, hi, hsl⟩ := hSl k hk
  have hlay := ht _ (hin _ (u_in_lay hk))
  unfold u_lay at hlay
  rw [if_pos hfin] at hlay
  have hst := (u_facts hfc hkC (u_lays ht hin hk) hi).1
  have hcf : m.cls = cf := by
    obtain ⟨_, _, c', _, _, _, -, -, hf', -, -, -, hown2, -⟩ := Cond.laysFinal_spec hlay
    have e1 : c' = cf := by have := hi.symm.trans hf'; simp at this; exact this.1.symm
    rw [hdecl] at hown2
    rw [← e1]; exact Option.some.inj (ho.symm.trans hown2)
  have h6 := u_fits hfc hkC hkind (Or.inr hlay) hi hd hnar hfit
  refine W.putFinK hx hb ho (ht _ hlink) hi hst hcf hI (by rw [q2]; exact h6) q1 q3 (by rw [hsl]; exact k2_hasslot (q4 k hk)) rfl rfl d fun H1 e1 e2 e3 => ?_
  rw [hsl] at e1 ⊢
  have hP1 := hP.set (wE_D b0 n E) he' (e := .inr (ci, fs.set k (.ref a))) ⟨_, hc, t_OB.to (V := updV (vp_V fs) k (.ref a)) ⟨_, e1, q2, q3, t_set q4 hap hk (.ref a)⟩ (fun j _ => vp_updV_set hl (.ref a) j)⟩ e3
  rw [wE_set b0 E hq] at hP1
  exact kk H1 _ ls (e2.trans hs) hP1 (hS.put e2 e3 (by show b0 ≤ b0 + q; omega)) hlo
theorem u_get {idx ci k q : Nat} {fs : List Value} {v : Value} (X : UX G b0 own cc lev mc ms Z) (hF : FL own idx ci k) (hq : q < n) (he : E q = .inr (ci, fs)) (hv : fs[k]? = some v) (d : decode cc pc = .ok (.getfield idx, 3)) (kk : U G b0 Z n E cs sl (pc + 3) lo (v :: st)) : U G b0 Z n E cs sl pc lo (.ref (b0 + q) :: st) := by
  obtain ⟨p, l, e, R, s, m, args, below, meth, c, zc, zs, Q⟩ := Z
  obtain ⟨hx, hb, ho, ht, hK, hM, hz, hr, hlk⟩ := X
  intro H locs ls hs hP hS hl
  obtain ⟨C, T, N, f1, f2, f3, f4⟩ := hF
  have he' := wE_at b0 E hq
  rw [he] at he'
  exact va_get hx hb ht f2 ho hK hP q he' f1 k f3 (ht _ f4) (fun _ h => h) hv d (kk H locs ls hs hP hS hl)
theorem u_aast {t0 qa qv ci N i : Nat} {r : vw_C} {vs : List Value} {f : Nat → Option Nat} {j : Int32} (X : UX G b0 own cc lev mc ms Z) (ht0 : (tysG G)[t0]? = some (G.2.1 t0, .object r.1)) (hqa : qa < n) (hqv : qv < n) (ha : E qa = .inl (G.2.1 t0, N, .inr (.inr (.inr (.inr f))))) (hv : E qv = .inr (ci, vs)) (hc : vwCl[ci]? = some r) (hj : j = nI i) (hi : i < N) (hN : N ≤ 2048) (d : decode cc pc = .ok (.aastore, 1)) (kk : U G b0 Z n (eU E qa (.inl (G.2.1 t0, N, .inr (.inr (.inr (.inr (va_up f i (some (b0 + qv))))))))) cs sl (pc + 1) lo st) : U G b0 Z n E cs sl pc lo (.ref (b0 + qv) :: .int j :: .ref (b0 + qa) :: st) := by
  subst hj
  obtain ⟨p, l, e, R, s, m, args, below, meth, c, zc, zs, Q⟩ := Z
  obtain ⟨hx, hb, ho, ht, hK, hM, hz, hr, hlk⟩ := X
  intro H locs ls hs hP hS hl
  have ea := wE_at b0 E hqa
  rw [ha] at ea
  have ev := wE_at b0 E hqv
  rw [hv] at ev
  have hcl : (nI i).toNatClampNeg = i := nI_clamp (by omega)
  obtain ⟨r', hr', cellV, g1, g2, g3, -⟩ := hP qv _ ev
  have hcls := (hK.1 ci r hc).2
  obtain ⟨kA, comp, k1, k2, k3, -⟩ := (hK.2 t0 _ ht0).2
  have hcomp : comp = G.1.1 ci := Option.some.inj (k3.symm.trans hcls.1)
  subst hcomp
  have hcls2 := hcls
  obtain ⟨-, kC, hkC, -⟩ := hcls2
  refine W.aast hx hb (hP qa _ ea) (fun q h => by cases h) (fun h => by cases h) k1 k2 rfl hkC ⟨nI_pos (by omega), by show _ < (arrV _ _ _).slots.size; rw [arrV_size, hcl]; exact hi⟩ g1 (fun q h => by rw [g3] at h; cases h) (by rw [g2]; exact hkC) (by rw [g2]; exact va_assign hcls) rfl rfl d fun H1 e1 e2 e3 => ?_
  have hP1 := hP.set (wE_D b0 n E) ea (e := .inl (G.2.1 t0, N, .inr (.inr (.inr (.inr (va_up f i (some (b0 + qv)))))))) (by
    show H1[b0 + qa]? = some (vp_cell _ _)
    rw [e1, vp_cell_q, vp_cell_q, arrV_store, hcl]
    congr 2
    funext q
    by_cases hq : q = i
    · subst hq
      simp [updV, va_up, va_rf]
    · simp [updV, va_up, hq]) e3
  rw [wE_set b0 E hqa] at hP1
  exact kk H1 _ ls (e2.trans hs) hP1 (hS.put e2 e3 (by show b0 ≤ b0 + qa; omega)) hl
theorem rmi_ok {lev lev' nL mc ms : Nat} {R : Room} (hl : lev' < lev) (hn : nL ≤ 30) (hr : lev ≤ R.frames ∧ lcl lev ≤ R.locals) : (rmi lev' mc ms).frames + 1 ≤ R.frames ∧ 8 + (nL + 11) + (rmi lev' mc ms).locals ≤ R.locals := by
  obtain ⟨h1, h2⟩ := hr
  simp only [rmi, lcl] at *
  constructor <;> omega
theorem u_cali {idx nL lev' mc' ms' n' : Nat} {y : MethodName} {bc : ByteArray} {E' : Nat → va_E} {rest : List Value} (X : UX G b0 own cc lev mc ms Z) (hM0 : MI G b0 y bc nL lev' mc' ms' n E n' E') (w1 : Cond.methodLink own idx y ∈ BG) (w2 : Cond.instanceMethod y ∈ BG) (w4 : Cond.initialized y.cls ∈ BG) (w5 : Cond.code y bc nL none ∈ BG) (hy : y.name = "<init>") (w6 : y.cls ≠ "java/lang/invoke/MethodHandle" ∧ y.cls ≠ "java/lang/invoke/VarHandle" ∧ (parseMethodDescriptor y.desc).map (fun d => d.parameters.length) = some 0) (w7 : nL ≤ 30) (hlev : lev' < lev) (h1 : cs + mc' ≤ mc) (h2 : sl + ms' ≤ ms) (hcat : (rest.map fun v => v.category).sum ≤ 8) (d : decode cc pc = .ok (.invokespecial idx, 3)) (kk : U G b0 Z n' E' (cs + mc') (sl + ms') (pc + 3) lo rest) : U G b0 Z (n + 1) E cs sl pc lo (.ref (b0 + n) :: rest) := by
  obtain ⟨p, l, e, R, s, m, args, below, meth, c, zc, zs, Q⟩ := Z
  obtain ⟨hx, hb, ho, ht, hK, hM, hz, hr, hlk⟩ := X
  intro H locs ls hs hP hS hl
  have hT := rmi_ok (mc := mc') (ms := ms') hlev w7 ⟨hr.1, hr.2.1⟩
  have cw : CallB R s args own idx y bc nL none (.code y bc nL none :: BG) (rmi lev' mc' ms') mc' ms' 0 ∧ y.name = "<init>" ∧ (Cond.instanceMethod y).before args s = true := ⟨callB_of 0 ht (good_cons w5) rfl rfl rfl (ht _ w4) (ht _ w1) w6 hT, hy, ht _ w2⟩
  refine va_callv (va_runI (As := []) (rest := rest) ⟨hx, hb, rfl, ho, ht⟩ (hM0 l) cw ⟨wdU_blind G b0 (n + 1) E _, fun U hU hW => ⟨rfl, by rw [hU]; exact hs, by rw [hU]; exact hP, va_K.moved hW.alike hK, MK.warm hW hM⟩⟩ rfl rfl hl.2.2.1 rfl (lv_room hcat) d ⟨by omega, by omega⟩) hS (fun q _ h => h) (fun q h => h) (fun u t H1 locs1 ht1 hvm hw hB hz1 hk1 hS1 => ?_)
  obtain ⟨b1, b2⟩ := hB
  rw [ht1] at b1 b2
  exact kk H1 locs1 ls b1 b2 hS1 hl
theorem u_calN {idx nL lev' mc' ms' n' : Nat} {y : MethodName} {bc : ByteArray} {E' : Nat → va_E} {rest : List Value} {host : String} (X : UX G b0 own cc lev mc ms Z) (hM0 : MI G b0 y bc nL lev' mc' ms' n E n' E') (w1 : ∀ s, MK s → va_Nw (.methodLinkNest own idx y host) s) (w2 : Cond.instanceMethod y ∈ BG) (w4 : Cond.initialized y.cls ∈ BG) (w5 : Cond.code y bc nL none ∈ BG) (hy : y.name = "<init>") (w6 : y.cls ≠ "java/lang/invoke/MethodHandle" ∧ y.cls ≠ "java/lang/invoke/VarHandle" ∧ (parseMethodDescriptor y.desc).map (fun d => d.parameters.length) = some 0) (w7 : nL ≤ 30) (hlev : lev' < lev) (h1 : cs + mc' ≤ mc) (h2 : sl + ms' ≤ ms) (hcat : (rest.map fun v => v.category).sum ≤ 8) (d : decode cc pc = .ok (.invokespecial idx, 3)) (kk : U G b0 Z n' E' (cs + mc') (sl + ms') (pc + 3) lo rest) : U G b0 Z (n + 1) E cs sl pc lo (.ref (b0 + n) :: rest) := by
  obtain ⟨p, l, e, R, s, m, args, below, meth, c, zc, zs, Q⟩ := Z
  obtain ⟨hx, hb, ho, ht, hK, hM, hz, hr, hlk⟩ := X
  intro H locs ls hs hP hS hl
  have hT := rmi_ok (mc := mc') (ms := ms') hlev w7 ⟨hr.1, hr.2.1⟩
  have cw : va_CN R s args own idx y host bc nL none (.code y bc nL none :: BG) (rmi lev' mc' ms') mc' ms' 0 ∧ y.name = "<init>" ∧ (Cond.instanceMethod y).before args s = true := ⟨va_cnB 0 ht (good_cons w5) rfl rfl rfl (w1 s hM) (ht _ w4) w6 hT, hy, ht _ w2⟩
  refine va_callv (va_runIN (As := []) (rest := rest) ⟨hx, hb, rfl, ho, ht⟩ (hM0 l) cw ⟨wdU_blind G b0 (n + 1) E _, fun U hU hW => ⟨rfl, by rw [hU]; exact hs, by rw [hU]; exact hP, va_K.moved hW.alike hK, MK.warm hW hM⟩⟩ rfl rfl hl.2.2.1 rfl (lv_room hcat) d ⟨by omega, by omega⟩) hS (fun q _ h => h) (fun q h => h) (fun u t H1 locs1 ht1 hvm hw hB hz1 hk1 hS1 => ?_)
  obtain ⟨b1, b2⟩ := hB
  rw [ht1] at b1 b2
  exact kk H1 locs1 ls b1 b2 hS1 hl
theorem u_vret {n' : Nat} {E' : Nat → va_E} (X : UX G b0 own cc lev mc ms Z) (hR : UR G b0 Z mc ms n' E') (d : decode cc pc = .ok (.return_, 1)) (hn : n = n') (hE : ∀ k, k < n → E k = E' k) (h1 : cs = mc) (h2 : sl = ms) : U G b0 Z n E cs sl pc lo [] := by
  subst hn h1 h2
  obtain ⟨p, l, e, R, s, m, args, below, meth, c, zc, zs, Q⟩ := Z
  obtain ⟨hx, hb, ho, ht, hK, hM, hz, hr, hlk⟩ := X
  intro H locs ls hs hP hS hl
  obtain ⟨hty, rfl⟩ := hR
  rw [wE_cong hE] at hP
  exact W.vret hx hb hty (fun t ht hW => ⟨⟨(), rfl, trivial, by rw [ht]; exact hs, by rw [ht]; exact hP⟩, hS.F ht⟩) hS.2.2 d hlk
end UROWS
