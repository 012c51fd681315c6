/-! the law's own arrays: 0 the kinds, 1 the names, 2 the points; calls with what a state carries along -/
def ASh : Nat → Sh
  | 0 => .inr (.inl (0, 24))
  | 1 => .inr (.inl (0, 25))
  | _ + 2 => .inr (.inl (0, 35))
theorem perm3 (F G E : va_W) : (F ++ (G ++ E)).Perm (G ++ (F ++ E)) := by
  rw [← List.append_assoc, ← List.append_assoc]
  exact List.Perm.append_right E List.perm_append_comm
/-- what a state carries along goes with it as long as what lay before stays -/
def XMv (XS : State → Prop) (n0 : Nat) : Prop := ∀ s U : State, s.WarmedH U.vm → (∀ q, q < s.heap.size → ¬ n0 ≤ q → U.heap[q]? = s.heap[q]?) → n0 ≤ s.heap.size → XS s → XS U
def XTr : State → Prop := fun _ => True
theorem XMv.tr {n0 : Nat} : XMv XTr n0 := fun _ _ _ _ _ _ => trivial
/-- the script -/
def XSL (sb L : Nat) (xs : Nat → Int32) (n0 : Nat) (s : State) : Prop := va_X sb L xs s s.heap ∧ sb < n0
theorem XSL.mv {sb L n0 : Nat} {xs : Nat → Int32} : XMv (XSL sb L xs n0) n0 := fun s U hW hq hn h => ⟨(h.1.kept (hq sb (Nat.lt_of_lt_of_le h.2 hn) (Nat.not_le.mpr h.2))).moved hW.alike, h.2⟩
def Pcx (D : va_G) (cy : Nat → ClassId) (n0 : Nat) (ad : Nat → Nat) (XS : State → Prop) (args : List Value) (ws : va_W) (sz : Nat) : Array Value → State → Prop := fun a U => Pcc D cy n0 ad args ws sz a U ∧ XS U
theorem Pcx.blind {D : va_G} {cy : Nat → ClassId} {n0 : Nat} {ad : Nat → Nat} {XS : State → Prop} (hX : XMv XS n0) {args : List Value} {ws : va_W} {sz : Nat} : FrameBlind (Pcx D cy n0 ad XS args ws sz) := by
  intro a U g mk ⟨h1, h2⟩
  exact ⟨Pcc.blind a U g mk h1, hX U (U.calling g mk a) (State.WarmedH.refl U) (fun _ _ _ => rfl) h1.2.2.1.2.2.1 h2⟩
def CTX (l : Launch) (D : va_G) (cy : Nat → ClassId) (n0 : Nat) (ad : Nat → Nat) (XS : State → Prop) (y : MethodName) (wd : Cond) (rm : Room) (args : List Value) (ws : va_W) (PR : Option Value → va_W → Prop) : Prop :=
  ∀ sz, Met l y [wd] rm (Pcx D cy n0 ad XS args ws sz) (Qcc D (va_A ws sz) PR) rm.cells rm.slots (va_A ws sz)
section JH
variable {l : Launch} {D : va_G} {cy : Nat → ClassId} {n0 : Nat} {ad : Nat → Nat} {own : String} {cc : ByteArray} {nL : Nat} {ret : Option FieldType} {R : Room} {A : Nat → Prop} {PR : Option Value → va_W → Prop} {PX : String → va_W → Prop} {XS : State → Prop} {fin : Bool} {ET : List ExceptionTableEntry} {J : JT}
variable {ws wc : va_W} {ce sl pc : Nat} {lv : List (Nat × Value)} {st rest As : List Value} {y : MethodName} {bytes : ByteArray} {maxL : Nat} {rt : Option FieldType} {rm : Room} {PR1 : Option Value → va_W → Prop} {PX1 : String → va_W → Prop} {idx a : Nat}
theorem CTX.walkH {y : MethodName} {rm : Room} {args : List Value} {hh : List (Nat × Nat × Nat × Nat)} (hfl : l.stackTraces = false) (hy : plainName y.cls = true) (hn : (lg_sl args).length ≤ nL)
    (h : ∀ A J, Cx l D cy n0 ad y.cls cc nL ret rm A PR (fun _ _ => False) XS true (tableOf hh) J → J ws 0 0 0 (lv_args 0 args) []) : CTX l D cy n0 ad XS y (.codeWith y cc nL ret hh) rm args ws PR := by
  intro sz
  have h0 : vx_Met l y [.codeWith y cc nL ret hh] rm (Pcx D cy n0 ad XS args ws sz) (Qcc D (va_A ws sz) PR) (Xcc D (va_A ws sz) (fun _ _ => False)) rm.cells rm.slots (va_A ws sz) := by
    refine vx_ofWH hy rfl ?_
    intro p e s m args' below meth c s₁ B hml hv
    obtain ⟨⟨rfl, hsz, hK, hP, hD⟩, hN⟩ := hv
    subst hsz
    have hET : c.exceptionTable.toList = tableOf hh := vx_table (x := y) B (atoms_spec (ws := [.codeWith y cc nL ret hh]) B.pre _ List.mem_cons_self)
    have hl := lv_entry args (n := nL) hn
    rw [lg_entry_eq]
    exact h (va_A ws s.heap.size) _ ⟨p, e, s, m, args.toArray, below, meth, c, _, ⟨B.exec, B.bytes, hml, findClass_of_methodNamed B.named⟩, hK, fun q h => Or.inr h, fun q h => by
      rcases h with ⟨k, e, h⟩ | h
      · exact hD.2 k _ h
      · exact Nat.le_trans hK.2.2.1 h, ⟨B.returns, B.notSynchronized, hET, hfl⟩, hN, fun _ => rfl, rfl⟩ s.heap [] _ hP (hD.self) va_S.rf hl
  intro p e h1 h2 h3 s m ar below h4 h5 h6 h7
  obtain ⟨n, o, a1, a2, a3, a4⟩ := h0 p e h1 h2 h3 s m ar below h4 h5 h6 h7
  refine ⟨n, o, a1, a2, a3, ?_⟩
  rcases a4 with a4 | ⟨q, -, E, ce, L, ⟨⟨ws, hF, -⟩, -⟩, -⟩
  · exact a4
  · exact hF.elim
theorem CTX.walk {y : MethodName} {rm : Room} {args : List Value} (hfl : l.stackTraces = false) (hy : plainName y.cls = true) (hn : (lg_sl args).length ≤ nL)
    (h : ∀ A J, Cx l D cy n0 ad y.cls cc nL ret rm A PR (fun _ _ => False) XS true [] J → J ws 0 0 0 (lv_args 0 args) []) : CTX l D cy n0 ad XS y (.code y cc nL ret) rm args ws PR := by
  intro sz
  have h0 : vx_Met l y [.code y cc nL ret] rm (Pcx D cy n0 ad XS args ws sz) (Qcc D (va_A ws sz) PR) (Xcc D (va_A ws sz) (fun _ _ => False)) rm.cells rm.slots (va_A ws sz) := by
    refine vx_ofW hy rfl ?_
    intro p e s m args' below meth c s₁ B hml ht hv
    obtain ⟨⟨rfl, hsz, hK, hP, hD⟩, hN⟩ := hv
    subst hsz
    have hET : c.exceptionTable.toList = [] := List.eq_nil_iff_forall_not_mem.mpr fun x hx => ht x hx
    have hl := lv_entry args (n := nL) hn
    rw [lg_entry_eq]
    exact h (va_A ws s.heap.size) _ ⟨p, e, s, m, args.toArray, below, meth, c, _, ⟨B.exec, B.bytes, hml, findClass_of_methodNamed B.named⟩, hK, fun q h => Or.inr h, fun q h => by
      rcases h with ⟨k, e, h⟩ | h
      · exact hD.2 k _ h
      · exact Nat.le_trans hK.2.2.1 h, ⟨B.returns, B.notSynchronized, hET, hfl⟩, hN, fun _ => rfl, rfl⟩ s.heap [] _ hP (hD.self) va_S.rf hl
  intro p e h1 h2 h3 s m ar below h4 h5 h6 h7
  obtain ⟨n, o, a1, a2, a3, a4⟩ := h0 p e h1 h2 h3 s m ar below h4 h5 h6 h7
  refine ⟨n, o, a1, a2, a3, ?_⟩
  rcases a4 with a4 | ⟨q, -, E, ce, L, ⟨⟨ws, hF, -⟩, -⟩, -⟩
  · exact a4
  · exact hF.elim
/-- a static call of a method whose contract wants what the state carries along -/
theorem j_callSC (hX : XMv XS n0) (hJ : Cx l D cy n0 ad own cc nL ret R A PR PX XS fin ET J) (hM : CTX l D cy n0 ad XS y (.code y bytes maxL rt) rm As wc PR1) (hF : MX own idx 1 y As.length) (hw : Cond.code y bytes maxL rt ∈ GT)
    (hR : rm.frames + 1 ≤ R.frames ∧ 8 + (maxL + 11) + rm.locals ≤ R.locals) (hce : ce + rm.cells ≤ R.cells ∧ sl + rm.slots ≤ R.slots) (hst : (rest.map fun v => v.category).sum ≤ 8) (hd : decode cc pc = .ok (.invokestatic idx, 3))
    {as : List Value} (has : as = As.reverse ++ rest)
    (kk : ∀ v u, PR1 v u → J u (ce + rm.cells) (sl + rm.slots) (pc + 3) lv (v.toList ++ rest)) : J wc ce sl pc lv as := by
  subst has
  obtain ⟨p, e, s, m, args, below, meth, c, Q, ⟨hx, hb, hml, hown⟩, hK, hA, hAn, hMm, hXS, hQ, rfl⟩ := hJ
  intro H locs ls hP hD hS hl
  obtain ⟨f1, f2, f3, f4, -, f5⟩ := hF
  have f6 := f5 rfl
  have hTB := hK.2.1
  have hP' : va_P D vwCl (wc ++ []) H := by rw [List.append_nil]; exact hP
  have hD' : va_D A (wc ++ []) := by rw [List.append_nil]; exact hD
  have hFc := call_free hA hD' hS
  have hr : va_Run p l e R s m args below meth c H locs ce sl rm.cells rm.slots (F0 m pc ls (As.reverse ++ rest)) rest (Qcc D (va_A wc H.size) PR1 As.toArray) (va_A wc H.size) :=
    va_runS (Ts := []) ⟨hx, hb, hml, hown, fun _ h => nomatch h⟩ (hM H.size) ⟨⟨rfl, rfl, hR.1, hR.2, wd_all rfl hTB hw, List.mem_cons_self, hTB.good hw rfl, hTB.good f2 rfl, f3, desc_n f4, hTB.good f1 rfl⟩, hTB.good f6 rfl⟩ ⟨Pcx.blind hX, fun U hU hW => ⟨call_pre hK hAn hP' hD' hS U hU hW, hX s U hW (fun q h1 h2 => by rw [hU]; exact hS.2.1 q h1 (fun h => h2 (hAn q h))) hK.2.2.1 hXS⟩⟩ rfl rfl hl.1 rfl (lv_room hst) hd hce
  refine w_call hr hS (fun q _ h => hFc q h) hFc (fun v u H1 locs1 hp hP1 hD1 hz1 hk1 hS1 => ?_)
  exact kk v u hp H1 locs1 ls hP1 (hD1.weaken (fun _ q _ h => hFc q.1 h)) hS1 hl
/-- the same of a method with a table of its own -/
theorem j_callSW {XS1 : State → Prop} {hh : List (Nat × Nat × Nat × Nat)} (hX : XMv XS1 n0) (hXX : ∀ s, XS s → XS1 s) (hJ : Cx l D cy n0 ad own cc nL ret R A PR PX XS fin ET J) (hM : CTX l D cy n0 ad XS1 y (.codeWith y bytes maxL rt hh) rm As wc PR1) (hF : MX own idx 1 y As.length) (hw : Cond.codeWith y bytes maxL rt hh ∈ GT)
    (hR : rm.frames + 1 ≤ R.frames ∧ 8 + (maxL + 11) + rm.locals ≤ R.locals) (hce : ce + rm.cells ≤ R.cells ∧ sl + rm.slots ≤ R.slots) (hst : (rest.map fun v => v.category).sum ≤ 8) (hd : decode cc pc = .ok (.invokestatic idx, 3))
    {as : List Value} (has : as = As.reverse ++ rest)
    (kk : ∀ v u, PR1 v u → J u (ce + rm.cells) (sl + rm.slots) (pc + 3) lv (v.toList ++ rest)) : J wc ce sl pc lv as := by
  subst has
  obtain ⟨p, e, s, m, args, below, meth, c, Q, ⟨hx, hb, hml, hown⟩, hK, hA, hAn, hMm, hXS, hQ, rfl⟩ := hJ
  intro H locs ls hP hD hS hl
  obtain ⟨f1, f2, f3, f4, -, f5⟩ := hF
  have f6 := f5 rfl
  have hTB := hK.2.1
  have hP' : va_P D vwCl (wc ++ []) H := by rw [List.append_nil]; exact hP
  have hD' : va_D A (wc ++ []) := by rw [List.append_nil]; exact hD
  have hFc := call_free hA hD' hS
  refine w_call (vx_runSW (Ts := []) ⟨hx, hb, hml, hown, fun _ h => nomatch h⟩ (hM H.size) ⟨⟨rfl, rfl, hR.1, hR.2, wd_all rfl hTB hw, List.mem_cons_self⟩, hTB.good hw rfl, hTB.good f2 rfl, f3, desc_n f4, hTB.good f1 rfl, hTB.good f6 rfl⟩ ⟨Pcx.blind hX, fun U hU hW => ⟨call_pre hK hAn hP' hD' hS U hU hW, hX s U hW (fun q h1 h2 => by rw [hU]; exact hS.2.1 q h1 (fun h => h2 (hAn q h))) hK.2.2.1 (hXX s hXS)⟩⟩ rfl rfl hl.1 rfl (lv_room hst) hd hce) hS (fun q _ h => hFc q h) hFc (fun v u H1 locs1 hp hP1 hD1 hz1 hk1 hS1 => ?_)
  exact kk v u hp H1 locs1 ls hP1 (hD1.weaken (fun _ q _ h => hFc q.1 h)) hS1 hl
/-- a handler, the first of its table -/
def HC1 (own : String) (ET : List ExceptionTableEntry) (pc : Nat) (X : String) (tgt : Nat) : Prop := ∃ (x : ExceptionTableEntry) (suf : List ExceptionTableEntry), ET = x :: suf ∧ covers x pc = true ∧ x.catchType ≠ 0 ∧ Cond.classLink own x.catchType X ∈ GT ∧ Cond.castable X X ∈ GT ∧ x.handlerPc = tgt
theorem j_callVXh {q0 ci : Nat} {fs : List Value} {T : u_T} {n : Nat} (hJ : Cx l D cy n0 ad own cc nL ret R A PR PX XS true ET J) (hM : CV l D cy n0 ad y (.code y bytes maxL rt) rm (.ref a :: As) wc PR1 PX1) (hF : MX own idx 0 y As.length) (hw : Cond.code y bytes maxL rt ∈ GT) (he : wc[q0]? = some (a, .inr (ci, fs))) (hc : vwCl[ci]? = some (y.cls, T, n))
    (hR : rm.frames + 1 ≤ R.frames ∧ 8 + (maxL + 11) + rm.locals ≤ R.locals) (hce : ce + rm.cells ≤ R.cells ∧ sl + rm.slots ≤ R.slots) (hst : (rest.map fun v => v.category).sum ≤ 8) (hd : decode cc pc = .ok (.invokevirtual idx, 3))
    {as : List Value} (has : as = As.reverse ++ .ref a :: rest)
    (hx : ∀ X u, PX1 X u → ∃ tgt, HC1 own ET pc X tgt ∧ ∀ q, J u (ce + rm.cells) (sl + rm.slots) tgt lv [.ref q])
    (kk : ∀ v u, PR1 v u → J u (ce + rm.cells) (sl + rm.slots) (pc + 3) lv (v.toList ++ rest)) : J wc ce sl pc lv as := by
  subst has
  obtain ⟨p, e, s, m, args, below, meth, c, Q, ⟨hx0, hb, hml, hown⟩, hK, hA, hAn, hMm, hXS, hQ, rfl⟩ := hJ
  intro H locs ls hP hD hS hl
  obtain ⟨f1, f2, f3, f4, f5, -⟩ := hF
  obtain ⟨f6, f7⟩ := f5 rfl
  have hTB := hK.2.1
  have hrv := va_recv (a := a) hK.1 hP hc he
  have hP' : va_P D vwCl (wc ++ []) H := by rw [List.append_nil]; exact hP
  have hD' : va_D A (wc ++ []) := by rw [List.append_nil]; exact hD
  have hFc := call_free hA hD' hS
  refine w_callX (vx_runV (Ts := []) ⟨hx0, hb, hml, hown, fun _ h => nomatch h⟩ (hM H.size) ⟨⟨rfl, rfl, hR.1, hR.2, wd_all rfl hTB hw, List.mem_cons_self, hTB.good hw rfl, hTB.good f2 rfl, f3, desc_n f4, hTB.good f1 rfl⟩, hTB.good f6 rfl, hTB.good f7 rfl⟩ ⟨Pcc.blind, hrv, call_pre hK hAn hP' hD' hS⟩ rfl rfl hl.1 rfl (lv_room hst) hd hce) hS (fun q _ h => hFc q h) hFc (fun X cel q9 u H1 locs1 hp hP1 hD1 hz1 hk1 hS1 g1 g2 g3 => ?_) (fun v u H1 locs1 hp hP1 hD1 hz1 hk1 hS1 => ?_)
  · obtain ⟨tgt, ⟨x, suf, e1, e3, e4, e5, e6, rfl⟩, kx⟩ := hx X u hp
    exact vx_catch hown [] x suf (by rw [hMm.2.2.1]; exact e1) (fun z hz => by cases hz) e3 e4 (hTB.good e5 rfl) (hTB.nest e6 rfl) g1 g2 g3 (kx q9 H1 locs1 ls hP1 (hD1.weaken (fun _ q _ h => hFc q.1 h)) hS1 hl)
  · exact kk v u hp H1 locs1 ls hP1 (hD1.weaken (fun _ q _ h => hFc q.1 h)) hS1 hl
theorem j_sld {sb L : Nat} {xs : Nat → Int32} {i : Int} (hJ : Cx l D cy n0 ad own cc nL ret R A PR PX (XSL sb L xs n0) fin ET J) (h0 : 0 ≤ i) (h1 : i < L) (hL : L ≤ 2560) (hd : decode cc pc = .ok (.iaload, 1)) (k : J ws ce sl (pc + 1) lv (.int (xs i.toNat) :: st)) : J ws ce sl pc lv (.int (zI i) :: .ref sb :: st) := by
  obtain ⟨p, e, s, m, args, below, meth, c, Q, ⟨hx, hb, hml, hown⟩, hK, hA, hAn, hM, hXS, hQ, rfl⟩ := hJ
  intro H locs ls hP hD hS hl
  refine va_sld hx hb hXS.1 (Nat.lt_of_lt_of_le hXS.2 hK.2.2.1) (fun h => Nat.not_le.mpr hXS.2 (hAn _ h)) hS (zI_in h0 h1 (by omega)) hd ?_
  rw [zI_cl h0 (by omega)]
  exact k H locs ls hP hD hS hl
theorem j_slen {sb L : Nat} {xs : Nat → Int32} (hJ : Cx l D cy n0 ad own cc nL ret R A PR PX (XSL sb L xs n0) fin ET J) (hd : decode cc pc = .ok (.arraylength, 1)) (k : J ws ce sl (pc + 1) lv (.int (zI (L : Int)) :: st)) : J ws ce sl pc lv (.ref sb :: st) := by
  obtain ⟨p, e, s, m, args, below, meth, c, Q, ⟨hx, hb, hml, hown⟩, hK, hA, hAn, hM, hXS, hQ, rfl⟩ := hJ
  intro H locs ls hP hD hS hl
  refine va_slen hx hb hXS.1 (Nat.lt_of_lt_of_le hXS.2 hK.2.2.1) (fun h => Nat.not_le.mpr hXS.2 (hAn _ h)) hS hd ?_
  have h9 := k H locs ls hP hD hS hl
  rw [← zI_nI] at h9
  exact h9
theorem j_lald {q0 n : Nat} {z : Int} {f : Nat → Int64} (hJ : Cx l D cy n0 ad own cc nL ret R A PR PX XS fin ET J) (he : ws[q0]? = some (a, .inl (cy 4, n, .inr (.inl f)))) (hn : n < 2147483648) (h0 : 0 ≤ z) (h1 : z < n) (hd : decode cc pc = .ok (.laload, 1))
    (kk : J ws ce sl (pc + 1) lv (.long (f z.toNat) :: st)) : J ws ce sl pc lv (.int (zI z) :: .ref a :: st) := by
  obtain ⟨p, e, s, m, args, below, meth, c, Q, ⟨hx, hb, hml, hown⟩, hK, hA, hAn, hM, hXS, hQ, rfl⟩ := hJ
  intro H locs ls hP hD hS hl
  refine va_lald hx hb hK.1 hP q0 4 he rfl (zI_in h0 h1 hn) hd ?_
  rw [zI_cl h0 (by omega)]
  exact kk H locs ls hP hD hS hl
theorem j_last {q0 n : Nat} {z : Int} {f : Nat → Int64} {x : Int64} (hJ : Cx l D cy n0 ad own cc nL ret R A PR PX XS fin ET J) (he : ws[q0]? = some (a, .inl (cy 4, n, .inr (.inl f)))) (hn : n < 2147483648) (h0 : 0 ≤ z) (h1 : z < n) (hd : decode cc pc = .ok (.lastore, 1))
    (kk : J (ws.set q0 (a, .inl (cy 4, n, .inr (.inl (vp_updL f z.toNat x))))) ce sl (pc + 1) lv st) : J ws ce sl pc lv (.long x :: .int (zI z) :: .ref a :: st) := by
  obtain ⟨p, e, s, m, args, below, meth, c, Q, ⟨hx, hb, hml, hown⟩, hK, hA, hAn, hM, hXS, hQ, rfl⟩ := hJ
  intro H locs ls hP hD hS hl
  refine va_last hx hb hK.1 hP hD hS q0 4 he rfl (zI_in h0 h1 hn) hd (fun H1 locs1 hP hD hS => ?_)
  rw [zI_cl h0 (by omega)] at hP hD
  exact kk H1 locs1 ls hP hD hS hl
theorem j_lconst {n : Fin 2} {v : Int64} (hJ : Cx l D cy n0 ad own cc nL ret R A PR PX XS fin ET J) (hv : Int64.ofNat (n : Nat) = v) (hd : decode cc pc = .ok (.lconst n, 1)) (k : J ws ce sl (pc + 1) lv (.long v :: st)) : J ws ce sl pc lv st := by
  obtain ⟨p, e, s, m, args, below, meth, c, Q, ⟨hx, hb, hml, hown⟩, hK, hA, hAn, hM, hXS, hQ, rfl⟩ := hJ
  intro H locs ls hP hD hS hl
  exact lv_lconst hx hb hd hv (k H locs ls hP hD hS hl)
theorem j_lcmp {x z : Int64} {v : Int} (hJ : Cx l D cy n0 ad own cc nL ret R A PR PX XS fin ET J) (hv : lg_cmp x z = zI v) (hd : decode cc pc = .ok (.lcmp, 1)) (k : J ws ce sl (pc + 1) lv (.int (zI v) :: st)) : J ws ce sl pc lv (.long z :: .long x :: st) := by
  obtain ⟨p, e, s, m, args, below, meth, c, Q, ⟨hx, hb, hml, hown⟩, hK, hA, hAn, hM, hXS, hQ, rfl⟩ := hJ
  intro H locs ls hP hD hS hl
  refine W.lcmp hx hb hd ?_
  rw [hv]
  exact k H locs ls hP hD hS hl
theorem j_lshl {x v : Int64} {z : Int32} (hJ : Cx l D cy n0 ad own cc nL ret R A PR PX XS fin ET J) (hv : x <<< (z.toInt64 &&& 63) = v) (hd : decode cc pc = .ok (.lshl, 1)) (k : J ws ce sl (pc + 1) lv (.long v :: st)) : J ws ce sl pc lv (.int z :: .long x :: st) := by
  obtain ⟨p, e, s, m, args, below, meth, c, Q, ⟨hx, hb, hml, hown⟩, hK, hA, hAn, hM, hXS, hQ, rfl⟩ := hJ
  intro H locs ls hP hD hS hl
  exact lv_lshl hx hb hd hv (k H locs ls hP hD hS hl)
theorem j_lshr {x v : Int64} {z : Int32} (hJ : Cx l D cy n0 ad own cc nL ret R A PR PX XS fin ET J) (hv : x >>> (z.toInt64 &&& 63) = v) (hd : decode cc pc = .ok (.lshr, 1)) (k : J ws ce sl (pc + 1) lv (.long v :: st)) : J ws ce sl pc lv (.int z :: .long x :: st) := by
  obtain ⟨p, e, s, m, args, below, meth, c, Q, ⟨hx, hb, hml, hown⟩, hK, hA, hAn, hM, hXS, hQ, rfl⟩ := hJ
  intro H locs ls hP hD hS hl
  exact lv_lshr hx hb hd hv (k H locs ls hP hD hS hl)
theorem j_land {x z v : Int64} (hJ : Cx l D cy n0 ad own cc nL ret R A PR PX XS fin ET J) (hv : x &&& z = v) (hd : decode cc pc = .ok (.land, 1)) (k : J ws ce sl (pc + 1) lv (.long v :: st)) : J ws ce sl pc lv (.long z :: .long x :: st) := by
  obtain ⟨p, e, s, m, args, below, meth, c, Q, ⟨hx, hb, hml, hown⟩, hK, hA, hAn, hM, hXS, hQ, rfl⟩ := hJ
  intro H locs ls hP hD hS hl
  refine lv_land hx hb hd ?_
  rw [hv]
  exact k H locs ls hP hD hS hl
theorem j_lor {x z v : Int64} (hJ : Cx l D cy n0 ad own cc nL ret R A PR PX XS fin ET J) (hv : x ||| z = v) (hd : decode cc pc = .ok (.lor, 1)) (k : J ws ce sl (pc + 1) lv (.long v :: st)) : J ws ce sl pc lv (.long z :: .long x :: st) := by
  obtain ⟨p, e, s, m, args, below, meth, c, Q, ⟨hx, hb, hml, hown⟩, hK, hA, hAn, hM, hXS, hQ, rfl⟩ := hJ
  intro H locs ls hP hD hS hl
  refine lv_lor hx hb hd ?_
  rw [hv]
  exact k H locs ls hP hD hS hl
theorem j_idivz {x d v : Int} (hJ : Cx l D cy n0 ad own cc nL ret R A PR PX XS fin ET J) (hd0 : 0 < d ∧ d < 2147483648) (hv : zI x / zI d = zI v) (hd : decode cc pc = .ok (.idiv, 1)) (k : J ws ce sl (pc + 1) lv (.int (zI v) :: st)) : J ws ce sl pc lv (.int (zI d) :: .int (zI x) :: st) := by
  obtain ⟨p, e, s, m, args, below, meth, c, Q, ⟨hx, hb, hml, hown⟩, hK, hA, hAn, hM, hXS, hQ, rfl⟩ := hJ
  intro H locs ls hP hD hS hl
  refine lv_idiv hx hb hd (zI_ne0 ⟨by omega, by omega⟩ (by omega)) ?_
  rw [hv]
  exact k H locs ls hP hD hS hl
theorem j_newl3 (hJ : Cx l D cy n0 ad own cc nL ret R A PR PX XS fin ET J) (hc : ce + 1 ≤ R.cells) (hs : sl + 3 ≤ R.slots) (hd : decode cc pc = .ok (.newarray .long, 2))
    (kk : ∀ q, J (ws ++ [(q, .inl (cy 4, 3, .inr (.inl (fun _ => 0))))]) (ce + 1) (sl + 3) (pc + 2) lv (.ref q :: st)) : J ws ce sl pc lv (.int (zI 3) :: st) := by
  obtain ⟨p, e, s, m, args, below, meth, c, Q, ⟨hx, hb, hml, hown⟩, hK, hA, hAn, hM, hXS, hQ, rfl⟩ := hJ
  intro H locs ls hP hD hS hl
  refine va_newa (atype := .long) (N' := 3) (a0 := (3, .inr (.inl (fun _ => 0)))) hx hb (hK.2.1.good arr_l rfl) rfl hK.1 hP hD hS hA (fun cA => rfl) (by decide) (by decide) (by decide) hc hs hd (fun q cA H1 hK1 hP1 hD1 hS1 => ?_)
  have e1 : cA = cy 4 := va_RA_inj (hK1.2 5 (cA, .long) rfl).2 (hK.1.2 4 (cy 4, .long) rfl).2
  subst e1
  exact kk q H1 locs ls hP1 hD1 hS1 hl
variable {F E : va_W} {N : Nat} {sh : Nat → Sh} {b : Nat → Nat} {μ : Nat → Int → Int}
theorem w2_iald {k n : Nat} {z : Int} (hJ : Cx l D cy n0 ad own cc nL ret R A PR PX XS fin ET J) (hk : k < N) (hs : sh k = .inr (.inl (0, n))) (hn : n < 2147483648) (h0 : 0 ≤ z) (h1 : z < n) (hd : decode cc pc = .ok (.iaload, 1))
    (kk : J (F ++ (gw N sh cy b μ ++ E)) ce sl (pc + 1) lv (.int (zI (μ k z)) :: st)) : J (F ++ (gw N sh cy b μ ++ E)) ce sl pc lv (.int (zI z) :: .ref (b k) :: st) :=
  j_perm hJ (perm3 _ _ _) (w_iald hJ hk hs hn h0 h1 hd (j_perm hJ (perm3 _ _ _) kk))
theorem w2_iast {k n : Nat} {z v : Int} (hJ : Cx l D cy n0 ad own cc nL ret R A PR PX XS fin ET J) (hk : k < N) (hs : sh k = .inr (.inl (0, n))) (hn : n < 2147483648) (h0 : 0 ≤ z) (h1 : z < n) (hd : decode cc pc = .ok (.iastore, 1))
    (kk : ∀ μ', μ' = up μ k z v → J (F ++ (gw N sh cy b μ' ++ E)) ce sl (pc + 1) lv st) : J (F ++ (gw N sh cy b μ ++ E)) ce sl pc lv (.int (zI v) :: .int (zI z) :: .ref (b k) :: st) :=
  j_perm hJ (perm3 _ _ _) (w_iast hJ hk hs hn h0 h1 hd (fun μ' h => j_perm hJ (perm3 _ _ _) (kk μ' h)))
end JH
