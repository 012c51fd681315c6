/-! the law's helpers: a call that may throw, and is caught; the row of longs -/
def NC (U : State) : Prop := va_Nc xIS xIA U ∧ va_Nc xIA xIO U ∧ va_Nc xIS xIO U
theorem NC.moved {u U : State} (hv : u.vm.Alike U.vm) (h : NC u) : NC U := ⟨va_Nc.moved hv h.1, va_Nc.moved hv h.2.1, va_Nc.moved hv h.2.2⟩
def Pch (D : va_G) (cy : Nat → ClassId) (n0 : Nat) (ad : Nat → Nat) (args : List Value) (ws : va_W) (sz : Nat) : Array Value → State → Prop := fun a U => Pcc D cy n0 ad args ws sz a U ∧ NC U
theorem Pch.blind {D : va_G} {cy : Nat → ClassId} {n0 : Nat} {ad : Nat → Nat} {args : List Value} {ws : va_W} {sz : Nat} : FrameBlind (Pch D cy n0 ad args ws sz) := by
  intro a U g mk ⟨h1, h2⟩
  exact ⟨Pcc.blind a U g mk h1, NC.moved (u := U) (U := U.calling g mk a) (Vm.Alike.refl U.vm) h2⟩
def CTH (l : Launch) (D : va_G) (cy : Nat → ClassId) (n0 : Nat) (ad : Nat → Nat) (y : MethodName) (wd : Cond) (rm : Room) (args : List Value) (ws : va_W) (PR : Option Value → va_W → Prop) : Prop :=
  ∀ sz, Met l y [wd] rm (Pch D cy n0 ad args ws sz) (Qcc D (va_A ws sz) PR) rm.cells rm.slots (va_A ws sz)
def HC (own : String) (ET : List ExceptionTableEntry) (pc : Nat) (X : String) (tgt : Nat) : Prop := ∃ (pre : List ExceptionTableEntry) (x : ExceptionTableEntry) (suf : List ExceptionTableEntry), ET = pre ++ x :: suf ∧ (∀ z ∈ pre, z.catchType ≠ 0 ∧ ∃ nm : String, Cond.classLink own z.catchType nm ∈ GT ∧ ∀ U, NC U → va_Nc X nm U) ∧ covers x pc = true ∧ x.catchType ≠ 0 ∧ Cond.classLink own x.catchType X ∈ GT ∧ Cond.castable X X ∈ GT ∧ x.handlerPc = tgt
section JH
variable {l : Launch} {D : va_G} {cy : Nat → ClassId} {n0 : Nat} {ad : Nat → Nat} {own : String} {cc : ByteArray} {nL : Nat} {ret : Option FieldType} {R : Room} {A : Nat → Prop} {PR : Option Value → va_W → Prop} {PX : String → va_W → Prop} {XS : State → Prop} {fin : Bool} {ET : List ExceptionTableEntry} {J : JT}
variable {ws wc : va_W} {ce sl pc : Nat} {lv : List (Nat × Value)} {st rest As : List Value} {y : MethodName} {bytes : ByteArray} {maxL : Nat} {rt : Option FieldType} {rm : Room} {PR1 : Option Value → va_W → Prop} {PX1 : String → va_W → Prop} {idx a : Nat}
theorem CTH.walk {y : MethodName} {rm : Room} {args : List Value} {hh : List (Nat × Nat × Nat × Nat)} (hfl : l.stackTraces = false) (hy : plainName y.cls = true) (hn : (lg_sl args).length ≤ nL)
    (h : ∀ A J, Cx l D cy n0 ad y.cls cc nL ret rm A PR (fun _ _ => False) NC true (tableOf hh) J → J ws 0 0 0 (lv_args 0 args) []) : CTH l D cy n0 ad y (.codeWith y cc nL ret hh) rm args ws PR := by
  intro sz
  have h0 : vx_Met l y [.codeWith y cc nL ret hh] rm (Pch D cy n0 ad args ws sz) (Qcc D (va_A ws sz) PR) (Xcc D (va_A ws sz) (fun _ _ => False)) rm.cells rm.slots (va_A ws sz) := by
    refine vx_ofWH hy rfl ?_
    intro p e s m args' below meth c s₁ B hml hv
    obtain ⟨⟨rfl, hsz, hK, hP, hD⟩, hN⟩ := hv
    subst hsz
    have hET : c.exceptionTable.toList = tableOf hh := vx_table (x := y) B (atoms_spec (ws := [.codeWith y cc nL ret hh]) B.pre _ List.mem_cons_self)
    have hl := lv_entry args (n := nL) hn
    rw [lg_entry_eq]
    exact h (va_A ws s.heap.size) _ ⟨p, e, s, m, args.toArray, below, meth, c, _, ⟨B.exec, B.bytes, hml, findClass_of_methodNamed B.named⟩, hK, fun q h => Or.inr h, fun q h => by
      rcases h with ⟨k, e, h⟩ | h
      · exact hD.2 k _ h
      · exact Nat.le_trans hK.2.2.1 h, ⟨B.returns, B.notSynchronized, hET, hfl⟩, hN, fun _ => rfl, rfl⟩ s.heap [] _ hP (hD.self) va_S.rf hl
  intro p e h1 h2 h3 s m ar below h4 h5 h6 h7
  obtain ⟨n, o, a1, a2, a3, a4⟩ := h0 p e h1 h2 h3 s m ar below h4 h5 h6 h7
  refine ⟨n, o, a1, a2, a3, ?_⟩
  rcases a4 with a4 | ⟨q, -, E, ce, L, ⟨⟨ws, hF, -⟩, -⟩, -⟩
  · exact a4
  · exact hF.elim
theorem j_callVXh {q0 ci : Nat} {fs : List Value} {T : u_T} {n : Nat} (hJ : Cx l D cy n0 ad own cc nL ret R A PR PX NC true ET J) (hM : CV l D cy n0 ad y (.code y bytes maxL rt) rm (.ref a :: As) wc PR1 PX1) (hF : MX own idx 0 y As.length) (hw : Cond.code y bytes maxL rt ∈ GT) (he : wc[q0]? = some (a, .inr (ci, fs))) (hc : vwCl[ci]? = some (y.cls, T, n))
    (hR : rm.frames + 1 ≤ R.frames ∧ 8 + (maxL + 11) + rm.locals ≤ R.locals) (hce : ce + rm.cells ≤ R.cells ∧ sl + rm.slots ≤ R.slots) (hst : (rest.map fun v => v.category).sum ≤ 8) (hd : decode cc pc = .ok (.invokevirtual idx, 3))
    {as : List Value} (has : as = As.reverse ++ .ref a :: rest)
    (hx : ∀ X u, PX1 X u → ∃ tgt, HC own ET pc X tgt ∧ ∀ q, J u (ce + rm.cells) (sl + rm.slots) tgt lv [.ref q])
    (kk : ∀ v u, PR1 v u → J u (ce + rm.cells) (sl + rm.slots) (pc + 3) lv (v.toList ++ rest)) : J wc ce sl pc lv as := by
  subst has
  obtain ⟨p, e, s, m, args, below, meth, c, Q, ⟨hx0, hb, hml, hown⟩, hK, hA, hAn, hMm, hXS, hQ, rfl⟩ := hJ
  intro H locs ls hP hD hS hl
  obtain ⟨f1, f2, f3, f4, f5, -⟩ := hF
  obtain ⟨f6, f7⟩ := f5 rfl
  have hTB := hK.2.1
  have hrv := va_recv (a := a) hK.1 hP hc he
  have hP' : va_P D vwCl (wc ++ []) H := by rw [List.append_nil]; exact hP
  have hD' : va_D A (wc ++ []) := by rw [List.append_nil]; exact hD
  have hFc := call_free hA hD' hS
  refine w_callX (vx_runV (Ts := []) ⟨hx0, hb, hml, hown, fun _ h => nomatch h⟩ (hM H.size) ⟨⟨rfl, rfl, hR.1, hR.2, wd_all rfl hTB hw, List.mem_cons_self, hTB.good hw rfl, hTB.good f2 rfl, f3, desc_n f4, hTB.good f1 rfl⟩, hTB.good f6 rfl, hTB.good f7 rfl⟩ ⟨Pcc.blind, hrv, call_pre hK hAn hP' hD' hS⟩ rfl rfl hl.1 rfl (lv_room hst) hd hce) hS (fun q _ h => hFc q h) hFc (fun X cel q9 u H1 locs1 hp hP1 hD1 hz1 hk1 hS1 g1 g2 g3 => ?_) (fun v u H1 locs1 hp hP1 hD1 hz1 hk1 hS1 => ?_)
  · obtain ⟨tgt, ⟨pre, x, suf, e1, e2, e3, e4, e5, e6, rfl⟩, kx⟩ := hx X u hp
    exact vx_catch hown pre x suf (by rw [hMm.2.2.1]; exact e1) (fun z hz => by
      obtain ⟨z1, nm, z2, z3⟩ := e2 z hz
      exact Or.inr ⟨z1, nm, hTB.good z2 rfl, z3 s hXS⟩) e3 e4 (hTB.good e5 rfl) (hTB.nest e6 rfl) g1 g2 g3 (kx q9 H1 locs1 ls hP1 (hD1.weaken (fun _ q _ h => hFc q.1 h)) hS1 hl)
  · exact kk v u hp H1 locs1 ls hP1 (hD1.weaken (fun _ q _ h => hFc q.1 h)) hS1 hl
theorem j_lastore {q0 : Nat} {f : Nat → Int64} {x : Int64} (hJ : Cx l D cy n0 ad own cc nL ret R A PR PX XS fin ET J) (he : ws[q0]? = some (a, .inl (cy 4, 1, .inr (.inl f)))) (hd : decode cc pc = .ok (.lastore, 1))
    (kk : ∀ f', f' 0 = x → J (ws.set q0 (a, .inl (cy 4, 1, .inr (.inl f')))) ce sl (pc + 1) lv st) : J ws ce sl pc lv (.long x :: .int (zI 0) :: .ref a :: st) := by
  obtain ⟨p, e, s, m, args, below, meth, c, Q, ⟨hx, hb, hml, hown⟩, hK, hA, hAn, hM, hXS, hQ, rfl⟩ := hJ
  intro H locs ls hP hD hS hl
  refine va_last hx hb hK.1 hP hD hS q0 4 he rfl (zI_in (Int.le_refl 0) (by decide) (by decide)) hd (fun H1 locs1 hP hD hS => ?_)
  exact kk _ (by rw [zI_cl (Int.le_refl 0) (by decide)]; simp [vp_updL]) H1 locs1 ls hP hD hS hl
theorem j_laload {q0 : Nat} {f : Nat → Int64} (hJ : Cx l D cy n0 ad own cc nL ret R A PR PX XS fin ET J) (he : ws[q0]? = some (a, .inl (cy 4, 1, .inr (.inl f)))) (hd : decode cc pc = .ok (.laload, 1))
    (kk : J ws ce sl (pc + 1) lv (.long (f 0) :: st)) : J ws ce sl pc lv (.int (zI 0) :: .ref a :: st) := by
  obtain ⟨p, e, s, m, args, below, meth, c, Q, ⟨hx, hb, hml, hown⟩, hK, hA, hAn, hM, hXS, hQ, rfl⟩ := hJ
  intro H locs ls hP hD hS hl
  refine va_lald hx hb hK.1 hP q0 4 he rfl (zI_in (Int.le_refl 0) (by decide) (by decide)) hd ?_
  rw [zI_cl (Int.le_refl 0) (by decide)]
  exact kk H locs ls hP hD hS hl
theorem j_i2l {x : Int32} (hJ : Cx l D cy n0 ad own cc nL ret R A PR PX XS fin ET J) (hd : decode cc pc = .ok (.i2l, 1)) (k : J ws ce sl (pc + 1) lv (.long x.toInt64 :: st)) : J ws ce sl pc lv (.int x :: st) := by
  obtain ⟨p, e, s, m, args, below, meth, c, Q, ⟨hx, hb, hml, hown⟩, hK, hA, hAn, hM, hXS, hQ, rfl⟩ := hJ
  intro H locs ls hP hD hS hl
  exact lv_i2l hx hb hd rfl (k H locs ls hP hD hS hl)
theorem j_lconst {n : Fin 2} {v : Int64} (hJ : Cx l D cy n0 ad own cc nL ret R A PR PX XS fin ET J) (hv : Int64.ofNat (n : Nat) = v) (hd : decode cc pc = .ok (.lconst n, 1)) (k : J ws ce sl (pc + 1) lv (.long v :: st)) : J ws ce sl pc lv st := by
  obtain ⟨p, e, s, m, args, below, meth, c, Q, ⟨hx, hb, hml, hown⟩, hK, hA, hAn, hM, hXS, hQ, rfl⟩ := hJ
  intro H locs ls hP hD hS hl
  exact lv_lconst hx hb hd hv (k H locs ls hP hD hS hl)
theorem j_lcmp {x z : Int64} (hJ : Cx l D cy n0 ad own cc nL ret R A PR PX XS fin ET J) (hv : x = z) (hd : decode cc pc = .ok (.lcmp, 1)) (k : J ws ce sl (pc + 1) lv (.int (zI 0) :: st)) : J ws ce sl pc lv (.long z :: .long x :: st) := by
  obtain ⟨p, e, s, m, args, below, meth, c, Q, ⟨hx, hb, hml, hown⟩, hK, hA, hAn, hM, hXS, hQ, rfl⟩ := hJ
  intro H locs ls hP hD hS hl
  refine W.lcmp hx hb hd ?_
  have e1 : lg_cmp x z = zI 0 := by subst hv; simp [lg_cmp]; rfl
  rw [e1]
  exact k H locs ls hP hD hS hl
end JH
theorem out_at {N : Nat} {sh : Nat → Sh} {cy : Nat → ClassId} {b : Nat → Nat} {μ : Nat → Int → Int} {c : Nat × va_E} {E : va_W} : (gw N sh cy b μ ++ (c :: E))[N]? = some c := by
  rw [List.getElem?_append_right (by rw [gw_len]; exact Nat.le_refl _), gw_len, Nat.sub_self]; rfl
theorem out_set {N : Nat} {sh : Nat → Sh} {cy : Nat → ClassId} {b : Nat → Nat} {μ : Nat → Int → Int} {c c' : Nat × va_E} {E : va_W} : (gw N sh cy b μ ++ (c :: E)).set N c' = gw N sh cy b μ ++ (c' :: E) := by
  rw [List.set_append_right _ _ (by rw [gw_len]; exact Nat.le_refl _), gw_len, Nat.sub_self]; rfl
/-- the number that a helper answers for a throw: its place among those that are caught -/
def ecode : List String → String → Int
  | [], _ => 1
  | x :: l, X => if X = x then 1 else 1 + ecode l X
