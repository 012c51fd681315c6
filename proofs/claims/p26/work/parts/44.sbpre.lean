/-! calls inside StringBuilder: a method of the class above upon an object of the class, as a virtual call and as a super call -/
def MU (own : String) (idx : Nat) (y : MethodName) (n : Nat) : Prop := Cond.methodLink own idx y ∈ GT ∧ Cond.initialized y.cls ∈ GT ∧ (y.cls ≠ "java/lang/invoke/MethodHandle" ∧ y.cls ≠ "java/lang/invoke/VarHandle") ∧ (parseMethodDescriptor y.desc).map (fun d => d.parameters.length) = some n ∧ Cond.sameMethod y.cls y.cls y.name y.desc ∈ GT ∧ Cond.instanceMethod y ∈ GT ∧ Cond.selects RJ4 y y ∈ GT
def MP (own : String) (idx : Nat) (y : MethodName) (n : Nat) : Prop := Cond.methodLink own idx y ∈ GT ∧ Cond.initialized y.cls ∈ GT ∧ y.name ≠ "<init>" ∧ (parseMethodDescriptor y.desc).map (fun d => d.parameters.length) = some n ∧ Cond.sameMethod y.cls y.cls y.name y.desc ∈ GT ∧ Cond.instanceMethod y ∈ GT ∧ Cond.superclass own y.cls ∈ GT
section JU
variable {l : Launch} {D : va_G} {cy : Nat → ClassId} {n0 : Nat} {ad : Nat → Nat} {own : String} {cc : ByteArray} {nL : Nat} {ret : Option FieldType} {R : Room} {A : Nat → Prop} {PR : Option Value → va_W → Prop} {PX : String → va_W → Prop} {XS : State → Prop} {fin : Bool} {ET : List ExceptionTableEntry} {J : JT}
variable {wc E : va_W} {ce sl pc : Nat} {lv : List (Nat × Value)} {rest As : List Value} {y : MethodName} {bytes : ByteArray} {maxL : Nat} {rt : Option FieldType} {rm : Room} {PR1 : Option Value → va_W → Prop} {idx a q0 : Nat} {fs : List Value}
theorem j_callU (hJ : Cx l D cy n0 ad own cc nL ret R A PR PX XS fin ET J) (hM : CT l D cy n0 ad y (.code y bytes maxL rt) rm (.ref a :: As) wc PR1) (hF : MU own idx y As.length) (hw : Cond.code y bytes maxL rt ∈ GT) (he : wc[q0]? = some (a, .inr (0, fs)))
    (hR : rm.frames + 1 ≤ R.frames ∧ 8 + (maxL + 11) + rm.locals ≤ R.locals) (hce : ce + rm.cells ≤ R.cells ∧ sl + rm.slots ≤ R.slots) (hst : (rest.map fun v => v.category).sum ≤ 8) (hd : decode cc pc = .ok (.invokevirtual idx, 3))
    {as : List Value} (has : as = As.reverse ++ .ref a :: rest)
    (kk : ∀ v u, PR1 v u → J (u ++ E) (ce + rm.cells) (sl + rm.slots) (pc + 3) lv (v.toList ++ rest)) : J (wc ++ E) ce sl pc lv as := by
  subst has
  obtain ⟨p, e, s, m, args, below, meth, c, Q, ⟨hx, hb, hml, hown⟩, hK, hA, hAn, hMm, hXS, hQ, rfl⟩ := hJ
  intro H locs ls hP hD hS hl
  obtain ⟨f1, f2, f3, f4, f5, f6, f7⟩ := hF
  have hTB := hK.2.1
  have hrv := va_recv (a := a) (q := (RJ4, TJ4, 4)) hK.1 hP.left rfl he
  have hFc := call_free hA hD hS
  have hr : va_Run p l e R s m args below meth c H locs ce sl rm.cells rm.slots (F0 m pc ls (As.reverse ++ .ref a :: rest)) rest (Qcc D (va_A wc H.size) PR1 (Value.ref a :: As).toArray) (va_A wc H.size) :=
    va_runU (Ts := []) (x := y) (owner := y.cls) (C := RJ4) ⟨hx, hb, hml, hown, fun _ h => nomatch h⟩ (hM H.size) ⟨⟨rfl, rfl, hR.1, hR.2, wd_all rfl hTB hw, List.mem_cons_self⟩, hTB.good hw rfl, hTB.good f2 rfl, f3, desc_n f4, hTB.good f1 rfl, hTB.good f5 rfl, va_Decl.of (args := args) (hTB.good f6 rfl) (hTB.good hw rfl), hTB.good f7 rfl, hTB.good f6 rfl⟩ ⟨Pcc.blind, hrv, call_pre hK hAn hP hD hS⟩ rfl rfl hl.1 rfl (lv_room hst) hd hce
  refine w_call hr hS (fun q _ h => hFc q h) hFc (fun v u H1 locs1 hp hP1 hD1 hz1 hk1 hS1 => ?_)
  obtain ⟨hP2, hD2⟩ := join_app hP hD hk1 hFc hP1 hD1
  exact kk v u hp H1 locs1 ls hP2 hD2 hS1 hl
theorem j_callP (hJ : Cx l D cy n0 ad own cc nL ret R A PR PX XS fin ET J) (hM : CT l D cy n0 ad y (.code y bytes maxL rt) rm (.ref a :: As) wc PR1) (hF : MP own idx y As.length) (hw : Cond.code y bytes maxL rt ∈ GT) (he : wc[q0]? = some (a, .inr (0, fs)))
    (hR : rm.frames + 1 ≤ R.frames ∧ 8 + (maxL + 11) + rm.locals ≤ R.locals) (hce : ce + rm.cells ≤ R.cells ∧ sl + rm.slots ≤ R.slots) (hst : (rest.map fun v => v.category).sum ≤ 8) (hd : decode cc pc = .ok (.invokespecial idx, 3))
    {as : List Value} (has : as = As.reverse ++ .ref a :: rest)
    (kk : ∀ v u, PR1 v u → J (u ++ E) (ce + rm.cells) (sl + rm.slots) (pc + 3) lv (v.toList ++ rest)) : J (wc ++ E) ce sl pc lv as := by
  subst has
  obtain ⟨p, e, s, m, args, below, meth, c, Q, ⟨hx, hb, hml, hown⟩, hK, hA, hAn, hMm, hXS, hQ, rfl⟩ := hJ
  intro H locs ls hP hD hS hl
  obtain ⟨f1, f2, f3, f4, f5, f6, f7⟩ := hF
  have hTB := hK.2.1
  have hrv := va_recv (a := a) (q := (RJ4, TJ4, 4)) hK.1 hP.left rfl he
  have hFc := call_free hA hD hS
  obtain ⟨-, hfc, kC, hkC, hkind⟩ := hK.1.1 0 (RJ4, TJ4, 4) rfl
  have hr : va_Run p l e R s m args below meth c H locs ce sl rm.cells rm.slots (F0 m pc ls (As.reverse ++ .ref a :: rest)) rest (Qcc D (va_A wc H.size) PR1 (Value.ref a :: As).toArray) (va_A wc H.size) :=
    va_runSU (Ts := []) ⟨hfc, kC, hkC, hkind⟩ ⟨hx, hb, hml, hown, fun _ h => nomatch h⟩ (hM H.size) ⟨⟨rfl, rfl, hR.1, hR.2, wd_all rfl hTB hw, List.mem_cons_self⟩, hTB.good f1 rfl, hTB.good f5 rfl, hTB.good f7 rfl, hTB.good f6 rfl, hTB.good f2 rfl, hTB.good hw rfl, f3, desc_n f4⟩ ⟨Pcc.blind, hrv, call_pre hK hAn hP hD hS⟩ rfl rfl hl.1 rfl (lv_room hst) hd hce
  refine w_call hr hS (fun q _ h => hFc q h) hFc (fun v u H1 locs1 hp hP1 hD1 hz1 hk1 hS1 => ?_)
  obtain ⟨hP2, hD2⟩ := join_app hP hD hk1 hFc hP1 hD1
  exact kk v u hp H1 locs1 ls hP2 hD2 hS1 hl
end JU
