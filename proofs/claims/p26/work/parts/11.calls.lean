section JC
variable {l : Launch} {D : va_G} {cy : Nat → ClassId} {n0 : Nat} {ad : Nat → Nat} {own : String} {cc : ByteArray} {nL : Nat} {ret : Option FieldType} {R : Room} {A : Nat → Prop} {PR : Option Value → va_W → Prop} {PX : String → va_W → Prop} {XS : State → Prop} {fin : Bool} {ET : List ExceptionTableEntry} {J : JT}
/-- a contract out of a walk from the entry -/
theorem CV.walk {y : MethodName} {rm : Room} {args : List Value} {ws : va_W} (hfl : l.stackTraces = false) (hy : plainName y.cls = true) (hn : (lg_sl args).length ≤ nL)
    (h : ∀ A J, Cx l D cy n0 ad y.cls cc nL ret rm A PR PX (fun _ => True) true [] J → J ws 0 0 0 (lv_args 0 args) []) : CV l D cy n0 ad y (.code y cc nL ret) rm args ws PR PX := by
  intro sz
  refine vx_ofW hy rfl ?_
  intro p e s m args' below meth c s₁ B hml ht hv
  obtain ⟨rfl, hsz, hK, hP, hD⟩ := hv
  subst hsz
  have hET : c.exceptionTable.toList = [] := List.eq_nil_iff_forall_not_mem.mpr fun x hx => ht x hx
  have hl := lv_entry args (n := nL) hn
  rw [lg_entry_eq]
  exact h (va_A ws s.heap.size) _ ⟨p, e, s, m, args.toArray, below, meth, c, _, ⟨B.exec, B.bytes, hml, findClass_of_methodNamed B.named⟩, hK, fun q h => Or.inr h, fun q h => by
    rcases h with ⟨k, e, h⟩ | h
    · exact hD.2 k _ h
    · exact Nat.le_trans hK.2.2.1 h, ⟨B.returns, B.notSynchronized, hET, hfl⟩, trivial, fun _ => rfl, rfl⟩ s.heap [] _ hP (hD.self) va_S.rf hl
theorem CT.walk {y : MethodName} {rm : Room} {args : List Value} {ws : va_W} (hfl : l.stackTraces = false) (hy : plainName y.cls = true) (hn : (lg_sl args).length ≤ nL)
    (h : ∀ A J, Cx l D cy n0 ad y.cls cc nL ret rm A PR (fun _ _ => False) (fun _ => True) true [] J → J ws 0 0 0 (lv_args 0 args) []) : CT l D cy n0 ad y (.code y cc nL ret) rm args ws PR := CT.of (CV.walk hfl hy hn h)
theorem join_app {A0 : Nat → Prop} {cl : List vw_C} {wc E u : va_W} {H H1 : Heap} (hP : va_P D cl (wc ++ E) H) (hD : va_D A0 (wc ++ E)) (hk : ∀ q : Nat, q < H.size → ¬ va_A wc H.size q → H1[q]? = H[q]?) (hF : ∀ q, va_A wc H.size q → A0 q) (hP1 : va_P D cl u H1) (hD1 : va_D (va_A wc H.size) u) : va_P D cl (u ++ E) H1 ∧ va_D A0 (u ++ E) := by
  have g1 : ∀ (k : Nat) (q : Nat × va_E), E[k]? = some q → (wc ++ E)[wc.length + k]? = some q := by
    intro k q h
    rw [List.getElem?_append_right (by omega)]
    rw [show wc.length + k - wc.length = k by omega]; exact h
  have g0 : ∀ (k : Nat) (q : Nat × va_E), wc[k]? = some q → k < wc.length ∧ (wc ++ E)[k]? = some q := by
    intro k q h
    have hk := (List.getElem?_eq_some_iff.mp h).1
    exact ⟨hk, by rw [List.getElem?_append_left hk]; exact h⟩
  have apart : ∀ (k : Nat) (q : Nat × va_E), E[k]? = some q → q.1 < H.size ∧ ¬ va_A wc H.size q.1 := by
    intro k q hq
    have hl := (hP _ q (g1 k q hq)).lt
    refine ⟨hl, fun h => ?_⟩
    rcases h with ⟨j, e, h⟩ | h
    · obtain ⟨h1, h2⟩ := g0 j _ h
      have := hD.1 (wc.length + k) j q (q.1, e) (g1 k q hq) h2 rfl
      omega
    · omega
  refine ⟨va_P.app hP1 (fun k q hq => (hP _ q (g1 k q hq)).kept (hk q.1 (apart k q hq).1 (apart k q hq).2)), va_D.app (hD1.weaken (fun k q _ h => hF q.1 h)) ⟨fun i j x y hx hy hxy => ?_, fun k q hq => hD.2 _ q (g1 k q hq)⟩ (fun i j x y hx hy hxy => ?_)⟩
  · have := hD.1 _ _ x y (g1 i x hx) (g1 j y hy) hxy
    omega
  · exact (apart j y hy).2 (by rw [← hxy]; exact hD1.2 i x hx)
theorem va_P.left {cl : List vw_C} {w1 w2 : va_W} {H : Heap} (h : va_P D cl (w1 ++ w2) H) : va_P D cl w1 H := fun k q hq => h k q (by rw [List.getElem?_append_left (List.getElem?_eq_some_iff.mp hq).1]; exact hq)
theorem va_D.left {A0 : Nat → Prop} {w1 w2 : va_W} (h : va_D A0 (w1 ++ w2)) : va_D A0 w1 := by
  have g : ∀ (k : Nat) (q : Nat × va_E), w1[k]? = some q → (w1 ++ w2)[k]? = some q := fun k q hq => by rw [List.getElem?_append_left (List.getElem?_eq_some_iff.mp hq).1]; exact hq
  exact ⟨fun i j x y hx hy e => h.1 i j x y (g i x hx) (g j y hy) e, fun k q hq => h.2 k q (g k q hq)⟩
theorem va_P_iff {cl : List vw_C} {ws : va_W} {H : Heap} : va_P D cl ws H ↔ ∀ q ∈ ws, va_at D cl q H := by
  constructor
  · intro h q hq
    obtain ⟨k, hk⟩ := List.getElem?_of_mem hq
    exact h k q hk
  · intro h k q hq
    exact h q (List.mem_of_getElem? hq)
theorem va_D_iff {A0 : Nat → Prop} {ws : va_W} : va_D A0 ws ↔ (ws.map Prod.fst).Nodup ∧ ∀ q ∈ ws, A0 q.1 := by
  constructor
  · intro h
    refine ⟨?_, fun q hq => ?_⟩
    · rw [List.nodup_iff_pairwise_ne, List.pairwise_iff_getElem]
      intro i j hi hj hij e
      simp at hi hj
      have := h.1 i j ws[i] ws[j] (List.getElem?_eq_getElem hi) (List.getElem?_eq_getElem hj) (by simpa using e)
      omega
    · obtain ⟨k, hk⟩ := List.getElem?_of_mem hq
      exact h.2 k q hk
  · intro ⟨h1, h2⟩
    refine ⟨fun i j p q hp hq e => ?_, fun k q hq => h2 q (List.mem_of_getElem? hq)⟩
    rw [List.nodup_iff_pairwise_ne, List.pairwise_iff_getElem] at h1
    obtain ⟨hi, ei⟩ := List.getElem?_eq_some_iff.mp hp
    obtain ⟨hj, ej⟩ := List.getElem?_eq_some_iff.mp hq
    rcases Nat.lt_trichotomy i j with g | g | g
    · exact absurd (show (ws.map Prod.fst)[i]'(by simpa using hi) = (ws.map Prod.fst)[j]'(by simpa using hj) by rw [List.getElem_map, List.getElem_map, ei, ej]; exact e) (h1 i j (by simpa using hi) (by simpa using hj) g)
    · exact g
    · exact absurd (show (ws.map Prod.fst)[j]'(by simpa using hj) = (ws.map Prod.fst)[i]'(by simpa using hi) by rw [List.getElem_map, List.getElem_map, ei, ej]; exact e.symm) (h1 j i (by simpa using hj) (by simpa using hi) g)
theorem j_perm {ws ws' : va_W} {ce sl pc : Nat} {lv : List (Nat × Value)} {st : List Value} (hJ : Cx l D cy n0 ad own cc nL ret R A PR PX XS fin ET J) (h : ws.Perm ws') (k : J ws' ce sl pc lv st) : J ws ce sl pc lv st := by
  obtain ⟨p, e, s, m, args, below, meth, c, Q, ⟨hx, hb, hml, hown⟩, hK, hA, hAn, hM, hXS, hQ, rfl⟩ := hJ
  intro H locs ls hP hD hS hl
  exact k H locs ls (va_P_iff.mpr fun q hq => va_P_iff.mp hP q (h.mem_iff.mpr hq)) (va_D_iff.mpr ⟨((h.map Prod.fst).nodup_iff).mp (va_D_iff.mp hD).1, fun q hq => (va_D_iff.mp hD).2 q (h.mem_iff.mpr hq)⟩) hS hl
section WC
variable {p : Program} {e : Env} {s : State} {m : MethodId} {args : Array Value} {below : List Frame} {meth : Method} {c : Code} {H : Heap} {locs : List Loc} {cells slots : Nat} {Q : State → Prop}
theorem w_call {A1 A0 free : Nat → Prop} {PR1 : Option Value → va_W → Prop} {a : Array Value} {H0 : Heap} {mc ms pc : Nat} {ls : Array Slot} {st0 rest : List Value} (hr : va_Run p l e R s m args below meth c H locs cells slots mc ms (F0 m pc ls st0) rest (Qcc D A1 PR1 a) free) (hS : va_S A0 H0 H locs) (hA : ∀ q, q < H.size → A1 q → A0 q) (hf : ∀ q, free q → A0 q)
    (kk : ∀ (v : Option Value) (u : va_W) (H1 : Heap) (locs1 : List Loc), PR1 v u → va_P D vwCl u H1 → va_D A1 u → H.size ≤ H1.size → (∀ q : Nat, q < H.size → ¬ A1 q → H1[q]? = H[q]?) → va_S A0 H0 H1 locs1 → W p l e R s m args below meth c H1 locs1 (cells + mc) (slots + ms) Q (F0 m (pc + 3) ls (v.toList ++ rest))) : W p l e R s m args below meth c H locs cells slots Q (F0 m pc ls st0) := by
  intro T hT X
  obtain ⟨v, st₀, t, T', L, h0, X', hL, e1, e2, ⟨⟨v', u, hv, hp, hb, hd⟩, hz, hk⟩, st⟩ := hr T hT X
  obtain rfl : v = v' := Outcome.returned.inj hv
  rw [h0] at hz hk
  obtain ⟨t2, a1, b1⟩ := kk v u T'.heap (locs ++ L) hp (by rw [e1]; exact hb) hd (by rw [e1]; exact hz) (fun q h1 h2 => by rw [e1]; exact hk q h1 h2)
    ⟨Nat.le_trans hS.1 (by rw [e1]; exact hz), fun q h1 h2 => by rw [e1, hk q (Nat.lt_of_lt_of_le h1 hS.1) (fun z => h2 (hA q (Nat.lt_of_lt_of_le h1 hS.1) z))]; exact hS.2.1 q h1 h2, fun q hq => by
      rcases List.mem_append.mp hq with h | h
      · exact hS.2.2 q h
      · exact hf _ (hL q h)⟩ T' rfl X'
  exact ⟨t2, st t2 a1, b1⟩
theorem w_callX {A1 A0 free : Nat → Prop} {PR1 : Option Value → va_W → Prop} {PX1 : String → va_W → Prop} {a : Array Value} {H0 : Heap} {mc ms pc : Nat} {ls : Array Slot} {st0 rest : List Value} (hr : vx_Run p l e R s m args below meth c H locs cells slots mc ms (F0 m pc ls st0) rest (Qcc D A1 PR1 a) (Xcc D A1 PX1) free) (hS : va_S A0 H0 H locs) (hA : ∀ q, q < H.size → A1 q → A0 q) (hf : ∀ q, free q → A0 q)
    (kx : ∀ (E : String) (ce : Cell) (q9 : Addr) (u : va_W) (H1 : Heap) (locs1 : List Loc), PX1 E u → va_P D vwCl u H1 → va_D A1 u → H.size ≤ H1.size → (∀ q : Nat, q < H.size → ¬ A1 q → H1[q]? = H[q]?) → va_S A0 H0 H1 locs1 → H1[q9]? = some ce → ce.vm = .none → s.vm.findClass E = some ce.cls → vx_W p l e R s m args below meth c H1 locs1 (cells + mc) (slots + ms) Q (F0 m pc ls rest) q9)
    (kk : ∀ (v : Option Value) (u : va_W) (H1 : Heap) (locs1 : List Loc), PR1 v u → va_P D vwCl u H1 → va_D A1 u → H.size ≤ H1.size → (∀ q : Nat, q < H.size → ¬ A1 q → H1[q]? = H[q]?) → va_S A0 H0 H1 locs1 → W p l e R s m args below meth c H1 locs1 (cells + mc) (slots + ms) Q (F0 m (pc + 3) ls (v.toList ++ rest))) : W p l e R s m args below meth c H locs cells slots Q (F0 m pc ls st0) := by
  intro T hT X
  rcases hr T hT X with ⟨v, st₀, t, T', L, h0, X', hL, e1, e2, ⟨⟨v', u, hv, hp, hb, hd⟩, hF⟩, st⟩ | ⟨q, st₀, t, T', L, E, ce, h0, X', hL, e1, e2, ⟨⟨u, hp, hb, hd⟩, hF⟩, hce, hcv, hcl, st⟩
  · obtain rfl : v = v' := Outcome.returned.inj hv
    obtain ⟨k1, k2, k3⟩ := vx_keep h0 e1 hS hA hf hL hF
    obtain ⟨t2, a1, b1⟩ := kk v u T'.heap (locs ++ L) hp (by rw [e1]; exact hb) hd k1 k2 k3 T' rfl X'
    exact ⟨t2, st t2 a1, b1⟩
  · obtain ⟨k1, k2, k3⟩ := vx_keep h0 e1 hS hA hf hL hF
    obtain ⟨t2, a1, b1⟩ := kx E ce q u T'.heap (locs ++ L) hp (by rw [e1]; exact hb) hd k1 k2 k3 (by rw [e1]; exact hce) hcv hcl T' rfl X'
    exact ⟨t2, st.trans a1, b1⟩
end WC
/-! what the tables say of a call's entry: 0 virtual, 1 static, 2 a constructor -/
def MF (own : String) (idx : Nat) (kd : Nat) (y : MethodName) (n : Nat) : Prop := (Cond.methodLink own idx y ∈ GT ∨ Cond.methodLinkNest own idx y RX4 ∈ GT) ∧ Cond.initialized y.cls ∈ GT ∧ (y.cls ≠ "java/lang/invoke/MethodHandle" ∧ y.cls ≠ "java/lang/invoke/VarHandle") ∧ (parseMethodDescriptor y.desc).map (fun d => d.parameters.length) = some n ∧
  (kd = 0 → Cond.instanceMethod y ∈ GT ∧ Cond.selects y.cls y y ∈ GT) ∧ (kd = 1 → Cond.static y ∈ GT) ∧ (kd = 2 → Cond.instanceMethod y ∈ GT ∧ y.name = "<init>")
theorem desc_n {y : MethodName} {n : Nat} (h : (parseMethodDescriptor y.desc).map (fun d => d.parameters.length) = some n) : ∀ sig, parseMethodDescriptor y.desc = some sig → n = sig.parameters.length := by
  intro sig h2
  rw [h2] at h
  exact (Option.some.inj h).symm
theorem wd_all {s : State} {wd : Cond} (hg : goodWord wd = true) (h : TB s) (hw : wd ∈ GT) : ∀ w ∈ [wd], ∀ (a' : Array Value) (U : State), s.WarmedH U.vm → w.before a' U = true := by
  intro w h1 a' U hW
  rw [List.mem_singleton.mp h1]
  exact (h.warm hW).good hw hg
section JCall
variable {wc E : va_W} {ce sl pc : Nat} {lv : List (Nat × Value)} {rest As : List Value} {y : MethodName} {bytes : ByteArray} {maxL : Nat} {rt : Option FieldType} {rm : Room} {PR1 : Option Value → va_W → Prop} {PX1 : String → va_W → Prop} {idx a : Nat}
theorem call_pre {s : State} {H : Heap} {locs : List Loc} {av : List Value} (hK : KK D cy n0 ad s) (hAn : ∀ q, A q → n0 ≤ q) (hP : va_P D vwCl (wc ++ E) H) (hD : va_D A (wc ++ E)) (hS : va_S A s.heap H locs) : ∀ U : State, U.heap = H → s.WarmedH U.vm → Pcc D cy n0 ad av wc H.size av.toArray U := by
  intro U hU hW
  refine ⟨rfl, by rw [hU], KK.moved hW (by rw [hU]; exact hS.1) (fun q h1 h2 => by rw [hU]; exact hS.2.1 q h1 (fun h => h2 (hAn q h))) hK, by rw [hU]; exact hP.left, hD.left.weaken (fun k q _ h => hAn _ h)⟩
theorem call_free {s : State} {H : Heap} {locs : List Loc} (hA : ∀ q, s.heap.size ≤ q → A q) (hD : va_D A (wc ++ E)) (hS : va_S A s.heap H locs) : ∀ q, va_A wc H.size q → A q := by
  intro q h
  rcases h with ⟨k, e, h⟩ | h
  · exact hD.left.2 k _ h
  · exact hA q (Nat.le_trans hS.1 h)
/-- a virtual call of a method that returns -/
theorem j_callV {q0 ci : Nat} {fs : List Value} {T : u_T} {n : Nat} (hJ : Cx l D cy n0 ad own cc nL ret R A PR PX XS fin ET J) (hM : CT l D cy n0 ad y (.code y bytes maxL rt) rm (.ref a :: As) wc PR1) (hF : MF own idx 0 y As.length) (hw : Cond.code y bytes maxL rt ∈ GT) (he : wc[q0]? = some (a, .inr (ci, fs))) (hc : vwCl[ci]? = some (y.cls, T, n))
    (hR : rm.frames + 1 ≤ R.frames ∧ 8 + (maxL + 11) + rm.locals ≤ R.locals) (hce : ce + rm.cells ≤ R.cells ∧ sl + rm.slots ≤ R.slots) (hst : (rest.map fun v => v.category).sum ≤ 8) (hd : decode cc pc = .ok (.invokevirtual idx, 3))
    {as : List Value} (has : as = As.reverse ++ .ref a :: rest)
    (kk : ∀ v u, PR1 v u → J (u ++ E) (ce + rm.cells) (sl + rm.slots) (pc + 3) lv (v.toList ++ rest)) : J (wc ++ E) ce sl pc lv as := by
  subst has
  obtain ⟨p, e, s, m, args, below, meth, c, Q, ⟨hx, hb, hml, hown⟩, hK, hA, hAn, hMm, hXS, hQ, rfl⟩ := hJ
  intro H locs ls hP hD hS hl
  obtain ⟨f1, f2, f3, f4, f5, -, -⟩ := hF
  obtain ⟨f6, f7⟩ := f5 rfl
  have hTB := hK.2.1
  have hrv := va_recv (a := a) hK.1 hP.left hc he
  have hFc := call_free hA hD hS
  have hr : va_Run p l e R s m args below meth c H locs ce sl rm.cells rm.slots (F0 m pc ls (As.reverse ++ .ref a :: rest)) rest (Qcc D (va_A wc H.size) PR1 (Value.ref a :: As).toArray) (va_A wc H.size) := by
    rcases f1 with f1 | f1
    · exact va_runV (Ts := []) ⟨hx, hb, hml, hown, fun _ h => nomatch h⟩ (hM H.size) ⟨⟨rfl, rfl, hR.1, hR.2, wd_all rfl hTB hw, List.mem_cons_self, hTB.good hw rfl, hTB.good f2 rfl, f3, desc_n f4, hTB.good f1 rfl⟩, hTB.good f6 rfl, hTB.good f7 rfl⟩ ⟨Pcc.blind, hrv, call_pre hK hAn hP hD hS⟩ rfl rfl hl.1 rfl (lv_room hst) hd hce
    · exact va_runVN (Ts := []) ⟨hx, hb, hml, hown, fun _ h => nomatch h⟩ (hM H.size) ⟨⟨⟨rfl, rfl, hR.1, hR.2, wd_all rfl hTB hw, List.mem_cons_self⟩, hTB.good hw rfl, hTB.good f2 rfl, f3, desc_n f4, hTB.nest f1 rfl⟩, hTB.good f6 rfl, hTB.good f7 rfl⟩ ⟨Pcc.blind, hrv, call_pre hK hAn hP hD hS⟩ rfl rfl hl.1 rfl (lv_room hst) hd hce
  refine w_call hr hS (fun q _ h => hFc q h) hFc (fun v u H1 locs1 hp hP1 hD1 hz1 hk1 hS1 => ?_)
  obtain ⟨hP2, hD2⟩ := join_app hP hD hk1 hFc hP1 hD1
  exact kk v u hp H1 locs1 ls hP2 hD2 hS1 hl
theorem j_callS (hJ : Cx l D cy n0 ad own cc nL ret R A PR PX XS fin ET J) (hM : CT l D cy n0 ad y (.code y bytes maxL rt) rm As wc PR1) (hF : MF own idx 1 y As.length) (hw : Cond.code y bytes maxL rt ∈ GT)
    (hR : rm.frames + 1 ≤ R.frames ∧ 8 + (maxL + 11) + rm.locals ≤ R.locals) (hce : ce + rm.cells ≤ R.cells ∧ sl + rm.slots ≤ R.slots) (hst : (rest.map fun v => v.category).sum ≤ 8) (hd : decode cc pc = .ok (.invokestatic idx, 3))
    {as : List Value} (has : as = As.reverse ++ rest)
    (kk : ∀ v u, PR1 v u → J (u ++ E) (ce + rm.cells) (sl + rm.slots) (pc + 3) lv (v.toList ++ rest)) : J (wc ++ E) ce sl pc lv as := by
  subst has
  obtain ⟨p, e, s, m, args, below, meth, c, Q, ⟨hx, hb, hml, hown⟩, hK, hA, hAn, hMm, hXS, hQ, rfl⟩ := hJ
  intro H locs ls hP hD hS hl
  obtain ⟨f1, f2, f3, f4, -, f5, -⟩ := hF
  have f6 := f5 rfl
  have hTB := hK.2.1
  have hFc := call_free hA hD hS
  have hr : va_Run p l e R s m args below meth c H locs ce sl rm.cells rm.slots (F0 m pc ls (As.reverse ++ rest)) rest (Qcc D (va_A wc H.size) PR1 As.toArray) (va_A wc H.size) := by
    rcases f1 with f1 | f1
    · exact va_runS (Ts := []) ⟨hx, hb, hml, hown, fun _ h => nomatch h⟩ (hM H.size) ⟨⟨rfl, rfl, hR.1, hR.2, wd_all rfl hTB hw, List.mem_cons_self, hTB.good hw rfl, hTB.good f2 rfl, f3, desc_n f4, hTB.good f1 rfl⟩, hTB.good f6 rfl⟩ ⟨Pcc.blind, call_pre hK hAn hP hD hS⟩ rfl rfl hl.1 rfl (lv_room hst) hd hce
    · exact va_runSN (Ts := []) ⟨hx, hb, hml, hown, fun _ h => nomatch h⟩ (hM H.size) ⟨⟨⟨rfl, rfl, hR.1, hR.2, wd_all rfl hTB hw, List.mem_cons_self⟩, hTB.good hw rfl, hTB.good f2 rfl, f3, desc_n f4, hTB.nest f1 rfl⟩, hTB.good f6 rfl, trivial⟩ ⟨Pcc.blind, call_pre hK hAn hP hD hS⟩ rfl rfl hl.1 rfl (lv_room hst) hd hce
  refine w_call hr hS (fun q _ h => hFc q h) hFc (fun v u H1 locs1 hp hP1 hD1 hz1 hk1 hS1 => ?_)
  obtain ⟨hP2, hD2⟩ := join_app hP hD hk1 hFc hP1 hD1
  exact kk v u hp H1 locs1 ls hP2 hD2 hS1 hl
theorem j_callI (hJ : Cx l D cy n0 ad own cc nL ret R A PR PX XS fin ET J) (hM : CT l D cy n0 ad y (.code y bytes maxL none) rm (.ref a :: As) wc PR1) (hF : MF own idx 2 y As.length) (hw : Cond.code y bytes maxL none ∈ GT)
    (hR : rm.frames + 1 ≤ R.frames ∧ 8 + (maxL + 11) + rm.locals ≤ R.locals) (hce : ce + rm.cells ≤ R.cells ∧ sl + rm.slots ≤ R.slots) (hst : (rest.map fun v => v.category).sum ≤ 8) (hd : decode cc pc = .ok (.invokespecial idx, 3))
    {as : List Value} (has : as = As.reverse ++ .ref a :: rest)
    (kk : ∀ v u, PR1 v u → J (u ++ E) (ce + rm.cells) (sl + rm.slots) (pc + 3) lv (v.toList ++ rest)) : J (wc ++ E) ce sl pc lv as := by
  subst has
  obtain ⟨p, e, s, m, args, below, meth, c, Q, ⟨hx, hb, hml, hown⟩, hK, hA, hAn, hMm, hXS, hQ, rfl⟩ := hJ
  intro H locs ls hP hD hS hl
  obtain ⟨f1, f2, f3, f4, -, -, f5⟩ := hF
  obtain ⟨f6, f7⟩ := f5 rfl
  have hTB := hK.2.1
  have hFc := call_free hA hD hS
  have hr : va_Run p l e R s m args below meth c H locs ce sl rm.cells rm.slots (F0 m pc ls (As.reverse ++ .ref a :: rest)) rest (Qcc D (va_A wc H.size) PR1 (Value.ref a :: As).toArray) (va_A wc H.size) := by
    rcases f1 with f1 | f1
    · exact va_runI (Ts := []) ⟨hx, hb, hml, hown, fun _ h => nomatch h⟩ (hM H.size) ⟨⟨rfl, rfl, hR.1, hR.2, wd_all rfl hTB hw, List.mem_cons_self, hTB.good hw rfl, hTB.good f2 rfl, f3, desc_n f4, hTB.good f1 rfl⟩, f7, hTB.good f6 rfl⟩ ⟨Pcc.blind, call_pre hK hAn hP hD hS⟩ rfl rfl hl.1 rfl (lv_room hst) hd hce
    · exact va_runIN (Ts := []) ⟨hx, hb, hml, hown, fun _ h => nomatch h⟩ (hM H.size) ⟨⟨⟨rfl, rfl, hR.1, hR.2, wd_all rfl hTB hw, List.mem_cons_self⟩, hTB.good hw rfl, hTB.good f2 rfl, f3, desc_n f4, hTB.nest f1 rfl⟩, f7, hTB.good f6 rfl⟩ ⟨Pcc.blind, call_pre hK hAn hP hD hS⟩ rfl rfl hl.1 rfl (lv_room hst) hd hce
  refine w_call hr hS (fun q _ h => hFc q h) hFc (fun v u H1 locs1 hp hP1 hD1 hz1 hk1 hS1 => ?_)
  obtain ⟨hP2, hD2⟩ := join_app hP hD hk1 hFc hP1 hD1
  exact kk v u hp H1 locs1 ls hP2 hD2 hS1 hl
end JCall
end JC
