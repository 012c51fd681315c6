/-! constructors: a final field is stored; arrays of references; worlds of equal cells -/
def CxI (l : Launch) (D : va_G) (cy : Nat → ClassId) (n0 : Nat) (ad : Nat → Nat) (own : String) (cc : ByteArray) (nL : Nat) (ret : Option FieldType) (R : Room) (A : Nat → Prop) (PR : Option Value → va_W → Prop) (PX : String → va_W → Prop) (XS : State → Prop) (fin : Bool) (ET : List ExceptionTableEntry) (J : JT) : Prop :=
  ∃ (p : Program) (e : Env) (s : State) (m : MethodId) (args : Array Value) (below : List Frame) (meth : Method) (c : Code) (Q : State → Prop),
    meth.name = "<init>" ∧ (p.tables.exec = Jvm.exec ∧ c.code = cc ∧ c.maxLocals = nL ∧ s.vm.findClass own = some m.cls) ∧ KK D cy n0 ad s ∧ (∀ q, s.heap.size ≤ q → A q) ∧ (∀ q, A q → n0 ≤ q) ∧ (meth.sig.returnType = ret ∧ meth.locks = false ∧ c.exceptionTable.toList = ET ∧ l.stackTraces = false) ∧ XS s ∧
    (fin = true → Q = vx_MQ below (Qcc D A PR) (Xcc D A PX) args s R.cells R.slots A) ∧
    J = fun ws ce sl pc lv st => ∀ (H : Heap) (locs : List Loc) (ls : Array Slot), va_P D vwCl ws H → va_D A ws → va_S A s.heap H locs → lv_has ls nL lv → W p l e R s m args below meth c H locs ce sl Q (F0 m pc ls st)
section JI
variable {l : Launch} {D : va_G} {cy : Nat → ClassId} {n0 : Nat} {ad : Nat → Nat} {own : String} {cc : ByteArray} {nL : Nat} {ret : Option FieldType} {R : Room} {A : Nat → Prop} {PR : Option Value → va_W → Prop} {PX : String → va_W → Prop} {XS : State → Prop} {fin : Bool} {ET : List ExceptionTableEntry} {J : JT}
variable {ws E : va_W} {ce sl pc : Nat} {lv : List (Nat × Value)} {st : List Value}
theorem CxI.cx (hJ : CxI l D cy n0 ad own cc nL ret R A PR PX XS fin ET J) : Cx l D cy n0 ad own cc nL ret R A PR PX XS fin ET J := by
  obtain ⟨p, e, s, m, args, below, meth, c, Q, -, h⟩ := hJ
  exact ⟨p, e, s, m, args, below, meth, c, Q, h⟩
theorem CT.walkI {y : MethodName} {rm : Room} {args : List Value} (hfl : l.stackTraces = false) (hy : plainName y.cls = true) (hyn : y.name = "<init>") (hn : (lg_sl args).length ≤ nL)
    (h : ∀ A J, CxI l D cy n0 ad y.cls cc nL ret rm A PR (fun _ _ => False) (fun _ => True) true [] J → J ws 0 0 0 (lv_args 0 args) []) : CT l D cy n0 ad y (.code y cc nL ret) rm args ws PR := by
  refine CT.of ?_
  intro sz
  refine vx_ofW hy rfl ?_
  intro p e s m args' below meth c s₁ B hml ht hv
  obtain ⟨rfl, hsz, hK, hP, hD⟩ := hv
  subst hsz
  have hET : c.exceptionTable.toList = [] := List.eq_nil_iff_forall_not_mem.mpr fun x hx => ht x hx
  have hl := lv_entry args (n := nL) hn
  have hin : meth.name = "<init>" := ((name_of_methodNamed B.named B.method).1).trans hyn
  rw [lg_entry_eq]
  exact h (va_A ws s.heap.size) _ ⟨p, e, s, m, args.toArray, below, meth, c, _, hin, ⟨B.exec, B.bytes, hml, findClass_of_methodNamed B.named⟩, hK, fun q h => Or.inr h, fun q h => by
    rcases h with ⟨k, e, h⟩ | h
    · exact hD.2 k _ h
    · exact Nat.le_trans hK.2.2.1 h, ⟨B.returns, B.notSynchronized, hET, hfl⟩, trivial, fun _ => rfl, rfl⟩ s.heap [] _ hP (hD.self) va_S.rf hl
theorem j_putF {a q0 ci k idx : Nat} {fs : List Value} {C : String} {T : u_T} {n : Nat} (tys : Nat → FieldType) {v : Value} (hJ : CxI l D cy n0 ad own cc nL ret R A PR PX XS fin ET J) (he : ws[q0]? = some (a, .inr (ci, fs))) (h1 : vwCl[ci]? = some (C, T, n)) (h2 : k < n) (h3 : ∀ w ∈ u_ws C T n, w ∈ GT ∧ goodWord w = true) (h4 : ∀ j, j < n → parseFieldDescriptor (T j).2.2.1 = some (tys j)) (h6 : (T k).2.2.2 = true) (h7 : ∀ a, a < n → ∀ b, b < n → a ≠ b → (T a).2.1 ≠ (T b).2.1) (h8 : Cond.fieldLink own idx (T k).1 (T k).2.1 (T k).2.2.1 ∈ GT) (hdl : (T k).1 = own) (hn : narrow (tys k) v = v) (hfit : fits (tys k) v = true) (hlen : k < fs.length) (hd : decode cc pc = .ok (.putfield idx, 3))
    (kk : J (ws.set q0 (a, .inr (ci, fs.set k v))) ce sl (pc + 3) lv st) : J ws ce sl pc lv (v :: .ref a :: st) := by
  obtain ⟨p, e, s, m, args, below, meth, c, Q, hin, ⟨hx, hb, hml, hown⟩, hK, hA, hAn, hM, hXS, hQ, rfl⟩ := hJ
  intro H locs ls hP hD hS hl
  have hts : ∀ w ∈ u_ws C T n, w.before args s = true := fun w hw => hK.2.1.good (h3 w hw).1 (h3 w hw).2
  exact va_putF hx hb hts (fun _ h => h) tys h4 h7 hown hK.1 hP hD hS q0 he h1 k h2 (hK.2.1.good h8 rfl) (fun _ h => h) h6 hin hdl (h4 k h2) hn hfit hlen hd (fun H1 locs1 hP hD hS => kk H1 locs1 ls hP hD hS hl)
theorem j_newq {idx N' : Nat} {C : String} {t : Nat} (hJ : Cx l D cy n0 ad own cc nL ret R A PR PX XS fin ET J) (ht : ∀ cy, (TY cy)[t]? = some (cy t, .object C)) (hw : Cond.arrayOver (.object C) ∈ GT) (hlk : Cond.classLink own idx C ∈ GT) {z : Int} (hz : z = N') (hN : N' ≤ 2000) (hc : ce + 1 ≤ R.cells) (hs : sl + N' ≤ R.slots) (hd : decode cc pc = .ok (.anewarray idx, 3))
    (kk : ∀ q, J (ws ++ [(q, .inl (cy t, N', .inr (.inr (.inr (.inr (fun _ => none))))))]) (ce + 1) (sl + N') (pc + 3) lv (.ref q :: st)) : J ws ce sl pc lv (.int (zI z) :: st) := by
  obtain ⟨p, e, s, m, args, below, meth, c, Q, ⟨hx, hb, hml, hown⟩, hK, hA, hAn, hM, hXS, hQ, rfl⟩ := hJ
  intro H locs ls hP hD hS hl
  subst hz
  refine va_newq (N' := N') hx hb hown (hK.2.1.good hlk rfl) (va_AO.of (A := #[]) (hK.2.1.nest hw rfl)) hK.1 hP hD hS hA ?_ ?_ (Nat.le_trans (Nat.mul_le_mul hN (Nat.le_refl 4)) (Nat.le_of_ble_eq_true rfl)) hc hs hd (fun q cA H1 hK1 hP1 hD1 hS1 => ?_)
  · have := zI_lt (a := (N' : Int)) (b := 0) ⟨by omega, by omega⟩ zI_inR0
    intro g
    have g : zI (N' : Int) < zI 0 := g
    rw [this] at g
    omega
  · rw [zI_cl (by omega) (by omega)]; omega
  · have e1 : cA = cy t := va_RA_inj (hK1.2 5 (cA, .object C) rfl).2 (hK.1.2 t (cy t, .object C) (ht cy)).2
    subst e1
    exact kk q H1 locs ls hP1 hD1 hS1 hl
theorem j_astq {q0 qk a v t ci n : Nat} {vs : List Value} {f : Nat → Option Nat} {r : vw_C} {z : Int} (hJ : Cx l D cy n0 ad own cc nL ret R A PR PX XS fin ET J) (ha : ws[q0]? = some (a, .inl (cy t, n, .inr (.inr (.inr (.inr f)))))) (ht : ∀ cy, (TY cy)[t]? = some (cy t, .object r.1)) (hv : ws[qk]? = some (v, .inr (ci, vs))) (hc : vwCl[ci]? = some r) (hn : n < 2147483648) (h0 : 0 ≤ z) (h1 : z < n) (hd : decode cc pc = .ok (.aastore, 1))
    (kk : J (ws.set q0 (a, .inl (cy t, n, .inr (.inr (.inr (.inr (va_up f z.toNat (some v)))))))) ce sl (pc + 1) lv st) : J ws ce sl pc lv (.ref v :: .int (zI z) :: .ref a :: st) := by
  obtain ⟨p, e, s, m, args, below, meth, c, Q, ⟨hx, hb, hml, hown⟩, hK, hA, hAn, hM, hXS, hQ, rfl⟩ := hJ
  intro H locs ls hP hD hS hl
  refine va_astq hx hb hK.1 hP hD hS q0 t qk ci ha (ht cy) hv hc (zI_in h0 h1 hn) hd (fun H1 locs1 hP hD hS => ?_)
  rw [zI_cl h0 (by omega)] at hP hD
  exact kk H1 locs1 ls hP hD hS hl
theorem j_iastC {q0 a n : Nat} {f : Nat → Int32} {z v : Int} (hJ : Cx l D cy n0 ad own cc nL ret R A PR PX XS fin ET J) (ha : ws[q0]? = some (a, .inl (cy 0, n, .inl f))) (hn : n < 2147483648) (h0 : 0 ≤ z) (h1 : z < n) (hd : decode cc pc = .ok (.iastore, 1))
    (kk : J (ws.set q0 (a, .inl (cy 0, n, .inl (upd f z.toNat (zI v))))) ce sl (pc + 1) lv st) : J ws ce sl pc lv (.int (zI v) :: .int (zI z) :: .ref a :: st) := by
  obtain ⟨p, e, s, m, args, below, meth, c, Q, ⟨hx, hb, hml, hown⟩, hK, hA, hAn, hM, hXS, hQ, rfl⟩ := hJ
  intro H locs ls hP hD hS hl
  refine va_iast hx hb hK.1 hP hD hS q0 0 ha rfl (zI_in h0 h1 hn) hd (fun H1 locs1 hP hD hS => ?_)
  rw [zI_cl h0 (by omega)] at hP hD
  exact kk H1 locs1 ls hP hD hS hl
/-- a row of references is what its places hold -/
theorem j_rowq {q0 a n : Nat} {cA : ClassId} {f g : Nat → Option Nat} (hJ : Cx l D cy n0 ad own cc nL ret R A PR PX XS fin ET J) (ha : ws[q0]? = some (a, .inl (cA, n, .inr (.inr (.inr (.inr f)))))) (h : ∀ j, j < n → f j = g j) (k : J (ws.set q0 (a, .inl (cA, n, .inr (.inr (.inr (.inr g)))))) ce sl pc lv st) : J ws ce sl pc lv st := by
  obtain ⟨p, e, s, m, args, below, meth, c, Q, ⟨hx, hb, hml, hown⟩, hK, hA, hAn, hM, hXS, hQ, rfl⟩ := hJ
  intro H locs ls hP hD hS hl
  refine k H locs ls (hP.set hD ha ?_ (fun _ _ => rfl)) (hD.set ha) hS hl
  have e1 : vp_cell cA (n, .inr (.inr (.inr (.inr f)))) = vp_cell cA (n, .inr (.inr (.inr (.inr g)))) := by
    rw [vp_cell_q, vp_cell_q]
    unfold arrV
    congr 1
    apply Array.ext
    · simp
    · intro j h1 h2
      simp at h1
      simp [h j h1]
  have h2 := hP q0 _ ha
  show H[a]? = some (vp_cell cA _)
  rw [← e1]
  exact h2
end JI
theorem perm_add (F E : va_W) (c : Nat × va_E) : ((F ++ E) ++ [c]).Perm ((F ++ [c]) ++ E) := by
  rw [List.append_assoc, List.append_assoc]
  exact (List.perm_append_comm).append_left F
/-- a street's six cells -/
def stW (cy : Nat → ClassId) (b : Nat → Nat) : va_W := [(b 0, .inr (1, [.ref (b 1), .int (zI 0), .int (zI 0), .ref (b 2)])), (b 1, .inl (cy 0, 4, .inl (fun _ => zI 0))), (b 2, .inr (2, [.ref (b 3), .int (zI 0), .ref (b 4), .int (zI 0), .ref (b 5)])), (b 3, .inl (cy 0, 100, .inl (fun _ => zI 0))), (b 4, .inl (cy 0, 10, .inl (fun _ => zI 0))), (b 5, .inl (cy 0, 12, .inl (fun _ => zI 0)))]
def stL (cy : Nat → ClassId) (b : Nat → Nat → Nat) (n : Nat) : va_W := (List.range n).flatMap (fun i => stW cy (b i))
theorem stL_succ {cy : Nat → ClassId} {b : Nat → Nat → Nat} {n : Nat} : stL cy b (n + 1) = stL cy b n ++ stW cy (b n) := by
  unfold stL
  rw [List.range_succ, List.flatMap_append]
  simp
theorem stL_congr {cy : Nat → ClassId} {b b' : Nat → Nat → Nat} : ∀ {n : Nat}, (∀ i, i < n → b i = b' i) → stL cy b n = stL cy b' n
  | 0, _ => rfl
  | n + 1, h => by
    rw [stL_succ, stL_succ, stL_congr (n := n) (fun i hi => h i (by omega)), h n (by omega)]
theorem gw_six {sh : Nat → Sh} {cy : Nat → ClassId} {b : Nat → Nat} {μ : Nat → Int → Int} : ∀ {n : Nat}, gw (9 + 6 * n) sh cy b μ = gw 9 sh cy b μ ++ (List.range n).flatMap (fun i => (List.range 6).map (fun c => (b (9 + 6 * i + c), wcell cy b (sh (9 + 6 * i + c)) (μ (9 + 6 * i + c)))))
  | 0 => by simp
  | n + 1 => by
    rw [show List.range (n + 1) = List.range n ++ [n] from List.range_succ, List.flatMap_append, ← List.append_assoc, ← gw_six (n := n)]
    unfold gw
    rw [show 9 + 6 * (n + 1) = 9 + 6 * n + 1 + 1 + 1 + 1 + 1 + 1 by omega, List.range_succ, List.range_succ, List.range_succ, List.range_succ, List.range_succ, List.range_succ]
    simp [List.range_succ, List.range_zero]
def adB (base : Nat → Nat) (b : Nat → Nat → Nat) (k : Nat) : Nat := if k < 9 then base k else b ((k - 9) / 6) ((k - 9) % 6)
theorem adB_hi {base : Nat → Nat} {b : Nat → Nat → Nat} {i c : Nat} (h : c < 6) : adB base b (9 + 6 * i + c) = b i c := by
  unfold adB
  rw [if_neg (by omega), show (9 + 6 * i + c - 9) / 6 = i by omega, show (9 + 6 * i + c - 9) % 6 = c by omega]
theorem adB_hi0 {base : Nat → Nat} {b : Nat → Nat → Nat} {i : Nat} : adB base b (9 + 6 * i) = b i 0 := adB_hi (c := 0) (by omega)
def kd0 : Int → Int := fun j => if 0 ≤ j ∧ j < 4 then 1 else 0
def mu0 : Nat → Int → Int := fun k j => if k = 1 then kd0 j else 0
theorem stW_of {cy : Nat → ClassId} {base : Nat → Nat} {b : Nat → Nat → Nat} {i : Nat} : (List.range 6).map (fun c => (adB base b (9 + 6 * i + c), wcell cy (adB base b) (XSh (9 + 6 * i + c)) (mu0 (9 + 6 * i + c)))) = stW cy (b i) := by
  have hm : ∀ k, 9 ≤ k → mu0 k = fun _ => 0 := fun k hk => by funext j; unfold mu0; rw [if_neg (by omega)]
  show [_, _, _, _, _, _] = _
  dsimp only
  rw [hm (9 + 6 * i + 0) (by omega), hm (9 + 6 * i + 1) (by omega), hm (9 + 6 * i + 2) (by omega), hm (9 + 6 * i + 3) (by omega), hm (9 + 6 * i + 4) (by omega), hm (9 + 6 * i + 5) (by omega)]
  rw [show 9 + 6 * i + 0 = 9 + 6 * i from rfl, XS0, XS1, XS2, XS3, XS4, XS5]
  simp only [wcell, wfl, adB_hi0, adB_hi (show 1 < 6 by decide), adB_hi (show 2 < 6 by decide), adB_hi (show 3 < 6 by decide), adB_hi (show 4 < 6 by decide), adB_hi (show 5 < 6 by decide)]
  rfl
/-- the class's first nine cells -/
def baW (cy : Nat → ClassId) (base : Nat → Nat) (row : Nat → Int32) (f : Nat → Option Nat) : va_W := [(base 0, .inr (4, [.ref (base 1), .ref (base 2), .int (zI 0), .ref (base 3), .ref (base 4), .ref (base 5)])), (base 1, .inl (cy 0, 24, .inl row)), (base 2, .inl (cy 2, 16, .inr (.inr (.inr (.inr f))))), (base 3, .inl (cy 0, 4, .inl (fun _ => zI 0))), (base 4, .inl (cy 0, 4, .inl (fun _ => zI 0))), (base 5, .inr (3, [.ref (base 6), .ref (base 7), .ref (base 8)])), (base 6, .inl (cy 0, 144, .inl (fun _ => zI 0))), (base 7, .inl (cy 0, 144, .inl (fun _ => zI 0))), (base 8, .inl (cy 0, 144, .inl (fun _ => zI 0)))]
theorem gwX_of {cy : Nat → ClassId} {base : Nat → Nat} {b : Nat → Nat → Nat} : gw 105 XSh cy (adB base b) mu0 = baW cy base (fun j => zI (kd0 j)) (fun j => some (b j 0)) ++ stL cy b 16 := by
  rw [show 105 = 9 + 6 * 16 from rfl, gw_six]
  have e1 : (List.range 16).flatMap (fun i => (List.range 6).map (fun c => (adB base b (9 + 6 * i + c), wcell cy (adB base b) (XSh (9 + 6 * i + c)) (mu0 (9 + 6 * i + c))))) = stL cy b 16 := by
    unfold stL
    congr 1
    funext i
    exact stW_of
  rw [e1]
  congr 1
  show [_, _, _, _, _, _, _, _, _] = _
  unfold baW
  have e2 : (fun j => some (adB base b (9 + 6 * j))) = fun j => some (b j 0) := by funext j; rw [adB_hi0]
  rw [← e2]
  rfl
/-- what is so of a new index -/
theorem XI_new : XI mu0 0 (fun _ => []) (fun _ => 0) (fun _ => 0) (fun _ _ => 0) := by
  have hm : ∀ k, 2 ≤ k → mu0 k = fun _ => 0 := fun k hk => by funext j; unfold mu0; rw [if_neg (by omega)]
  have h0 : mu0 0 2 = 0 := by unfold mu0; rw [if_neg (by decide)]
  refine ⟨h0, by omega, ?_, fun i hi => by omega, fun i hi => ⟨by rw [hm _ (by omega)], Or.inl rfl⟩, fun i hi => ?_, fun _ _ => ⟨rfl, rfl⟩⟩
  · intro w w0 w1
    have e1 : mu0 1 w = kd0 w := by unfold mu0; rw [if_pos rfl]
    rw [e1]; unfold kd0; split <;> omega
  · show TI mu0 i (fun _ => 0) 0
    refine ⟨⟨by rw [hm _ (by omega)]; rfl, fun k x hx => by simp [trk] at hx, by simp [trk], fun x hx => by simp [trk] at hx, ?_⟩, by rw [hm _ (by omega)]; rfl, by omega, ⟨fun k hk => by omega, fun k hk => by omega⟩, fun k hk => by omega⟩
    intro c r c0 c1 r0 r1
    rw [hm _ (by omega)]
    dsimp only
    refine ⟨Int.le_refl 0, by omega, ?_⟩
    simp [trk]
def rK (k : Nat) (j : Int) : Int := if 0 ≤ j ∧ j < k then 1 else 0
theorem rK_step (k : Nat) : upd (fun j : Nat => zI (rK k (j : Int))) ((k : Int)).toNat (zI 1) = fun j : Nat => zI (rK (k + 1) (j : Int)) := by
  funext j
  rw [Int.toNat_natCast]
  unfold upd rK
  by_cases e : j = k
  · rw [if_pos e, if_pos (by omega)]
  · rw [if_neg e]
    dsimp only
    by_cases g : j < k
    · rw [if_pos (by omega), if_pos (by omega)]
    · rw [if_neg (by omega), if_neg (by omega)]
theorem perm_str (S B L E : va_W) : (S ++ (B ++ (L ++ E))).Perm (B ++ ((L ++ S) ++ E)) := by
  have h1 : (S ++ (B ++ (L ++ E))).Perm (B ++ (S ++ (L ++ E))) := perm_mid _ _ _
  have h2 : (S ++ (L ++ E)).Perm ((L ++ S) ++ E) := by
    rw [List.append_assoc]; exact perm_mid _ _ _
  exact h1.trans (h2.append_left B)
