abbrev JT : Type := va_W → Nat → Nat → Nat → List (Nat × Value) → List Value → Prop
/-- a walk of a method's body, as a predicate of world, room, place, locals, stack alone -/
def Cx (l : Launch) (D : va_G) (cy : Nat → ClassId) (n0 : Nat) (ad : Nat → Nat) (own : String) (cc : ByteArray) (nL : Nat) (ret : Option FieldType) (R : Room) (A : Nat → Prop) (PR : Option Value → va_W → Prop) (PX : String → va_W → Prop) (XS : State → Prop) (fin : Bool) (ET : List ExceptionTableEntry) (J : JT) : Prop :=
  ∃ (p : Program) (e : Env) (s : State) (m : MethodId) (args : Array Value) (below : List Frame) (meth : Method) (c : Code) (Q : State → Prop),
    (p.tables.exec = Jvm.exec ∧ c.code = cc ∧ c.maxLocals = nL ∧ s.vm.findClass own = some m.cls) ∧ KK D cy n0 ad s ∧ (∀ q, s.heap.size ≤ q → A q) ∧ (∀ q, A q → n0 ≤ q) ∧ (meth.sig.returnType = ret ∧ meth.locks = false ∧ c.exceptionTable.toList = ET ∧ l.stackTraces = false) ∧ XS s ∧
    (fin = true → Q = vx_MQ below (Qcc D A PR) (Xcc D A PX) args s R.cells R.slots A) ∧
    J = fun ws ce sl pc lv st => ∀ (H : Heap) (locs : List Loc) (ls : Array Slot), va_P D vwCl ws H → va_D A ws → va_S A s.heap H locs → lv_has ls nL lv → W p l e R s m args below meth c H locs ce sl Q (F0 m pc ls st)

section JR
variable {l : Launch} {D : va_G} {cy : Nat → ClassId} {n0 : Nat} {ad : Nat → Nat} {own : String} {cc : ByteArray} {nL : Nat} {ret : Option FieldType} {R : Room} {A : Nat → Prop} {PR : Option Value → va_W → Prop} {PX : String → va_W → Prop} {XS : State → Prop} {fin : Bool} {ET : List ExceptionTableEntry} {J : JT}
 variable {ws : va_W} {ce sl pc : Nat} {lv lv' : List (Nat × Value)} {st : List Value}
theorem j_iconst {n : Int} (hJ : Cx l D cy n0 ad own cc nL ret R A PR PX XS fin ET J)  (hd : decode cc pc = .ok (.iconst n, 1)) (k : J ws ce sl (pc + 1) lv (.int (zI n) :: st)) : J ws ce sl pc lv (st) := by
  obtain ⟨p, e, s, m, args, below, meth, c, Q, ⟨hx, hb, hml, hown⟩, hK, hA, hAn, hM, hXS, hQ, rfl⟩ := hJ
  intro H locs ls hP hD hS hl
  exact lv_iconst hx hb hd rfl (k H locs ls hP hD hS hl)
theorem j_bipush {n v : Int} (hJ : Cx l D cy n0 ad own cc nL ret R A PR PX XS fin ET J) (hv : (Int8.ofInt n).toInt32 = zI v) (hd : decode cc pc = .ok (.bipush n, 2)) (k : J ws ce sl (pc + 2) lv (.int (zI v) :: st)) : J ws ce sl pc lv (st) := by
  obtain ⟨p, e, s, m, args, below, meth, c, Q, ⟨hx, hb, hml, hown⟩, hK, hA, hAn, hM, hXS, hQ, rfl⟩ := hJ
  intro H locs ls hP hD hS hl
  exact lv_bipush hx hb hd hv (k H locs ls hP hD hS hl)
theorem j_sipush {n v : Int} (hJ : Cx l D cy n0 ad own cc nL ret R A PR PX XS fin ET J) (hv : (Int16.ofInt n).toInt32 = zI v) (hd : decode cc pc = .ok (.sipush n, 3)) (k : J ws ce sl (pc + 3) lv (.int (zI v) :: st)) : J ws ce sl pc lv (st) := by
  obtain ⟨p, e, s, m, args, below, meth, c, Q, ⟨hx, hb, hml, hown⟩, hK, hA, hAn, hM, hXS, hQ, rfl⟩ := hJ
  intro H locs ls hP hD hS hl
  exact lv_sipush hx hb hd hv (k H locs ls hP hD hS hl)
theorem j_ldc {i : Nat} {v : Int} (hJ : Cx l D cy n0 ad own cc nL ret R A PR PX XS fin ET J) (hw : Cond.constant own i (zI v) ∈ GT) (hd : decode cc pc = .ok (.ldc i, 2)) (k : J ws ce sl (pc + 2) lv (.int (zI v) :: st)) : J ws ce sl pc lv (st) := by
  obtain ⟨p, e, s, m, args, below, meth, c, Q, ⟨hx, hb, hml, hown⟩, hK, hA, hAn, hM, hXS, hQ, rfl⟩ := hJ
  intro H locs ls hP hD hS hl
  exact lv_ldc hx hb hown (hK.2.1.good hw rfl) hd (k H locs ls hP hD hS hl)
theorem j_iload_n {kk : Fin 4} {i j : Nat} {x : Int32} (hJ : Cx l D cy n0 ad own cc nL ret R A PR PX XS fin ET J) (hi : (kk : Nat) = i) (hk : lv[j]? = some (i, .int x)) (hd : decode cc pc = .ok (.iload_n kk, 1)) (k : J ws ce sl (pc + 1) lv (.int x :: st)) : J ws ce sl pc lv (st) := by
  obtain ⟨p, e, s, m, args, below, meth, c, Q, ⟨hx, hb, hml, hown⟩, hK, hA, hAn, hM, hXS, hQ, rfl⟩ := hJ
  intro H locs ls hP hD hS hl
  exact lv_iload_n hx hb hd hi (lv_at hl j hk) (k H locs ls hP hD hS hl)
theorem j_iload {i j : Nat} {x : Int32} (hJ : Cx l D cy n0 ad own cc nL ret R A PR PX XS fin ET J) (hk : lv[j]? = some (i, .int x)) (hd : decode cc pc = .ok (.iload i, 2)) (k : J ws ce sl (pc + 2) lv (.int x :: st)) : J ws ce sl pc lv (st) := by
  obtain ⟨p, e, s, m, args, below, meth, c, Q, ⟨hx, hb, hml, hown⟩, hK, hA, hAn, hM, hXS, hQ, rfl⟩ := hJ
  intro H locs ls hP hD hS hl
  exact lv_iload hx hb hd (lv_at hl j hk) (k H locs ls hP hD hS hl)
theorem j_aload_n {kk : Fin 4} {i j a : Nat} (hJ : Cx l D cy n0 ad own cc nL ret R A PR PX XS fin ET J) (hi : (kk : Nat) = i) (hk : lv[j]? = some (i, .ref a)) (hd : decode cc pc = .ok (.aload_n kk, 1)) (k : J ws ce sl (pc + 1) lv (.ref a :: st)) : J ws ce sl pc lv (st) := by
  obtain ⟨p, e, s, m, args, below, meth, c, Q, ⟨hx, hb, hml, hown⟩, hK, hA, hAn, hM, hXS, hQ, rfl⟩ := hJ
  intro H locs ls hP hD hS hl
  exact lv_aload_n hx hb hd hi (lv_at hl j hk) (k H locs ls hP hD hS hl)
theorem j_aload {i j a : Nat} (hJ : Cx l D cy n0 ad own cc nL ret R A PR PX XS fin ET J) (hk : lv[j]? = some (i, .ref a)) (hd : decode cc pc = .ok (.aload i, 2)) (k : J ws ce sl (pc + 2) lv (.ref a :: st)) : J ws ce sl pc lv (st) := by
  obtain ⟨p, e, s, m, args, below, meth, c, Q, ⟨hx, hb, hml, hown⟩, hK, hA, hAn, hM, hXS, hQ, rfl⟩ := hJ
  intro H locs ls hP hD hS hl
  exact lv_aload hx hb hd (lv_at hl j hk) (k H locs ls hP hD hS hl)
theorem j_istore_n {kk : Fin 4} {i : Nat} {x : Int32} (hJ : Cx l D cy n0 ad own cc nL ret R A PR PX XS fin ET J) (hi : (kk : Nat) = i) (hn : i < nL) (he : (i, Value.int x) :: lv.filter (fun q => !(q.1 == i) && !(q.1 + 1 == i && q.2.category == 2)) = lv') (hd : decode cc pc = .ok (.istore_n kk, 1)) (k : J ws ce sl (pc + 1) lv' (st)) : J ws ce sl pc lv (.int x :: st) := by
  obtain ⟨p, e, s, m, args, below, meth, c, Q, ⟨hx, hb, hml, hown⟩, hK, hA, hAn, hM, hXS, hQ, rfl⟩ := hJ
  intro H locs ls hP hD hS hl
  exact lv_istore_n hx hb hd hi hl hn he (fun ls hl => k H locs ls hP hD hS hl)
theorem j_istore {i : Nat} {x : Int32} (hJ : Cx l D cy n0 ad own cc nL ret R A PR PX XS fin ET J) (hn : i < nL) (he : (i, Value.int x) :: lv.filter (fun q => !(q.1 == i) && !(q.1 + 1 == i && q.2.category == 2)) = lv') (hd : decode cc pc = .ok (.istore i, 2)) (k : J ws ce sl (pc + 2) lv' (st)) : J ws ce sl pc lv (.int x :: st) := by
  obtain ⟨p, e, s, m, args, below, meth, c, Q, ⟨hx, hb, hml, hown⟩, hK, hA, hAn, hM, hXS, hQ, rfl⟩ := hJ
  intro H locs ls hP hD hS hl
  exact lv_istore hx hb hd hl hn he (fun ls hl => k H locs ls hP hD hS hl)
theorem j_astore_n {kk : Fin 4} {i x : Nat} (hJ : Cx l D cy n0 ad own cc nL ret R A PR PX XS fin ET J) (hi : (kk : Nat) = i) (hn : i < nL) (he : (i, Value.ref x) :: lv.filter (fun q => !(q.1 == i) && !(q.1 + 1 == i && q.2.category == 2)) = lv') (hd : decode cc pc = .ok (.astore_n kk, 1)) (k : J ws ce sl (pc + 1) lv' (st)) : J ws ce sl pc lv (.ref x :: st) := by
  obtain ⟨p, e, s, m, args, below, meth, c, Q, ⟨hx, hb, hml, hown⟩, hK, hA, hAn, hM, hXS, hQ, rfl⟩ := hJ
  intro H locs ls hP hD hS hl
  exact lv_astore_n hx hb hd hi hl hn he (fun ls hl => k H locs ls hP hD hS hl)
theorem j_astore {i x : Nat} (hJ : Cx l D cy n0 ad own cc nL ret R A PR PX XS fin ET J) (hn : i < nL) (he : (i, Value.ref x) :: lv.filter (fun q => !(q.1 == i) && !(q.1 + 1 == i && q.2.category == 2)) = lv') (hd : decode cc pc = .ok (.astore i, 2)) (k : J ws ce sl (pc + 2) lv' (st)) : J ws ce sl pc lv (.ref x :: st) := by
  obtain ⟨p, e, s, m, args, below, meth, c, Q, ⟨hx, hb, hml, hown⟩, hK, hA, hAn, hM, hXS, hQ, rfl⟩ := hJ
  intro H locs ls hP hD hS hl
  exact lv_astore hx hb hd hl hn he (fun ls hl => k H locs ls hP hD hS hl)
theorem j_iinc {i j : Nat} {n a b : Int} (hJ : Cx l D cy n0 ad own cc nL ret R A PR PX XS fin ET J) (hk : lv[j]? = some (i, .int (zI a))) (hv : a + n = b) (hn : i < nL) (he : (i, Value.int (zI b)) :: lv.filter (fun q => !(q.1 == i) && !(q.1 + 1 == i && q.2.category == 2)) = lv') (hd : decode cc pc = .ok (.iinc i n, 3)) (k : J ws ce sl (pc + 3) lv' (st)) : J ws ce sl pc lv (st) := by
  obtain ⟨p, e, s, m, args, below, meth, c, Q, ⟨hx, hb, hml, hown⟩, hK, hA, hAn, hM, hXS, hQ, rfl⟩ := hJ
  intro H locs ls hP hD hS hl
  exact lv_iinc hx hb hd hl hk (by rw [← hv]; exact zI_add a n) hn he (fun ls hl => k H locs ls hP hD hS hl)
theorem j_iadd {a b : Int} (hJ : Cx l D cy n0 ad own cc nL ret R A PR PX XS fin ET J)  (hd : decode cc pc = .ok (.iadd, 1)) (k : J ws ce sl (pc + 1) lv (.int (zI (a + b)) :: st)) : J ws ce sl pc lv (.int (zI b) :: .int (zI a) :: st) := by
  obtain ⟨p, e, s, m, args, below, meth, c, Q, ⟨hx, hb, hml, hown⟩, hK, hA, hAn, hM, hXS, hQ, rfl⟩ := hJ
  intro H locs ls hP hD hS hl
  refine lv_iadd hx hb hd ?_
  rw [zI_add]
  exact k H locs ls hP hD hS hl
theorem j_isub {a b : Int} (hJ : Cx l D cy n0 ad own cc nL ret R A PR PX XS fin ET J)  (hd : decode cc pc = .ok (.isub, 1)) (k : J ws ce sl (pc + 1) lv (.int (zI (a - b)) :: st)) : J ws ce sl pc lv (.int (zI b) :: .int (zI a) :: st) := by
  obtain ⟨p, e, s, m, args, below, meth, c, Q, ⟨hx, hb, hml, hown⟩, hK, hA, hAn, hM, hXS, hQ, rfl⟩ := hJ
  intro H locs ls hP hD hS hl
  refine lv_isub hx hb hd ?_
  rw [zI_sub]
  exact k H locs ls hP hD hS hl
theorem j_imul {a b : Int} (hJ : Cx l D cy n0 ad own cc nL ret R A PR PX XS fin ET J)  (hd : decode cc pc = .ok (.imul, 1)) (k : J ws ce sl (pc + 1) lv (.int (zI (a * b)) :: st)) : J ws ce sl pc lv (.int (zI b) :: .int (zI a) :: st) := by
  obtain ⟨p, e, s, m, args, below, meth, c, Q, ⟨hx, hb, hml, hown⟩, hK, hA, hAn, hM, hXS, hQ, rfl⟩ := hJ
  intro H locs ls hP hD hS hl
  refine lv_imul hx hb hd ?_
  rw [zI_mul]
  exact k H locs ls hP hD hS hl
theorem j_ineg {a : Int} (hJ : Cx l D cy n0 ad own cc nL ret R A PR PX XS fin ET J)  (hd : decode cc pc = .ok (.ineg, 1)) (k : J ws ce sl (pc + 1) lv (.int (zI (-a)) :: st)) : J ws ce sl pc lv (.int (zI a) :: st) := by
  obtain ⟨p, e, s, m, args, below, meth, c, Q, ⟨hx, hb, hml, hown⟩, hK, hA, hAn, hM, hXS, hQ, rfl⟩ := hJ
  intro H locs ls hP hD hS hl
  refine lv_ineg hx hb hd ?_
  rw [show -zI a = zI (-a) from (Int32.ofInt_neg a).symm]
  exact k H locs ls hP hD hS hl
theorem j_idiv {a b : Int} (hJ : Cx l D cy n0 ad own cc nL ret R A PR PX XS fin ET J) (h0 : 0 ≤ a) (ha : a < 2147483648) (hb0 : 0 < b) (hb1 : b < 2147483648) (hd : decode cc pc = .ok (.idiv, 1)) (k : J ws ce sl (pc + 1) lv (.int (zI (a / b)) :: st)) : J ws ce sl pc lv (.int (zI b) :: .int (zI a) :: st) := by
  obtain ⟨p, e, s, m, args, below, meth, c, Q, ⟨hx, hb, hml, hown⟩, hK, hA, hAn, hM, hXS, hQ, rfl⟩ := hJ
  intro H locs ls hP hD hS hl
  refine lv_idiv hx hb hd (zI_ne0 ⟨by omega, by omega⟩ (by omega)) ?_
  rw [zI_div h0 ha hb0 hb1]
  exact k H locs ls hP hD hS hl
theorem j_irem {a b : Int} (hJ : Cx l D cy n0 ad own cc nL ret R A PR PX XS fin ET J) (h0 : 0 ≤ a) (ha : a < 2147483648) (hb0 : 0 < b) (hb1 : b < 2147483648) (hd : decode cc pc = .ok (.irem, 1)) (k : J ws ce sl (pc + 1) lv (.int (zI (a % b)) :: st)) : J ws ce sl pc lv (.int (zI b) :: .int (zI a) :: st) := by
  obtain ⟨p, e, s, m, args, below, meth, c, Q, ⟨hx, hb, hml, hown⟩, hK, hA, hAn, hM, hXS, hQ, rfl⟩ := hJ
  intro H locs ls hP hD hS hl
  refine lv_irem hx hb hd (zI_ne0 ⟨by omega, by omega⟩ (by omega)) ?_
  rw [zI_rem h0 ha hb0 hb1]
  exact k H locs ls hP hD hS hl
theorem j_ishl {x y : Int32} {v : Int} (hJ : Cx l D cy n0 ad own cc nL ret R A PR PX XS fin ET J) (hv : x <<< (y &&& 31) = zI v) (hd : decode cc pc = .ok (.ishl, 1)) (k : J ws ce sl (pc + 1) lv (.int (zI v) :: st)) : J ws ce sl pc lv (.int y :: .int x :: st) := by
  obtain ⟨p, e, s, m, args, below, meth, c, Q, ⟨hx, hb, hml, hown⟩, hK, hA, hAn, hM, hXS, hQ, rfl⟩ := hJ
  intro H locs ls hP hD hS hl
  refine lv_ishl hx hb hd ?_
  rw [hv]
  exact k H locs ls hP hD hS hl
theorem j_ishr {x y : Int32} {v : Int} (hJ : Cx l D cy n0 ad own cc nL ret R A PR PX XS fin ET J) (hv : x >>> (y &&& 31) = zI v) (hd : decode cc pc = .ok (.ishr, 1)) (k : J ws ce sl (pc + 1) lv (.int (zI v) :: st)) : J ws ce sl pc lv (.int y :: .int x :: st) := by
  obtain ⟨p, e, s, m, args, below, meth, c, Q, ⟨hx, hb, hml, hown⟩, hK, hA, hAn, hM, hXS, hQ, rfl⟩ := hJ
  intro H locs ls hP hD hS hl
  refine lv_ishr hx hb hd ?_
  rw [hv]
  exact k H locs ls hP hD hS hl
theorem j_iand {x y : Int32} {v : Int} (hJ : Cx l D cy n0 ad own cc nL ret R A PR PX XS fin ET J) (hv : x &&& y = zI v) (hd : decode cc pc = .ok (.iand, 1)) (k : J ws ce sl (pc + 1) lv (.int (zI v) :: st)) : J ws ce sl pc lv (.int y :: .int x :: st) := by
  obtain ⟨p, e, s, m, args, below, meth, c, Q, ⟨hx, hb, hml, hown⟩, hK, hA, hAn, hM, hXS, hQ, rfl⟩ := hJ
  intro H locs ls hP hD hS hl
  refine lv_iand hx hb hd ?_
  rw [hv]
  exact k H locs ls hP hD hS hl
theorem j_ior {x y : Int32} {v : Int} (hJ : Cx l D cy n0 ad own cc nL ret R A PR PX XS fin ET J) (hv : x ||| y = zI v) (hd : decode cc pc = .ok (.ior, 1)) (k : J ws ce sl (pc + 1) lv (.int (zI v) :: st)) : J ws ce sl pc lv (.int y :: .int x :: st) := by
  obtain ⟨p, e, s, m, args, below, meth, c, Q, ⟨hx, hb, hml, hown⟩, hK, hA, hAn, hM, hXS, hQ, rfl⟩ := hJ
  intro H locs ls hP hD hS hl
  refine lv_ior hx hb hd ?_
  rw [hv]
  exact k H locs ls hP hD hS hl
theorem j_ixor {x y : Int32} {v : Int} (hJ : Cx l D cy n0 ad own cc nL ret R A PR PX XS fin ET J) (hv : x ^^^ y = zI v) (hd : decode cc pc = .ok (.ixor, 1)) (k : J ws ce sl (pc + 1) lv (.int (zI v) :: st)) : J ws ce sl pc lv (.int y :: .int x :: st) := by
  obtain ⟨p, e, s, m, args, below, meth, c, Q, ⟨hx, hb, hml, hown⟩, hK, hA, hAn, hM, hXS, hQ, rfl⟩ := hJ
  intro H locs ls hP hD hS hl
  refine lv_ixor hx hb hd ?_
  rw [hv]
  exact k H locs ls hP hD hS hl
theorem j_iushr {x y : Int32} {v : Int} (hJ : Cx l D cy n0 ad own cc nL ret R A PR PX XS fin ET J) (hv : (x.toUInt32 >>> (y.toUInt32 &&& Int32.toUInt32 31)).toInt32 = zI v) (hd : decode cc pc = .ok (.iushr, 1)) (k : J ws ce sl (pc + 1) lv (.int (zI v) :: st)) : J ws ce sl pc lv (.int y :: .int x :: st) := by
  obtain ⟨p, e, s, m, args, below, meth, c, Q, ⟨hx, hb, hml, hown⟩, hK, hA, hAn, hM, hXS, hQ, rfl⟩ := hJ
  intro H locs ls hP hD hS hl
  exact lv_iushr hx hb hd hv (k H locs ls hP hD hS hl)
theorem j_i2c {x : Int32} {v : Int} (hJ : Cx l D cy n0 ad own cc nL ret R A PR PX XS fin ET J) (hv : (x.toUInt32 % 65536).toInt32 = zI v) (hd : decode cc pc = .ok (.i2c, 1)) (k : J ws ce sl (pc + 1) lv (.int (zI v) :: st)) : J ws ce sl pc lv (.int x :: st) := by
  obtain ⟨p, e, s, m, args, below, meth, c, Q, ⟨hx, hb, hml, hown⟩, hK, hA, hAn, hM, hXS, hQ, rfl⟩ := hJ
  intro H locs ls hP hD hS hl
  exact lv_i2c hx hb hd hv (k H locs ls hP hD hS hl)
theorem j_dup {v : Value} (hJ : Cx l D cy n0 ad own cc nL ret R A PR PX XS fin ET J) (hc : v.category = 1) (hd : decode cc pc = .ok (.dup, 1)) (k : J ws ce sl (pc + 1) lv (v :: v :: st)) : J ws ce sl pc lv (v :: st) := by
  obtain ⟨p, e, s, m, args, below, meth, c, Q, ⟨hx, hb, hml, hown⟩, hK, hA, hAn, hM, hXS, hQ, rfl⟩ := hJ
  intro H locs ls hP hD hS hl
  exact lv_dup hx hb hd hc (k H locs ls hP hD hS hl)
theorem j_pop {v : Value} (hJ : Cx l D cy n0 ad own cc nL ret R A PR PX XS fin ET J) (hc : v.category = 1) (hd : decode cc pc = .ok (.pop, 1)) (k : J ws ce sl (pc + 1) lv (st)) : J ws ce sl pc lv (v :: st) := by
  obtain ⟨p, e, s, m, args, below, meth, c, Q, ⟨hx, hb, hml, hown⟩, hK, hA, hAn, hM, hXS, hQ, rfl⟩ := hJ
  intro H locs ls hP hD hS hl
  exact lv_pop hx hb hd hc (k H locs ls hP hD hS hl)
theorem j_dup_x1 {v u : Value} (hJ : Cx l D cy n0 ad own cc nL ret R A PR PX XS fin ET J) (hc : v.category = 1) (hc2 : u.category = 1) (hd : decode cc pc = .ok (.dup_x1, 1)) (k : J ws ce sl (pc + 1) lv (v :: u :: v :: st)) : J ws ce sl pc lv (v :: u :: st) := by
  obtain ⟨p, e, s, m, args, below, meth, c, Q, ⟨hx, hb, hml, hown⟩, hK, hA, hAn, hM, hXS, hQ, rfl⟩ := hJ
  intro H locs ls hP hD hS hl
  exact lv_dup_x1 hx hb hd hc hc2 (k H locs ls hP hD hS hl)
theorem j_dup2 {v u : Value} (hJ : Cx l D cy n0 ad own cc nL ret R A PR PX XS fin ET J) (hc : v.category = 1) (hc2 : u.category = 1) (hd : decode cc pc = .ok (.dup2, 1)) (k : J ws ce sl (pc + 1) lv (v :: u :: v :: u :: st)) : J ws ce sl pc lv (v :: u :: st) := by
  obtain ⟨p, e, s, m, args, below, meth, c, Q, ⟨hx, hb, hml, hown⟩, hK, hA, hAn, hM, hXS, hQ, rfl⟩ := hJ
  intro H locs ls hP hD hS hl
  exact lv_dup2_11 hx hb hd hc hc2 (k H locs ls hP hD hS hl)
theorem j_goto {off : Int} {tgt : Nat} (hJ : Cx l D cy n0 ad own cc nL ret R A PR PX XS fin ET J) (ht : (pc : Int) + off = (tgt : Int)) (hd : decode cc pc = .ok (.goto off, 3)) (k : J ws ce sl tgt lv st) : J ws ce sl pc lv st := by
  obtain ⟨p, e, s, m, args, below, meth, c, Q, ⟨hx, hb, hml, hown⟩, hK, hA, hAn, hM, hXS, hQ, rfl⟩ := hJ
  intro H locs ls hP hD hS hl
  exact lv_goto hx hb hd ht (k H locs ls hP hD hS hl)
theorem j_if_eq {off : Int} {tgt : Nat} {a : Int} (hJ : Cx l D cy n0 ad own cc nL ret R A PR PX XS fin ET J) (ha : inR a) (ht : (pc : Int) + off = (tgt : Int)) (hd : decode cc pc = .ok (.ifCond .eq off, 3)) (kt : a = 0 → J ws ce sl tgt lv st) (kf : a ≠ 0 → J ws ce sl (pc + 3) lv st) : J ws ce sl pc lv (.int (zI a) :: st) := by
  obtain ⟨p, e, s, m, args, below, meth, c, Q, ⟨hx, hb, hml, hown⟩, hK, hA, hAn, hM, hXS, hQ, rfl⟩ := hJ
  intro H locs ls hP hD hS hl
  exact lv_if_eq hx hb hd ht (fun q => kt ((zI_eq ha zI_inR0).mp q) H locs ls hP hD hS hl) (fun q => kf (fun w => q (by rw [w]; rfl)) H locs ls hP hD hS hl)
theorem j_if_ne {off : Int} {tgt : Nat} {a : Int} (hJ : Cx l D cy n0 ad own cc nL ret R A PR PX XS fin ET J) (ha : inR a) (ht : (pc : Int) + off = (tgt : Int)) (hd : decode cc pc = .ok (.ifCond .ne off, 3)) (kt : a ≠ 0 → J ws ce sl tgt lv st) (kf : a = 0 → J ws ce sl (pc + 3) lv st) : J ws ce sl pc lv (.int (zI a) :: st) := by
  obtain ⟨p, e, s, m, args, below, meth, c, Q, ⟨hx, hb, hml, hown⟩, hK, hA, hAn, hM, hXS, hQ, rfl⟩ := hJ
  intro H locs ls hP hD hS hl
  exact lv_if_ne hx hb hd ht (fun q => kt (fun w => q (by rw [w]; rfl)) H locs ls hP hD hS hl) (fun q => kf ((zI_eq ha zI_inR0).mp q) H locs ls hP hD hS hl)
theorem j_if_lt {off : Int} {tgt : Nat} {a : Int} (hJ : Cx l D cy n0 ad own cc nL ret R A PR PX XS fin ET J) (ha : inR a) (ht : (pc : Int) + off = (tgt : Int)) (hd : decode cc pc = .ok (.ifCond .lt off, 3)) (kt : a < 0 → J ws ce sl tgt lv st) (kf : 0 ≤ a → J ws ce sl (pc + 3) lv st) : J ws ce sl pc lv (.int (zI a) :: st) := by
  obtain ⟨p, e, s, m, args, below, meth, c, Q, ⟨hx, hb, hml, hown⟩, hK, hA, hAn, hM, hXS, hQ, rfl⟩ := hJ
  intro H locs ls hP hD hS hl
  exact lv_if_lt hx hb hd ht (fun q => kt ((zI_lt ha zI_inR0).mp q) H locs ls hP hD hS hl) (fun q => kf (Int.not_lt.mp fun w => q ((zI_lt ha zI_inR0).mpr w)) H locs ls hP hD hS hl)
theorem j_if_ge {off : Int} {tgt : Nat} {a : Int} (hJ : Cx l D cy n0 ad own cc nL ret R A PR PX XS fin ET J) (ha : inR a) (ht : (pc : Int) + off = (tgt : Int)) (hd : decode cc pc = .ok (.ifCond .ge off, 3)) (kt : 0 ≤ a → J ws ce sl tgt lv st) (kf : a < 0 → J ws ce sl (pc + 3) lv st) : J ws ce sl pc lv (.int (zI a) :: st) := by
  obtain ⟨p, e, s, m, args, below, meth, c, Q, ⟨hx, hb, hml, hown⟩, hK, hA, hAn, hM, hXS, hQ, rfl⟩ := hJ
  intro H locs ls hP hD hS hl
  exact lv_if_ge hx hb hd ht (fun q => kt ((zI_le zI_inR0 ha).mp q) H locs ls hP hD hS hl) (fun q => kf (Int.not_le.mp fun w => q ((zI_le zI_inR0 ha).mpr w)) H locs ls hP hD hS hl)
theorem j_if_gt {off : Int} {tgt : Nat} {a : Int} (hJ : Cx l D cy n0 ad own cc nL ret R A PR PX XS fin ET J) (ha : inR a) (ht : (pc : Int) + off = (tgt : Int)) (hd : decode cc pc = .ok (.ifCond .gt off, 3)) (kt : 0 < a → J ws ce sl tgt lv st) (kf : a ≤ 0 → J ws ce sl (pc + 3) lv st) : J ws ce sl pc lv (.int (zI a) :: st) := by
  obtain ⟨p, e, s, m, args, below, meth, c, Q, ⟨hx, hb, hml, hown⟩, hK, hA, hAn, hM, hXS, hQ, rfl⟩ := hJ
  intro H locs ls hP hD hS hl
  exact lv_if_gt hx hb hd ht (fun q => kt ((zI_lt zI_inR0 ha).mp q) H locs ls hP hD hS hl) (fun q => kf (Int.not_lt.mp fun w => q ((zI_lt zI_inR0 ha).mpr w)) H locs ls hP hD hS hl)
theorem j_if_le {off : Int} {tgt : Nat} {a : Int} (hJ : Cx l D cy n0 ad own cc nL ret R A PR PX XS fin ET J) (ha : inR a) (ht : (pc : Int) + off = (tgt : Int)) (hd : decode cc pc = .ok (.ifCond .le off, 3)) (kt : a ≤ 0 → J ws ce sl tgt lv st) (kf : 0 < a → J ws ce sl (pc + 3) lv st) : J ws ce sl pc lv (.int (zI a) :: st) := by
  obtain ⟨p, e, s, m, args, below, meth, c, Q, ⟨hx, hb, hml, hown⟩, hK, hA, hAn, hM, hXS, hQ, rfl⟩ := hJ
  intro H locs ls hP hD hS hl
  exact lv_if_le hx hb hd ht (fun q => kt ((zI_le ha zI_inR0).mp q) H locs ls hP hD hS hl) (fun q => kf (Int.not_le.mp fun w => q ((zI_le ha zI_inR0).mpr w)) H locs ls hP hD hS hl)
theorem j_icmp_eq {off : Int} {tgt : Nat} {a b : Int} (hJ : Cx l D cy n0 ad own cc nL ret R A PR PX XS fin ET J) (ha : inR a) (hb0 : inR b) (ht : (pc : Int) + off = (tgt : Int)) (hd : decode cc pc = .ok (.if_icmp .eq off, 3)) (kt : a = b → J ws ce sl tgt lv st) (kf : a ≠ b → J ws ce sl (pc + 3) lv st) : J ws ce sl pc lv (.int (zI b) :: .int (zI a) :: st) := by
  obtain ⟨p, e, s, m, args, below, meth, c, Q, ⟨hx, hb, hml, hown⟩, hK, hA, hAn, hM, hXS, hQ, rfl⟩ := hJ
  intro H locs ls hP hD hS hl
  exact lv_icmp_eq hx hb hd ht (fun q => kt ((zI_eq ha hb0).mp q) H locs ls hP hD hS hl) (fun q => kf (fun w => q (by rw [w])) H locs ls hP hD hS hl)
theorem j_icmp_ne {off : Int} {tgt : Nat} {a b : Int} (hJ : Cx l D cy n0 ad own cc nL ret R A PR PX XS fin ET J) (ha : inR a) (hb0 : inR b) (ht : (pc : Int) + off = (tgt : Int)) (hd : decode cc pc = .ok (.if_icmp .ne off, 3)) (kt : a ≠ b → J ws ce sl tgt lv st) (kf : a = b → J ws ce sl (pc + 3) lv st) : J ws ce sl pc lv (.int (zI b) :: .int (zI a) :: st) := by
  obtain ⟨p, e, s, m, args, below, meth, c, Q, ⟨hx, hb, hml, hown⟩, hK, hA, hAn, hM, hXS, hQ, rfl⟩ := hJ
  intro H locs ls hP hD hS hl
  exact lv_icmp_ne hx hb hd ht (fun q => kt (fun w => q (by rw [w])) H locs ls hP hD hS hl) (fun q => kf ((zI_eq ha hb0).mp q) H locs ls hP hD hS hl)
theorem j_icmp_lt {off : Int} {tgt : Nat} {a b : Int} (hJ : Cx l D cy n0 ad own cc nL ret R A PR PX XS fin ET J) (ha : inR a) (hb0 : inR b) (ht : (pc : Int) + off = (tgt : Int)) (hd : decode cc pc = .ok (.if_icmp .lt off, 3)) (kt : a < b → J ws ce sl tgt lv st) (kf : b ≤ a → J ws ce sl (pc + 3) lv st) : J ws ce sl pc lv (.int (zI b) :: .int (zI a) :: st) := by
  obtain ⟨p, e, s, m, args, below, meth, c, Q, ⟨hx, hb, hml, hown⟩, hK, hA, hAn, hM, hXS, hQ, rfl⟩ := hJ
  intro H locs ls hP hD hS hl
  exact lv_icmp_lt hx hb hd ht (fun q => kt ((zI_lt ha hb0).mp q) H locs ls hP hD hS hl) (fun q => kf (Int.not_lt.mp fun w => q ((zI_lt ha hb0).mpr w)) H locs ls hP hD hS hl)
theorem j_icmp_ge {off : Int} {tgt : Nat} {a b : Int} (hJ : Cx l D cy n0 ad own cc nL ret R A PR PX XS fin ET J) (ha : inR a) (hb0 : inR b) (ht : (pc : Int) + off = (tgt : Int)) (hd : decode cc pc = .ok (.if_icmp .ge off, 3)) (kt : b ≤ a → J ws ce sl tgt lv st) (kf : a < b → J ws ce sl (pc + 3) lv st) : J ws ce sl pc lv (.int (zI b) :: .int (zI a) :: st) := by
  obtain ⟨p, e, s, m, args, below, meth, c, Q, ⟨hx, hb, hml, hown⟩, hK, hA, hAn, hM, hXS, hQ, rfl⟩ := hJ
  intro H locs ls hP hD hS hl
  exact lv_icmp_ge hx hb hd ht (fun q => kt ((zI_le hb0 ha).mp q) H locs ls hP hD hS hl) (fun q => kf (Int.not_le.mp fun w => q ((zI_le hb0 ha).mpr w)) H locs ls hP hD hS hl)
theorem j_icmp_gt {off : Int} {tgt : Nat} {a b : Int} (hJ : Cx l D cy n0 ad own cc nL ret R A PR PX XS fin ET J) (ha : inR a) (hb0 : inR b) (ht : (pc : Int) + off = (tgt : Int)) (hd : decode cc pc = .ok (.if_icmp .gt off, 3)) (kt : b < a → J ws ce sl tgt lv st) (kf : a ≤ b → J ws ce sl (pc + 3) lv st) : J ws ce sl pc lv (.int (zI b) :: .int (zI a) :: st) := by
  obtain ⟨p, e, s, m, args, below, meth, c, Q, ⟨hx, hb, hml, hown⟩, hK, hA, hAn, hM, hXS, hQ, rfl⟩ := hJ
  intro H locs ls hP hD hS hl
  exact lv_icmp_gt hx hb hd ht (fun q => kt ((zI_lt hb0 ha).mp q) H locs ls hP hD hS hl) (fun q => kf (Int.not_lt.mp fun w => q ((zI_lt hb0 ha).mpr w)) H locs ls hP hD hS hl)
theorem j_icmp_le {off : Int} {tgt : Nat} {a b : Int} (hJ : Cx l D cy n0 ad own cc nL ret R A PR PX XS fin ET J) (ha : inR a) (hb0 : inR b) (ht : (pc : Int) + off = (tgt : Int)) (hd : decode cc pc = .ok (.if_icmp .le off, 3)) (kt : a ≤ b → J ws ce sl tgt lv st) (kf : b < a → J ws ce sl (pc + 3) lv st) : J ws ce sl pc lv (.int (zI b) :: .int (zI a) :: st) := by
  obtain ⟨p, e, s, m, args, below, meth, c, Q, ⟨hx, hb, hml, hown⟩, hK, hA, hAn, hM, hXS, hQ, rfl⟩ := hJ
  intro H locs ls hP hD hS hl
  exact lv_icmp_le hx hb hd ht (fun q => kt ((zI_le ha hb0).mp q) H locs ls hP hD hS hl) (fun q => kf (Int.not_le.mp fun w => q ((zI_le ha hb0).mpr w)) H locs ls hP hD hS hl)
theorem j_topi {x y : Int32} (he : x = y) (k : J ws ce sl pc lv (.int y :: st)) : J ws ce sl pc lv (.int x :: st) := by rw [he]; exact k
theorem j_widen (hJ : Cx l D cy n0 ad own cc nL ret R A PR PX XS fin ET J) {ce' sl' : Nat} (h1 : ce ≤ ce') (h2 : sl ≤ sl') (k : J ws ce' sl' pc lv st) : J ws ce sl pc lv st := by
  obtain ⟨p, e, s, m, args, below, meth, c, Q, ⟨hx, hb, hml, hown⟩, hK, hA, hAn, hM, hXS, hQ, rfl⟩ := hJ
  intro H locs ls hP hD hS hl
  exact W.widen h1 h2 (k H locs ls hP hD hS hl)
theorem j_locs (hJ : Cx l D cy n0 ad own cc nL ret R A PR PX XS fin ET J) (ks : List Nat) (he : lv_pick lv ks = lv') (k : J ws ce sl pc lv' st) : J ws ce sl pc lv st := by
  obtain ⟨p, e, s, m, args, below, meth, c, Q, ⟨hx, hb, hml, hown⟩, hK, hA, hAn, hM, hXS, hQ, rfl⟩ := hJ
  intro H locs ls hP hD hS hl
  exact k H locs ls hP hD hS (lv_sub hl ks he)
theorem j_vret (hJ : Cx l D cy n0 ad own cc nL ret R A PR PX XS fin ET J) (hf : fin = true) (hr : ret = none) (h1 : ce ≤ R.cells) (h2 : sl ≤ R.slots) (hd : decode cc pc = .ok (.return_, 1)) (hp : PR none ws) : J ws ce sl pc lv [] := by
  obtain ⟨p, e, s, m, args, below, meth, c, Q, ⟨hx, hb, hml, hown⟩, hK, hA, hAn, hM, hXS, hQ, rfl⟩ := hJ
  intro H locs ls hP hD hS hl
  rw [hQ hf]
  refine W.widen h1 h2 (vx_ret (W.vret hx hb (hM.1.trans hr) (fun t ht hW => ⟨⟨none, ws, rfl, hp, by rw [ht]; exact hP, hD⟩, hS.F ht⟩) hS.2.2 hd hM.2.1))
theorem j_iret (hJ : Cx l D cy n0 ad own cc nL ret R A PR PX XS fin ET J) {ty : FieldType} {z : Int} (hf : fin = true) (hr : ret = some ty) (hn : narrow ty (.int (zI z)) = .int (zI z)) (h1 : ce ≤ R.cells) (h2 : sl ≤ R.slots) (hd : decode cc pc = .ok (.ireturn, 1)) (hp : PR (some (.int (zI z))) ws) : J ws ce sl pc lv [.int (zI z)] := by
  obtain ⟨p, e, s, m, args, below, meth, c, Q, ⟨hx, hb, hml, hown⟩, hK, hA, hAn, hM, hXS, hQ, rfl⟩ := hJ
  intro H locs ls hP hD hS hl
  rw [hQ hf]
  refine W.widen h1 h2 (vx_ret (W.zret hx hb (hM.1.trans hr) hn (fun t ht hW => ⟨⟨some (.int (zI z)), ws, rfl, hp, by rw [ht]; exact hP, hD⟩, hS.F ht⟩) hS.2.2 hd hM.2.1))
theorem j_aret (hJ : Cx l D cy n0 ad own cc nL ret R A PR PX XS fin ET J) {nm : String} {a : Nat} (hf : fin = true) (hr : ret = some (.object nm)) (h1 : ce ≤ R.cells) (h2 : sl ≤ R.slots) (hd : decode cc pc = .ok (.areturn, 1)) (hp : PR (some (.ref a)) ws) : J ws ce sl pc lv [.ref a] := by
  obtain ⟨p, e, s, m, args, below, meth, c, Q, ⟨hx, hb, hml, hown⟩, hK, hA, hAn, hM, hXS, hQ, rfl⟩ := hJ
  intro H locs ls hP hD hS hl
  rw [hQ hf]
  refine W.widen h1 h2 (vx_ret (W.aret hx hb (hM.1.trans hr) (Or.inl ⟨nm, rfl⟩) (Or.inr ⟨a, rfl⟩) (fun t ht hW => ⟨⟨some (.ref a), ws, rfl, hp, by rw [ht]; exact hP, hD⟩, hS.F ht⟩) hS.2.2 hd hM.2.1))
end JR
