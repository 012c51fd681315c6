def cntN (f : Nat → Bool) : Nat → Nat
  | 0 => 0
  | n + 1 => cntN f n + (if f n then 1 else 0)
theorem cntN_add (f : Nat → Bool) (m : Nat) : ∀ n, cntN f (m + n) = cntN f m + cntN (fun r => f (m + r)) n
  | 0 => rfl
  | n + 1 => by
    show cntN f (m + n) + _ = _
    rw [cntN_add f m n, cntN, Nat.add_assoc]
    rfl
theorem cntN_le (f : Nat → Bool) : ∀ n, cntN f n ≤ n
  | 0 => Nat.le_refl 0
  | n + 1 => by
    have := cntN_le f n
    rw [cntN]
    split <;> omega
theorem cntN_congr {f g : Nat → Bool} : ∀ {n : Nat}, (∀ k, k < n → f k = g k) → cntN f n = cntN g n
  | 0, _ => rfl
  | n + 1, h => by rw [cntN, cntN, cntN_congr (n := n) (fun k hk => h k (by omega)), h n (by omega)]
/-! Integer.bitCount -/
def shu (x : Int32) (n : Int32) : Int32 := (x.toUInt32 >>> (n.toUInt32 &&& Int32.toUInt32 31)).toInt32
def bc1 (x : Int32) : Int32 := x - (shu x 1 &&& 1431655765)
def bc2 (x : Int32) : Int32 := (x &&& 858993459) + (shu x 2 &&& 858993459)
def bc3 (x : Int32) : Int32 := (x + shu x 4) &&& 252645135
def bc (x : Int32) : Int32 :=
  let a := bc3 (bc2 (bc1 x))
  let d := a + shu a 8
  let e := d + shu d 16
  e &&& 63
set_option maxRecDepth 100000 in
theorem bc_tab : (List.range 4096).all (fun n => decide (bc (nI n) = nI (cntN n.testBit 12) ∧ bc (nI n &&& ((nI n <<< (zI 1 &&& 31)) ^^^ zI (-1))) = nI (cntN (fun r => n.testBit r && (r == 0 || !n.testBit (r - 1))) 12))) = true := by decide +kernel
theorem bc_bits {x : Int} (h0 : 0 ≤ x) (h : x < 4096) : bc (zI x) = zI (cntN x.toNat.testBit 12 : Nat) ∧ bc (zI x &&& ((zI x <<< (zI 1 &&& 31)) ^^^ zI (-1))) = zI (cntN (fun r => x.toNat.testBit r && (r == 0 || !x.toNat.testBit (r - 1))) 12 : Nat) := by
  have h1 := List.all_eq_true.mp bc_tab x.toNat (List.mem_range.mpr (by omega))
  rw [decide_eq_true_eq] at h1
  rw [zI_n h0, ← zI_nI, ← zI_nI]
  exact h1
section JX
variable {l : Launch} {D : va_G} {cy : Nat → ClassId} {n0 : Nat} {ad : Nat → Nat} {own : String} {cc : ByteArray} {nL : Nat} {ret : Option FieldType} {R : Room} {A : Nat → Prop} {PR : Option Value → va_W → Prop} {PX : String → va_W → Prop} {XS : State → Prop} {fin : Bool} {ET : List ExceptionTableEntry} {J : JT}
variable {ws E : va_W} {ce sl pc : Nat} {lv : List (Nat × Value)} {st : List Value} {N : Nat} {sh : Nat → Sh} {b : Nat → Nat} {μ : Nat → Int → Int}
theorem j_rsub {x y : Int32} (hJ : Cx l D cy n0 ad own cc nL ret R A PR PX XS fin ET J) (hd : decode cc pc = .ok (.isub, 1)) (k : J ws ce sl (pc + 1) lv (.int (x - y) :: st)) : J ws ce sl pc lv (.int y :: .int x :: st) := by
  obtain ⟨p, e, s, m, args, below, meth, c, Q, ⟨hx, hb, hml, hown⟩, hK, hA, hAn, hM, hXS, hQ, rfl⟩ := hJ
  intro H locs ls hP hD hS hl
  exact lv_isub hx hb hd (k H locs ls hP hD hS hl)
theorem j_radd {x y : Int32} (hJ : Cx l D cy n0 ad own cc nL ret R A PR PX XS fin ET J) (hd : decode cc pc = .ok (.iadd, 1)) (k : J ws ce sl (pc + 1) lv (.int (x + y) :: st)) : J ws ce sl pc lv (.int y :: .int x :: st) := by
  obtain ⟨p, e, s, m, args, below, meth, c, Q, ⟨hx, hb, hml, hown⟩, hK, hA, hAn, hM, hXS, hQ, rfl⟩ := hJ
  intro H locs ls hP hD hS hl
  exact lv_iadd hx hb hd (k H locs ls hP hD hS hl)
theorem j_rand {x y : Int32} (hJ : Cx l D cy n0 ad own cc nL ret R A PR PX XS fin ET J) (hd : decode cc pc = .ok (.iand, 1)) (k : J ws ce sl (pc + 1) lv (.int (x &&& y) :: st)) : J ws ce sl pc lv (.int y :: .int x :: st) := by
  obtain ⟨p, e, s, m, args, below, meth, c, Q, ⟨hx, hb, hml, hown⟩, hK, hA, hAn, hM, hXS, hQ, rfl⟩ := hJ
  intro H locs ls hP hD hS hl
  exact lv_iand hx hb hd (k H locs ls hP hD hS hl)
theorem j_rxor {x y : Int32} (hJ : Cx l D cy n0 ad own cc nL ret R A PR PX XS fin ET J) (hd : decode cc pc = .ok (.ixor, 1)) (k : J ws ce sl (pc + 1) lv (.int (x ^^^ y) :: st)) : J ws ce sl pc lv (.int y :: .int x :: st) := by
  obtain ⟨p, e, s, m, args, below, meth, c, Q, ⟨hx, hb, hml, hown⟩, hK, hA, hAn, hM, hXS, hQ, rfl⟩ := hJ
  intro H locs ls hP hD hS hl
  exact lv_ixor hx hb hd (k H locs ls hP hD hS hl)
theorem j_rshl {x y : Int32} (hJ : Cx l D cy n0 ad own cc nL ret R A PR PX XS fin ET J) (hd : decode cc pc = .ok (.ishl, 1)) (k : J ws ce sl (pc + 1) lv (.int (x <<< (y &&& 31)) :: st)) : J ws ce sl pc lv (.int y :: .int x :: st) := by
  obtain ⟨p, e, s, m, args, below, meth, c, Q, ⟨hx, hb, hml, hown⟩, hK, hA, hAn, hM, hXS, hQ, rfl⟩ := hJ
  intro H locs ls hP hD hS hl
  exact lv_ishl hx hb hd (k H locs ls hP hD hS hl)
theorem j_rushr {x y : Int32} (hJ : Cx l D cy n0 ad own cc nL ret R A PR PX XS fin ET J) (hd : decode cc pc = .ok (.iushr, 1)) (k : J ws ce sl (pc + 1) lv (.int (shu x y) :: st)) : J ws ce sl pc lv (.int y :: .int x :: st) := by
  obtain ⟨p, e, s, m, args, below, meth, c, Q, ⟨hx, hb, hml, hown⟩, hK, hA, hAn, hM, hXS, hQ, rfl⟩ := hJ
  intro H locs ls hP hD hS hl
  exact lv_iushr hx hb hd rfl (k H locs ls hP hD hS hl)
theorem j_ldcw {i : Nat} {x : Int32} (hJ : Cx l D cy n0 ad own cc nL ret R A PR PX XS fin ET J) (hw : Cond.constant own i x ∈ GT) (hd : decode cc pc = .ok (.ldc_w i, 3)) (k : J ws ce sl (pc + 3) lv (.int x :: st)) : J ws ce sl pc lv st := by
  obtain ⟨p, e, s, m, args, below, meth, c, Q, ⟨hx, hb, hml, hown⟩, hK, hA, hAn, hM, hXS, hQ, rfl⟩ := hJ
  intro H locs ls hP hD hS hl
  exact lv_ldcw hx hb hown (hK.2.1.good hw rfl) hd (k H locs ls hP hD hS hl)
theorem w_alen {k t n : Nat} {ty : FieldType} (hJ : Cx l D cy n0 ad own cc nL ret R A PR PX XS fin ET J) (hk : k < N) (hs : sh k = .inr (.inl (t, n))) (ht : ∀ cy, (TY cy)[t]? = some (cy t, ty)) (hd : decode cc pc = .ok (.arraylength, 1))
    (kk : J (gw N sh cy b μ ++ E) ce sl (pc + 1) lv (.int (zI n) :: st)) : J (gw N sh cy b μ ++ E) ce sl pc lv (.ref (b k) :: st) := by
  obtain ⟨p, e, s, m, args, below, meth, c, Q, ⟨hx, hb, hml, hown⟩, hK, hA, hAn, hM, hXS, hQ, rfl⟩ := hJ
  intro H locs ls hP hD hS hl
  have he : (gw N sh cy b μ ++ E)[k]? = some (b k, .inl (cy t, n, .inl (fun j => zI (μ k j)))) := by rw [gw_get hk, hs]; rfl
  exact va_alen hx hb hK.1 hP k t he (ht cy) (zI_nI n) hd (kk H locs ls hP hD hS hl)
end JX
