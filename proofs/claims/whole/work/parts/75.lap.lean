/-! the law's own walk: the script, the helpers, the reference -/
def XSL (sb L : Nat) (xs : Nat → Int32) (n0 : Nat) (s : State) : Prop := NC s ∧ va_X sb L xs s s.heap ∧ sb < n0
section JLW
variable {l : Launch} {D : va_G} {cy : Nat → ClassId} {n0 : Nat} {ad : Nat → Nat} {own : String} {cc : ByteArray} {nL : Nat} {ret : Option FieldType} {R : Room} {A : Nat → Prop} {PR : Option Value → va_W → Prop} {PX : String → va_W → Prop} {XS : State → Prop} {fin : Bool} {ET : List ExceptionTableEntry} {J : JT}
variable {ws wc : va_W} {ce sl pc : Nat} {lv : List (Nat × Value)} {st rest As : List Value} {y : MethodName} {bytes : ByteArray} {maxL : Nat} {rt : Option FieldType} {rm : Room} {PR1 : Option Value → va_W → Prop} {idx : Nat} {sb L : Nat} {xs : Nat → Int32}
theorem j_sld {i : Int} (hJ : Cx l D cy n0 ad own cc nL ret R (AN n0) PR PX (XSL sb L xs n0) fin ET J) (h0 : 0 ≤ i) (h1 : i < L) (hL : L ≤ 2560) (hd : decode cc pc = .ok (.iaload, 1)) (k : J ws ce sl (pc + 1) lv (.int (zI (xs i.toNat).toInt) :: st)) : J ws ce sl pc lv (.int (zI i) :: .ref sb :: st) := by
  obtain ⟨p, e, s, m, args, below, meth, c, Q, ⟨hx, hb, hml, hown⟩, hK, hA, hAn, hM, hXS, hQ, rfl⟩ := hJ
  intro H locs ls hP hD hS hl
  refine va_sld hx hb hXS.2.1 (Nat.lt_of_lt_of_le hXS.2.2 hK.2.2.1) (Nat.not_le.mpr hXS.2.2) hS (zI_in h0 h1 (by omega)) hd ?_
  rw [zI_cl h0 (by omega)]
  have h9 := k H locs ls hP hD hS hl
  rwa [zI_of] at h9
theorem j_slen (hJ : Cx l D cy n0 ad own cc nL ret R (AN n0) PR PX (XSL sb L xs n0) fin ET J) (hd : decode cc pc = .ok (.arraylength, 1)) (k : J ws ce sl (pc + 1) lv (.int (zI (L : Int)) :: st)) : J ws ce sl pc lv (.ref sb :: st) := by
  obtain ⟨p, e, s, m, args, below, meth, c, Q, ⟨hx, hb, hml, hown⟩, hK, hA, hAn, hM, hXS, hQ, rfl⟩ := hJ
  intro H locs ls hP hD hS hl
  refine va_slen hx hb hXS.2.1 (Nat.lt_of_lt_of_le hXS.2.2 hK.2.2.1) (Nat.not_le.mpr hXS.2.2) hS hd ?_
  have h9 := k H locs ls hP hD hS hl
  rw [← zI_nI] at h9
  exact h9
theorem j_callSH {hh : List (Nat × Nat × Nat × Nat)} (hJ : Cx l D cy n0 ad own cc nL ret R A PR PX XS fin ET J) (hXN : ∀ s, XS s → NC s) (hM : CTH l D cy n0 ad y (.codeWith y bytes maxL rt hh) rm As wc PR1) (hF : MX own idx 1 y As.length) (hw : Cond.codeWith y bytes maxL rt hh ∈ GT)
    (hR : rm.frames + 1 ≤ R.frames ∧ 8 + (maxL + 11) + rm.locals ≤ R.locals) (hce : ce + rm.cells ≤ R.cells ∧ sl + rm.slots ≤ R.slots) (hst : (rest.map fun v => v.category).sum ≤ 8) (hd : decode cc pc = .ok (.invokestatic idx, 3))
    {as : List Value} (has : as = As.reverse ++ rest)
    (kk : ∀ v u, PR1 v u → J u (ce + rm.cells) (sl + rm.slots) (pc + 3) lv (v.toList ++ rest)) : J wc ce sl pc lv as := by
  subst has
  obtain ⟨p, e, s, m, args, below, meth, c, Q, ⟨hx, hb, hml, hown⟩, hK, hA, hAn, hMm, hXS, hQ, rfl⟩ := hJ
  intro H locs ls hP hD hS hl
  obtain ⟨f1, f2, f3, f4, -, f5⟩ := hF
  have f6 := f5 rfl
  have hTB := hK.2.1
  have hP' : va_P D vwCl (wc ++ []) H := by rw [List.append_nil]; exact hP
  have hD' : va_D A (wc ++ []) := by rw [List.append_nil]; exact hD
  have hFc := call_free hA hD' hS
  refine w_call (vx_runSW (Ts := []) ⟨hx, hb, hml, hown, fun _ h => nomatch h⟩ (hM H.size) ⟨⟨rfl, rfl, hR.1, hR.2, wd_all rfl hTB hw, List.mem_cons_self⟩, hTB.good hw rfl, hTB.good f2 rfl, f3, desc_n f4, hTB.good f1 rfl, hTB.good f6 rfl⟩ ⟨Pch.blind, fun U hU hW => ⟨call_pre hK hAn hP' hD' hS U hU hW, NC.moved hW.alike (hXN s hXS)⟩⟩ rfl rfl hl.1 rfl (lv_room hst) hd hce) hS (fun q _ h => hFc q h) hFc (fun v u H1 locs1 hp hP1 hD1 hz1 hk1 hS1 => ?_)
  exact kk v u hp H1 locs1 ls hP1 (hD1.weaken (fun _ q _ h => hFc q.1 h)) hS1 hl
theorem j_tabIn {dflt lo hi : Int} {offs : Array Int} {len tgt : Nat} {x : Int32} {off : Int} (hJ : Cx l D cy n0 ad own cc nL ret R A PR PX XS fin ET J) (hd : decode cc pc = .ok (.tableswitch dflt lo hi offs, len)) (h1 : ¬ x.toInt < lo) (h2 : ¬ hi < x.toInt) (ho : offs[(x.toInt - lo).toNat]? = some off) (ht : (pc : Int) + off = (tgt : Int)) (k : J ws ce sl tgt lv st) : J ws ce sl pc lv (.int x :: st) := by
  obtain ⟨p, e, s, m, args, below, meth, c, Q, ⟨hx, hb, hml, hown⟩, hK, hA, hAn, hM, hXS, hQ, rfl⟩ := hJ
  intro H locs ls hP hD hS hl
  exact lv_tableIn hx hb hd h1 h2 ho ht (k H locs ls hP hD hS hl)
theorem j_tabOut {dflt lo hi : Int} {offs : Array Int} {len tgt : Nat} {x : Int32} (hJ : Cx l D cy n0 ad own cc nL ret R A PR PX XS fin ET J) (hd : decode cc pc = .ok (.tableswitch dflt lo hi offs, len)) (h : x.toInt < lo ∨ hi < x.toInt) (ht : (pc : Int) + dflt = (tgt : Int)) (k : J ws ce sl tgt lv st) : J ws ce sl pc lv (.int x :: st) := by
  obtain ⟨p, e, s, m, args, below, meth, c, Q, ⟨hx, hb, hml, hown⟩, hK, hA, hAn, hM, hXS, hQ, rfl⟩ := hJ
  intro H locs ls hP hD hS hl
  exact lv_tableOut hx hb hd h ht (k H locs ls hP hD hS hl)
end JLW
theorem perm_law (F : va_W) (c : Nat × va_E) (G : va_W) : (F ++ (c :: G)).Perm (G ++ (F ++ [c])) := by
  rw [show F ++ (c :: G) = (F ++ [c]) ++ G by simp]
  exact List.perm_append_comm
theorem inR_s {x : Int32} {v : Int} (h : x.toInt = v) : -2147483648 ≤ v ∧ v < 2147483648 := by
  have h1 := Int32.le_toInt x
  have h2 := Int32.toInt_lt x
  omega
section JLV
variable {l : Launch} {D : va_G} {cy : Nat → ClassId} {n0 : Nat} {ad : Nat → Nat} {own : String} {cc : ByteArray} {nL : Nat} {ret : Option FieldType} {R : Room} {PR : Option Value → va_W → Prop} {PX : String → va_W → Prop} {fin : Bool} {ET : List ExceptionTableEntry} {J : JT}
variable {ws : va_W} {ce sl pc : Nat} {lv : List (Nat × Value)} {st : List Value} {sb L : Nat} {xs : Nat → Int32}
theorem j_sldv {i v : Int} (hJ : Cx l D cy n0 ad own cc nL ret R (AN n0) PR PX (XSL sb L xs n0) fin ET J) (hv : (xs i.toNat).toInt = v) (h0 : 0 ≤ i) (h1 : i < L) (hL : L ≤ 2560) (hd : decode cc pc = .ok (.iaload, 1)) (k : J ws ce sl (pc + 1) lv (.int (zI v) :: st)) : J ws ce sl pc lv (.int (zI i) :: .ref sb :: st) := by
  subst hv
  exact j_sld hJ h0 h1 hL hd k
end JLV
