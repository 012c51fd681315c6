/-! what lay in the heap before: statics, the words, their texts -/
theorem k_Z {D : va_G} {cy : Nat → ClassId} {n0 : Nat} {ad : Nat → Nat} {s : State} (h : KK D cy n0 ad s) : SF ad n0 s s.heap := h.2.2.2.1
section JS
variable {l : Launch} {D : va_G} {cy : Nat → ClassId} {n0 : Nat} {ad : Nat → Nat} {own : String} {cc : ByteArray} {nL : Nat} {ret : Option FieldType} {R : Room} {A : Nat → Prop} {PR : Option Value → va_W → Prop} {PX : String → va_W → Prop} {XS : State → Prop} {fin : Bool} {ET : List ExceptionTableEntry} {J : JT}
variable {ws : va_W} {ce sl pc : Nat} {lv : List (Nat × Value)} {st : List Value} {idx : Nat} {C n d : String} {v : Value}
theorem j_gets (hJ : Cx l D cy n0 ad own cc nL ret R A PR PX XS fin ET J) (hZ : ∀ s, SF ad n0 s s.heap → va_Z C n d v (AN n0) s s.heap) (hw : Cond.fieldLink own idx C n d ∈ GT ∨ Cond.fieldLinkNest own idx C n d RX4 ∈ GT) (hd : decode cc pc = .ok (.getstatic idx, 3)) (kk : J ws ce sl (pc + 3) lv (v :: st)) : J ws ce sl pc lv st := by
  obtain ⟨p, e, s, m, args, below, meth, c, Q, ⟨hx, hb, hml, hown⟩, hK, hA, hAn, hM, hXS, hQ, rfl⟩ := hJ
  intro H locs ls hP hD hS hl
  rcases hw with hw | hw
  · exact va_gets hx hb ((hZ s (k_Z hK)).narrow hAn) hS hown (hK.2.1.good hw rfl) (fun _ h => h) hd (kk H locs ls hP hD hS hl)
  · exact va_getsN hx hb ((hZ s (k_Z hK)).narrow hAn) hS hown (hK.2.1.nest hw rfl) (fun _ h => h) hd (kk H locs ls hP hD hS hl)
theorem j_getsq (hJ : Cx l D cy n0 ad own cc nL ret R A PR PX XS fin ET J) (hZ : ∀ s, SF ad n0 s s.heap → va_Zq C n d (AN n0) s s.heap) (hw : Cond.fieldLink own idx C n d ∈ GT) (hd : decode cc pc = .ok (.getstatic idx, 3)) (kk : ∀ v : Value, (v = .null ∨ ∃ t, v = .ref t) → J ws ce sl (pc + 3) lv (v :: st)) : J ws ce sl pc lv st := by
  obtain ⟨p, e, s, m, args, below, meth, c, Q, ⟨hx, hb, hml, hown⟩, hK, hA, hAn, hM, hXS, hQ, rfl⟩ := hJ
  intro H locs ls hP hD hS hl
  rcases (hZ s (k_Z hK)).narrow hAn with h | ⟨t, h⟩
  · exact va_gets hx hb h hS hown (hK.2.1.good hw rfl) (fun _ h => h) hd (kk _ (Or.inl rfl) H locs ls hP hD hS hl)
  · exact va_gets hx hb h hS hown (hK.2.1.good hw rfl) (fun _ h => h) hd (kk _ (Or.inr ⟨t, rfl⟩) H locs ls hP hD hS hl)
theorem j_getK {q : Nat} (hJ : Cx l D cy n0 ad own cc nL ret R A PR PX XS fin ET J) (hZ : ∀ s, SF ad n0 s s.heap → va_OF C n d v q (AN n0) s s.heap) (hw : Cond.fieldLink own idx C n d ∈ GT ∨ Cond.fieldLinkNest own idx C n d RX4 ∈ GT) (hd : decode cc pc = .ok (.getfield idx, 3)) (kk : J ws ce sl (pc + 3) lv (v :: st)) : J ws ce sl pc lv (.ref q :: st) := by
  obtain ⟨p, e, s, m, args, below, meth, c, Q, ⟨hx, hb, hml, hown⟩, hK, hA, hAn, hM, hXS, hQ, rfl⟩ := hJ
  intro H locs ls hP hD hS hl
  obtain ⟨cf, k, fi, f, cell, h1, h2, h3, h4, h5, h6⟩ := ((hZ s (k_Z hK)).narrow hAn).kept hS.2.1
  rcases hw with hw | hw
  · exact W.getf hx hb hown (hK.2.1.good hw rfl) h1 h2 h3 h4 (v := v) h5 rfl rfl hd (kk H locs ls hP hD hS hl)
  · exact va_Wgetf hx hb hown (hK.2.1.nest hw rfl) h1 h2 h3 h4 (v := v) h5 rfl rfl hd (kk H locs ls hP hD hS hl)
theorem j_aaldK {t N : Nat} {f : Nat → Value} {z : Int} (hJ : Cx l D cy n0 ad own cc nL ret R A PR PX XS fin ET J) (hT : ∀ s, SF ad n0 s s.heap → va_T (.object C) t N f (AN n0) s s.heap) (h0 : 0 ≤ z) (h1 : z < N) (hN : N < 2 ^ 31) (hv : f z.toNat = v) (hd : decode cc pc = .ok (.aaload, 1)) (kk : J ws ce sl (pc + 1) lv (v :: st)) : J ws ce sl pc lv (.int (zI z) :: .ref t :: st) := by
  obtain ⟨p, e, s, m, args, below, meth, c, Q, ⟨hx, hb, hml, hown⟩, hK, hA, hAn, hM, hXS, hQ, rfl⟩ := hJ
  intro H locs ls hP hD hS hl
  exact vb_tq hx hb ((hT s (k_Z hK)).narrow hAn) hS (zI_in h0 h1 hN) (by rw [zI_cl h0 (by omega)]; exact hv) hd (kk H locs ls hP hD hS hl)
theorem j_baldK {t N : Nat} {f : Nat → Value} {z : Int} (hJ : Cx l D cy n0 ad own cc nL ret R A PR PX XS fin ET J) (hT : ∀ s, SF ad n0 s s.heap → va_T .byte t N f (AN n0) s s.heap) (h0 : 0 ≤ z) (h1 : z < N) (hN : N < 2 ^ 31) (hv : f z.toNat = v) (hd : decode cc pc = .ok (.baload, 1)) (kk : J ws ce sl (pc + 1) lv (v :: st)) : J ws ce sl pc lv (.int (zI z) :: .ref t :: st) := by
  obtain ⟨p, e, s, m, args, below, meth, c, Q, ⟨hx, hb, hml, hown⟩, hK, hA, hAn, hM, hXS, hQ, rfl⟩ := hJ
  intro H locs ls hP hD hS hl
  exact va_tb hx hb ((hT s (k_Z hK)).narrow hAn) hS (zI_in h0 h1 hN) (by rw [zI_cl h0 (by omega)]; exact hv) hd (kk H locs ls hP hD hS hl)
theorem j_alenK {t N : Nat} {ty : FieldType} {f : Nat → Value} (hJ : Cx l D cy n0 ad own cc nL ret R A PR PX XS fin ET J) (hT : ∀ s, SF ad n0 s s.heap → va_T ty t N f (AN n0) s s.heap) (hd : decode cc pc = .ok (.arraylength, 1)) (kk : J ws ce sl (pc + 1) lv (.int (zI N) :: st)) : J ws ce sl pc lv (.ref t :: st) := by
  obtain ⟨p, e, s, m, args, below, meth, c, Q, ⟨hx, hb, hml, hown⟩, hK, hA, hAn, hM, hXS, hQ, rfl⟩ := hJ
  intro H locs ls hP hD hS hl
  exact va_tlen hx hb ((hT s (k_Z hK)).narrow hAn) hS (zI_nI N) hd (kk H locs ls hP hD hS hl)
/-- a virtual call upon one of the words' texts -/
theorem j_callK {i : Nat} {As rest : List Value} {y : MethodName} {bytes : ByteArray} {maxL : Nat} {rt : Option FieldType} {rm : Room} {PR1 : Option Value → va_W → Prop} (hJ : Cx l D cy n0 ad own cc nL ret R A PR PX XS fin ET J) (hi : i < 25) (hyc : y.cls = "java/lang/String") (hM : CT l D cy n0 ad y (.code y bytes maxL rt) rm (.ref (ad (30 + i)) :: As) ws PR1) (hF : MF own idx 0 y As.length) (hw : Cond.code y bytes maxL rt ∈ GT)
    (hR : rm.frames + 1 ≤ R.frames ∧ 8 + (maxL + 11) + rm.locals ≤ R.locals) (hce : ce + rm.cells ≤ R.cells ∧ sl + rm.slots ≤ R.slots) (hst : (rest.map fun v => v.category).sum ≤ 8) (hd : decode cc pc = .ok (.invokevirtual idx, 3))
    {as : List Value} (has : as = As.reverse ++ .ref (ad (30 + i)) :: rest)
    (kk : ∀ v u, PR1 v u → J u (ce + rm.cells) (sl + rm.slots) (pc + 3) lv (v.toList ++ rest)) : J ws ce sl pc lv as := by
  subst has
  obtain ⟨p, e, s, m, args, below, meth, c, Q, ⟨hx, hb, hml, hown⟩, hK, hA, hAn, hMm, hXS, hQ, rfl⟩ := hJ
  intro H locs ls hP hD hS hl
  obtain ⟨f1, f2, f3, f4, f5, -, -⟩ := hF
  obtain ⟨f6, f7⟩ := f5 rfl
  have hTB := hK.2.1
  have hrv := vk_recv (vk_S.narrow (k_Z hK).2.2.2.2.2.1 hAn) hi hS
  rw [← hyc] at hrv
  have hP' : va_P D vwCl (ws ++ []) H := by rw [List.append_nil]; exact hP
  have hD' : va_D A (ws ++ []) := by rw [List.append_nil]; exact hD
  have hFc := call_free hA hD' hS
  have hr : va_Run p l e R s m args below meth c H locs ce sl rm.cells rm.slots (F0 m pc ls (As.reverse ++ .ref (ad (30 + i)) :: rest)) rest (Qcc D (va_A ws H.size) PR1 (Value.ref (ad (30 + i)) :: As).toArray) (va_A ws H.size) := by
    rcases f1 with f1 | f1
    · exact va_runV (Ts := []) ⟨hx, hb, hml, hown, fun _ h => nomatch h⟩ (hM H.size) ⟨⟨rfl, rfl, hR.1, hR.2, wd_all rfl hTB hw, List.mem_cons_self, hTB.good hw rfl, hTB.good f2 rfl, f3, desc_n f4, hTB.good f1 rfl⟩, hTB.good f6 rfl, hTB.good f7 rfl⟩ ⟨Pcc.blind, hrv, call_pre hK hAn hP' hD' hS⟩ rfl rfl hl.1 rfl (lv_room hst) hd hce
    · exact va_runVN (Ts := []) ⟨hx, hb, hml, hown, fun _ h => nomatch h⟩ (hM H.size) ⟨⟨⟨rfl, rfl, hR.1, hR.2, wd_all rfl hTB hw, List.mem_cons_self⟩, hTB.good hw rfl, hTB.good f2 rfl, f3, desc_n f4, hTB.nest f1 rfl⟩, hTB.good f6 rfl, hTB.good f7 rfl⟩ ⟨Pcc.blind, hrv, call_pre hK hAn hP' hD' hS⟩ rfl rfl hl.1 rfl (lv_room hst) hd hce
  refine w_call hr hS (fun q _ h => hFc q h) hFc (fun v u H1 locs1 hp hP1 hD1 hz1 hk1 hS1 => ?_)
  exact kk v u hp H1 locs1 ls hP1 (hD1.weaken (fun _ q _ h => hFc q.1 h)) hS1 hl
end JS
/-! the words' letters and their order -/
def wL (i : Nat) : Nat := wLen.getD i 0
def wC (i k : Nat) : Int := ((wByt.getD i []).getD k 0).toInt
def wRl : List Nat := [21, 13, 15, 22, 14, 11, 23, 8, 3, 7, 18, 5, 10, 12, 2, 0, 9, 1, 19, 20, 6, 16, 17, 4]
def wRk (i : Nat) : Int := (wRl.getD i 0 : Nat)
theorem wL_lt (i : Nat) : wL i < 8 := by
  unfold wL
  by_cases h : i < 25
  · exact (show ∀ j < 25, wLen.getD j 0 < 8 by decide) i h
  · rw [List.getD_eq_getElem?_getD, List.getElem?_eq_none (by show 25 ≤ i; omega)]; decide
theorem wL_shr {i : Nat} (h : i < 25) : zI (wL i : Int) >>> (zI 0 &&& 31) = zI (wL i : Int) := (show ∀ j < 25, zI (wL j : Int) >>> (zI 0 &&& 31) = zI (wL j : Int) by decide +kernel) i h
theorem wC_tab : ∀ i < 25, ∀ k < wL i, (((wByt.getD i []).getD k 0 &&& zI 255).toUInt32 % 65536).toInt32 = zI (wC i k) ∧ narrow .char (.int (zI (wC i k))) = .int (zI (wC i k)) ∧ 0 ≤ wC i k ∧ wC i k < 128 := by decide +kernel
def wTb : Bool := (List.range 24).all fun i => (List.range 24).all fun j => ((List.range (min (wL i) (wL j))).all fun k => !((List.range k).all fun t => wC i t == wC j t) || ((!decide (wC i k < wC j k) || sg (wRk i - wRk j) == -1) && (!decide (wC j k < wC i k) || sg (wRk i - wRk j) == 1))) && (!((List.range (min (wL i) (wL j))).all fun t => wC i t == wC j t) || sg (wRk i - wRk j) == sg ((wL i : Int) - wL j))
set_option maxRecDepth 100000 in
theorem wTb_true : wTb = true := by decide +kernel
theorem w_ord {i j : Nat} (hi : i < 24) (hj : j < 24) : (∀ k, k < wL i → k < wL j → (∀ t, t < k → wC i t = wC j t) → (wC i k < wC j k → sg (wRk i - wRk j) = -1) ∧ (wC j k < wC i k → sg (wRk i - wRk j) = 1)) ∧ ((∀ t, t < wL i → t < wL j → wC i t = wC j t) → sg (wRk i - wRk j) = sg ((wL i : Int) - wL j)) := by
  have h := List.all_eq_true.mp (List.all_eq_true.mp wTb_true i (List.mem_range.mpr hi)) j (List.mem_range.mpr hj)
  rw [Bool.and_eq_true] at h
  refine ⟨fun k h1 h2 h3 => ?_, fun h3 => ?_⟩
  · have h4 := List.all_eq_true.mp h.1 k (List.mem_range.mpr (by omega))
    have h5 : ((List.range k).all fun t => wC i t == wC j t) = true := List.all_eq_true.mpr fun t ht => by simpa using h3 t (List.mem_range.mp ht)
    rw [h5] at h4
    simp only [Bool.not_true, Bool.false_or, Bool.and_eq_true, Bool.or_eq_true, Bool.not_eq_true', decide_eq_false_iff_not, beq_iff_eq] at h4
    exact ⟨fun g => h4.1.resolve_left (fun g2 => g2 g), fun g => h4.2.resolve_left (fun g2 => g2 g)⟩
  · have h4 := h.2
    have h5 : ((List.range (min (wL i) (wL j))).all fun t => wC i t == wC j t) = true := List.all_eq_true.mpr fun t ht => by
      have := List.mem_range.mp ht
      simpa using h3 t (by omega) (by omega)
    rw [h5] at h4
    simpa using h4
