def iabs (a : Int) : Int := if 0 ≤ a then a else -a
def imax (a b : Int) : Int := if a < b then b else a
def imin (a b : Int) : Int := if b < a then b else a
/-! what the tables say of a throw: its class, the two entries -/
def TF (own cls : String) (ik ic : Nat) : Prop := Bundle.fit cls = true ∧ Cond.classLink own ik cls ∈ GT ∧ Cond.initialized cls ∈ GT ∧ (∀ w ∈ vx_atS own ic cls ["java/lang/RuntimeException", "java/lang/Exception"], w ∈ GT ∧ (goodWord w || isNest w) = true) ∧
  ∀ w ∈ Cond.classLink own ik cls :: Cond.initialized cls :: vx_atS own ic cls ["java/lang/RuntimeException", "java/lang/Exception"], vx_ot w = true
def MX (own : String) (idx : Nat) (kd : Nat) (y : MethodName) (n : Nat) : Prop := Cond.methodLink own idx y ∈ GT ∧ Cond.initialized y.cls ∈ GT ∧ (y.cls ≠ "java/lang/invoke/MethodHandle" ∧ y.cls ≠ "java/lang/invoke/VarHandle") ∧ (parseMethodDescriptor y.desc).map (fun d => d.parameters.length) = some n ∧
  (kd = 0 → Cond.instanceMethod y ∈ GT ∧ Cond.selects y.cls y y ∈ GT) ∧ (kd = 1 → Cond.static y ∈ GT)
theorem mth_i : Cond.initialized "java/lang/Math" ∈ GT := (List.mem_of_getElem? (i := 51) (by decide +kernel))
theorem mth_as : Cond.static Lib.Math.abs.name ∈ GT := (List.mem_of_getElem? (i := 351) (by decide +kernel))
theorem mth_xs : Cond.static Lib.Math.max.name ∈ GT := (List.mem_of_getElem? (i := 378) (by decide +kernel))
theorem mth_ns : Cond.static Lib.Math.min.name ∈ GT := (List.mem_of_getElem? (i := 419) (by decide +kernel))
theorem mth_ac : Cond.code Lib.Math.abs.name Lib.Math.abs.code 1 (some .int) ∈ GT := (List.mem_of_getElem? (i := 352) (by decide +kernel))
theorem mth_xc : Cond.code Lib.Math.max.name Lib.Math.max.code 2 (some .int) ∈ GT := (List.mem_of_getElem? (i := 379) (by decide +kernel))
theorem mth_nc : Cond.code Lib.Math.min.name Lib.Math.min.code 2 (some .int) ∈ GT := (List.mem_of_getElem? (i := 420) (by decide +kernel))
set_option maxRecDepth 20000 in
theorem lays_X0 : ∀ w ∈ u_ws RX0 TX0 4, w ∈ GT ∧ goodWord w = true := by decide +kernel
set_option maxRecDepth 20000 in
theorem lays_X1 : ∀ w ∈ u_ws RX1 TX1 5, w ∈ GT ∧ goodWord w = true := by decide +kernel
set_option maxRecDepth 20000 in
theorem lays_X2 : ∀ w ∈ u_ws RX2 TX2 3, w ∈ GT ∧ goodWord w = true := by decide +kernel
set_option maxRecDepth 20000 in
theorem lays_X4 : ∀ w ∈ u_ws RX4 TX4 6, w ∈ GT ∧ goodWord w = true := by decide +kernel
set_option maxRecDepth 20000 in
theorem lays_J4 : ∀ w ∈ u_ws RJ4 TJ4 4, w ∈ GT ∧ goodWord w = true := by decide +kernel
set_option maxRecDepth 20000 in
set_option maxHeartbeats 4000000 in
theorem tf_ise : TF RX4 "java/lang/IllegalStateException" 41 45 := ⟨by decide +kernel, (List.mem_of_getElem? (i := 259) (by decide +kernel)), (List.mem_of_getElem? (i := 48) (by decide +kernel)), by decide +kernel, by decide +kernel⟩
set_option maxRecDepth 20000 in
set_option maxHeartbeats 4000000 in
theorem tf_iae : TF RX4 "java/lang/IllegalArgumentException" 68 72 := ⟨by decide +kernel, (List.mem_of_getElem? (i := 187) (by decide +kernel)), (List.mem_of_getElem? (i := 47) (by decide +kernel)), by decide +kernel, by decide +kernel⟩
set_option maxRecDepth 20000 in
set_option maxHeartbeats 4000000 in
theorem tf_ioobe : TF RX4 "java/lang/IndexOutOfBoundsException" 93 97 := ⟨by decide +kernel, (List.mem_of_getElem? (i := 288) (by decide +kernel)), (List.mem_of_getElem? (i := 49) (by decide +kernel)), by decide +kernel, by decide +kernel⟩
section JD
variable {l : Launch} {D : va_G} {cy : Nat → ClassId} {n0 : Nat} {ad : Nat → Nat} {own : String} {cc : ByteArray} {nL : Nat} {ret : Option FieldType} {R : Room} {A : Nat → Prop} {PR : Option Value → va_W → Prop} {PX : String → va_W → Prop} {XS : State → Prop} {fin : Bool} {ET : List ExceptionTableEntry} {J : JT}
variable {ws wc : va_W} {ce sl pc : Nat} {lv : List (Nat × Value)} {st rest As : List Value} {y : MethodName} {bytes : ByteArray} {maxL : Nat} {rt : Option FieldType} {rm : Room} {PR1 : Option Value → va_W → Prop} {PX1 : String → va_W → Prop} {idx a : Nat}
theorem j_callV0 {q0 ci : Nat} {fs : List Value} {T : u_T} {n : Nat} (hJ : Cx l D cy n0 ad own cc nL ret R A PR PX XS fin ET J) (hM : CT l D cy n0 ad y (.code y bytes maxL rt) rm (.ref a :: As) wc PR1) (hF : MF own idx 0 y As.length) (hw : Cond.code y bytes maxL rt ∈ GT) (he : wc[q0]? = some (a, .inr (ci, fs))) (hc : vwCl[ci]? = some (y.cls, T, n))
    (hR : rm.frames + 1 ≤ R.frames ∧ 8 + (maxL + 11) + rm.locals ≤ R.locals) (hce : ce + rm.cells ≤ R.cells ∧ sl + rm.slots ≤ R.slots) (hst : (rest.map fun v => v.category).sum ≤ 8) (hd : decode cc pc = .ok (.invokevirtual idx, 3))
    {as : List Value} (has : as = As.reverse ++ .ref a :: rest)
    (kk : ∀ v u, PR1 v u → J u (ce + rm.cells) (sl + rm.slots) (pc + 3) lv (v.toList ++ rest)) : J wc ce sl pc lv as := by
  have h := j_callV (E := []) (lv := lv) hJ hM hF hw he hc hR hce hst hd has (fun v u hp => by rw [List.append_nil]; exact kk v u hp)
  rwa [List.append_nil] at h
theorem j_callS0 (hJ : Cx l D cy n0 ad own cc nL ret R A PR PX XS fin ET J) (hM : CT l D cy n0 ad y (.code y bytes maxL rt) rm As wc PR1) (hF : MF own idx 1 y As.length) (hw : Cond.code y bytes maxL rt ∈ GT)
    (hR : rm.frames + 1 ≤ R.frames ∧ 8 + (maxL + 11) + rm.locals ≤ R.locals) (hce : ce + rm.cells ≤ R.cells ∧ sl + rm.slots ≤ R.slots) (hst : (rest.map fun v => v.category).sum ≤ 8) (hd : decode cc pc = .ok (.invokestatic idx, 3))
    {as : List Value} (has : as = As.reverse ++ rest)
    (kk : ∀ v u, PR1 v u → J u (ce + rm.cells) (sl + rm.slots) (pc + 3) lv (v.toList ++ rest)) : J wc ce sl pc lv as := by
  have h := j_callS (E := []) (lv := lv) hJ hM hF hw hR hce hst hd has (fun v u hp => by rw [List.append_nil]; exact kk v u hp)
  rwa [List.append_nil] at h
theorem j_callVX0 {q0 ci : Nat} {fs : List Value} {T : u_T} {n : Nat} (hJ : Cx l D cy n0 ad own cc nL ret R A PR PX XS true [] J) (hM : CV l D cy n0 ad y (.code y bytes maxL rt) rm (.ref a :: As) wc PR1 PX1) (hF : MX own idx 0 y As.length) (hw : Cond.code y bytes maxL rt ∈ GT) (he : wc[q0]? = some (a, .inr (ci, fs))) (hc : vwCl[ci]? = some (y.cls, T, n))
    (hR : rm.frames + 1 ≤ R.frames ∧ 8 + (maxL + 11) + rm.locals ≤ R.locals) (hce : ce + rm.cells ≤ R.cells ∧ sl + rm.slots ≤ R.slots) (hst : (rest.map fun v => v.category).sum ≤ 8) (hd : decode cc pc = .ok (.invokevirtual idx, 3)) (hx : ∀ E u, PX1 E u → PX E u)
    {as : List Value} (has : as = As.reverse ++ .ref a :: rest)
    (kk : ∀ v u, PR1 v u → J u (ce + rm.cells) (sl + rm.slots) (pc + 3) lv (v.toList ++ rest)) : J wc ce sl pc lv as := by
  subst has
  obtain ⟨p, e, s, m, args, below, meth, c, Q, ⟨hx0, hb, hml, hown⟩, hK, hA, hAn, hMm, hXS, hQ, rfl⟩ := hJ
  intro H locs ls hP hD hS hl
  obtain ⟨f1, f2, f3, f4, f5, -⟩ := hF
  obtain ⟨f6, f7⟩ := f5 rfl
  have hTB := hK.2.1
  have hrv := va_recv (a := a) hK.1 hP hc he
  have hP' : va_P D vwCl (wc ++ []) H := by rw [List.append_nil]; exact hP
  have hD' : va_D A (wc ++ []) := by rw [List.append_nil]; exact hD
  have hFc := call_free hA hD' hS
  refine w_callX (vx_runV (Ts := []) ⟨hx0, hb, hml, hown, fun _ h => nomatch h⟩ (hM H.size) ⟨⟨rfl, rfl, hR.1, hR.2, wd_all rfl hTB hw, List.mem_cons_self, hTB.good hw rfl, hTB.good f2 rfl, f3, desc_n f4, hTB.good f1 rfl⟩, hTB.good f6 rfl, hTB.good f7 rfl⟩ ⟨Pcc.blind, hrv, call_pre hK hAn hP' hD' hS⟩ rfl rfl hl.1 rfl (lv_room hst) hd hce) hS (fun q _ h => hFc q h) hFc (fun E cel q9 u H1 locs1 hp hP1 hD1 hz1 hk1 hS1 g1 g2 g3 => ?_) (fun v u H1 locs1 hp hP1 hD1 hz1 hk1 hS1 => ?_)
  · rw [hQ rfl]
    exact vx_out (by rw [hMm.2.2.1]; exact fun x h => nomatch h) hMm.2.1 g1 g2 g3 (fun t ht hv => ⟨⟨u, hx E u hp, by rw [ht]; exact hP1, hD1.weaken (fun _ q _ h => hFc q.1 h)⟩, hS1.F ht⟩) hS1.2.2 hce.1 hce.2
  · exact kk v u hp H1 locs1 ls hP1 (hD1.weaken (fun _ q _ h => hFc q.1 h)) hS1 hl
theorem j_callSX0 (hJ : Cx l D cy n0 ad own cc nL ret R A PR PX XS true [] J) (hM : CV l D cy n0 ad y (.code y bytes maxL rt) rm As wc PR1 PX1) (hF : MX own idx 1 y As.length) (hw : Cond.code y bytes maxL rt ∈ GT)
    (hR : rm.frames + 1 ≤ R.frames ∧ 8 + (maxL + 11) + rm.locals ≤ R.locals) (hce : ce + rm.cells ≤ R.cells ∧ sl + rm.slots ≤ R.slots) (hst : (rest.map fun v => v.category).sum ≤ 8) (hd : decode cc pc = .ok (.invokestatic idx, 3)) (hx : ∀ E u, PX1 E u → PX E u)
    {as : List Value} (has : as = As.reverse ++ rest)
    (kk : ∀ v u, PR1 v u → J u (ce + rm.cells) (sl + rm.slots) (pc + 3) lv (v.toList ++ rest)) : J wc ce sl pc lv as := by
  subst has
  obtain ⟨p, e, s, m, args, below, meth, c, Q, ⟨hx0, hb, hml, hown⟩, hK, hA, hAn, hMm, hXS, hQ, rfl⟩ := hJ
  intro H locs ls hP hD hS hl
  obtain ⟨f1, f2, f3, f4, -, f5⟩ := hF
  have f6 := f5 rfl
  have hTB := hK.2.1
  have hP' : va_P D vwCl (wc ++ []) H := by rw [List.append_nil]; exact hP
  have hD' : va_D A (wc ++ []) := by rw [List.append_nil]; exact hD
  have hFc := call_free hA hD' hS
  refine w_callX (vx_runS (Ts := []) ⟨hx0, hb, hml, hown, fun _ h => nomatch h⟩ (hM H.size) ⟨⟨rfl, rfl, hR.1, hR.2, wd_all rfl hTB hw, List.mem_cons_self, hTB.good hw rfl, hTB.good f2 rfl, f3, desc_n f4, hTB.good f1 rfl⟩, hTB.good f6 rfl⟩ ⟨Pcc.blind, call_pre hK hAn hP' hD' hS⟩ rfl rfl hl.1 rfl (lv_room hst) hd hce) hS (fun q _ h => hFc q h) hFc (fun E cel q9 u H1 locs1 hp hP1 hD1 hz1 hk1 hS1 g1 g2 g3 => ?_) (fun v u H1 locs1 hp hP1 hD1 hz1 hk1 hS1 => ?_)
  · rw [hQ rfl]
    exact vx_out (by rw [hMm.2.2.1]; exact fun x h => nomatch h) hMm.2.1 g1 g2 g3 (fun t ht hv => ⟨⟨u, hx E u hp, by rw [ht]; exact hP1, hD1.weaken (fun _ q _ h => hFc q.1 h)⟩, hS1.F ht⟩) hS1.2.2 hce.1 hce.2
  · exact kk v u hp H1 locs1 ls hP1 (hD1.weaken (fun _ q _ h => hFc q.1 h)) hS1 hl
theorem j_throw {cls tx : String} {ik is ic : Nat} (hJ : Cx l D cy n0 ad RX4 cc nL ret R A PR PX XS true [] J) (hT : TF RX4 cls ik ic) (hs : (is, tx) ∈ thTx)
    (hR : 5 < R.frames) (hRl : (st.map fun v => v.category).sum + 82 ≤ R.locals) (hce : ce + 1 ≤ R.cells ∧ sl + 6 ≤ R.slots)
    (d0 : decode cc pc = .ok (.new ik, 3)) (d3 : decode cc (pc + 3) = .ok (.dup, 1)) (d4 : decode cc (pc + 4) = .ok (.ldc is, 2)) (d6 : decode cc (pc + 6) = .ok (.invokespecial ic, 3)) (d9 : decode cc (pc + 9) = .ok (.athrow, 1)) (hp : PX cls ws) : J ws ce sl pc lv st := by
  obtain ⟨p, e, s, m, args, below, meth, c, Q, ⟨hx, hb, hml, hown⟩, hK, hA, hAn, hMm, hXS, hQ, rfl⟩ := hJ
  intro H locs ls hP hD hS hl
  obtain ⟨t1, t2, t3, t4, t5⟩ := hT
  obtain ⟨sa, hsa⟩ := hK.2.2.2.2.1 (is, tx) hs
  rw [hQ rfl]
  have hAn' : ∀ q, A q → AN n0 q := hAn
  refine vx_throwS (text := tx) hx hb hMm.2.2.2 (names := ["java/lang/RuntimeException", "java/lang/Exception"]) hown t1 (by decide) (hK.2.1.good t2 rfl) (hK.2.1.good t3 rfl) hsa (fun w hw => ?_) t5 (hK.2.2.2.1.1.narrow hAn') (hK.2.2.2.1.2.1.narrow hAn') hS (by rw [hml]; exact hl.1) d0 d3 d4 d6 d9 (by rw [hMm.2.2.1]; exact fun x h => nomatch h) hR hRl hce.1 hce.2 hMm.2.1 (fun t hv hz hk => ?_) hS.2.2 hce.1 hce.2
  · obtain ⟨g1, g2⟩ := t4 w hw
    rcases Bool.or_eq_true_iff.mp g2 with g2 | g2
    · exact hK.2.1.good g1 g2
    · exact hK.2.1.nest g1 g2
  · refine ⟨⟨ws, hp, fun k q hq => (hP k q hq).kept (hk q.1 (hP k q hq).lt), hD⟩, Nat.le_trans hS.1 hz, fun q h1 h2 => ?_⟩
    rw [hk q (Nat.lt_of_lt_of_le h1 hS.1)]
    exact hS.2.1 q h1 h2
theorem j_mabs {i : Nat} {z : Int} (hJ : Cx l D cy n0 ad own cc nL ret R A PR PX XS fin ET J) (hlk : Cond.methodLink own i Lib.Math.abs.name ∈ GT) (hz : -2147483648 < z ∧ z < 2147483648) (hR : 1 ≤ R.frames) (hRl : (st.map fun v => v.category).sum + 13 ≤ R.locals) (hc : ce ≤ R.cells) (hs : sl ≤ R.slots) (hd : decode cc pc = .ok (.invokestatic i, 3))
    (k : J ws ce sl (pc + 3) lv (.int (zI (iabs z)) :: st)) : J ws ce sl pc lv (.int (zI z) :: st) := by
  obtain ⟨p, e, s, m, args, below, meth, c, Q, ⟨hx, hb, hml, hown⟩, hK, hA, hAn, hMm, hXS, hQ, rfl⟩ := hJ
  intro H locs ls hP hD hS hl
  refine va_mabs hx hb (by rw [hml]; exact hl.1.symm) hown (hK.2.1.good hlk rfl) (hK.2.1.good mth_as rfl) (hK.2.1.good mth_i rfl) (hK.2.1.good mth_ac rfl) hR hRl hc hs hd ?_
  have e1 : (if 0 ≤ zI z then zI z else 0 - zI z) = zI (iabs z) := by
    have h0 : (0 ≤ zI z) ↔ 0 ≤ z := zI_le zI_inR0 ⟨by omega, hz.2⟩
    unfold iabs
    by_cases h : 0 ≤ z
    · rw [if_pos h, if_pos (h0.mpr h)]
    · rw [if_neg h, if_neg (fun w => h (h0.mp w))]
      show zI 0 - zI z = _
      rw [zI_sub]; congr 1; omega
  rw [e1]
  exact k H locs ls hP hD hS hl
theorem j_mmax {i : Nat} {z w : Int} (hJ : Cx l D cy n0 ad own cc nL ret R A PR PX XS fin ET J) (hlk : Cond.methodLink own i Lib.Math.max.name ∈ GT) (hz : inR z) (hw : inR w) (hR : 1 ≤ R.frames) (hRl : (st.map fun v => v.category).sum + 13 ≤ R.locals) (hc : ce ≤ R.cells) (hs : sl ≤ R.slots) (hd : decode cc pc = .ok (.invokestatic i, 3))
    (k : J ws ce sl (pc + 3) lv (.int (zI (imax z w)) :: st)) : J ws ce sl pc lv (.int (zI w) :: .int (zI z) :: st) := by
  obtain ⟨p, e, s, m, args, below, meth, c, Q, ⟨hx, hb, hml, hown⟩, hK, hA, hAn, hMm, hXS, hQ, rfl⟩ := hJ
  intro H locs ls hP hD hS hl
  refine va_mmax hx hb (by rw [hml]; exact hl.1.symm) hown (hK.2.1.good hlk rfl) (hK.2.1.good mth_xs rfl) (hK.2.1.good mth_i rfl) (hK.2.1.good mth_xc rfl) hR hRl hc hs hd ?_
  have e1 : (if zI z < zI w then zI w else zI z) = zI (imax z w) := by
    have h0 := zI_lt hz hw
    unfold imax
    by_cases h : z < w
    · rw [if_pos h, if_pos (h0.mpr h)]
    · rw [if_neg h, if_neg (fun q => h (h0.mp q))]
  rw [e1]
  exact k H locs ls hP hD hS hl
theorem j_mmin {i : Nat} {z w : Int} (hJ : Cx l D cy n0 ad own cc nL ret R A PR PX XS fin ET J) (hlk : Cond.methodLink own i Lib.Math.min.name ∈ GT) (hz : inR z) (hw : inR w) (hR : 1 ≤ R.frames) (hRl : (st.map fun v => v.category).sum + 13 ≤ R.locals) (hc : ce ≤ R.cells) (hs : sl ≤ R.slots) (hd : decode cc pc = .ok (.invokestatic i, 3))
    (k : J ws ce sl (pc + 3) lv (.int (zI (imin z w)) :: st)) : J ws ce sl pc lv (.int (zI w) :: .int (zI z) :: st) := by
  obtain ⟨p, e, s, m, args, below, meth, c, Q, ⟨hx, hb, hml, hown⟩, hK, hA, hAn, hMm, hXS, hQ, rfl⟩ := hJ
  intro H locs ls hP hD hS hl
  refine va_mmin hx hb (by rw [hml]; exact hl.1.symm) hown (hK.2.1.good hlk rfl) (hK.2.1.good mth_ns rfl) (hK.2.1.good mth_i rfl) (hK.2.1.good mth_nc rfl) hR hRl hc hs hd ?_
  have e1 : (if zI w < zI z then zI w else zI z) = zI (imin z w) := by
    have h0 := zI_lt hw hz
    unfold imin
    by_cases h : w < z
    · rw [if_pos h, if_pos (h0.mpr h)]
    · rw [if_neg h, if_neg (fun q => h (h0.mp q))]
  rw [e1]
  exact k H locs ls hP hD hS hl
end JD
/-! the class's cells, the reference's cells -/
def XSh (k : Nat) : Sh := if k < 9 then (match k with
  | 0 => .inl (4, [some 1, some 2, none, some 3, some 4, some 5])
  | 1 => .inr (.inl (0, 24))
  | 2 => .inr (.inr (16, fun i => 9 + 6 * i))
  | 3 => .inr (.inl (0, 4))
  | 4 => .inr (.inl (0, 4))
  | 5 => .inl (3, [some 6, some 7, some 8])
  | _ => .inr (.inl (0, 144)))
  else (match (k - 9) % 6 with
  | 0 => .inl (1, [some (9 + 6 * ((k - 9) / 6) + 1), none, none, some (9 + 6 * ((k - 9) / 6) + 2)])
  | 1 => .inr (.inl (0, 4))
  | 2 => .inl (2, [some (9 + 6 * ((k - 9) / 6) + 3), none, some (9 + 6 * ((k - 9) / 6) + 4), none, some (9 + 6 * ((k - 9) / 6) + 5)])
  | 3 => .inr (.inl (0, 100))
  | 4 => .inr (.inl (0, 10))
  | _ => .inr (.inl (0, 12)))
theorem XS0 (i : Nat) : XSh (9 + 6 * i) = .inl (1, [some (9 + 6 * i + 1), none, none, some (9 + 6 * i + 2)]) := by
  unfold XSh
  rw [if_neg (by omega), show (9 + 6 * i - 9) % 6 = 0 by omega, show (9 + 6 * i - 9) / 6 = i by omega]
  rfl
theorem XS1 (i : Nat) : XSh (9 + 6 * i + 1) = .inr (.inl (0, 4)) := by
  unfold XSh
  rw [if_neg (by omega), show (9 + 6 * i + 1 - 9) % 6 = 1 by omega]
  rfl
theorem XS2 (i : Nat) : XSh (9 + 6 * i + 2) = .inl (2, [some (9 + 6 * i + 3), none, some (9 + 6 * i + 4), none, some (9 + 6 * i + 5)]) := by
  unfold XSh
  rw [if_neg (by omega), show (9 + 6 * i + 2 - 9) % 6 = 2 by omega, show (9 + 6 * i + 2 - 9) / 6 = i by omega]
  rfl
theorem XS3 (i : Nat) : XSh (9 + 6 * i + 3) = .inr (.inl (0, 100)) := by
  unfold XSh
  rw [if_neg (by omega), show (9 + 6 * i + 3 - 9) % 6 = 3 by omega]
  rfl
theorem XS4 (i : Nat) : XSh (9 + 6 * i + 4) = .inr (.inl (0, 10)) := by
  unfold XSh
  rw [if_neg (by omega), show (9 + 6 * i + 4 - 9) % 6 = 4 by omega]
  rfl
theorem XS5 (i : Nat) : XSh (9 + 6 * i + 5) = .inr (.inl (0, 12)) := by
  unfold XSh
  rw [if_neg (by omega), show (9 + 6 * i + 5 - 9) % 6 = 5 by omega]
  rfl
