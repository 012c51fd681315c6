/-! the law: points; all that the law and the class know -/
def exs (x : Int) : Int := imax 0 (imax (x / 12) (x % 12) - 5)
def PBd (pp : Nat → Int) (m : Nat) : Prop := ∀ k : Nat, k < m → ((trk pp (k + 1)).length : Int) + exs (pp k) ≤ 1 + 5 * (k : Int)
def SI (μ ν : Nat → Int → Int) (n : Nat) (N : Nat → List Int) (ow : Nat → Int) (m : Nat → Nat) (p : Nat → Nat → Int) : Prop :=
  XI μ n N ow m p ∧ n ≤ 5 ∧ AK ν (μ 1) ∧ AWr ν ∧ (∀ i, i < n → ANm ν i (N i)) ∧ (∀ i, i < 5 → APt ν i (p i) (m i) ∧ ν 2 (7 * (i : Int) + 6) = ow i) ∧ ∀ i, i < 5 → PBd (p i) (m i)
def AddP (μ μ' : Nat → Int → Int) (n : Nat) (N : Nat → List Int) (ow : Nat → Int) (m : Nat → Nat) (p : Nat → Nat → Int) (i : Nat) (c r q : Int) : Prop :=
  ((m i = 0 ∨ Aln (p i (m i - 1)) c r) ∧ q = ((trk (pset (p i) (m i) (12 * c + r)) (m i + 1)).length : Nat) ∧ XI μ' n N ow (fset m i (m i + 1)) (fset p i (pset (p i) (m i) (12 * c + r))) ∧ μ' 1 = μ 1) ∨ (¬ (m i = 0 ∨ Aln (p i (m i - 1)) c r) ∧ q = -2 ∧ μ' = μ)
theorem imax_spec (a c : Int) : (imax a c = a ∧ c ≤ a) ∨ (imax a c = c ∧ a ≤ c) := by
  unfold imax
  by_cases h : a < c
  · rw [if_pos h]; omega
  · rw [if_neg h]; omega
/-- how far a new point may lie -/
def PStep (la : Int) (m : Nat) (c r : Int) : Prop := (m = 0 → exs (12 * c + r) = 0) ∧ (m ≠ 0 → far la c r + exs (12 * c + r) ≤ exs la + 5)
theorem PStep.of {la : Int} {m : Nat} {c0 r0 d1 d2 wy : Int} (hl : 0 ≤ la ∧ la < 144) (h0 : m = 0 → la = 0) (hc : (wy = 0 ∧ (0 ≤ c0 ∧ c0 ≤ 5) ∧ d1 = 0) ∨ (wy ≠ 0 ∧ c0 = la / 12 ∧ (d1 = 0 ∨ d1 = 2))) (hr : (wy = 0 ∧ (0 ≤ r0 ∧ r0 ≤ 5) ∧ d2 = 0) ∨ (wy ≠ 0 ∧ r0 = la % 12 ∧ (d2 = 0 ∨ d2 = 2))) (hcr : (0 ≤ c0 + d1 ∧ c0 + d1 < 12) ∧ 0 ≤ r0 + d2 ∧ r0 + d2 < 12) : PStep la m (c0 + d1) (r0 + d2) := by
  have hf := far_spec la (c0 + d1) (r0 + d2)
  have e1 : (12 * (c0 + d1) + (r0 + d2)) / 12 = c0 + d1 := by omega
  have e2 : (12 * (c0 + d1) + (r0 + d2)) % 12 = r0 + d2 := by omega
  unfold PStep exs
  rw [e1, e2]
  have i1 := imax_spec (c0 + d1) (r0 + d2)
  have i2 := imax_spec 0 (imax (c0 + d1) (r0 + d2) - 5)
  have i3 := imax_spec (la / 12) (la % 12)
  have i4 := imax_spec 0 (imax (la / 12) (la % 12) - 5)
  refine ⟨fun g => ?_, fun g => ?_⟩
  · have := h0 g
    omega
  · omega
theorem sq_f {a : Int} (h0 : -11 ≤ a) (h1 : a ≤ 11) : 0 ≤ a * a ∧ a * a ≤ 121 ∧ (a * a = 0 ↔ a = 0) := by
  obtain ⟨k, rfl⟩ : ∃ k : Nat, a = (k : Int) - 11 := ⟨(a + 11).toNat, by omega⟩
  exact (show ∀ k < 23, 0 ≤ (((k : Nat) : Int) - 11) * (((k : Nat) : Int) - 11) ∧ (((k : Nat) : Int) - 11) * (((k : Nat) : Int) - 11) ≤ 121 ∧ ((((k : Nat) : Int) - 11) * (((k : Nat) : Int) - 11) = 0 ↔ (((k : Nat) : Int) - 11) = 0) by decide +kernel) k (by omega)
theorem APt.add {ν : Nat → Int → Int} {i m : Nat} {pp : Nat → Int} {c r la : Int} (h : APt ν i pp m) (hm : m ≤ 4) (hi : i < 5) (hcr : (0 ≤ c ∧ c < 12) ∧ 0 ≤ r ∧ r < 12) (hcan : m = 0 ∨ Aln (pp (m - 1)) c r) (_ : (m = 0 ∧ la = 0) ∨ (1 ≤ m ∧ la = pp (m - 1))) : APt (up (up ν 2 (7 * (i : Int)) ((m : Int) + 1)) 2 (7 * (i : Int) + (m : Int) + 1) (12 * c + r)) i (pset pp m (12 * c + r)) (m + 1) := by
  obtain ⟨p1, p2, p3, p4⟩ := h
  refine ⟨?_, by omega, fun k hk => ?_, p4.add hcr.1 hcr.2 (fun g => hcan.resolve_left (by omega))⟩
  · rw [up_at (by omega), up_self]; omega
  · by_cases e : k = m
    · subst e
      rw [show 7 * (i : Int) + 1 + (k : Int) = 7 * (i : Int) + (k : Int) + 1 by omega, up_self, pset_at]
    · rw [up_at (by omega), up_at (by omega), pset_lt (by omega)]
      exact p3 k (by omega)
theorem PBd.add {pp : Nat → Int} {m : Nat} {c r la : Int} (h : PBd pp m) (hcr : (0 ≤ c ∧ c < 12) ∧ 0 ≤ r ∧ r < 12) (hs : PStep la m c r) (hl : (m = 0 ∧ la = 0) ∨ (1 ≤ m ∧ la = pp (m - 1))) (hla : 0 ≤ la ∧ la < 144) : PBd (pset pp m (12 * c + r)) (m + 1) := by
  intro k hk
  by_cases e : k = m
  · subst e
    rw [trk_pset, pset_at, List.length_append]
    rcases hl with ⟨g1, g2⟩ | ⟨g1, g2⟩
    · rw [if_pos g1]
      have := hs.1 g1
      subst g1
      simp [trk]; omega
    · rw [if_neg (by omega), seg, segk_len, ← g2, show (12 * c + r) / 12 = c by omega, show (12 * c + r) % 12 = r by omega]
      have h1 := hs.2 (by omega)
      have h2 := h (k - 1) (by omega)
      rw [show k - 1 + 1 = k by omega, ← g2] at h2
      have h3 := far_rng hla hcr.1 hcr.2
      omega
  · have h2 := h k (by omega)
    rw [trk_congr (q := pp) (fun j hj => pset_lt (by omega)), pset_lt (by omega)]
    exact h2
theorem SI.add {μ ν μ' : Nat → Int → Int} {n : Nat} {N : Nat → List Int} {ow : Nat → Int} {m : Nat → Nat} {p : Nat → Nat → Int} {i : Nat} {c r la : Int} {νq : Nat → Int → Int} {pq : Nat → Int} (h : SI μ ν n N ow m p) (hi : i < n) (hcr : (0 ≤ c ∧ c < 12) ∧ 0 ≤ r ∧ r < 12) (hX : XI μ' n N ow (fset m i (m i + 1)) (fset p i pq)) (h1 : μ' 1 = μ 1) (hA : APt νq i pq (m i + 1)) (hν : νq = up (up ν 2 (7 * (i : Int)) ((m i : Int) + 1)) 2 (7 * (i : Int) + (m i : Int) + 1) (12 * c + r)) (hpq : pq = pset (p i) (m i) (12 * c + r)) (hs : PStep la (m i) c r) (hla : (m i = 0 ∧ la = 0) ∨ (1 ≤ m i ∧ la = p i (m i - 1))) : SI μ' νq n N ow (fset m i (m i + 1)) (fset p i pq) := by
  obtain ⟨s1, s2, s3, s4, s5, s6, s7⟩ := h
  have r0 : νq 0 = ν 0 := by rw [hν, up_rowf (by omega), up_rowf (by omega)]
  have r1 : νq 1 = ν 1 := by rw [hν, up_rowf (by omega), up_rowf (by omega)]
  have hm4 := hA.2.1
  have r2 : ∀ j : Int, j ≠ 7 * (i : Int) → j ≠ 7 * (i : Int) + (m i : Int) + 1 → νq 2 j = ν 2 j := fun j g1 g2 => by rw [hν, up_at g2, up_at g1]
  have hlar : 0 ≤ la ∧ la < 144 := by
    rcases hla with ⟨g1, g2⟩ | ⟨g1, g2⟩
    · omega
    · rw [g2]; exact (s6 i (by omega)).1.2.2.2.1 _ (by omega)
  refine ⟨hX, s2, fun w w0 w1 => by rw [r0, h1]; exact s3 w w0 w1, fun j j0 j1 j2 => by rw [r1]; exact s4 j j0 j1 j2, fun j hj => by unfold ANm; rw [r1]; exact s5 j hj, fun j hj => ?_, fun j hj => ?_⟩
  · by_cases e : j = i
    · subst e
      rw [fset_at, fset_at]
      exact ⟨hA, by rw [r2 _ (by omega) (by omega)]; exact (s6 j hj).2⟩
    · rw [fset_ne e, fset_ne e]
      obtain ⟨⟨t1, t2, t3, t4⟩, t5⟩ := s6 j hj
      exact ⟨⟨by rw [r2 _ (by omega) (by omega)]; exact t1, t2, fun k hk => by rw [r2 _ (by omega) (by omega)]; exact t3 k hk, t4⟩, by rw [r2 _ (by omega) (by omega)]; exact t5⟩
  · by_cases e : j = i
    · subst e
      rw [fset_at, fset_at, hpq]
      exact (s7 j hj).add hcr hs hla hlar
    · rw [fset_ne e, fset_ne e]
      exact s7 j hj
set_option maxRecDepth 20000 in
theorem mx_L_113 : MX RL 113 0 yX4_addPoint 3 := ⟨(List.mem_of_getElem? (i := 338) (by decide +kernel)), (List.mem_of_getElem? (i := 40) (by decide +kernel)), ⟨by decide +kernel, by decide +kernel⟩, by decide +kernel, fun _ => ⟨(List.mem_of_getElem? (i := 339) (by decide +kernel)), (List.mem_of_getElem? (i := 340) (by decide +kernel))⟩, fun h => by omega⟩
set_option maxRecDepth 20000 in
theorem k_X4_addPoint : Cond.code yX4_addPoint cX4_addPoint 5 (some .int) ∈ GT := (List.mem_of_getElem? (i := 341) (by decide +kernel))
set_option maxRecDepth 20000 in
theorem hc_added : HC1 RL (tableOf [(0, 7, 8, 116)]) 4 xIA 8 := ⟨⟨0, 7, 8, 116⟩, [], rfl, by decide, by decide, (List.mem_of_getElem? (i := 68) (by decide +kernel)), (List.mem_of_getElem? (i := 189) (by decide +kernel)), rfl⟩
set_option maxRecDepth 20000 in
theorem mx_L_118 : MX RL 118 1 yL_added 4 := ⟨(List.mem_of_getElem? (i := 335) (by decide +kernel)), (List.mem_of_getElem? (i := 39) (by decide +kernel)), ⟨by decide +kernel, by decide +kernel⟩, by decide +kernel, fun h => by omega, fun _ => (List.mem_of_getElem? (i := 336) (by decide +kernel))⟩
set_option maxRecDepth 20000 in
theorem kw_L_added : Cond.codeWith yL_added cL_added 5 (some .int) [(0, 7, 8, 116)] ∈ GT := (List.mem_of_getElem? (i := 337) (by decide +kernel))
section
variable {l : Launch} {D : va_G} {cy : Nat → ClassId} {n0 : Nat} {ad : Nat → Nat} {b ba : Nat → Nat} {E : va_W} {ws : va_W}
set_option maxHeartbeats 4000000 in
set_option maxRecDepth 100000 in
theorem c_L_added {μ : Nat → Int → Int} {n : Nat} {N : Nat → List Int} {ow : Nat → Int} {m : Nat → Nat} {p : Nat → Nat → Int} {i : Nat} {c r : Int} (hfl : l.stackTraces = false) (hX : XI μ n N ow m p) (hi : i < n) (hc : 0 ≤ c ∧ c < 12) (hr : 0 ≤ r ∧ r < 12) (hm : m i < 10) : CTX l D cy n0 ad XTr yL_added (.codeWith yL_added cL_added 5 (some .int) [(0, 7, 8, 116)]) ({ frames := 8, cells := 3, slots := 18, locals := 127 }) [.ref (b 0), .int (zI (i : Int)), .int (zI c), .int (zI r)] (gw 105 XSh cy b μ ++ E) (fun vv uu => ∃ q μ', vv = some (.int (zI q)) ∧ uu = (gw 105 XSh cy b μ' ++ E) ∧ AddP μ μ' n N ow m p i c r q) := by
  obtain ⟨x1, x2, -⟩ := id hX
  have hst : StOK n (i : Int) := ⟨by omega, by omega⟩
  have hsq : SqOK c r := ⟨hc, hr⟩
  refine CTX.walkH hfl (by decide) (Nat.le_of_ble_eq_true rfl) ?_
  intro A J hJ
  show J (gw 105 XSh cy b μ ++ E) 0 0 0 [(0, .ref (b 0)), (1, .int (zI (i : Int))), (2, .int (zI c)), (3, .int (zI r))] []
  refine j_aload_n hJ (j := 0) rfl rfl dL_added_0 ?_
  refine j_iload_n hJ (j := 1) rfl rfl dL_added_1 ?_
  refine j_iload_n hJ (j := 2) rfl rfl dL_added_2 ?_
  refine j_iload_n hJ (j := 3) rfl rfl dL_added_3 ?_
  refine j_callVXh hJ (c_X4_addPoint hfl hX ⟨by omega, by omega⟩ ⟨by omega, by omega⟩ ⟨by omega, by omega⟩) mx_L_113 k_X4_addPoint (q0 := 0) (by rw [gw_get (by decide)]; rfl) rfl ⟨(Nat.le_of_ble_eq_true rfl), (Nat.le_of_ble_eq_true rfl)⟩ ⟨(Nat.le_of_ble_eq_true rfl), (Nat.le_of_ble_eq_true rfl)⟩ (Nat.le_of_ble_eq_true rfl) dL_added_4 rfl ?_ ?_
  · intro X u hXX
    obtain ⟨μ9, rfl, hx, rfl⟩ := hXX
    rw [Int.toNat_natCast] at hx
    rcases hx with ⟨-, h⟩ | ⟨rfl, -, h⟩ | ⟨-, -, -, h⟩
    · exact absurd ⟨hst, hsq⟩ h
    · refine ⟨8, hc_added, fun q9 => ?_⟩
      show J (gw 105 XSh cy b μ9 ++ E) 3 18 8 [(0, .ref (b 0)), (1, .int (zI (i : Int))), (2, .int (zI c)), (3, .int (zI r))] [.ref q9]
      refine j_astore hJ (lv' := [(4, .ref q9), (0, .ref (b 0)), (1, .int (zI (i : Int))), (2, .int (zI c)), (3, .int (zI r))]) (by decide) rfl dL_added_8 ?_
      refine j_bipush hJ (v := -2) (by decide) dL_added_10 ?_
      refine j_iret hJ rfl rfl rfl (Nat.le_of_ble_eq_true rfl) (Nat.le_of_ble_eq_true rfl) dL_added_12 ⟨-2, μ9, rfl, rfl, Or.inr ⟨h, rfl, rfl⟩⟩
    · omega
  · intro v u hv
    obtain ⟨q, μ1, rfl, rfl, h⟩ := hv
    rw [Int.toNat_natCast] at h
    show J (gw 105 XSh cy b μ1 ++ E) 3 18 7 [(0, .ref (b 0)), (1, .int (zI (i : Int))), (2, .int (zI c)), (3, .int (zI r))] [.int (zI q)]
    refine j_iret hJ rfl rfl rfl (Nat.le_of_ble_eq_true rfl) (Nat.le_of_ble_eq_true rfl) dL_added_7 ⟨q, μ1, rfl, rfl, Or.inl ⟨h.2.2.1, h.2.2.2.2.1, h.2.2.2.2.2.1, h.2.2.2.2.2.2⟩⟩
set_option maxHeartbeats 4000000 in
set_option maxRecDepth 100000 in
theorem c_L_isPointed {μ ν : Nat → Int → Int} {n : Nat} {N : Nat → List Int} {ow : Nat → Int} {m : Nat → Nat} {p : Nat → Nat → Int} {i : Nat} {z : Int} (hfl : l.stackTraces = false) (hS : SI μ ν n N ow m p) (hi : i < n) (hz : 0 ≤ z ∧ z < 100000) : CT l D cy n0 ad yL_isPointed (.code yL_isPointed cL_isPointed 13 (some .boolean)) ({ frames := 9, cells := 3, slots := 18, locals := 151 }) [.ref (b 0), .ref (ba 2), .int (zI (i : Int)), .int (zI z)] (gw 105 XSh cy b μ ++ (gw 3 ASh cy ba ν ++ E)) (fun vv uu => ∃ q μ' ν', vv = some (.int (zI q)) ∧ uu = (gw 105 XSh cy b μ' ++ (gw 3 ASh cy ba ν' ++ E)) ∧ (q = 1 ∧ ∃ m' p', SI μ' ν' n N ow m' p')) := by
  obtain ⟨hX, hn, hK, hA, hN, hP, hB⟩ := id hS
  obtain ⟨hPi, hOi⟩ := hP i (by omega)
  obtain ⟨p1, p2, p3, p4⟩ := id hPi
  have hpr := p4.1
  refine CT.walk hfl (by decide) (Nat.le_of_ble_eq_true rfl) ?_
  intro A J hJ
  show J (gw 105 XSh cy b μ ++ (gw 3 ASh cy ba ν ++ E)) 0 0 0 [(0, .ref (b 0)), (1, .ref (ba 2)), (2, .int (zI (i : Int))), (3, .int (zI z))] []
  refine j_aload_n hJ (j := 1) rfl rfl dL_isPointed_0 ?_
  refine j_bipush hJ (v := 7) (by decide) dL_isPointed_1 ?_
  refine j_iload_n hJ (j := 2) rfl rfl dL_isPointed_3 ?_
  refine j_imul hJ dL_isPointed_4 ?_
  refine w2_iald hJ (by decide) rfl (by decide) (by omega) (by omega) dL_isPointed_5 ?_
  refine j_topi (y := zI (m i : Int)) (by rw [p1]) ?_
  refine j_istore hJ (lv' := [(4, .int (zI (m i : Int))), (0, .ref (b 0)), (1, .ref (ba 2)), (2, .int (zI (i : Int))), (3, .int (zI z))]) (by decide) rfl dL_isPointed_6 ?_
  have j26 : ∀ (la : Int) (hla : (m i = 0 ∧ la = 0) ∨ (1 ≤ m i ∧ la = p i (m i - 1))), J (gw 105 XSh cy b μ ++ (gw 3 ASh cy ba ν ++ E)) 0 0 26 [(0, .ref (b 0)), (1, .ref (ba 2)), (2, .int (zI (i : Int))), (3, .int (zI z)), (4, .int (zI (m i : Int)))] [.int (zI la)] := by
    intro la hla
    have hlr : 0 ≤ la ∧ la < 144 := by
      rcases hla with ⟨g1, g2⟩ | ⟨g1, g2⟩ <;> rw [g2]
      · omega
      · exact hpr _ (by omega)
    refine j_istore hJ (lv' := [(5, .int (zI la)), (0, .ref (b 0)), (1, .ref (ba 2)), (2, .int (zI (i : Int))), (3, .int (zI z)), (4, .int (zI (m i : Int)))]) (by decide) rfl dL_isPointed_26 ?_
    have j45 : ∀ (wy : Int) (hwy : 0 ≤ wy ∧ wy ≤ 4), J (gw 105 XSh cy b μ ++ (gw 3 ASh cy ba ν ++ E)) 0 0 45 [(0, .ref (b 0)), (1, .ref (ba 2)), (2, .int (zI (i : Int))), (3, .int (zI z)), (4, .int (zI (m i : Int))), (5, .int (zI la))] [.int (zI wy)] := by
      intro wy hwy
      refine j_istore hJ (lv' := [(6, .int (zI wy)), (0, .ref (b 0)), (1, .ref (ba 2)), (2, .int (zI (i : Int))), (3, .int (zI z)), (4, .int (zI (m i : Int))), (5, .int (zI la))]) (by decide) rfl dL_isPointed_45 ?_
      have j67 : ∀ (c0 : Int) (hc0 : (wy = 0 ∧ 0 ≤ c0 ∧ c0 ≤ 5) ∨ (wy ≠ 0 ∧ c0 = la / 12)), J (gw 105 XSh cy b μ ++ (gw 3 ASh cy ba ν ++ E)) 0 0 67 [(0, .ref (b 0)), (1, .ref (ba 2)), (2, .int (zI (i : Int))), (3, .int (zI z)), (4, .int (zI (m i : Int))), (5, .int (zI la)), (6, .int (zI wy))] [.int (zI c0)] := by
        intro c0 hc0
        refine j_istore hJ (lv' := [(7, .int (zI c0)), (0, .ref (b 0)), (1, .ref (ba 2)), (2, .int (zI (i : Int))), (3, .int (zI z)), (4, .int (zI (m i : Int))), (5, .int (zI la)), (6, .int (zI wy))]) (by decide) rfl dL_isPointed_67 ?_
        have j89 : ∀ (r0 : Int) (hr0 : (wy = 0 ∧ 0 ≤ r0 ∧ r0 ≤ 5) ∨ (wy ≠ 0 ∧ r0 = la % 12)), J (gw 105 XSh cy b μ ++ (gw 3 ASh cy ba ν ++ E)) 0 0 89 [(0, .ref (b 0)), (1, .ref (ba 2)), (2, .int (zI (i : Int))), (3, .int (zI z)), (4, .int (zI (m i : Int))), (5, .int (zI la)), (6, .int (zI wy)), (7, .int (zI c0))] [.int (zI r0)] := by
          intro r0 hr0
          refine j_istore hJ (lv' := [(8, .int (zI r0)), (0, .ref (b 0)), (1, .ref (ba 2)), (2, .int (zI (i : Int))), (3, .int (zI z)), (4, .int (zI (m i : Int))), (5, .int (zI la)), (6, .int (zI wy)), (7, .int (zI c0))]) (by decide) rfl dL_isPointed_89 ?_
          refine j_iload hJ (j := 8) rfl dL_isPointed_91 ?_
          have j110 : ∀ (d1 : Int) (hd1 : (wy = 0 ∧ d1 = 0) ∨ (wy ≠ 0 ∧ (d1 = 0 ∨ d1 = 2))), J (gw 105 XSh cy b μ ++ (gw 3 ASh cy ba ν ++ E)) 0 0 110 [(0, .ref (b 0)), (1, .ref (ba 2)), (2, .int (zI (i : Int))), (3, .int (zI z)), (4, .int (zI (m i : Int))), (5, .int (zI la)), (6, .int (zI wy)), (7, .int (zI c0)), (8, .int (zI r0))] [.int (zI d1), .int (zI c0)] := by
            intro d1 hd1
            refine j_iadd hJ dL_isPointed_110 ?_
            refine j_istore hJ (lv' := [(7, .int (zI (c0 + d1))), (0, .ref (b 0)), (1, .ref (ba 2)), (2, .int (zI (i : Int))), (3, .int (zI z)), (4, .int (zI (m i : Int))), (5, .int (zI la)), (6, .int (zI wy)), (8, .int (zI r0))]) (by decide) rfl dL_isPointed_111 ?_
            refine j_iload hJ (j := 8) rfl dL_isPointed_113 ?_
            have j126 : ∀ (d2 : Int) (hd2 : (wy = 0 ∧ d2 = 0) ∨ (wy ≠ 0 ∧ (d2 = 0 ∨ d2 = 2))), J (gw 105 XSh cy b μ ++ (gw 3 ASh cy ba ν ++ E)) 0 0 126 [(0, .ref (b 0)), (1, .ref (ba 2)), (2, .int (zI (i : Int))), (3, .int (zI z)), (4, .int (zI (m i : Int))), (5, .int (zI la)), (6, .int (zI wy)), (7, .int (zI (c0 + d1))), (8, .int (zI r0))] [.int (zI d2), .int (zI r0)] := by
              intro d2 hd2
              refine j_iadd hJ dL_isPointed_126 ?_
              refine j_istore hJ (lv' := [(8, .int (zI (r0 + d2))), (0, .ref (b 0)), (1, .ref (ba 2)), (2, .int (zI (i : Int))), (3, .int (zI z)), (4, .int (zI (m i : Int))), (5, .int (zI la)), (6, .int (zI wy)), (7, .int (zI (c0 + d1)))]) (by decide) rfl dL_isPointed_127 ?_
              have j151 : ∀ (c : Int) (r : Int) (hcr : (0 ≤ c ∧ c < 12) ∧ 0 ≤ r ∧ r < 12) (hm4 : m i ≤ 4) (hst9 : PStep la (m i) c r), J (gw 105 XSh cy b μ ++ (gw 3 ASh cy ba ν ++ E)) 0 0 151 [(0, .ref (b 0)), (1, .ref (ba 2)), (2, .int (zI (i : Int))), (3, .int (zI z)), (4, .int (zI (m i : Int))), (5, .int (zI la)), (7, .int (zI c)), (8, .int (zI r))] [] := by
                intro c r hcr hm4 hst9
                obtain ⟨⟨c1, c2⟩, r1, r2⟩ := id hcr
                obtain ⟨ac, hac⟩ : ∃ ac, ac = c - la / 12 := ⟨_, rfl⟩
                obtain ⟨dn, hdn⟩ : ∃ dn, dn = r - la % 12 := ⟨_, rfl⟩
                have q1 := sq_f (a := ac) (by omega) (by omega)
                have q2 := sq_f (a := dn) (by omega) (by omega)
                have hCan : (m i = 0 ∨ Aln (p i (m i - 1)) c r) ↔ (m i = 0 ∨ ((ac = 0 ∨ dn = 0 ∨ ac = dn ∨ ac = -dn) ∧ ¬ (ac = 0 ∧ dn = 0))) := by
                  unfold Aln
                  rcases hla with ⟨g1, g2⟩ | ⟨g1, g2⟩
                  · exact ⟨fun _ => Or.inl g1, fun _ => Or.inl g1⟩
                  · rw [← g2]
                    omega
                refine j_iload hJ (j := 6) rfl dL_isPointed_151 ?_
                refine j_iload hJ (j := 5) rfl dL_isPointed_153 ?_
                refine j_bipush hJ (v := 12) (by decide) dL_isPointed_155 ?_
                refine j_idiv hJ (by omega) (by omega) (by omega) (by omega) dL_isPointed_157 ?_
                refine j_isub hJ dL_isPointed_158 ?_
                refine j_topi (y := zI ac) (by rw [hac]) ?_
                refine j_istore hJ (lv' := [(9, .int (zI ac)), (0, .ref (b 0)), (1, .ref (ba 2)), (2, .int (zI (i : Int))), (3, .int (zI z)), (4, .int (zI (m i : Int))), (5, .int (zI la)), (7, .int (zI c)), (8, .int (zI r))]) (by decide) rfl dL_isPointed_159 ?_
                refine j_iload hJ (j := 8) rfl dL_isPointed_161 ?_
                refine j_iload hJ (j := 6) rfl dL_isPointed_163 ?_
                refine j_bipush hJ (v := 12) (by decide) dL_isPointed_165 ?_
                refine j_irem hJ (by omega) (by omega) (by omega) (by omega) dL_isPointed_167 ?_
                refine j_isub hJ dL_isPointed_168 ?_
                refine j_topi (y := zI dn) (by rw [hdn]) ?_
                refine j_istore hJ (lv' := [(10, .int (zI dn)), (9, .int (zI ac)), (0, .ref (b 0)), (1, .ref (ba 2)), (2, .int (zI (i : Int))), (3, .int (zI z)), (4, .int (zI (m i : Int))), (5, .int (zI la)), (7, .int (zI c)), (8, .int (zI r))]) (by decide) rfl dL_isPointed_169 ?_
                have j220 : ∀ (cn : Int) (hcn : (cn = 1 ∧ (m i = 0 ∨ Aln (p i (m i - 1)) c r)) ∨ (cn = 0 ∧ ¬ (m i = 0 ∨ Aln (p i (m i - 1)) c r))), J (gw 105 XSh cy b μ ++ (gw 3 ASh cy ba ν ++ E)) 0 0 220 [(0, .ref (b 0)), (1, .ref (ba 2)), (2, .int (zI (i : Int))), (3, .int (zI z)), (4, .int (zI (m i : Int))), (7, .int (zI c)), (8, .int (zI r))] [.int (zI cn)] := by
                  intro cn hcn
                  have hcn01 : cn = 0 ∨ cn = 1 := by omega
                  refine j_istore hJ (lv' := [(11, .int (zI cn)), (0, .ref (b 0)), (1, .ref (ba 2)), (2, .int (zI (i : Int))), (3, .int (zI z)), (4, .int (zI (m i : Int))), (7, .int (zI c)), (8, .int (zI r))]) (by decide) rfl dL_isPointed_220 ?_
                  have j256 : ∀ (νq : Nat → Int → Int) (pq : Nat → Int) (mq : Nat) (hAP : APt νq i pq mq) (hcs : (cn = 1 ∧ (m i = 0 ∨ Aln (p i (m i - 1)) c r) ∧ pq = pset (p i) (m i) (12 * c + r) ∧ mq = m i + 1 ∧ νq = up (up ν 2 (7 * (i : Int)) ((m i : Int) + 1)) 2 (7 * (i : Int) + (m i : Int) + 1) (12 * c + r)) ∨ (cn = 0 ∧ ¬ (m i = 0 ∨ Aln (p i (m i - 1)) c r) ∧ pq = p i ∧ mq = m i ∧ νq = ν)), J (gw 105 XSh cy b μ ++ (gw 3 ASh cy ba νq ++ E)) 0 0 256 [(0, .ref (b 0)), (1, .ref (ba 2)), (2, .int (zI (i : Int))), (3, .int (zI z)), (7, .int (zI c)), (8, .int (zI r)), (11, .int (zI cn))] [] := by
                    intro νq pq mq hAP hcs
                    have hqr := trk_rng hAP.2.2.2
                    have hql := (trk_len hAP.2.2.2).1
                    have hq5 := hAP.2.1
                    refine j_iconst hJ dL_isPointed_256 ?_
                    refine j_istore hJ (lv' := [(12, .int (zI 0)), (0, .ref (b 0)), (1, .ref (ba 2)), (2, .int (zI (i : Int))), (3, .int (zI z)), (7, .int (zI c)), (8, .int (zI r)), (11, .int (zI cn))]) (by decide) rfl dL_isPointed_257 ?_
                    have lp259 : ∀ (nn259 : Nat) (k : Nat) (hmeas259 : (trk pq mq).length + 1 - k < nn259) (hk : k ≤ (trk pq mq).length), J (gw 105 XSh cy b μ ++ (gw 3 ASh cy ba νq ++ E)) 0 0 259 [(0, .ref (b 0)), (1, .ref (ba 2)), (2, .int (zI (i : Int))), (3, .int (zI z)), (7, .int (zI c)), (8, .int (zI r)), (11, .int (zI cn)), (12, .int (zI (k : Int)))] [] := by
                      intro nn259
                      induction nn259 with
                      | zero => intro k hmeas259 hk; omega
                      | succ nn259 ih259 =>
                        intro k hmeas259 hk
                        refine j_aload_n hJ (j := 1) rfl rfl dL_isPointed_259 ?_
                        refine j_iload_n hJ (j := 2) rfl rfl dL_isPointed_260 ?_
                        refine j_iload hJ (j := 7) rfl dL_isPointed_261 ?_
                        refine j_perm hJ (perm3 _ _ _) ?_
                        show J (gw 3 ASh cy ba νq ++ (gw 105 XSh cy b μ ++ E)) 0 0 263 [(0, .ref (b 0)), (1, .ref (ba 2)), (2, .int (zI (i : Int))), (3, .int (zI z)), (7, .int (zI c)), (8, .int (zI r)), (11, .int (zI cn)), (12, .int (zI (k : Int)))] [.int (zI (k : Int)), .int (zI (i : Int)), .ref (ba 2)]
                        refine j_callS0 hJ (c_L_square hfl (by omega) hAP (by omega)) m_L_23 k_L_square ⟨(Nat.le_of_ble_eq_true rfl), (Nat.le_of_ble_eq_true rfl)⟩ ⟨(Nat.le_of_ble_eq_true rfl), (Nat.le_of_ble_eq_true rfl)⟩ (Nat.le_of_ble_eq_true rfl) dL_isPointed_263 rfl ?_
                        intro v1 u2 hv3
                        obtain ⟨_, rfl, rfl, rfl⟩ := hv3
                        show J (gw 3 ASh cy ba νq ++ (gw 105 XSh cy b μ ++ E)) 0 0 266 [(0, .ref (b 0)), (1, .ref (ba 2)), (2, .int (zI (i : Int))), (3, .int (zI z)), (7, .int (zI c)), (8, .int (zI r)), (11, .int (zI cn)), (12, .int (zI (k : Int)))] [.int (zI (sqA (trk pq mq) k))]
                        refine j_perm hJ (perm3 _ _ _) ?_
                        show J (gw 105 XSh cy b μ ++ (gw 3 ASh cy ba νq ++ E)) 0 0 266 [(0, .ref (b 0)), (1, .ref (ba 2)), (2, .int (zI (i : Int))), (3, .int (zI z)), (7, .int (zI c)), (8, .int (zI r)), (11, .int (zI cn)), (12, .int (zI (k : Int)))] [.int (zI (sqA (trk pq mq) k))]
                        have hs := sqA_rng hqr k
                        refine j_if_lt hJ (tgt := 275) ⟨by omega, by omega⟩ (by decide) dL_isPointed_266 ?_ ?_
                        · intro h266
                          have hke : k = (trk pq mq).length := by omega
                          refine j_aload_n hJ (j := 0) rfl rfl dL_isPointed_275 ?_
                          refine j_iload_n hJ (j := 2) rfl rfl dL_isPointed_276 ?_
                          refine j_iload hJ (j := 4) rfl dL_isPointed_277 ?_
                          refine j_iload hJ (j := 5) rfl dL_isPointed_279 ?_
                          refine j_callSW XMv.tr (fun _ _ => trivial) hJ (c_L_added hfl hX hi hcr.1 hcr.2 (by omega)) mx_L_118 kw_L_added ⟨(Nat.le_of_ble_eq_true rfl), (Nat.le_of_ble_eq_true rfl)⟩ ⟨(Nat.le_of_ble_eq_true rfl), (Nat.le_of_ble_eq_true rfl)⟩ (Nat.le_of_ble_eq_true rfl) dL_isPointed_281 rfl ?_
                          intro v4 u5 hv6
                          obtain ⟨q9, μ1, rfl, rfl, h9⟩ := hv6
                          show J (gw 105 XSh cy b μ1 ++ (gw 3 ASh cy ba νq ++ E)) 3 18 284 [(0, .ref (b 0)), (1, .ref (ba 2)), (2, .int (zI (i : Int))), (3, .int (zI z)), (7, .int (zI c)), (8, .int (zI r)), (11, .int (zI cn)), (12, .int (zI (k : Int)))] [.int (zI q9)]
                          obtain ⟨μ9, hμ9⟩ : ∃ μ9, μ9 = μ1 := ⟨_, rfl⟩
                          rw [← hμ9] at h9 ⊢
                          have hq9 : q9 = if cn = 0 then -2 else (k : Int) := by
                            rcases h9 with ⟨g1, g2, -, -⟩ | ⟨g1, g2, -⟩
                            · rcases hcs with ⟨e1, -, e2, e3, -⟩ | ⟨-, e2, -⟩
                              · rw [g2, if_neg (by omega), hke, e2, e3]
                              · exact absurd g1 e2
                            · rcases hcs with ⟨-, e2, -⟩ | ⟨e1, -⟩
                              · exact absurd e2 g1
                              · rw [g2, if_pos e1]
                          have hq9r : -2 ≤ q9 ∧ q9 ≤ 100 := by rw [hq9]; split <;> omega
                          have j296 : ∀ (e1 : Int) (he1 : e1 = q9), J (gw 105 XSh cy b μ9 ++ (gw 3 ASh cy ba νq ++ E)) 3 18 296 [(0, .ref (b 0)), (1, .ref (ba 2)), (2, .int (zI (i : Int))), (3, .int (zI z))] [.int (zI e1), .int (zI q9)] := by
                            intro e1 he1
                            refine j_icmp_ne hJ (tgt := 303) ⟨by omega, by omega⟩ ⟨by omega, by omega⟩ (by decide) dL_isPointed_296 ?_ ?_
                            · intro h296
                              exact absurd he1.symm h296
                            · intro h296
                              refine j_iconst hJ dL_isPointed_299 ?_
                              refine j_goto hJ (tgt := 304) (by decide) dL_isPointed_300 ?_
                              refine j_iret hJ rfl rfl (rfl) (Nat.le_of_ble_eq_true rfl) (Nat.le_of_ble_eq_true rfl) dL_isPointed_304 ⟨1, μ9, νq, rfl, rfl, ?_⟩
                              refine ⟨rfl, ?_⟩
                              rcases h9 with ⟨g1, g2, g3, g4⟩ | ⟨g1, g2, g3⟩
                              · rcases hcs with ⟨e1, -, e2, e3, e4⟩ | ⟨-, e2, -⟩
                                · rw [← e2] at g3
                                  exact ⟨_, _, hS.add hi hcr g3 g4 (by rw [← e3]; exact hAP) e4 e2 hst9 hla⟩
                                · exact absurd g1 e2
                              · rcases hcs with ⟨-, e2, -⟩ | ⟨-, -, -, -, e4⟩
                                · exact absurd e2 g1
                                · rw [g3, e4]; exact ⟨m, p, hS⟩
                          refine j_iload hJ (j := 6) rfl dL_isPointed_284 ?_
                          refine j_if_eq hJ (tgt := 294) ⟨by omega, by omega⟩ (by decide) dL_isPointed_286 ?_ ?_
                          · intro h286
                            refine j_bipush hJ (v := -2) (by decide) dL_isPointed_294 ?_
                            refine j_locs hJ [0, 1, 2, 3] rfl ?_
                            exact j296 (-2) (by rw [hq9]; first | (rw [if_pos (by omega)]; done) | (rw [if_neg (by omega)]; done))
                          · intro h286
                            refine j_iload hJ (j := 7) rfl dL_isPointed_289 ?_
                            refine j_goto hJ (tgt := 296) (by decide) dL_isPointed_291 ?_
                            refine j_locs hJ [0, 1, 2, 3] rfl ?_
                            exact j296 (k : Int) (by rw [hq9]; first | (rw [if_pos (by omega)]; done) | (rw [if_neg (by omega)]; done))
                        · intro h266
                          refine j_iinc hJ (lv' := [(12, .int (zI ((k : Int) + 1))), (0, .ref (b 0)), (1, .ref (ba 2)), (2, .int (zI (i : Int))), (3, .int (zI z)), (7, .int (zI c)), (8, .int (zI r)), (11, .int (zI cn))]) (j := 7) rfl (by omega) (by decide) rfl dL_isPointed_269 ?_
                          refine j_goto hJ (tgt := 259) (by decide) dL_isPointed_272 ?_
                          refine j_locs hJ [1, 2, 3, 4, 5, 6, 7, 0] rfl ?_
                          exact ih259 (k + 1) (by omega) (by omega)
                    refine j_locs hJ [1, 2, 3, 4, 5, 6, 7, 0] rfl ?_
                    exact lp259 ((trk pq mq).length + 1 - 0 + 1) 0 (by omega) (by omega)
                  refine j_iload hJ (j := 0) rfl dL_isPointed_222 ?_
                  refine j_if_eq hJ (tgt := 256) ⟨by omega, by omega⟩ (by decide) dL_isPointed_224 ?_ ?_
                  · intro h224
                    have hcan : ¬ (m i = 0 ∨ Aln (p i (m i - 1)) c r) := (hcn.resolve_left (fun g => by omega)).2
                    refine j_locs hJ [1, 2, 3, 4, 6, 7, 0] rfl ?_
                    refine j256 ν (p i) (m i) ?_ ?_
                    · first
                      | (rw [hv2]; exact APt.add hPi hm4 (by omega) hcr hcan hla)
                      | exact hPi
                    · first
                      | exact Or.inl ⟨by omega, hcan, rfl, rfl, hv2⟩
                      | exact Or.inr ⟨by omega, hcan, rfl, rfl, rfl⟩
                  · intro h224
                    have hcan : (m i = 0 ∨ Aln (p i (m i - 1)) c r) := (hcn.resolve_right (fun g => absurd g.1 h224)).2
                    refine j_aload_n hJ (j := 2) rfl rfl dL_isPointed_227 ?_
                    refine j_bipush hJ (v := 7) (by decide) dL_isPointed_228 ?_
                    refine j_iload_n hJ (j := 3) rfl rfl dL_isPointed_230 ?_
                    refine j_imul hJ dL_isPointed_231 ?_
                    refine j_dup2 hJ rfl rfl dL_isPointed_232 ?_
                    refine w2_iald hJ (by decide) rfl (by decide) (by omega) (by omega) dL_isPointed_233 ?_
                    refine j_topi (y := zI (m i : Int)) (by rw [p1]) ?_
                    refine j_iconst hJ dL_isPointed_234 ?_
                    refine j_iadd hJ dL_isPointed_235 ?_
                    refine w2_iast hJ (by decide) rfl (by decide) (by omega) (by omega) dL_isPointed_236 ?_
                    intro ν2 hν2
                    have hv1 := hν2
                    refine j_aload_n hJ (j := 2) rfl rfl dL_isPointed_237 ?_
                    refine j_bipush hJ (v := 7) (by decide) dL_isPointed_238 ?_
                    refine j_iload_n hJ (j := 3) rfl rfl dL_isPointed_240 ?_
                    refine j_imul hJ dL_isPointed_241 ?_
                    refine j_iload hJ (j := 5) rfl dL_isPointed_242 ?_
                    refine j_iadd hJ dL_isPointed_244 ?_
                    refine j_iconst hJ dL_isPointed_245 ?_
                    refine j_iadd hJ dL_isPointed_246 ?_
                    refine j_bipush hJ (v := 12) (by decide) dL_isPointed_247 ?_
                    refine j_iload hJ (j := 6) rfl dL_isPointed_249 ?_
                    refine j_imul hJ dL_isPointed_251 ?_
                    refine j_iload hJ (j := 7) rfl dL_isPointed_252 ?_
                    refine j_iadd hJ dL_isPointed_254 ?_
                    refine w2_iast hJ (by decide) rfl (by decide) (by omega) (by omega) dL_isPointed_255 ?_
                    intro ν3 hν3
                    have hv2 := hν3
                    rw [hv1] at hv2
                    refine j_locs hJ [1, 2, 3, 4, 6, 7, 0] rfl ?_
                    refine j256 ν3 (pset (p i) (m i) (12 * c + r)) (m i + 1) ?_ ?_
                    · first
                      | (rw [hv2]; exact APt.add hPi hm4 (by omega) hcr hcan hla)
                      | exact hPi
                    · first
                      | exact Or.inl ⟨by omega, hcan, rfl, rfl, hv2⟩
                      | exact Or.inr ⟨by omega, hcan, rfl, rfl, rfl⟩
                refine j_iload hJ (j := 6) rfl dL_isPointed_171 ?_
                refine j_if_eq hJ (tgt := 215) ⟨by omega, by omega⟩ (by decide) dL_isPointed_173 ?_ ?_
                · intro h173
                  refine j_iconst hJ dL_isPointed_215 ?_
                  refine j_goto hJ (tgt := 220) (by decide) dL_isPointed_216 ?_
                  refine j_locs hJ [2, 3, 4, 5, 6, 8, 9] rfl ?_
                  refine j220 1 ?_
                  · first
                    | exact Or.inl ⟨rfl, hCan.mpr (by omega)⟩
                    | exact Or.inr ⟨rfl, fun g => by have := hCan.mp g; omega⟩
                · intro h173
                  refine j_iload hJ (j := 1) rfl dL_isPointed_176 ?_
                  refine j_if_eq hJ (tgt := 201) ⟨by omega, by omega⟩ (by decide) dL_isPointed_178 ?_ ?_
                  · intro h178
                    refine j_iload hJ (j := 1) rfl dL_isPointed_201 ?_
                    refine j_iload hJ (j := 1) rfl dL_isPointed_203 ?_
                    refine j_imul hJ dL_isPointed_205 ?_
                    refine j_iload hJ (j := 0) rfl dL_isPointed_206 ?_
                    refine j_iload hJ (j := 0) rfl dL_isPointed_208 ?_
                    refine j_imul hJ dL_isPointed_210 ?_
                    refine j_iadd hJ dL_isPointed_211 ?_
                    refine j_if_le hJ (tgt := 219) ⟨by omega, by omega⟩ (by decide) dL_isPointed_212 ?_ ?_
                    · intro h212
                      refine j_iconst hJ dL_isPointed_219 ?_
                      refine j_locs hJ [2, 3, 4, 5, 6, 8, 9] rfl ?_
                      refine j220 0 ?_
                      · first
                        | exact Or.inl ⟨rfl, hCan.mpr (by omega)⟩
                        | exact Or.inr ⟨rfl, fun g => by have := hCan.mp g; omega⟩
                    · intro h212
                      refine j_iconst hJ dL_isPointed_215 ?_
                      refine j_goto hJ (tgt := 220) (by decide) dL_isPointed_216 ?_
                      refine j_locs hJ [2, 3, 4, 5, 6, 8, 9] rfl ?_
                      refine j220 1 ?_
                      · first
                        | exact Or.inl ⟨rfl, hCan.mpr (by omega)⟩
                        | exact Or.inr ⟨rfl, fun g => by have := hCan.mp g; omega⟩
                  · intro h178
                    refine j_iload hJ (j := 0) rfl dL_isPointed_181 ?_
                    refine j_if_eq hJ (tgt := 201) ⟨by omega, by omega⟩ (by decide) dL_isPointed_183 ?_ ?_
                    · intro h183
                      refine j_iload hJ (j := 1) rfl dL_isPointed_201 ?_
                      refine j_iload hJ (j := 1) rfl dL_isPointed_203 ?_
                      refine j_imul hJ dL_isPointed_205 ?_
                      refine j_iload hJ (j := 0) rfl dL_isPointed_206 ?_
                      refine j_iload hJ (j := 0) rfl dL_isPointed_208 ?_
                      refine j_imul hJ dL_isPointed_210 ?_
                      refine j_iadd hJ dL_isPointed_211 ?_
                      refine j_if_le hJ (tgt := 219) ⟨by omega, by omega⟩ (by decide) dL_isPointed_212 ?_ ?_
                      · intro h212
                        refine j_iconst hJ dL_isPointed_219 ?_
                        refine j_locs hJ [2, 3, 4, 5, 6, 8, 9] rfl ?_
                        refine j220 0 ?_
                        · first
                          | exact Or.inl ⟨rfl, hCan.mpr (by omega)⟩
                          | exact Or.inr ⟨rfl, fun g => by have := hCan.mp g; omega⟩
                      · intro h212
                        refine j_iconst hJ dL_isPointed_215 ?_
                        refine j_goto hJ (tgt := 220) (by decide) dL_isPointed_216 ?_
                        refine j_locs hJ [2, 3, 4, 5, 6, 8, 9] rfl ?_
                        refine j220 1 ?_
                        · first
                          | exact Or.inl ⟨rfl, hCan.mpr (by omega)⟩
                          | exact Or.inr ⟨rfl, fun g => by have := hCan.mp g; omega⟩
                    · intro h183
                      refine j_iload hJ (j := 1) rfl dL_isPointed_186 ?_
                      refine j_iload hJ (j := 0) rfl dL_isPointed_188 ?_
                      refine j_icmp_eq hJ (tgt := 201) ⟨by omega, by omega⟩ ⟨by omega, by omega⟩ (by decide) dL_isPointed_190 ?_ ?_
                      · intro h190
                        refine j_iload hJ (j := 1) rfl dL_isPointed_201 ?_
                        refine j_iload hJ (j := 1) rfl dL_isPointed_203 ?_
                        refine j_imul hJ dL_isPointed_205 ?_
                        refine j_iload hJ (j := 0) rfl dL_isPointed_206 ?_
                        refine j_iload hJ (j := 0) rfl dL_isPointed_208 ?_
                        refine j_imul hJ dL_isPointed_210 ?_
                        refine j_iadd hJ dL_isPointed_211 ?_
                        refine j_if_le hJ (tgt := 219) ⟨by omega, by omega⟩ (by decide) dL_isPointed_212 ?_ ?_
                        · intro h212
                          refine j_iconst hJ dL_isPointed_219 ?_
                          refine j_locs hJ [2, 3, 4, 5, 6, 8, 9] rfl ?_
                          refine j220 0 ?_
                          · first
                            | exact Or.inl ⟨rfl, hCan.mpr (by omega)⟩
                            | exact Or.inr ⟨rfl, fun g => by have := hCan.mp g; omega⟩
                        · intro h212
                          refine j_iconst hJ dL_isPointed_215 ?_
                          refine j_goto hJ (tgt := 220) (by decide) dL_isPointed_216 ?_
                          refine j_locs hJ [2, 3, 4, 5, 6, 8, 9] rfl ?_
                          refine j220 1 ?_
                          · first
                            | exact Or.inl ⟨rfl, hCan.mpr (by omega)⟩
                            | exact Or.inr ⟨rfl, fun g => by have := hCan.mp g; omega⟩
                      · intro h190
                        refine j_iload hJ (j := 1) rfl dL_isPointed_193 ?_
                        refine j_iload hJ (j := 0) rfl dL_isPointed_195 ?_
                        refine j_ineg hJ dL_isPointed_197 ?_
                        refine j_icmp_ne hJ (tgt := 219) ⟨by omega, by omega⟩ ⟨by omega, by omega⟩ (by decide) dL_isPointed_198 ?_ ?_
                        · intro h198
                          refine j_iconst hJ dL_isPointed_219 ?_
                          refine j_locs hJ [2, 3, 4, 5, 6, 8, 9] rfl ?_
                          refine j220 0 ?_
                          · first
                            | exact Or.inl ⟨rfl, hCan.mpr (by omega)⟩
                            | exact Or.inr ⟨rfl, fun g => by have := hCan.mp g; omega⟩
                        · intro h198
                          refine j_iload hJ (j := 1) rfl dL_isPointed_201 ?_
                          refine j_iload hJ (j := 1) rfl dL_isPointed_203 ?_
                          refine j_imul hJ dL_isPointed_205 ?_
                          refine j_iload hJ (j := 0) rfl dL_isPointed_206 ?_
                          refine j_iload hJ (j := 0) rfl dL_isPointed_208 ?_
                          refine j_imul hJ dL_isPointed_210 ?_
                          refine j_iadd hJ dL_isPointed_211 ?_
                          refine j_if_le hJ (tgt := 219) ⟨by omega, by omega⟩ (by decide) dL_isPointed_212 ?_ ?_
                          · intro h212
                            refine j_iconst hJ dL_isPointed_219 ?_
                            refine j_locs hJ [2, 3, 4, 5, 6, 8, 9] rfl ?_
                            refine j220 0 ?_
                            · first
                              | exact Or.inl ⟨rfl, hCan.mpr (by omega)⟩
                              | exact Or.inr ⟨rfl, fun g => by have := hCan.mp g; omega⟩
                          · intro h212
                            refine j_iconst hJ dL_isPointed_215 ?_
                            refine j_goto hJ (tgt := 220) (by decide) dL_isPointed_216 ?_
                            refine j_locs hJ [2, 3, 4, 5, 6, 8, 9] rfl ?_
                            refine j220 1 ?_
                            · first
                              | exact Or.inl ⟨rfl, hCan.mpr (by omega)⟩
                              | exact Or.inr ⟨rfl, fun g => by have := hCan.mp g; omega⟩
              refine j_iload hJ (j := 5) rfl dL_isPointed_129 ?_
              refine j_iconst hJ dL_isPointed_131 ?_
              refine j_icmp_eq hJ (tgt := 149) ⟨by omega, by omega⟩ ⟨by omega, by omega⟩ (by decide) dL_isPointed_132 ?_ ?_
              · intro h132
                refine j_iconst hJ dL_isPointed_149 ?_
                refine j_iret hJ rfl rfl (rfl) (Nat.le_of_ble_eq_true rfl) (Nat.le_of_ble_eq_true rfl) dL_isPointed_150 ⟨1, μ, ν, rfl, rfl, ?_⟩
                exact ⟨rfl, m, p, hS⟩
              · intro h132
                refine j_iload hJ (j := 8) rfl dL_isPointed_135 ?_
                refine j_bipush hJ (v := 11) (by decide) dL_isPointed_137 ?_
                refine j_icmp_gt hJ (tgt := 149) ⟨by omega, by omega⟩ ⟨by omega, by omega⟩ (by decide) dL_isPointed_139 ?_ ?_
                · intro h139
                  refine j_iconst hJ dL_isPointed_149 ?_
                  refine j_iret hJ rfl rfl (rfl) (Nat.le_of_ble_eq_true rfl) (Nat.le_of_ble_eq_true rfl) dL_isPointed_150 ⟨1, μ, ν, rfl, rfl, ?_⟩
                  exact ⟨rfl, m, p, hS⟩
                · intro h139
                  refine j_iload hJ (j := 0) rfl dL_isPointed_142 ?_
                  refine j_bipush hJ (v := 11) (by decide) dL_isPointed_144 ?_
                  refine j_icmp_le hJ (tgt := 151) ⟨by omega, by omega⟩ ⟨by omega, by omega⟩ (by decide) dL_isPointed_146 ?_ ?_
                  · intro h146
                    refine j_locs hJ [1, 2, 3, 4, 5, 6, 8, 0] rfl ?_
                    exact j151 (c0 + d1) (r0 + d2) (by omega) (by omega) (by exact PStep.of (la := la) (m := m i) (c0 := c0) (r0 := r0) (d1 := d1) (d2 := d2) (wy := wy) hlr (fun g => by omega) (by omega) (by omega) (by omega))
                  · intro h146
                    refine j_iconst hJ dL_isPointed_149 ?_
                    refine j_iret hJ rfl rfl (rfl) (Nat.le_of_ble_eq_true rfl) (Nat.le_of_ble_eq_true rfl) dL_isPointed_150 ⟨1, μ, ν, rfl, rfl, ?_⟩
                    exact ⟨rfl, m, p, hS⟩
            refine j_iload hJ (j := 7) rfl dL_isPointed_115 ?_
            refine j_iconst hJ dL_isPointed_117 ?_
            refine j_icmp_le hJ (tgt := 125) ⟨by omega, by omega⟩ ⟨by omega, by omega⟩ (by decide) dL_isPointed_118 ?_ ?_
            · intro h118
              refine j_iconst hJ dL_isPointed_125 ?_
              refine j_locs hJ [1, 2, 3, 4, 5, 6, 7, 0, 8] rfl ?_
              exact j126 0 (by omega)
            · intro h118
              refine j_iconst hJ dL_isPointed_121 ?_
              refine j_goto hJ (tgt := 126) (by decide) dL_isPointed_122 ?_
              refine j_locs hJ [1, 2, 3, 4, 5, 6, 7, 0, 8] rfl ?_
              exact j126 2 (by omega)
          refine j_iload hJ (j := 7) rfl dL_isPointed_93 ?_
          refine j_iconst hJ dL_isPointed_95 ?_
          refine j_icmp_eq hJ (tgt := 105) ⟨by omega, by omega⟩ ⟨by omega, by omega⟩ (by decide) dL_isPointed_96 ?_ ?_
          · intro h96
            refine j_iconst hJ dL_isPointed_105 ?_
            refine j_goto hJ (tgt := 110) (by decide) dL_isPointed_106 ?_
            refine j_locs hJ [1, 2, 3, 4, 5, 6, 7, 8, 0] rfl ?_
            exact j110 2 (by omega)
          · intro h96
            refine j_iload hJ (j := 7) rfl dL_isPointed_99 ?_
            refine j_iconst hJ dL_isPointed_101 ?_
            refine j_icmp_ne hJ (tgt := 109) ⟨by omega, by omega⟩ ⟨by omega, by omega⟩ (by decide) dL_isPointed_102 ?_ ?_
            · intro h102
              refine j_iconst hJ dL_isPointed_109 ?_
              refine j_locs hJ [1, 2, 3, 4, 5, 6, 7, 8, 0] rfl ?_
              exact j110 0 (by omega)
            · intro h102
              refine j_iconst hJ dL_isPointed_105 ?_
              refine j_goto hJ (tgt := 110) (by decide) dL_isPointed_106 ?_
              refine j_locs hJ [1, 2, 3, 4, 5, 6, 7, 8, 0] rfl ?_
              exact j110 2 (by omega)
        refine j_iload hJ (j := 7) rfl dL_isPointed_69 ?_
        refine j_if_ne hJ (tgt := 84) ⟨by omega, by omega⟩ (by decide) dL_isPointed_71 ?_ ?_
        · intro h71
          refine j_iload hJ (j := 6) rfl dL_isPointed_84 ?_
          refine j_bipush hJ (v := 12) (by decide) dL_isPointed_86 ?_
          refine j_irem hJ (by omega) (by omega) (by omega) (by omega) dL_isPointed_88 ?_
          refine j_locs hJ [1, 2, 3, 4, 5, 6, 7, 0] rfl ?_
          exact j89 (la % 12) (by omega)
        · intro h71
          refine j_iload_n hJ (j := 4) rfl rfl dL_isPointed_74 ?_
          refine j_bipush hJ (v := 43) (by decide) dL_isPointed_75 ?_
          refine j_idiv hJ (by omega) (by omega) (by omega) (by omega) dL_isPointed_77 ?_
          refine j_bipush hJ (v := 6) (by decide) dL_isPointed_78 ?_
          refine j_irem hJ (by omega) (by omega) (by omega) (by omega) dL_isPointed_80 ?_
          refine j_goto hJ (tgt := 89) (by decide) dL_isPointed_81 ?_
          refine j_locs hJ [1, 2, 3, 4, 5, 6, 7, 0] rfl ?_
          exact j89 ((z / 43) % 6) (by omega)
      refine j_iload hJ (j := 0) rfl dL_isPointed_47 ?_
      refine j_if_ne hJ (tgt := 62) ⟨by omega, by omega⟩ (by decide) dL_isPointed_49 ?_ ?_
      · intro h49
        refine j_iload hJ (j := 6) rfl dL_isPointed_62 ?_
        refine j_bipush hJ (v := 12) (by decide) dL_isPointed_64 ?_
        refine j_idiv hJ (by omega) (by omega) (by omega) (by omega) dL_isPointed_66 ?_
        refine j_locs hJ [1, 2, 3, 4, 5, 6, 0] rfl ?_
        exact j67 (la / 12) (by omega)
      · intro h49
        refine j_iload_n hJ (j := 4) rfl rfl dL_isPointed_52 ?_
        refine j_bipush hJ (v := 7) (by decide) dL_isPointed_53 ?_
        refine j_idiv hJ (by omega) (by omega) (by omega) (by omega) dL_isPointed_55 ?_
        refine j_bipush hJ (v := 6) (by decide) dL_isPointed_56 ?_
        refine j_irem hJ (by omega) (by omega) (by omega) (by omega) dL_isPointed_58 ?_
        refine j_goto hJ (tgt := 67) (by decide) dL_isPointed_59 ?_
        refine j_locs hJ [1, 2, 3, 4, 5, 6, 0] rfl ?_
        exact j67 ((z / 7) % 6) (by omega)
    refine j_iload_n hJ (j := 4) rfl rfl dL_isPointed_28 ?_
    refine j_iconst hJ dL_isPointed_29 ?_
    refine j_irem hJ (by omega) (by omega) (by omega) (by omega) dL_isPointed_30 ?_
    refine j_if_ne hJ (tgt := 44) ⟨by omega, by omega⟩ (by decide) dL_isPointed_31 ?_ ?_
    · intro h31
      refine j_iconst hJ dL_isPointed_44 ?_
      refine j_locs hJ [1, 2, 3, 4, 5, 0] rfl ?_
      exact j45 0 (by omega)
    · intro h31
      refine j_iconst hJ dL_isPointed_34 ?_
      refine j_iload_n hJ (j := 4) rfl rfl dL_isPointed_35 ?_
      refine j_iconst hJ dL_isPointed_36 ?_
      refine j_idiv hJ (by omega) (by omega) (by omega) (by omega) dL_isPointed_37 ?_
      refine j_iconst hJ dL_isPointed_38 ?_
      refine j_irem hJ (by omega) (by omega) (by omega) (by omega) dL_isPointed_39 ?_
      refine j_iadd hJ dL_isPointed_40 ?_
      refine j_goto hJ (tgt := 45) (by decide) dL_isPointed_41 ?_
      refine j_locs hJ [1, 2, 3, 4, 5, 0] rfl ?_
      exact j45 (1 + ((z / 3) % 4)) (by omega)
  refine j_iload hJ (j := 0) rfl dL_isPointed_8 ?_
  refine j_if_ne hJ (tgt := 17) ⟨by omega, by omega⟩ (by decide) dL_isPointed_10 ?_ ?_
  · intro h10
    refine j_aload_n hJ (j := 2) rfl rfl dL_isPointed_17 ?_
    refine j_bipush hJ (v := 7) (by decide) dL_isPointed_18 ?_
    refine j_iload_n hJ (j := 3) rfl rfl dL_isPointed_20 ?_
    refine j_imul hJ dL_isPointed_21 ?_
    refine j_iload hJ (j := 0) rfl dL_isPointed_22 ?_
    refine j_iadd hJ dL_isPointed_24 ?_
    have hm1 : 1 ≤ m i := by omega
    refine w2_iald hJ (by decide) rfl (by decide) (by omega) (by omega) dL_isPointed_25 ?_
    refine j_topi (y := zI (p i (m i - 1))) (by rw [show (7 * (i : Int) + (m i : Int)) = 7 * (i : Int) + 1 + ((m i - 1 : Nat) : Int) by omega, p3 (m i - 1) (by omega)]) ?_
    refine j_locs hJ [1, 2, 3, 4, 0] rfl ?_
    exact j26 (p i (m i - 1)) (by first | exact Or.inl ⟨by omega, rfl⟩ | exact Or.inr ⟨by omega, rfl⟩)
  · intro h10
    refine j_iconst hJ dL_isPointed_13 ?_
    refine j_goto hJ (tgt := 26) (by decide) dL_isPointed_14 ?_
    refine j_locs hJ [1, 2, 3, 4, 0] rfl ?_
    exact j26 0 (by first | exact Or.inl ⟨by omega, rfl⟩ | exact Or.inr ⟨by omega, rfl⟩)
end
