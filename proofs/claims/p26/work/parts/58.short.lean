/-! lines of at most 142 signs: the room that they take -/
theorem cap_142 {n : Nat} (h : n ≤ 142) : cpC n ≤ 3 ∧ cpS n ≤ 246 := by
  unfold cpC cpS
  constructor <;> (repeat' split) <;> omega
section
variable {l : Launch} {D : va_G} {cy : Nat → ClassId} {n0 : Nat} {ad : Nat → Nat} {b : Nat → Nat} {E : va_W} {ws : va_W}
set_option maxHeartbeats 4000000 in
set_option maxRecDepth 100000 in
theorem c_X4_lineOf_s {μ : Nat → Int → Int} {i : Nat} {N L : List Int} (hfl : l.stackTraces = false) (hi : i < 16) (hN : NmI μ i N) (hkr : KdR (μ 1)) (hP : TP μ i L) (hsh : (lineT (μ 1) N L).length ≤ 142) : CT l D cy n0 ad yX4_lineOf (.code yX4_lineOf cX4_lineOf 3 (some (.object "java/lang/StringBuilder"))) ({ frames := 8, cells := 5, slots := 266, locals := 184 }) [.ref (b 0), .ref (b (9 + 6 * i))] (gw 105 XSh cy b μ ++ E) (fun vv uu => ∃ s w', vv = some (.ref s) ∧ uu = (gw 105 XSh cy b μ ++ (w' ++ E)) ∧ (SBP cy s (lineT (μ 1) N L) w')) := by
  have hN4 : N.length ≤ 4 := hN.2.2.1
  obtain ⟨p1, p2, p3, p4, p5⟩ := id hP
  obtain ⟨T', hT'⟩ : ∃ T', T' = lineT (μ 1) N L := ⟨_, rfl⟩
  rw [← hT']
  have hL : T'.length ≤ 600 := by rw [hT']; exact lineT_le hN4
  obtain ⟨T1, hT1⟩ : ∃ T1, T1 = [] ++ nameT (μ 1) N := ⟨_, rfl⟩
  have hT : T' = T1 ++ ((if 0 < L.length then [58] else []) ++ runsT L 144) := by rw [hT', hT1]; rfl
  have n1 : T1.length ≤ T'.length := by rw [hT, List.length_append]; omega
  have m0 := cap_mono (n := ([] : List Int).length) (k := T1.length) (Nat.zero_le _)
  have m1 := cap_mono n1
  have r1 := cap_rng T'.length
  have r2 := cap_142 (n := T'.length) (by rw [hT']; exact hsh)
  have z0 : cpC ([] : List Int).length = 0 ∧ cpS ([] : List Int).length = 0 := by decide
  have r0 : ∀ k, runsT ([] : List Int) k = [] := by
    intro k
    induction k with
    | zero => rfl
    | succ k ih => rw [runsT_no (by simp [bgT]), ih]
  refine CT.walk hfl (by decide) (Nat.le_of_ble_eq_true rfl) ?_
  intro A J hJ
  show J (gw 105 XSh cy b μ ++ E) 0 0 0 [(0, .ref (b 0)), (1, .ref (b (9 + 6 * i)))] []
  refine j_new tyJ4 hJ (ci := 0) (fs := [.null, .int (zI 0), .int (zI 0), .int (zI 0)]) rfl lays_J4 tyJ4_ok (List.mem_of_getElem? (i := 565) (by decide +kernel)) (List.mem_of_getElem? (i := 566) (by decide +kernel)) (List.mem_of_getElem? (i := 59) (by decide +kernel)) (fun j hj => by rcases (show j = 0 ∨ j = 1 ∨ j = 2 ∨ j = 3 by omega) with rfl | rfl | rfl | rfl <;> rfl) (Nat.le_of_ble_eq_true rfl) (Nat.le_of_ble_eq_true rfl) dX4_lineOf_0 (fun s => ?_)
  refine j_dup hJ rfl dX4_lineOf_3 ?_
  refine j_perm hJ (ws' := (s, .inr (0, [.null, .int (zI 0), .int (zI 0), .int (zI 0)])) :: (gw 105 XSh cy b μ ++ E)) (List.perm_append_singleton _ _) ?_
  refine j_callI0 hJ (c_J4_init_da8c8 (E := gw 105 XSh cy b μ ++ E) hfl) m_X4_221 k_J4_init_da8c8 ⟨(Nat.le_of_ble_eq_true rfl), (Nat.le_of_ble_eq_true rfl)⟩ ⟨(Nat.le_of_ble_eq_true rfl), (Nat.le_of_ble_eq_true rfl)⟩ (Nat.le_of_ble_eq_true rfl) dX4_lineOf_4 rfl ?_
  intro v0 u0 hv0
  obtain ⟨w0, rfl, rfl, S0⟩ := hv0
  refine j_perm hJ (ws' := gw 105 XSh cy b μ ++ (w0 ++ E)) (perm_mid _ _ _) ?_
  show J (gw 105 XSh cy b μ ++ (w0 ++ E)) 2 20 7 [(0, .ref (b 0)), (1, .ref (b (9 + 6 * i)))] [.ref s]
  refine j_astore_n hJ (lv' := [(2, .ref s), (0, .ref (b 0)), (1, .ref (b (9 + 6 * i)))]) rfl (by decide) rfl dX4_lineOf_7 ?_
  refine j_aload_n hJ (j := 1) rfl rfl dX4_lineOf_8 ?_
  refine j_aload_n hJ (j := 0) rfl rfl dX4_lineOf_9 ?_
  refine j_aload_n hJ (j := 2) rfl rfl dX4_lineOf_10 ?_
  refine j_callV0 hJ (c_X4_appendName hfl hi hN hkr S0 hT1 (by omega)) m_X4_222 k_X4_appendName (q0 := 0) (by rw [gw_get (by decide)]; rfl) rfl ⟨(Nat.le_of_ble_eq_true rfl), (Nat.le_of_ble_eq_true rfl)⟩ ⟨by dsimp only; omega, by dsimp only; omega⟩ (Nat.le_of_ble_eq_true rfl) dX4_lineOf_11 rfl ?_
  intro v1 u2 hv3
  obtain ⟨w4, rfl, rfl, S11⟩ := hv3
  show J (gw 105 XSh cy b μ ++ (w4 ++ E)) _ _ 14 [(2, .ref s), (0, .ref (b 0)), (1, .ref (b (9 + 6 * i)))] []
  refine j_aload_n hJ (j := 2) rfl rfl dX4_lineOf_14 ?_
  refine w_getr hJ (by omega) (XS0 _) rfl f_X4_58 dX4_lineOf_15 ?_
  refine w_geti hJ (fi := 1) rfl (by omega) (XS2 _) rfl f_X4_81 dX4_lineOf_18 ?_
  refine j_topi (y := zI (L.length : Int)) (by rw [p1]) ?_
  refine j_if_le hJ (tgt := 39) ⟨by omega, by omega⟩ (by decide) dX4_lineOf_21 ?_ ?_
  · intro h21
    have hL0 : L = [] := List.length_eq_zero_iff.mp (by omega)
    rw [if_neg (by omega), hL0, r0, List.append_nil, List.append_nil] at hT
    refine j_aload_n hJ (j := 0) rfl rfl dX4_lineOf_39 ?_
    refine j_aret hJ rfl rfl (by dsimp only; omega) (by dsimp only; omega) dX4_lineOf_40 ⟨s, w4, rfl, rfl, ?_⟩
    rw [hT]; exact S11
  · intro h21
    rw [if_pos (by omega)] at hT
    obtain ⟨T2, hT2⟩ : ∃ T2, T2 = T1 ++ [58] := ⟨_, rfl⟩
    have n2 : T2.length = T1.length + 1 := by rw [hT2]; simp
    rw [← List.append_assoc, ← hT2] at hT
    have n3 : T2.length ≤ T'.length := by rw [hT, List.length_append]; omega
    have m2 := cap_mono (n := T1.length) (k := T2.length) (by omega)
    have m3 := cap_mono n3
    refine j_aload_n hJ (j := 0) rfl rfl dX4_lineOf_24 ?_
    refine j_bipush hJ (v := 58) (by decide) dX4_lineOf_25 ?_
    obtain ⟨f27, g27⟩ := S11.recv' (N := 105) (sh := XSh) (b := b) (μ := μ) (E := E)
    refine j_callV0 hJ (l_app_c hfl S11 hT2 (by omega) ⟨by omega, by omega⟩) m_X4_226 k_J4_append_cf468 (q0 := 105) g27 rfl ⟨(Nat.le_of_ble_eq_true rfl), (Nat.le_of_ble_eq_true rfl)⟩ ⟨by dsimp only; omega, by dsimp only; omega⟩ (Nat.le_of_ble_eq_true rfl) dX4_lineOf_27 rfl ?_
    intro v5 u6 hv7
    obtain ⟨w8, rfl, rfl, S27⟩ := hv7
    show J (gw 105 XSh cy b μ ++ (w8 ++ E)) _ _ 30 [(2, .ref s), (0, .ref (b 0)), (1, .ref (b (9 + 6 * i)))] [.ref s]
    refine j_pop hJ rfl dX4_lineOf_30 ?_
    refine j_aload_n hJ (j := 0) rfl rfl dX4_lineOf_31 ?_
    refine j_aload_n hJ (j := 2) rfl rfl dX4_lineOf_32 ?_
    refine w_getr hJ (by omega) (XS0 _) rfl f_X4_58 dX4_lineOf_33 ?_
    refine j_callS0 hJ (c_X4_appendRuns hfl hi p5 S27 hT (by omega)) m_X4_230 k_X4_appendRuns ⟨(Nat.le_of_ble_eq_true rfl), (Nat.le_of_ble_eq_true rfl)⟩ ⟨by dsimp only; omega, by dsimp only; omega⟩ (Nat.le_of_ble_eq_true rfl) dX4_lineOf_36 rfl ?_
    intro v9 u10 hv11
    obtain ⟨w12, rfl, rfl, S36⟩ := hv11
    show J (gw 105 XSh cy b μ ++ (w12 ++ E)) _ _ 39 [(2, .ref s), (0, .ref (b 0)), (1, .ref (b (9 + 6 * i)))] []
    refine j_aload_n hJ (j := 0) rfl rfl dX4_lineOf_39 ?_
    refine j_aret hJ rfl rfl (by dsimp only; omega) (by dsimp only; omega) dX4_lineOf_40 ⟨s, w12, rfl, rfl, ?_⟩
    exact S36
set_option maxHeartbeats 4000000 in
set_option maxRecDepth 100000 in
theorem c_X4_lineLength_s {μ : Nat → Int → Int} {n : Nat} {N : Nat → List Int} {ow : Nat → Int} {m : Nat → Nat} {p : Nat → Nat → Int} {s : Int} (hfl : l.stackTraces = false) (hX : XI μ n N ow m p) (hsR : -2147483648 ≤ s ∧ s < 2147483648) (hsh : (lineT (μ 1) (N s.toNat) (trk (p s.toNat) (m s.toNat))).length ≤ 142) : CV l D cy n0 ad yX4_lineLength (.code yX4_lineLength cX4_lineLength 2 (some .int)) ({ frames := 9, cells := 6, slots := 272, locals := 206 }) [.ref (b 0), .int (zI s)] (gw 105 XSh cy b μ ++ E) (fun vv uu => ∃ q, vv = some (.int (zI q)) ∧ uu = (gw 105 XSh cy b μ ++ E) ∧ (StOK n s ∧ q = ((lineT (μ 1) (N s.toNat) (trk (p s.toNat) (m s.toNat))).length : Nat))) (fun q uu => ∃ μ', uu = (gw 105 XSh cy b μ' ++ E) ∧ ((q = xIO ∧ ¬ StOK n s) ∧ μ' = μ)) := by
  obtain ⟨x1, x2, x3, x4, x5, x6, x7⟩ := id hX
  refine CV.walk hfl (by decide) (Nat.le_of_ble_eq_true rfl) ?_
  intro A J hJ
  show J (gw 105 XSh cy b μ ++ E) 0 0 0 [(0, .ref (b 0)), (1, .int (zI s))] []
  refine j_aload_n hJ (j := 0) rfl rfl dX4_lineLength_0 ?_
  refine j_iload_n hJ (j := 1) rfl rfl dX4_lineLength_1 ?_
  refine j_callVX0 hJ (c_X4_checkStreet hfl (n := n) hsR x1 x2) mx_X4_51 k_X4_checkStreet (q0 := 0) (by rw [gw_get (by decide)]; rfl) rfl ⟨(Nat.le_of_ble_eq_true rfl), (Nat.le_of_ble_eq_true rfl)⟩ ⟨(Nat.le_of_ble_eq_true rfl), (Nat.le_of_ble_eq_true rfl)⟩ (Nat.le_of_ble_eq_true rfl) dX4_lineLength_2 (by rintro q u ⟨_, rfl, ⟨rfl, h⟩, rfl⟩; exact ⟨_, rfl, ⟨rfl, h⟩, rfl⟩) rfl ?_
  intro v1 u2 hv3
  obtain ⟨rfl, rfl, hs⟩ := hv3
  show J (gw 105 XSh cy b μ ++ E) 1 6 5 [(0, .ref (b 0)), (1, .int (zI s))] []
  have hs1 := hs.1
  have hs2 := hs.2
  have hs16 : s.toNat < 16 := by omega
  refine j_aload_n hJ (j := 0) rfl rfl dX4_lineLength_5 ?_
  refine j_aload_n hJ (j := 0) rfl rfl dX4_lineLength_6 ?_
  refine w_getr hJ (by omega) rfl rfl f_X4_15 dX4_lineLength_7 ?_
  refine j_iload_n hJ (j := 1) rfl rfl dX4_lineLength_10 ?_
  refine w_aald hJ (by omega) rfl (by decide) (by omega) (by omega) dX4_lineLength_11 ?_
  refine j_callV0 hJ (c_X4_lineOf_s hfl (i := s.toNat) hs16 (x4 s.toNat (by omega)) x3 (x6 s.toNat hs16).1 hsh) m_X4_110 k_X4_lineOf (q0 := 0) (by rw [gw_get (by decide)]; rfl) rfl ⟨(Nat.le_of_ble_eq_true rfl), (Nat.le_of_ble_eq_true rfl)⟩ ⟨(Nat.le_of_ble_eq_true rfl), (Nat.le_of_ble_eq_true rfl)⟩ (Nat.le_of_ble_eq_true rfl) dX4_lineLength_12 rfl ?_
  intro v8 u8 hv8
  obtain ⟨a8, w8, rfl, rfl, S8⟩ := hv8
  show J (gw 105 XSh cy b μ ++ (w8 ++ E)) 6 272 15 [(0, .ref (b 0)), (1, .int (zI s))] [.ref a8]
  obtain ⟨f15, g15⟩ := S8.recv' (N := 105) (sh := XSh) (b := b) (μ := μ) (E := E)
  refine j_callV0 hJ (l_len hfl S8) m_X4_114 k_J4_length_8abf5 (q0 := 105) g15 rfl ⟨(Nat.le_of_ble_eq_true rfl), (Nat.le_of_ble_eq_true rfl)⟩ ⟨(Nat.le_of_ble_eq_true rfl), (Nat.le_of_ble_eq_true rfl)⟩ (Nat.le_of_ble_eq_true rfl) dX4_lineLength_15 rfl ?_
  intro v4 u5 hv6
  obtain ⟨_, rfl, rfl, rfl⟩ := hv6
  show J (gw 105 XSh cy b μ ++ (w8 ++ E)) 6 272 18 [(0, .ref (b 0)), (1, .int (zI s))] [.int (zI ((lineT (μ 1) (N s.toNat) (trk (p s.toNat) (m s.toNat))).length : Int))]
  refine j_drop hJ (ws' := gw 105 XSh cy b μ ++ E) (X := w8) (perm_end _ _ _) ?_
  show J (gw 105 XSh cy b μ ++ E) 6 272 18 [(0, .ref (b 0)), (1, .int (zI s))] [.int (zI ((lineT (μ 1) (N s.toNat) (trk (p s.toNat) (m s.toNat))).length : Int))]
  refine j_iret hJ rfl rfl (rfl) (Nat.le_of_ble_eq_true rfl) (Nat.le_of_ble_eq_true rfl) dX4_lineLength_18 ⟨((lineT (μ 1) (N s.toNat) (trk (p s.toNat) (m s.toNat))).length : Int), rfl, rfl, ?_⟩
  exact ⟨hs, rfl⟩
set_option maxHeartbeats 4000000 in
set_option maxRecDepth 100000 in
theorem c_X4_lineChar_s {μ : Nat → Int → Int} {n : Nat} {N : Nat → List Int} {ow : Nat → Int} {m : Nat → Nat} {p : Nat → Nat → Int} {s k : Int} (hfl : l.stackTraces = false) (hX : XI μ n N ow m p) (hsR : -2147483648 ≤ s ∧ s < 2147483648) (hkR : -2147483648 ≤ k ∧ k < 2147483648) (hsh : (lineT (μ 1) (N s.toNat) (trk (p s.toNat) (m s.toNat))).length ≤ 142) : CV l D cy n0 ad yX4_lineChar (.code yX4_lineChar cX4_lineChar 4 (some .char)) ({ frames := 9, cells := 7, slots := 278, locals := 206 }) [.ref (b 0), .int (zI s), .int (zI k)] (gw 105 XSh cy b μ ++ E) (fun vv uu => ∃ q, vv = some (.int (zI q)) ∧ uu = (gw 105 XSh cy b μ ++ E) ∧ ((StOK n s ∧ 0 ≤ k ∧ k < ((lineT (μ 1) (N s.toNat) (trk (p s.toNat) (m s.toNat))).length : Nat)) ∧ (lineT (μ 1) (N s.toNat) (trk (p s.toNat) (m s.toNat)))[k.toNat]? = some q ∧ 0 ≤ q ∧ q < 128)) (fun q uu => ∃ μ', uu = (gw 105 XSh cy b μ' ++ E) ∧ ((q = xIO ∧ ¬ (StOK n s ∧ 0 ≤ k ∧ k < ((lineT (μ 1) (N s.toNat) (trk (p s.toNat) (m s.toNat))).length : Nat))) ∧ μ' = μ)) := by
  obtain ⟨x1, x2, x3, x4, x5, x6, x7⟩ := id hX
  have hl6 : StOK n s → (lineT (μ 1) (N s.toNat) (trk (p s.toNat) (m s.toNat))).length ≤ 600 := fun g => lineT_le (x4 s.toNat (by have := g.1; have := g.2; omega)).2.2.1
  refine CV.walk hfl (by decide) (Nat.le_of_ble_eq_true rfl) ?_
  intro A J hJ
  show J (gw 105 XSh cy b μ ++ E) 0 0 0 [(0, .ref (b 0)), (1, .int (zI s)), (2, .int (zI k))] []
  refine j_aload_n hJ (j := 0) rfl rfl dX4_lineChar_0 ?_
  refine j_iload_n hJ (j := 1) rfl rfl dX4_lineChar_1 ?_
  refine j_callVX0 hJ (c_X4_checkStreet hfl (n := n) hsR x1 x2) mx_X4_51 k_X4_checkStreet (q0 := 0) (by rw [gw_get (by decide)]; rfl) rfl ⟨(Nat.le_of_ble_eq_true rfl), (Nat.le_of_ble_eq_true rfl)⟩ ⟨(Nat.le_of_ble_eq_true rfl), (Nat.le_of_ble_eq_true rfl)⟩ (Nat.le_of_ble_eq_true rfl) dX4_lineChar_2 (by rintro q u ⟨_, rfl, ⟨rfl, h⟩, rfl⟩; exact ⟨_, rfl, ⟨rfl, fun g => h g.1⟩, rfl⟩) rfl ?_
  intro v1 u2 hv3
  obtain ⟨rfl, rfl, hs⟩ := hv3
  show J (gw 105 XSh cy b μ ++ E) 1 6 5 [(0, .ref (b 0)), (1, .int (zI s)), (2, .int (zI k))] []
  have hs1 := hs.1
  have hs2 := hs.2
  have hs16 : s.toNat < 16 := by omega
  have hl7 := hl6 hs
  refine j_aload_n hJ (j := 0) rfl rfl dX4_lineChar_5 ?_
  refine j_aload_n hJ (j := 0) rfl rfl dX4_lineChar_6 ?_
  refine w_getr hJ (by omega) rfl rfl f_X4_15 dX4_lineChar_7 ?_
  refine j_iload_n hJ (j := 1) rfl rfl dX4_lineChar_10 ?_
  refine w_aald hJ (by omega) rfl (by decide) (by omega) (by omega) dX4_lineChar_11 ?_
  refine j_callV0 hJ (c_X4_lineOf_s hfl (i := s.toNat) hs16 (x4 s.toNat (by omega)) x3 (x6 s.toNat hs16).1 hsh) m_X4_110 k_X4_lineOf (q0 := 0) (by rw [gw_get (by decide)]; rfl) rfl ⟨(Nat.le_of_ble_eq_true rfl), (Nat.le_of_ble_eq_true rfl)⟩ ⟨(Nat.le_of_ble_eq_true rfl), (Nat.le_of_ble_eq_true rfl)⟩ (Nat.le_of_ble_eq_true rfl) dX4_lineChar_12 rfl ?_
  intro v8 u8 hv8
  obtain ⟨a8, w8, rfl, rfl, S8⟩ := hv8
  show J (gw 105 XSh cy b μ ++ (w8 ++ E)) 6 272 15 [(0, .ref (b 0)), (1, .int (zI s)), (2, .int (zI k))] [.ref a8]
  refine j_astore_n hJ (lv' := [(3, .ref a8), (0, .ref (b 0)), (1, .int (zI s)), (2, .int (zI k))]) rfl (by decide) rfl dX4_lineChar_15 ?_
  refine j_iload_n hJ (j := 3) rfl rfl dX4_lineChar_16 ?_
  refine j_if_lt hJ (tgt := 28) ⟨by omega, by omega⟩ (by decide) dX4_lineChar_17 ?_ ?_
  · intro h17
    refine j_drop hJ (ws' := gw 105 XSh cy b μ ++ E) (X := w8) (perm_end _ _ _) ?_
    show J (gw 105 XSh cy b μ ++ E) 6 272 28 [(3, .ref a8), (0, .ref (b 0)), (1, .int (zI s)), (2, .int (zI k))] []
    refine j_throw hJ tf_ioobe (is := 119) (tx := "no such character") (by decide) (Nat.le_of_ble_eq_true rfl) (Nat.le_of_ble_eq_true rfl) ⟨(Nat.le_of_ble_eq_true rfl), (Nat.le_of_ble_eq_true rfl)⟩ dX4_lineChar_28 dX4_lineChar_31 dX4_lineChar_32 dX4_lineChar_34 dX4_lineChar_37 ⟨μ, rfl, ?_⟩
    exact ⟨⟨rfl, fun g => by omega⟩, rfl⟩
  · intro h17
    refine j_iload_n hJ (j := 3) rfl rfl dX4_lineChar_20 ?_
    refine j_aload_n hJ (j := 0) rfl rfl dX4_lineChar_21 ?_
    obtain ⟨f22, g22⟩ := S8.recv' (N := 105) (sh := XSh) (b := b) (μ := μ) (E := E)
    refine j_callV0 hJ (l_len hfl S8) m_X4_114 k_J4_length_8abf5 (q0 := 105) g22 rfl ⟨(Nat.le_of_ble_eq_true rfl), (Nat.le_of_ble_eq_true rfl)⟩ ⟨(Nat.le_of_ble_eq_true rfl), (Nat.le_of_ble_eq_true rfl)⟩ (Nat.le_of_ble_eq_true rfl) dX4_lineChar_22 rfl ?_
    intro v4 u5 hv6
    obtain ⟨_, rfl, rfl, rfl⟩ := hv6
    show J (gw 105 XSh cy b μ ++ (w8 ++ E)) 6 272 25 [(3, .ref a8), (0, .ref (b 0)), (1, .int (zI s)), (2, .int (zI k))] [.int (zI ((lineT (μ 1) (N s.toNat) (trk (p s.toNat) (m s.toNat))).length : Int)), .int (zI k)]
    refine j_icmp_lt hJ (tgt := 38) ⟨by omega, by omega⟩ ⟨by omega, by omega⟩ (by decide) dX4_lineChar_25 ?_ ?_
    · intro h25
      refine j_aload_n hJ (j := 0) rfl rfl dX4_lineChar_38 ?_
      refine j_iload_n hJ (j := 3) rfl rfl dX4_lineChar_39 ?_
      obtain ⟨f40, g40⟩ := S8.recv' (N := 105) (sh := XSh) (b := b) (μ := μ) (E := E)
      refine j_callV0 hJ (l_char hfl S8 (by omega) (by omega)) m_X4_121 k_J4_charAt_5068e (q0 := 105) g40 rfl ⟨(Nat.le_of_ble_eq_true rfl), (Nat.le_of_ble_eq_true rfl)⟩ ⟨(Nat.le_of_ble_eq_true rfl), (Nat.le_of_ble_eq_true rfl)⟩ (Nat.le_of_ble_eq_true rfl) dX4_lineChar_40 rfl ?_
      intro v7 u8 hv9
      obtain ⟨q40, rfl, rfl, h40⟩ := hv9
      show J (gw 105 XSh cy b μ ++ (w8 ++ E)) 6 272 43 [(3, .ref a8), (0, .ref (b 0)), (1, .int (zI s)), (2, .int (zI k))] [.int (zI q40)]
      refine j_drop hJ (ws' := gw 105 XSh cy b μ ++ E) (X := w8) (perm_end _ _ _) ?_
      show J (gw 105 XSh cy b μ ++ E) 6 272 43 [(3, .ref a8), (0, .ref (b 0)), (1, .int (zI s)), (2, .int (zI k))] [.int (zI q40)]
      refine j_iret hJ rfl rfl (narC h40.2.1 h40.2.2) (Nat.le_of_ble_eq_true rfl) (Nat.le_of_ble_eq_true rfl) dX4_lineChar_43 ⟨q40, rfl, rfl, ?_⟩
      exact ⟨⟨hs, by omega, by omega⟩, h40⟩
    · intro h25
      refine j_drop hJ (ws' := gw 105 XSh cy b μ ++ E) (X := w8) (perm_end _ _ _) ?_
      show J (gw 105 XSh cy b μ ++ E) 6 272 28 [(3, .ref a8), (0, .ref (b 0)), (1, .int (zI s)), (2, .int (zI k))] []
      refine j_throw hJ tf_ioobe (is := 119) (tx := "no such character") (by decide) (Nat.le_of_ble_eq_true rfl) (Nat.le_of_ble_eq_true rfl) ⟨(Nat.le_of_ble_eq_true rfl), (Nat.le_of_ble_eq_true rfl)⟩ dX4_lineChar_28 dX4_lineChar_31 dX4_lineChar_32 dX4_lineChar_34 dX4_lineChar_37 ⟨μ, rfl, ?_⟩
      exact ⟨⟨rfl, fun g => by omega⟩, rfl⟩
end
