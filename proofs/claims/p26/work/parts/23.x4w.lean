
set_option maxRecDepth 20000 in
theorem f_X4_28 : FF RX4 28 4 5 (.object "StreetIndex$Walks") true := ⟨RX4, TX4, 6, tyX4, rfl, by decide, lays_X4, tyX4_ok, rfl, rfl, nmX4, Or.inl (List.mem_of_getElem? (i := 154) (by decide +kernel))⟩
set_option maxRecDepth 20000 in
theorem m_X4_148 : MF RX4 148 0 yX2_spread 3 := ⟨Or.inr (List.mem_of_getElem? (i := 506) (by decide +kernel)), (List.mem_of_getElem? (i := 41) (by decide +kernel)), ⟨by decide +kernel, by decide +kernel⟩, by decide +kernel, fun _ => ⟨(List.mem_of_getElem? (i := 508) (by decide +kernel)), (List.mem_of_getElem? (i := 19) (by decide +kernel))⟩, fun h => by omega, fun h => by omega⟩
set_option maxRecDepth 20000 in
theorem k_X2_spread : Cond.code yX2_spread cX2_spread 6 (some .int) ∈ GT := (List.mem_of_getElem? (i := 509) (by decide +kernel))
set_option maxRecDepth 20000 in
theorem m_X4_152 : MF RX4 152 0 yX2_stepsOf 1 := ⟨Or.inr (List.mem_of_getElem? (i := 527) (by decide +kernel)), (List.mem_of_getElem? (i := 41) (by decide +kernel)), ⟨by decide +kernel, by decide +kernel⟩, by decide +kernel, fun _ => ⟨(List.mem_of_getElem? (i := 529) (by decide +kernel)), (List.mem_of_getElem? (i := 24) (by decide +kernel))⟩, fun h => by omega, fun h => by omega⟩
set_option maxRecDepth 20000 in
theorem k_X2_stepsOf : Cond.code yX2_stepsOf cX2_stepsOf 2 (some .int) ∈ GT := (List.mem_of_getElem? (i := 530) (by decide +kernel))
set_option maxRecDepth 20000 in
theorem m_X4_155 : MF RX4 155 0 yX2_tellBackwards 3 := ⟨Or.inr (List.mem_of_getElem? (i := 535) (by decide +kernel)), (List.mem_of_getElem? (i := 41) (by decide +kernel)), ⟨by decide +kernel, by decide +kernel⟩, by decide +kernel, fun _ => ⟨(List.mem_of_getElem? (i := 537) (by decide +kernel)), (List.mem_of_getElem? (i := 25) (by decide +kernel))⟩, fun h => by omega, fun h => by omega⟩
set_option maxRecDepth 20000 in
theorem k_X2_tellBackwards : Cond.code yX2_tellBackwards cX2_tellBackwards 7 none ∈ GT := (List.mem_of_getElem? (i := 538) (by decide +kernel))
section
variable {l : Launch} {D : va_G} {cy : Nat → ClassId} {n0 : Nat} {ad : Nat → Nat} {b : Nat → Nat} {E : va_W} {ws : va_W}
set_option maxHeartbeats 4000000 in
set_option maxRecDepth 100000 in
theorem c_X4_walk {μ : Nat → Int → Int} {n : Nat} {N : Nat → List Int} {ow : Nat → Int} {m : Nat → Nat} {p : Nat → Nat → Int} {c r tc tr : Int} (hfl : l.stackTraces = false) (hX : XI μ n N ow m p) (hcR : -2147483648 ≤ c ∧ c < 2147483648) (hrR : -2147483648 ≤ r ∧ r < 2147483648) (htcR : -2147483648 ≤ tc ∧ tc < 2147483648) (htrR : -2147483648 ≤ tr ∧ tr < 2147483648) : CV l D cy n0 ad yX4_walk (.code yX4_walk cX4_walk 5 (some .int)) ({ frames := 7, cells := 2, slots := 12, locals := 103 }) [.ref (b 0), .int (zI c), .int (zI r), .int (zI tc), .int (zI tr)] (gw 105 XSh cy b μ ++ E) (fun vv uu => ∃ q μ', vv = some (.int (zI q)) ∧ uu = (gw 105 XSh cy b μ' ++ E) ∧ ((SqOK c r ∧ SqOK tc tr) ∧ IsDist (EdS n (fun s => trk (p s) (m s)) ow) (12 * c + r) (12 * tc + tr) q ∧ XI μ' n N ow m p ∧ μ' 1 = μ 1)) (fun q uu => ∃ μ', uu = (gw 105 XSh cy b μ' ++ E) ∧ ((q = xIO ∧ ¬ (SqOK c r ∧ SqOK tc tr)) ∧ μ' = μ)) := by
  obtain ⟨x1, x2, x3, x4, x5, x6, x7⟩ := id hX
  refine CV.walk hfl (by decide) (Nat.le_of_ble_eq_true rfl) ?_
  intro A J hJ
  show J (gw 105 XSh cy b μ ++ E) 0 0 0 [(0, .ref (b 0)), (1, .int (zI c)), (2, .int (zI r)), (3, .int (zI tc)), (4, .int (zI tr))] []
  refine j_iload_n hJ (j := 1) rfl rfl dX4_walk_0 ?_
  refine j_iload_n hJ (j := 2) rfl rfl dX4_walk_1 ?_
  refine j_callSX0 hJ (c_X4_checkSquare hfl hcR hrR) mx_X4_55 k_X4_checkSquare ⟨(Nat.le_of_ble_eq_true rfl), (Nat.le_of_ble_eq_true rfl)⟩ ⟨(Nat.le_of_ble_eq_true rfl), (Nat.le_of_ble_eq_true rfl)⟩ (Nat.le_of_ble_eq_true rfl) dX4_walk_2 (by rintro q u ⟨_, rfl, ⟨rfl, h⟩, rfl⟩; exact ⟨_, rfl, ⟨rfl, fun g => h g.1⟩, rfl⟩) rfl ?_
  intro v1 u2 hv3
  obtain ⟨rfl, rfl, hq⟩ := hv3
  show J (gw 105 XSh cy b μ ++ E) 1 6 5 [(0, .ref (b 0)), (1, .int (zI c)), (2, .int (zI r)), (3, .int (zI tc)), (4, .int (zI tr))] []
  have hq1 := hq.1
  have hq2 := hq.2
  refine j_iload_n hJ (j := 3) rfl rfl dX4_walk_5 ?_
  refine j_iload hJ (j := 4) rfl dX4_walk_6 ?_
  refine j_callSX0 hJ (c_X4_checkSquare hfl htcR htrR) mx_X4_55 k_X4_checkSquare ⟨(Nat.le_of_ble_eq_true rfl), (Nat.le_of_ble_eq_true rfl)⟩ ⟨(Nat.le_of_ble_eq_true rfl), (Nat.le_of_ble_eq_true rfl)⟩ (Nat.le_of_ble_eq_true rfl) dX4_walk_8 (by rintro q u ⟨_, rfl, ⟨rfl, h⟩, rfl⟩; exact ⟨_, rfl, ⟨rfl, fun g => h g.2⟩, rfl⟩) rfl ?_
  intro v4 u5 hv6
  obtain ⟨rfl, rfl, hw⟩ := hv6
  show J (gw 105 XSh cy b μ ++ E) 2 12 11 [(0, .ref (b 0)), (1, .int (zI c)), (2, .int (zI r)), (3, .int (zI tc)), (4, .int (zI tr))] []
  have hw1 := hw.1
  have hw2 := hw.2
  refine j_aload_n hJ (j := 0) rfl rfl dX4_walk_11 ?_
  refine w_getr hJ (by omega) rfl rfl f_X4_28 dX4_walk_12 ?_
  refine j_aload_n hJ (j := 0) rfl rfl dX4_walk_15 ?_
  refine w_getr hJ (by omega) rfl rfl f_X4_15 dX4_walk_16 ?_
  refine j_aload_n hJ (j := 0) rfl rfl dX4_walk_19 ?_
  refine w_geti hJ (fi := 2) rfl (by omega) rfl rfl f_X4_37 dX4_walk_20 ?_
  refine j_topi (y := zI (n : Int)) (by rw [x1]) ?_
  refine j_iload_n hJ (j := 1) rfl rfl dX4_walk_23 ?_
  refine j_iload_n hJ (j := 2) rfl rfl dX4_walk_24 ?_
  refine j_callS0 hJ (c_X4_squareOf hfl ) m_X4_134 k_X4_squareOf ⟨(Nat.le_of_ble_eq_true rfl), (Nat.le_of_ble_eq_true rfl)⟩ ⟨(Nat.le_of_ble_eq_true rfl), (Nat.le_of_ble_eq_true rfl)⟩ (Nat.le_of_ble_eq_true rfl) dX4_walk_25 rfl ?_
  intro v7 u8 hv9
  obtain ⟨_, rfl, rfl, rfl⟩ := hv9
  show J (gw 105 XSh cy b μ ++ E) 2 12 28 [(0, .ref (b 0)), (1, .int (zI c)), (2, .int (zI r)), (3, .int (zI tc)), (4, .int (zI tr))] [.int (zI (12 * c + r)), .int (zI (n : Int)), .ref (b 2), .ref (b 5)]
  refine j_callV0 hJ (c_X2_spread hfl (L := fun s => trk (p s) (m s)) (ow := ow) (n := n) x2 (fun s hs => ⟨(x6 s (by omega)).1, trk_adj (x6 s (by omega)).2.2.2.1, (x5 s (by omega)).1, (x5 s (by omega)).2⟩) (by omega)) m_X4_148 k_X2_spread (q0 := 5) (by rw [gw_get (by decide)]; rfl) rfl ⟨(Nat.le_of_ble_eq_true rfl), (Nat.le_of_ble_eq_true rfl)⟩ ⟨(Nat.le_of_ble_eq_true rfl), (Nat.le_of_ble_eq_true rfl)⟩ (Nat.le_of_ble_eq_true rfl) dX4_walk_28 rfl ?_
  intro v10 u11 hv12
  obtain ⟨q28, μ1, rfl, rfl, h28⟩ := hv12
  show J (gw 105 XSh cy b μ1 ++ E) 2 12 31 [(0, .ref (b 0)), (1, .int (zI c)), (2, .int (zI r)), (3, .int (zI tc)), (4, .int (zI tr))] [.int (zI q28)]
  obtain ⟨s1, s2, s3, s4⟩ := h28
  refine j_pop hJ rfl dX4_walk_31 ?_
  refine j_aload_n hJ (j := 0) rfl rfl dX4_walk_32 ?_
  refine w_getr hJ (by omega) rfl rfl f_X4_28 dX4_walk_33 ?_
  refine j_iload_n hJ (j := 3) rfl rfl dX4_walk_36 ?_
  refine j_iload hJ (j := 4) rfl dX4_walk_37 ?_
  refine j_callS0 hJ (c_X4_squareOf hfl ) m_X4_134 k_X4_squareOf ⟨(Nat.le_of_ble_eq_true rfl), (Nat.le_of_ble_eq_true rfl)⟩ ⟨(Nat.le_of_ble_eq_true rfl), (Nat.le_of_ble_eq_true rfl)⟩ (Nat.le_of_ble_eq_true rfl) dX4_walk_39 rfl ?_
  intro v13 u14 hv15
  obtain ⟨_, rfl, rfl, rfl⟩ := hv15
  show J (gw 105 XSh cy b μ1 ++ E) 2 12 42 [(0, .ref (b 0)), (1, .int (zI c)), (2, .int (zI r)), (3, .int (zI tc)), (4, .int (zI tr))] [.int (zI (12 * tc + tr)), .ref (b 5)]
  refine j_callV0 hJ (c_X2_stepsOf hfl (x := 12 * tc + tr) (by omega) (s3 _ (by omega) (by omega))) m_X4_152 k_X2_stepsOf (q0 := 5) (by rw [gw_get (by decide)]; rfl) rfl ⟨(Nat.le_of_ble_eq_true rfl), (Nat.le_of_ble_eq_true rfl)⟩ ⟨(Nat.le_of_ble_eq_true rfl), (Nat.le_of_ble_eq_true rfl)⟩ (Nat.le_of_ble_eq_true rfl) dX4_walk_42 rfl ?_
  intro v16 u17 hv18
  obtain ⟨q42, rfl, rfl, h42⟩ := hv18
  show J (gw 105 XSh cy b μ1 ++ E) 2 12 45 [(0, .ref (b 0)), (1, .int (zI c)), (2, .int (zI r)), (3, .int (zI tc)), (4, .int (zI tr))] [.int (zI q42)]
  refine j_iret hJ rfl rfl (rfl) (Nat.le_of_ble_eq_true rfl) (Nat.le_of_ble_eq_true rfl) dX4_walk_45 ⟨q42, μ1, rfl, rfl, ?_⟩
  rw [h42]
  exact ⟨⟨hq, hw⟩, s1 _ (by omega) (by omega), hX.scratch s4, s4 1 (by omega) (by omega) (by omega) (by omega) (by omega)⟩
set_option maxHeartbeats 4000000 in
set_option maxRecDepth 100000 in
theorem c_X4_walkByRounds {μ : Nat → Int → Int} {n : Nat} {N : Nat → List Int} {ow : Nat → Int} {m : Nat → Nat} {p : Nat → Nat → Int} {c r tc tr : Int} (hfl : l.stackTraces = false) (hX : XI μ n N ow m p) (hcR : -2147483648 ≤ c ∧ c < 2147483648) (hrR : -2147483648 ≤ r ∧ r < 2147483648) (htcR : -2147483648 ≤ tc ∧ tc < 2147483648) (htrR : -2147483648 ≤ tr ∧ tr < 2147483648) : CV l D cy n0 ad yX4_walkByRounds (.code yX4_walkByRounds cX4_walkByRounds 5 (some .int)) ({ frames := 7, cells := 2, slots := 12, locals := 103 }) [.ref (b 0), .int (zI c), .int (zI r), .int (zI tc), .int (zI tr)] (gw 105 XSh cy b μ ++ E) (fun vv uu => ∃ q μ', vv = some (.int (zI q)) ∧ uu = (gw 105 XSh cy b μ' ++ E) ∧ ((SqOK c r ∧ SqOK tc tr) ∧ IsDist (EdS n (fun s => trk (p s) (m s)) ow) (12 * c + r) (12 * tc + tr) q ∧ XI μ' n N ow m p ∧ μ' 1 = μ 1)) (fun q uu => ∃ μ', uu = (gw 105 XSh cy b μ' ++ E) ∧ ((q = xIO ∧ ¬ (SqOK c r ∧ SqOK tc tr)) ∧ μ' = μ)) := by
  obtain ⟨x1, x2, x3, x4, x5, x6, x7⟩ := id hX
  refine CV.walk hfl (by decide) (Nat.le_of_ble_eq_true rfl) ?_
  intro A J hJ
  show J (gw 105 XSh cy b μ ++ E) 0 0 0 [(0, .ref (b 0)), (1, .int (zI c)), (2, .int (zI r)), (3, .int (zI tc)), (4, .int (zI tr))] []
  refine j_iload_n hJ (j := 1) rfl rfl dX4_walkByRounds_0 ?_
  refine j_iload_n hJ (j := 2) rfl rfl dX4_walkByRounds_1 ?_
  refine j_callSX0 hJ (c_X4_checkSquare hfl hcR hrR) mx_X4_55 k_X4_checkSquare ⟨(Nat.le_of_ble_eq_true rfl), (Nat.le_of_ble_eq_true rfl)⟩ ⟨(Nat.le_of_ble_eq_true rfl), (Nat.le_of_ble_eq_true rfl)⟩ (Nat.le_of_ble_eq_true rfl) dX4_walkByRounds_2 (by rintro q u ⟨_, rfl, ⟨rfl, h⟩, rfl⟩; exact ⟨_, rfl, ⟨rfl, fun g => h g.1⟩, rfl⟩) rfl ?_
  intro v1 u2 hv3
  obtain ⟨rfl, rfl, hq⟩ := hv3
  show J (gw 105 XSh cy b μ ++ E) 1 6 5 [(0, .ref (b 0)), (1, .int (zI c)), (2, .int (zI r)), (3, .int (zI tc)), (4, .int (zI tr))] []
  have hq1 := hq.1
  have hq2 := hq.2
  refine j_iload_n hJ (j := 3) rfl rfl dX4_walkByRounds_5 ?_
  refine j_iload hJ (j := 4) rfl dX4_walkByRounds_6 ?_
  refine j_callSX0 hJ (c_X4_checkSquare hfl htcR htrR) mx_X4_55 k_X4_checkSquare ⟨(Nat.le_of_ble_eq_true rfl), (Nat.le_of_ble_eq_true rfl)⟩ ⟨(Nat.le_of_ble_eq_true rfl), (Nat.le_of_ble_eq_true rfl)⟩ (Nat.le_of_ble_eq_true rfl) dX4_walkByRounds_8 (by rintro q u ⟨_, rfl, ⟨rfl, h⟩, rfl⟩; exact ⟨_, rfl, ⟨rfl, fun g => h g.2⟩, rfl⟩) rfl ?_
  intro v4 u5 hv6
  obtain ⟨rfl, rfl, hw⟩ := hv6
  show J (gw 105 XSh cy b μ ++ E) 2 12 11 [(0, .ref (b 0)), (1, .int (zI c)), (2, .int (zI r)), (3, .int (zI tc)), (4, .int (zI tr))] []
  have hw1 := hw.1
  have hw2 := hw.2
  refine j_aload_n hJ (j := 0) rfl rfl dX4_walkByRounds_11 ?_
  refine w_getr hJ (by omega) rfl rfl f_X4_28 dX4_walkByRounds_12 ?_
  refine j_aload_n hJ (j := 0) rfl rfl dX4_walkByRounds_15 ?_
  refine w_getr hJ (by omega) rfl rfl f_X4_15 dX4_walkByRounds_16 ?_
  refine j_aload_n hJ (j := 0) rfl rfl dX4_walkByRounds_19 ?_
  refine w_geti hJ (fi := 2) rfl (by omega) rfl rfl f_X4_37 dX4_walkByRounds_20 ?_
  refine j_topi (y := zI (n : Int)) (by rw [x1]) ?_
  refine j_iload_n hJ (j := 3) rfl rfl dX4_walkByRounds_23 ?_
  refine j_iload hJ (j := 4) rfl dX4_walkByRounds_24 ?_
  refine j_callS0 hJ (c_X4_squareOf hfl ) m_X4_134 k_X4_squareOf ⟨(Nat.le_of_ble_eq_true rfl), (Nat.le_of_ble_eq_true rfl)⟩ ⟨(Nat.le_of_ble_eq_true rfl), (Nat.le_of_ble_eq_true rfl)⟩ (Nat.le_of_ble_eq_true rfl) dX4_walkByRounds_26 rfl ?_
  intro v7 u8 hv9
  obtain ⟨_, rfl, rfl, rfl⟩ := hv9
  show J (gw 105 XSh cy b μ ++ E) 2 12 29 [(0, .ref (b 0)), (1, .int (zI c)), (2, .int (zI r)), (3, .int (zI tc)), (4, .int (zI tr))] [.int (zI (12 * tc + tr)), .int (zI (n : Int)), .ref (b 2), .ref (b 5)]
  refine j_callV0 hJ (c_X2_tellBackwards hfl (L := fun s => trk (p s) (m s)) (ow := ow) (n := n) x2 (fun s hs => ⟨(x6 s (by omega)).1, trk_adj (x6 s (by omega)).2.2.2.1, (x5 s (by omega)).1, (x5 s (by omega)).2⟩) (by omega)) m_X4_155 k_X2_tellBackwards (q0 := 5) (by rw [gw_get (by decide)]; rfl) rfl ⟨(Nat.le_of_ble_eq_true rfl), (Nat.le_of_ble_eq_true rfl)⟩ ⟨(Nat.le_of_ble_eq_true rfl), (Nat.le_of_ble_eq_true rfl)⟩ (Nat.le_of_ble_eq_true rfl) dX4_walkByRounds_29 rfl ?_
  intro v10 u11 hv12
  obtain ⟨μ1, rfl, rfl, h28⟩ := hv12
  show J (gw 105 XSh cy b μ1 ++ E) 2 12 32 [(0, .ref (b 0)), (1, .int (zI c)), (2, .int (zI r)), (3, .int (zI tc)), (4, .int (zI tr))] []
  obtain ⟨s1, s3, s4⟩ := h28
  refine j_aload_n hJ (j := 0) rfl rfl dX4_walkByRounds_32 ?_
  refine w_getr hJ (by omega) rfl rfl f_X4_28 dX4_walkByRounds_33 ?_
  refine j_iload_n hJ (j := 1) rfl rfl dX4_walkByRounds_36 ?_
  refine j_iload_n hJ (j := 2) rfl rfl dX4_walkByRounds_37 ?_
  refine j_callS0 hJ (c_X4_squareOf hfl ) m_X4_134 k_X4_squareOf ⟨(Nat.le_of_ble_eq_true rfl), (Nat.le_of_ble_eq_true rfl)⟩ ⟨(Nat.le_of_ble_eq_true rfl), (Nat.le_of_ble_eq_true rfl)⟩ (Nat.le_of_ble_eq_true rfl) dX4_walkByRounds_38 rfl ?_
  intro v13 u14 hv15
  obtain ⟨_, rfl, rfl, rfl⟩ := hv15
  show J (gw 105 XSh cy b μ1 ++ E) 2 12 41 [(0, .ref (b 0)), (1, .int (zI c)), (2, .int (zI r)), (3, .int (zI tc)), (4, .int (zI tr))] [.int (zI (12 * c + r)), .ref (b 5)]
  refine j_callV0 hJ (c_X2_stepsOf hfl (x := 12 * c + r) (by omega) (s3 _ (by omega) (by omega))) m_X4_152 k_X2_stepsOf (q0 := 5) (by rw [gw_get (by decide)]; rfl) rfl ⟨(Nat.le_of_ble_eq_true rfl), (Nat.le_of_ble_eq_true rfl)⟩ ⟨(Nat.le_of_ble_eq_true rfl), (Nat.le_of_ble_eq_true rfl)⟩ (Nat.le_of_ble_eq_true rfl) dX4_walkByRounds_41 rfl ?_
  intro v16 u17 hv18
  obtain ⟨q42, rfl, rfl, h42⟩ := hv18
  show J (gw 105 XSh cy b μ1 ++ E) 2 12 44 [(0, .ref (b 0)), (1, .int (zI c)), (2, .int (zI r)), (3, .int (zI tc)), (4, .int (zI tr))] [.int (zI q42)]
  refine j_iret hJ rfl rfl (rfl) (Nat.le_of_ble_eq_true rfl) (Nat.le_of_ble_eq_true rfl) dX4_walkByRounds_44 ⟨q42, μ1, rfl, rfl, ?_⟩
  rw [h42]
  exact ⟨⟨hq, hw⟩, s1 _ (by omega) (by omega), hX.scratch s4, s4 1 (by omega) (by omega) (by omega) (by omega) (by omega)⟩
set_option maxHeartbeats 4000000 in
set_option maxRecDepth 100000 in
theorem c_X4_reachable {μ : Nat → Int → Int} {n : Nat} {N : Nat → List Int} {ow : Nat → Int} {m : Nat → Nat} {p : Nat → Nat → Int} {c r : Int} (hfl : l.stackTraces = false) (hX : XI μ n N ow m p) (hcR : -2147483648 ≤ c ∧ c < 2147483648) (hrR : -2147483648 ≤ r ∧ r < 2147483648) : CV l D cy n0 ad yX4_reachable (.code yX4_reachable cX4_reachable 3 (some .int)) ({ frames := 7, cells := 1, slots := 6, locals := 103 }) [.ref (b 0), .int (zI c), .int (zI r)] (gw 105 XSh cy b μ ++ E) (fun vv uu => ∃ q μ', vv = some (.int (zI q)) ∧ uu = (gw 105 XSh cy b μ' ++ E) ∧ (SqOK c r ∧ IsCount (EdS n (fun s => trk (p s) (m s)) ow) (12 * c + r) q ∧ XI μ' n N ow m p ∧ μ' 1 = μ 1)) (fun q uu => ∃ μ', uu = (gw 105 XSh cy b μ' ++ E) ∧ ((q = xIO ∧ ¬ SqOK c r) ∧ μ' = μ)) := by
  obtain ⟨x1, x2, x3, x4, x5, x6, x7⟩ := id hX
  refine CV.walk hfl (by decide) (Nat.le_of_ble_eq_true rfl) ?_
  intro A J hJ
  show J (gw 105 XSh cy b μ ++ E) 0 0 0 [(0, .ref (b 0)), (1, .int (zI c)), (2, .int (zI r))] []
  refine j_iload_n hJ (j := 1) rfl rfl dX4_reachable_0 ?_
  refine j_iload_n hJ (j := 2) rfl rfl dX4_reachable_1 ?_
  refine j_callSX0 hJ (c_X4_checkSquare hfl hcR hrR) mx_X4_55 k_X4_checkSquare ⟨(Nat.le_of_ble_eq_true rfl), (Nat.le_of_ble_eq_true rfl)⟩ ⟨(Nat.le_of_ble_eq_true rfl), (Nat.le_of_ble_eq_true rfl)⟩ (Nat.le_of_ble_eq_true rfl) dX4_reachable_2 (by rintro q u ⟨_, rfl, ⟨rfl, h⟩, rfl⟩; exact ⟨_, rfl, ⟨rfl, h⟩, rfl⟩) rfl ?_
  intro v1 u2 hv3
  obtain ⟨rfl, rfl, hq⟩ := hv3
  show J (gw 105 XSh cy b μ ++ E) 1 6 5 [(0, .ref (b 0)), (1, .int (zI c)), (2, .int (zI r))] []
  have hq1 := hq.1
  have hq2 := hq.2
  refine j_aload_n hJ (j := 0) rfl rfl dX4_reachable_5 ?_
  refine w_getr hJ (by omega) rfl rfl f_X4_28 dX4_reachable_6 ?_
  refine j_aload_n hJ (j := 0) rfl rfl dX4_reachable_9 ?_
  refine w_getr hJ (by omega) rfl rfl f_X4_15 dX4_reachable_10 ?_
  refine j_aload_n hJ (j := 0) rfl rfl dX4_reachable_13 ?_
  refine w_geti hJ (fi := 2) rfl (by omega) rfl rfl f_X4_37 dX4_reachable_14 ?_
  refine j_topi (y := zI (n : Int)) (by rw [x1]) ?_
  refine j_iload_n hJ (j := 1) rfl rfl dX4_reachable_17 ?_
  refine j_iload_n hJ (j := 2) rfl rfl dX4_reachable_18 ?_
  refine j_callS0 hJ (c_X4_squareOf hfl ) m_X4_134 k_X4_squareOf ⟨(Nat.le_of_ble_eq_true rfl), (Nat.le_of_ble_eq_true rfl)⟩ ⟨(Nat.le_of_ble_eq_true rfl), (Nat.le_of_ble_eq_true rfl)⟩ (Nat.le_of_ble_eq_true rfl) dX4_reachable_19 rfl ?_
  intro v4 u5 hv6
  obtain ⟨_, rfl, rfl, rfl⟩ := hv6
  show J (gw 105 XSh cy b μ ++ E) 1 6 22 [(0, .ref (b 0)), (1, .int (zI c)), (2, .int (zI r))] [.int (zI (12 * c + r)), .int (zI (n : Int)), .ref (b 2), .ref (b 5)]
  refine j_callV0 hJ (c_X2_spread hfl (L := fun s => trk (p s) (m s)) (ow := ow) (n := n) x2 (fun s hs => ⟨(x6 s (by omega)).1, trk_adj (x6 s (by omega)).2.2.2.1, (x5 s (by omega)).1, (x5 s (by omega)).2⟩) (by omega)) m_X4_148 k_X2_spread (q0 := 5) (by rw [gw_get (by decide)]; rfl) rfl ⟨(Nat.le_of_ble_eq_true rfl), (Nat.le_of_ble_eq_true rfl)⟩ ⟨(Nat.le_of_ble_eq_true rfl), (Nat.le_of_ble_eq_true rfl)⟩ (Nat.le_of_ble_eq_true rfl) dX4_reachable_22 rfl ?_
  intro v7 u8 hv9
  obtain ⟨q28, μ1, rfl, rfl, h28⟩ := hv9
  show J (gw 105 XSh cy b μ1 ++ E) 1 6 25 [(0, .ref (b 0)), (1, .int (zI c)), (2, .int (zI r))] [.int (zI q28)]
  obtain ⟨s1, s2, s3, s4⟩ := h28
  refine j_iret hJ rfl rfl (rfl) (Nat.le_of_ble_eq_true rfl) (Nat.le_of_ble_eq_true rfl) dX4_reachable_25 ⟨q28, μ1, rfl, rfl, ?_⟩
  exact ⟨hq, s2, hX.scratch s4, s4 1 (by omega) (by omega) (by omega) (by omega) (by omega)⟩
end
