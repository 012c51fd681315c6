
set_option maxRecDepth 20000 in
theorem f_X4_37 : FF RX4 37 4 2 .int false := ⟨RX4, TX4, 6, tyX4, rfl, by decide, lays_X4, tyX4_ok, rfl, rfl, nmX4, Or.inl (List.mem_of_getElem? (i := 151) (by decide +kernel))⟩
set_option maxRecDepth 20000 in
theorem m_X4_165 : MF RX4 165 1 yX4_wordOf 2 := ⟨Or.inl (List.mem_of_getElem? (i := 255) (by decide +kernel)), (List.mem_of_getElem? (i := 40) (by decide +kernel)), ⟨by decide +kernel, by decide +kernel⟩, by decide +kernel, fun h => by omega, fun _ => (List.mem_of_getElem? (i := 256) (by decide +kernel)), fun h => by omega⟩
set_option maxRecDepth 20000 in
theorem m_X4_33 : MF RX4 33 1 yX4_checkName 2 := ⟨Or.inl (List.mem_of_getElem? (i := 184) (by decide +kernel)), (List.mem_of_getElem? (i := 40) (by decide +kernel)), ⟨by decide +kernel, by decide +kernel⟩, by decide +kernel, fun h => by omega, fun _ => (List.mem_of_getElem? (i := 185) (by decide +kernel)), fun h => by omega⟩
set_option maxRecDepth 20000 in
theorem mx_X4_33 : MX RX4 33 1 yX4_checkName 2 := ⟨(List.mem_of_getElem? (i := 184) (by decide +kernel)), (List.mem_of_getElem? (i := 40) (by decide +kernel)), ⟨by decide +kernel, by decide +kernel⟩, by decide +kernel, fun h => by omega, fun _ => (List.mem_of_getElem? (i := 185) (by decide +kernel))⟩
set_option maxRecDepth 20000 in
theorem k_X4_checkName : Cond.code yX4_checkName cX4_checkName 3 none ∈ GT := (List.mem_of_getElem? (i := 186) (by decide +kernel))
set_option maxRecDepth 20000 in
theorem f_X4_15 : FF RX4 15 4 1 (.array (.object "StreetIndex$Street")) true := ⟨RX4, TX4, 6, tyX4, rfl, by decide, lays_X4, tyX4_ok, rfl, rfl, nmX4, Or.inl (List.mem_of_getElem? (i := 150) (by decide +kernel))⟩
set_option maxRecDepth 20000 in
theorem m_X4_48 : MF RX4 48 0 yX0_takeName 2 := ⟨Or.inr (List.mem_of_getElem? (i := 275) (by decide +kernel)), (List.mem_of_getElem? (i := 42) (by decide +kernel)), ⟨by decide +kernel, by decide +kernel⟩, by decide +kernel, fun _ => ⟨(List.mem_of_getElem? (i := 277) (by decide +kernel)), (List.mem_of_getElem? (i := 7) (by decide +kernel))⟩, fun h => by omega, fun h => by omega⟩
set_option maxRecDepth 20000 in
theorem k_X0_takeName : Cond.code yX0_takeName cX0_takeName 4 none ∈ GT := (List.mem_of_getElem? (i := 278) (by decide +kernel))
set_option maxRecDepth 20000 in
theorem m_X4_51 : MF RX4 51 0 yX4_checkStreet 1 := ⟨Or.inl (List.mem_of_getElem? (i := 284) (by decide +kernel)), (List.mem_of_getElem? (i := 40) (by decide +kernel)), ⟨by decide +kernel, by decide +kernel⟩, by decide +kernel, fun _ => ⟨(List.mem_of_getElem? (i := 286) (by decide +kernel)), (List.mem_of_getElem? (i := 8) (by decide +kernel))⟩, fun h => by omega, fun h => by omega⟩
set_option maxRecDepth 20000 in
theorem mx_X4_51 : MX RX4 51 0 yX4_checkStreet 1 := ⟨(List.mem_of_getElem? (i := 284) (by decide +kernel)), (List.mem_of_getElem? (i := 40) (by decide +kernel)), ⟨by decide +kernel, by decide +kernel⟩, by decide +kernel, fun _ => ⟨(List.mem_of_getElem? (i := 286) (by decide +kernel)), (List.mem_of_getElem? (i := 8) (by decide +kernel))⟩, fun h => by omega⟩
set_option maxRecDepth 20000 in
theorem k_X4_checkStreet : Cond.code yX4_checkStreet cX4_checkStreet 2 none ∈ GT := (List.mem_of_getElem? (i := 287) (by decide +kernel))
set_option maxRecDepth 20000 in
theorem m_X4_55 : MF RX4 55 1 yX4_checkSquare 2 := ⟨Or.inl (List.mem_of_getElem? (i := 342) (by decide +kernel)), (List.mem_of_getElem? (i := 40) (by decide +kernel)), ⟨by decide +kernel, by decide +kernel⟩, by decide +kernel, fun h => by omega, fun _ => (List.mem_of_getElem? (i := 343) (by decide +kernel)), fun h => by omega⟩
set_option maxRecDepth 20000 in
theorem mx_X4_55 : MX RX4 55 1 yX4_checkSquare 2 := ⟨(List.mem_of_getElem? (i := 342) (by decide +kernel)), (List.mem_of_getElem? (i := 40) (by decide +kernel)), ⟨by decide +kernel, by decide +kernel⟩, by decide +kernel, fun h => by omega, fun _ => (List.mem_of_getElem? (i := 343) (by decide +kernel))⟩
set_option maxRecDepth 20000 in
theorem k_X4_checkSquare : Cond.code yX4_checkSquare cX4_checkSquare 2 none ∈ GT := (List.mem_of_getElem? (i := 344) (by decide +kernel))
set_option maxRecDepth 20000 in
theorem f_X4_58 : FF RX4 58 1 3 (.object "StreetIndex$Track") true := ⟨RX0, TX0, 4, tyX0, rfl, by decide, lays_X0, tyX0_ok, rfl, rfl, nmX0, Or.inr (List.mem_of_getElem? (i := 138) (by decide +kernel))⟩
set_option maxRecDepth 20000 in
theorem m_X4_62 : MF RX4 62 0 yX1_canGoTo 2 := ⟨Or.inr (List.mem_of_getElem? (i := 346) (by decide +kernel)), (List.mem_of_getElem? (i := 43) (by decide +kernel)), ⟨by decide +kernel, by decide +kernel⟩, by decide +kernel, fun _ => ⟨(List.mem_of_getElem? (i := 348) (by decide +kernel)), (List.mem_of_getElem? (i := 10) (by decide +kernel))⟩, fun h => by omega, fun h => by omega⟩
set_option maxRecDepth 20000 in
theorem k_X1_canGoTo : Cond.code yX1_canGoTo cX1_canGoTo 7 (some .boolean) ∈ GT := (List.mem_of_getElem? (i := 349) (by decide +kernel))
set_option maxRecDepth 20000 in
theorem f_X4_73 : FF RX4 73 2 3 .int false := ⟨RX1, TX1, 5, tyX1, rfl, by decide, lays_X1, tyX1_ok, rfl, rfl, nmX1, Or.inr (List.mem_of_getElem? (i := 118) (by decide +kernel))⟩
set_option maxRecDepth 20000 in
theorem m_X4_78 : MF RX4 78 0 yX1_goTo 2 := ⟨Or.inr (List.mem_of_getElem? (i := 355) (by decide +kernel)), (List.mem_of_getElem? (i := 43) (by decide +kernel)), ⟨by decide +kernel, by decide +kernel⟩, by decide +kernel, fun _ => ⟨(List.mem_of_getElem? (i := 357) (by decide +kernel)), (List.mem_of_getElem? (i := 11) (by decide +kernel))⟩, fun h => by omega, fun h => by omega⟩
set_option maxRecDepth 20000 in
theorem k_X1_goTo : Cond.code yX1_goTo cX1_goTo 3 none ∈ GT := (List.mem_of_getElem? (i := 358) (by decide +kernel))
set_option maxRecDepth 20000 in
theorem f_X4_81 : FF RX4 81 2 1 .int false := ⟨RX1, TX1, 5, tyX1, rfl, by decide, lays_X1, tyX1_ok, rfl, rfl, nmX1, Or.inr (List.mem_of_getElem? (i := 114) (by decide +kernel))⟩
set_option maxRecDepth 20000 in
theorem m_X4_86 : MF RX4 86 0 yX1_goBack 0 := ⟨Or.inr (List.mem_of_getElem? (i := 318) (by decide +kernel)), (List.mem_of_getElem? (i := 43) (by decide +kernel)), ⟨by decide +kernel, by decide +kernel⟩, by decide +kernel, fun _ => ⟨(List.mem_of_getElem? (i := 320) (by decide +kernel)), (List.mem_of_getElem? (i := 9) (by decide +kernel))⟩, fun h => by omega, fun h => by omega⟩
set_option maxRecDepth 20000 in
theorem k_X1_goBack : Cond.code yX1_goBack cX1_goBack 2 none ∈ GT := (List.mem_of_getElem? (i := 321) (by decide +kernel))
set_option maxRecDepth 20000 in
theorem f_X4_89 : FF RX4 89 1 2 .boolean false := ⟨RX0, TX0, 4, tyX0, rfl, by decide, lays_X0, tyX0_ok, rfl, rfl, nmX0, Or.inr (List.mem_of_getElem? (i := 135) (by decide +kernel))⟩
set_option maxRecDepth 20000 in
theorem f_X4_9 : FF RX4 9 4 0 (.array .int) true := ⟨RX4, TX4, 6, tyX4, rfl, by decide, lays_X4, tyX4_ok, rfl, rfl, nmX4, Or.inl (List.mem_of_getElem? (i := 149) (by decide +kernel))⟩
set_option maxRecDepth 20000 in
theorem m_X4_125 : MF RX4 125 0 yX1_countSquares 0 := ⟨Or.inr (List.mem_of_getElem? (i := 813) (by decide +kernel)), (List.mem_of_getElem? (i := 43) (by decide +kernel)), ⟨by decide +kernel, by decide +kernel⟩, by decide +kernel, fun _ => ⟨(List.mem_of_getElem? (i := 815) (by decide +kernel)), (List.mem_of_getElem? (i := 36) (by decide +kernel))⟩, fun h => by omega, fun h => by omega⟩
set_option maxRecDepth 20000 in
theorem k_X1_countSquares : Cond.code yX1_countSquares cX1_countSquares 3 (some .int) ∈ GT := (List.mem_of_getElem? (i := 816) (by decide +kernel))
set_option maxRecDepth 20000 in
theorem m_X4_128 : MF RX4 128 0 yX1_countRuns 0 := ⟨Or.inr (List.mem_of_getElem? (i := 799) (by decide +kernel)), (List.mem_of_getElem? (i := 43) (by decide +kernel)), ⟨by decide +kernel, by decide +kernel⟩, by decide +kernel, fun _ => ⟨(List.mem_of_getElem? (i := 801) (by decide +kernel)), (List.mem_of_getElem? (i := 35) (by decide +kernel))⟩, fun h => by omega, fun h => by omega⟩
set_option maxRecDepth 20000 in
theorem k_X1_countRuns : Cond.code yX1_countRuns cX1_countRuns 3 (some .int) ∈ GT := (List.mem_of_getElem? (i := 802) (by decide +kernel))
set_option maxRecDepth 20000 in
theorem m_X4_131 : MF RX4 131 0 yX1_covers 2 := ⟨Or.inr (List.mem_of_getElem? (i := 840) (by decide +kernel)), (List.mem_of_getElem? (i := 43) (by decide +kernel)), ⟨by decide +kernel, by decide +kernel⟩, by decide +kernel, fun _ => ⟨(List.mem_of_getElem? (i := 727) (by decide +kernel)), (List.mem_of_getElem? (i := 33) (by decide +kernel))⟩, fun h => by omega, fun h => by omega⟩
set_option maxRecDepth 20000 in
theorem m_X4_134 : MF RX4 134 1 yX4_squareOf 2 := ⟨Or.inl (List.mem_of_getElem? (i := 505) (by decide +kernel)), (List.mem_of_getElem? (i := 40) (by decide +kernel)), ⟨by decide +kernel, by decide +kernel⟩, by decide +kernel, fun h => by omega, fun _ => (List.mem_of_getElem? (i := 364) (by decide +kernel)), fun h => by omega⟩
set_option maxRecDepth 20000 in
theorem m_X4_137 : MF RX4 137 0 yX1_comesTo 1 := ⟨Or.inr (List.mem_of_getElem? (i := 845) (by decide +kernel)), (List.mem_of_getElem? (i := 43) (by decide +kernel)), ⟨by decide +kernel, by decide +kernel⟩, by decide +kernel, fun _ => ⟨(List.mem_of_getElem? (i := 847) (by decide +kernel)), (List.mem_of_getElem? (i := 38) (by decide +kernel))⟩, fun h => by omega, fun h => by omega⟩
set_option maxRecDepth 20000 in
theorem k_X1_comesTo : Cond.code yX1_comesTo cX1_comesTo 3 (some .boolean) ∈ GT := (List.mem_of_getElem? (i := 848) (by decide +kernel))
set_option maxRecDepth 20000 in
theorem m_X4_141 : MF RX4 141 0 yX1_nearestTo 2 := ⟨Or.inr (List.mem_of_getElem? (i := 827) (by decide +kernel)), (List.mem_of_getElem? (i := 43) (by decide +kernel)), ⟨by decide +kernel, by decide +kernel⟩, by decide +kernel, fun _ => ⟨(List.mem_of_getElem? (i := 829) (by decide +kernel)), (List.mem_of_getElem? (i := 37) (by decide +kernel))⟩, fun h => by omega, fun h => by omega⟩
set_option maxRecDepth 20000 in
theorem k_X1_nearestTo : Cond.code yX1_nearestTo cX1_nearestTo 6 (some .int) ∈ GT := (List.mem_of_getElem? (i := 830) (by decide +kernel))
set_option maxRecDepth 20000 in
theorem m_X4_144 : MF RX4 144 1 yX4_apart 3 := ⟨Or.inl (List.mem_of_getElem? (i := 835) (by decide +kernel)), (List.mem_of_getElem? (i := 40) (by decide +kernel)), ⟨by decide +kernel, by decide +kernel⟩, by decide +kernel, fun h => by omega, fun _ => (List.mem_of_getElem? (i := 374) (by decide +kernel)), fun h => by omega⟩
section
variable {l : Launch} {D : va_G} {cy : Nat → ClassId} {n0 : Nat} {ad : Nat → Nat} {b : Nat → Nat} {E : va_W} {ws : va_W}
set_option maxHeartbeats 4000000 in
set_option maxRecDepth 100000 in
theorem c_X4_checkStreet {μ : Nat → Int → Int} {n : Nat} {s : Int} (hfl : l.stackTraces = false) (hsR : -2147483648 ≤ s ∧ s < 2147483648) (h1 : μ 0 2 = n) (h2 : n ≤ 16) : CV l D cy n0 ad yX4_checkStreet (.code yX4_checkStreet cX4_checkStreet 2 none) ({ frames := 6, cells := 1, slots := 6, locals := 82 }) [.ref (b 0), .int (zI s)] (gw 105 XSh cy b μ ++ E) (fun vv uu => vv = none ∧ uu = (gw 105 XSh cy b μ ++ E) ∧ StOK n s) (fun q uu => ∃ μ', uu = (gw 105 XSh cy b μ' ++ E) ∧ ((q = xIO ∧ ¬ StOK n s) ∧ μ' = μ)) := by
  refine CV.walk hfl (by decide) (Nat.le_of_ble_eq_true rfl) ?_
  intro A J hJ
  show J (gw 105 XSh cy b μ ++ E) 0 0 0 [(0, .ref (b 0)), (1, .int (zI s))] []
  refine j_iload_n hJ (j := 1) rfl rfl dX4_checkStreet_0 ?_
  refine j_if_lt hJ (tgt := 12) ⟨by omega, by omega⟩ (by decide) dX4_checkStreet_1 ?_ ?_
  · intro h1
    refine j_throw hJ tf_ioobe (is := 159) (tx := "no such street") (by decide) (Nat.le_of_ble_eq_true rfl) (Nat.le_of_ble_eq_true rfl) ⟨(Nat.le_of_ble_eq_true rfl), (Nat.le_of_ble_eq_true rfl)⟩ dX4_checkStreet_12 dX4_checkStreet_15 dX4_checkStreet_16 dX4_checkStreet_18 dX4_checkStreet_21 ⟨μ, rfl, ?_⟩
    exact ⟨⟨rfl, fun g => by have := g.1; have := g.2; omega⟩, rfl⟩
  · intro h1
    refine j_iload_n hJ (j := 1) rfl rfl dX4_checkStreet_4 ?_
    refine j_aload_n hJ (j := 0) rfl rfl dX4_checkStreet_5 ?_
    refine w_geti hJ (fi := 2) rfl (by omega) rfl rfl f_X4_37 dX4_checkStreet_6 ?_
    refine j_icmp_lt hJ (tgt := 22) ⟨by omega, by omega⟩ ⟨by omega, by omega⟩ (by decide) dX4_checkStreet_9 ?_ ?_
    · intro h9
      refine j_vret hJ rfl rfl (Nat.le_of_ble_eq_true rfl) (Nat.le_of_ble_eq_true rfl) dX4_checkStreet_22 ⟨rfl, rfl, ?_⟩
      exact ⟨by omega, by omega⟩
    · intro h9
      refine j_throw hJ tf_ioobe (is := 159) (tx := "no such street") (by decide) (Nat.le_of_ble_eq_true rfl) (Nat.le_of_ble_eq_true rfl) ⟨(Nat.le_of_ble_eq_true rfl), (Nat.le_of_ble_eq_true rfl)⟩ dX4_checkStreet_12 dX4_checkStreet_15 dX4_checkStreet_16 dX4_checkStreet_18 dX4_checkStreet_21 ⟨μ, rfl, ?_⟩
      exact ⟨⟨rfl, fun g => by have := g.1; have := g.2; omega⟩, rfl⟩
set_option maxHeartbeats 4000000 in
set_option maxRecDepth 100000 in
theorem c_X4_checkSquare {μ : Nat → Int → Int} {c r : Int} (hfl : l.stackTraces = false) (hcR : -2147483648 ≤ c ∧ c < 2147483648) (hrR : -2147483648 ≤ r ∧ r < 2147483648) : CV l D cy n0 ad yX4_checkSquare (.code yX4_checkSquare cX4_checkSquare 2 none) ({ frames := 6, cells := 1, slots := 6, locals := 82 }) [.int (zI c), .int (zI r)] (gw 105 XSh cy b μ ++ E) (fun vv uu => vv = none ∧ uu = (gw 105 XSh cy b μ ++ E) ∧ SqOK c r) (fun q uu => ∃ μ', uu = (gw 105 XSh cy b μ' ++ E) ∧ ((q = xIO ∧ ¬ SqOK c r) ∧ μ' = μ)) := by
  refine CV.walk hfl (by decide) (Nat.le_of_ble_eq_true rfl) ?_
  intro A J hJ
  show J (gw 105 XSh cy b μ ++ E) 0 0 0 [(0, .int (zI c)), (1, .int (zI r))] []
  refine j_iload_n hJ (j := 0) rfl rfl dX4_checkSquare_0 ?_
  refine j_if_lt hJ (tgt := 20) ⟨by omega, by omega⟩ (by decide) dX4_checkSquare_1 ?_ ?_
  · intro h1
    refine j_throw hJ tf_ioobe (is := 161) (tx := "no such square") (by decide) (Nat.le_of_ble_eq_true rfl) (Nat.le_of_ble_eq_true rfl) ⟨(Nat.le_of_ble_eq_true rfl), (Nat.le_of_ble_eq_true rfl)⟩ dX4_checkSquare_20 dX4_checkSquare_23 dX4_checkSquare_24 dX4_checkSquare_26 dX4_checkSquare_29 ⟨μ, rfl, ?_⟩
    exact ⟨⟨rfl, fun g => by have := g.1; have := g.2; omega⟩, rfl⟩
  · intro h1
    refine j_iload_n hJ (j := 0) rfl rfl dX4_checkSquare_4 ?_
    refine j_bipush hJ (v := 12) (by decide) dX4_checkSquare_5 ?_
    refine j_icmp_ge hJ (tgt := 20) ⟨by omega, by omega⟩ ⟨by omega, by omega⟩ (by decide) dX4_checkSquare_7 ?_ ?_
    · intro h7
      refine j_throw hJ tf_ioobe (is := 161) (tx := "no such square") (by decide) (Nat.le_of_ble_eq_true rfl) (Nat.le_of_ble_eq_true rfl) ⟨(Nat.le_of_ble_eq_true rfl), (Nat.le_of_ble_eq_true rfl)⟩ dX4_checkSquare_20 dX4_checkSquare_23 dX4_checkSquare_24 dX4_checkSquare_26 dX4_checkSquare_29 ⟨μ, rfl, ?_⟩
      exact ⟨⟨rfl, fun g => by have := g.1; have := g.2; omega⟩, rfl⟩
    · intro h7
      refine j_iload_n hJ (j := 1) rfl rfl dX4_checkSquare_10 ?_
      refine j_if_lt hJ (tgt := 20) ⟨by omega, by omega⟩ (by decide) dX4_checkSquare_11 ?_ ?_
      · intro h11
        refine j_throw hJ tf_ioobe (is := 161) (tx := "no such square") (by decide) (Nat.le_of_ble_eq_true rfl) (Nat.le_of_ble_eq_true rfl) ⟨(Nat.le_of_ble_eq_true rfl), (Nat.le_of_ble_eq_true rfl)⟩ dX4_checkSquare_20 dX4_checkSquare_23 dX4_checkSquare_24 dX4_checkSquare_26 dX4_checkSquare_29 ⟨μ, rfl, ?_⟩
        exact ⟨⟨rfl, fun g => by have := g.1; have := g.2; omega⟩, rfl⟩
      · intro h11
        refine j_iload_n hJ (j := 1) rfl rfl dX4_checkSquare_14 ?_
        refine j_bipush hJ (v := 12) (by decide) dX4_checkSquare_15 ?_
        refine j_icmp_lt hJ (tgt := 30) ⟨by omega, by omega⟩ ⟨by omega, by omega⟩ (by decide) dX4_checkSquare_17 ?_ ?_
        · intro h17
          refine j_vret hJ rfl rfl (Nat.le_of_ble_eq_true rfl) (Nat.le_of_ble_eq_true rfl) dX4_checkSquare_30 ⟨rfl, rfl, ?_⟩
          exact ⟨⟨by omega, by omega⟩, by omega, by omega⟩
        · intro h17
          refine j_throw hJ tf_ioobe (is := 161) (tx := "no such square") (by decide) (Nat.le_of_ble_eq_true rfl) (Nat.le_of_ble_eq_true rfl) ⟨(Nat.le_of_ble_eq_true rfl), (Nat.le_of_ble_eq_true rfl)⟩ dX4_checkSquare_20 dX4_checkSquare_23 dX4_checkSquare_24 dX4_checkSquare_26 dX4_checkSquare_29 ⟨μ, rfl, ?_⟩
          exact ⟨⟨rfl, fun g => by have := g.1; have := g.2; omega⟩, rfl⟩
set_option maxHeartbeats 4000000 in
set_option maxRecDepth 100000 in
theorem c_X4_checkName {μ : Nat → Int → Int} {w z : Int} (hfl : l.stackTraces = false) (hwR : -2147483648 ≤ w ∧ w < 2147483648) : CV l D cy n0 ad yX4_checkName (.code yX4_checkName cX4_checkName 3 none) ({ frames := 6, cells := 1, slots := 6, locals := 82 }) [.int (zI w), .int (zI z)] (gw 105 XSh cy b μ ++ E) (fun vv uu => vv = none ∧ uu = (gw 105 XSh cy b μ ++ E) ∧ NmOK w z) (fun q uu => ∃ μ', uu = (gw 105 XSh cy b μ' ++ E) ∧ ((q = xIA ∧ ¬ NmOK w z) ∧ μ' = μ)) := by
  refine CV.walk hfl (by decide) (Nat.le_of_ble_eq_true rfl) ?_
  intro A J hJ
  show J (gw 105 XSh cy b μ ++ E) 0 0 0 [(0, .int (zI w)), (1, .int (zI z))] []
  refine j_iload_n hJ (j := 0) rfl rfl dX4_checkName_0 ?_
  refine j_iconst hJ dX4_checkName_1 ?_
  refine j_icmp_lt hJ (tgt := 10) ⟨by omega, by omega⟩ ⟨by omega, by omega⟩ (by decide) dX4_checkName_2 ?_ ?_
  · intro h2
    refine j_throw hJ tf_iae (is := 163) (tx := "a name has 1 to 4 words") (by decide) (Nat.le_of_ble_eq_true rfl) (Nat.le_of_ble_eq_true rfl) ⟨(Nat.le_of_ble_eq_true rfl), (Nat.le_of_ble_eq_true rfl)⟩ dX4_checkName_10 dX4_checkName_13 dX4_checkName_14 dX4_checkName_16 dX4_checkName_19 ⟨μ, rfl, ?_⟩
    exact ⟨⟨rfl, fun g => by have := g.1; omega⟩, rfl⟩
  · intro h2
    refine j_iload_n hJ (j := 0) rfl rfl dX4_checkName_5 ?_
    refine j_iconst hJ dX4_checkName_6 ?_
    refine j_icmp_le hJ (tgt := 20) ⟨by omega, by omega⟩ ⟨by omega, by omega⟩ (by decide) dX4_checkName_7 ?_ ?_
    · intro h7
      refine j_iconst hJ dX4_checkName_20 ?_
      refine j_istore_n hJ (lv' := [(2, .int (zI 0)), (0, .int (zI w)), (1, .int (zI z))]) rfl (by decide) rfl dX4_checkName_21 ?_
      have lp22 : ∀ (nn22 : Nat) (k : Int) (hmeas22 : (w - k).toNat < nn22) (hk : 0 ≤ k ∧ k ≤ w) (hn : ∀ j : Nat, (j : Int) < k → wd z j < 24), J (gw 105 XSh cy b μ ++ E) 0 0 22 [(0, .int (zI w)), (1, .int (zI z)), (2, .int (zI k))] [] := by
        intro nn22
        induction nn22 with
        | zero => intro k hmeas22 hk hn; omega
        | succ nn22 ih22 =>
          intro k hmeas22 hk hn
          refine j_iload_n hJ (j := 2) rfl rfl dX4_checkName_22 ?_
          refine j_iload_n hJ (j := 0) rfl rfl dX4_checkName_23 ?_
          refine j_icmp_ge hJ (tgt := 53) ⟨by omega, by omega⟩ ⟨by omega, by omega⟩ (by decide) dX4_checkName_24 ?_ ?_
          · intro h24
            refine j_vret hJ rfl rfl (Nat.le_of_ble_eq_true rfl) (Nat.le_of_ble_eq_true rfl) dX4_checkName_53 ⟨rfl, rfl, ?_⟩
            exact ⟨by omega, fun j hj => hn j (by omega)⟩
          · intro h24
            refine j_iload_n hJ (j := 1) rfl rfl dX4_checkName_27 ?_
            refine j_iload_n hJ (j := 2) rfl rfl dX4_checkName_28 ?_
            refine j_callS0 hJ (c_X4_wordOf hfl ⟨by omega, by omega⟩) m_X4_165 k_X4_wordOf ⟨(Nat.le_of_ble_eq_true rfl), (Nat.le_of_ble_eq_true rfl)⟩ ⟨(Nat.le_of_ble_eq_true rfl), (Nat.le_of_ble_eq_true rfl)⟩ (Nat.le_of_ble_eq_true rfl) dX4_checkName_29 rfl ?_
            intro v1 u2 hv3
            obtain ⟨_, rfl, rfl, rfl⟩ := hv3
            show J (gw 105 XSh cy b μ ++ E) 0 0 32 [(0, .int (zI w)), (1, .int (zI z)), (2, .int (zI k))] [.int (zI (wd z k))]
            have hwr := wd_range z k
            refine j_bipush hJ (v := 24) (by decide) dX4_checkName_32 ?_
            refine j_icmp_lt hJ (tgt := 47) ⟨by omega, by omega⟩ ⟨by omega, by omega⟩ (by decide) dX4_checkName_34 ?_ ?_
            · intro h34
              refine j_iinc hJ (lv' := [(2, .int (zI (k + 1))), (0, .int (zI w)), (1, .int (zI z))]) (j := 2) rfl (by omega) (by decide) rfl dX4_checkName_47 ?_
              refine j_goto hJ (tgt := 22) (by decide) dX4_checkName_50 ?_
              refine j_locs hJ [1, 2, 0] rfl ?_
              refine ih22 (k + 1) (by omega) (by omega) ?_
              · intro j hj
                by_cases e : (j : Int) = k
                · rw [e]; exact h34
                · exact hn j (by omega)
            · intro h34
              refine j_throw hJ tf_iae (is := 95) (tx := "no such word") (by decide) (Nat.le_of_ble_eq_true rfl) (Nat.le_of_ble_eq_true rfl) ⟨(Nat.le_of_ble_eq_true rfl), (Nat.le_of_ble_eq_true rfl)⟩ dX4_checkName_37 dX4_checkName_40 dX4_checkName_41 dX4_checkName_43 dX4_checkName_46 ⟨μ, rfl, ?_⟩
              refine ⟨⟨rfl, fun g => ?_⟩, rfl⟩
              have := g.2 k.toNat (by omega)
              rw [Int.toNat_of_nonneg hk.1] at this
              omega
      refine j_locs hJ [1, 2, 0] rfl ?_
      exact lp22 ((w - 0).toNat + 1) 0 (by omega) (by omega) (by intro j hj; omega)
    · intro h7
      refine j_throw hJ tf_iae (is := 163) (tx := "a name has 1 to 4 words") (by decide) (Nat.le_of_ble_eq_true rfl) (Nat.le_of_ble_eq_true rfl) ⟨(Nat.le_of_ble_eq_true rfl), (Nat.le_of_ble_eq_true rfl)⟩ dX4_checkName_10 dX4_checkName_13 dX4_checkName_14 dX4_checkName_16 dX4_checkName_19 ⟨μ, rfl, ?_⟩
      exact ⟨⟨rfl, fun g => by have := g.1; omega⟩, rfl⟩
set_option maxHeartbeats 4000000 in
set_option maxRecDepth 100000 in
theorem c_X4_addStreet {μ : Nat → Int → Int} {n : Nat} {N : Nat → List Int} {ow : Nat → Int} {m : Nat → Nat} {p : Nat → Nat → Int} {w z : Int} (hfl : l.stackTraces = false) (hX : XI μ n N ow m p) (hwR : -2147483648 ≤ w ∧ w < 2147483648) : CV l D cy n0 ad yX4_addStreet (.code yX4_addStreet cX4_addStreet 3 (some .int)) ({ frames := 7, cells := 2, slots := 12, locals := 104 }) [.ref (b 0), .int (zI w), .int (zI z)] (gw 105 XSh cy b μ ++ E) (fun vv uu => ∃ q μ', vv = some (.int (zI q)) ∧ uu = (gw 105 XSh cy b μ' ++ E) ∧ (q = n ∧ n < 16 ∧ NmOK w z ∧ XI μ' (n + 1) (fset N n (nameL z w.toNat)) ow m p ∧ μ' 1 = μ 1)) (fun q uu => ∃ μ', uu = (gw 105 XSh cy b μ' ++ E) ∧ (((q = xIA ∧ ¬ NmOK w z) ∨ (q = xIS ∧ NmOK w z ∧ n = 16)) ∧ μ' = μ)) := by
  obtain ⟨x1, x2, x3, x4, x5, x6, x7⟩ := id hX
  refine CV.walk hfl (by decide) (Nat.le_of_ble_eq_true rfl) ?_
  intro A J hJ
  show J (gw 105 XSh cy b μ ++ E) 0 0 0 [(0, .ref (b 0)), (1, .int (zI w)), (2, .int (zI z))] []
  refine j_iload_n hJ (j := 1) rfl rfl dX4_addStreet_0 ?_
  refine j_iload_n hJ (j := 2) rfl rfl dX4_addStreet_1 ?_
  refine j_callSX0 hJ (c_X4_checkName hfl hwR) mx_X4_33 k_X4_checkName ⟨(Nat.le_of_ble_eq_true rfl), (Nat.le_of_ble_eq_true rfl)⟩ ⟨(Nat.le_of_ble_eq_true rfl), (Nat.le_of_ble_eq_true rfl)⟩ (Nat.le_of_ble_eq_true rfl) dX4_addStreet_2 (by rintro q u ⟨_, rfl, ⟨rfl, h⟩, rfl⟩; exact ⟨_, rfl, Or.inl ⟨rfl, h⟩, rfl⟩) rfl ?_
  intro v1 u2 hv3
  obtain ⟨rfl, rfl, hN⟩ := hv3
  show J (gw 105 XSh cy b μ ++ E) 1 6 5 [(0, .ref (b 0)), (1, .int (zI w)), (2, .int (zI z))] []
  refine j_aload_n hJ (j := 0) rfl rfl dX4_addStreet_5 ?_
  refine w_geti hJ (fi := 2) rfl (by omega) rfl rfl f_X4_37 dX4_addStreet_6 ?_
  refine j_topi (y := zI (n : Int)) (by rw [x1]) ?_
  refine j_bipush hJ (v := 16) (by decide) dX4_addStreet_9 ?_
  refine j_icmp_lt hJ (tgt := 24) ⟨by omega, by omega⟩ ⟨by omega, by omega⟩ (by decide) dX4_addStreet_11 ?_ ?_
  · intro h11
    refine j_aload_n hJ (j := 0) rfl rfl dX4_addStreet_24 ?_
    refine w_getr hJ (by omega) rfl rfl f_X4_15 dX4_addStreet_25 ?_
    refine j_aload_n hJ (j := 0) rfl rfl dX4_addStreet_28 ?_
    refine w_geti hJ (fi := 2) rfl (by omega) rfl rfl f_X4_37 dX4_addStreet_29 ?_
    refine j_topi (y := zI (n : Int)) (by rw [x1]) ?_
    refine w_aald hJ (by omega) rfl (by decide) (by omega) (by omega) dX4_addStreet_32 ?_
    rw [Int.toNat_natCast]
    have hw1 := hN.1
    refine j_iload_n hJ (j := 1) rfl rfl dX4_addStreet_33 ?_
    refine j_topi (y := zI (w.toNat : Int)) (by rw [Int.toNat_of_nonneg (by omega)]) ?_
    refine j_iload_n hJ (j := 2) rfl rfl dX4_addStreet_34 ?_
    refine j_callV0 hJ (c_X0_takeName hfl (i := n) (cn := w.toNat) (by omega) (by omega) (fun k hk => hN.2 k (by omega))) m_X4_48 k_X0_takeName (q0 := 9 + 6 * n) (by rw [gw_get (by omega), XS0]; rfl) rfl ⟨(Nat.le_of_ble_eq_true rfl), (Nat.le_of_ble_eq_true rfl)⟩ ⟨(Nat.le_of_ble_eq_true rfl), (Nat.le_of_ble_eq_true rfl)⟩ (Nat.le_of_ble_eq_true rfl) dX4_addStreet_35 rfl ?_
    intro v4 u5 hv6
    obtain ⟨μ1, rfl, rfl, h35⟩ := hv6
    show J (gw 105 XSh cy b μ1 ++ E) 1 6 38 [(0, .ref (b 0)), (1, .int (zI w)), (2, .int (zI z))] []
    obtain ⟨t1, t2, t3⟩ := h35
    have e0 : μ1 0 2 = n := by rw [t2 _ (by omega) (by omega), x1]
    refine j_aload_n hJ (j := 0) rfl rfl dX4_addStreet_38 ?_
    refine j_dup hJ rfl dX4_addStreet_39 ?_
    refine w_geti hJ (fi := 2) rfl (by omega) rfl rfl f_X4_37 dX4_addStreet_40 ?_
    refine j_topi (y := zI (n : Int)) (by rw [e0]) ?_
    refine j_iconst hJ dX4_addStreet_43 ?_
    refine j_iadd hJ dX4_addStreet_44 ?_
    refine w_puti hJ (fi := 2) rfl (by omega) rfl rfl f_X4_37 rfl rfl dX4_addStreet_45 ?_
    intro μ2 hμ2
    have hM := hμ2
    refine j_aload_n hJ (j := 0) rfl rfl dX4_addStreet_48 ?_
    refine w_geti hJ (fi := 2) rfl (by omega) rfl rfl f_X4_37 dX4_addStreet_49 ?_
    refine j_topi (y := zI ((n : Int) + 1)) (by rw [hM, up_self]) ?_
    refine j_iconst hJ dX4_addStreet_52 ?_
    refine j_isub hJ dX4_addStreet_53 ?_
    refine j_iret hJ rfl rfl (rfl) (Nat.le_of_ble_eq_true rfl) (Nat.le_of_ble_eq_true rfl) dX4_addStreet_54 ⟨(((n : Int) + 1) - 1), μ2, rfl, rfl, ?_⟩
    rw [hM]
    exact ⟨by omega, by omega, hN, hX.addS (by omega) t2 t3 t1, by rw [up_rowf (by omega)]; exact t2 1 (by omega) (by omega)⟩
  · intro h11
    refine j_throw hJ tf_ise (is := 43) (tx := "there are 16 streets") (by decide) (Nat.le_of_ble_eq_true rfl) (Nat.le_of_ble_eq_true rfl) ⟨(Nat.le_of_ble_eq_true rfl), (Nat.le_of_ble_eq_true rfl)⟩ dX4_addStreet_14 dX4_addStreet_17 dX4_addStreet_18 dX4_addStreet_20 dX4_addStreet_23 ⟨μ, rfl, ?_⟩
    exact ⟨Or.inr ⟨rfl, hN, by omega⟩, rfl⟩
set_option maxHeartbeats 4000000 in
set_option maxRecDepth 100000 in
theorem c_X4_addPoint {μ : Nat → Int → Int} {n : Nat} {N : Nat → List Int} {ow : Nat → Int} {m : Nat → Nat} {p : Nat → Nat → Int} {s c r : Int} (hfl : l.stackTraces = false) (hX : XI μ n N ow m p) (hsR : -2147483648 ≤ s ∧ s < 2147483648) (hcR : -2147483648 ≤ c ∧ c < 2147483648) (hrR : -2147483648 ≤ r ∧ r < 2147483648) : CV l D cy n0 ad yX4_addPoint (.code yX4_addPoint cX4_addPoint 5 (some .int)) ({ frames := 7, cells := 3, slots := 18, locals := 103 }) [.ref (b 0), .int (zI s), .int (zI c), .int (zI r)] (gw 105 XSh cy b μ ++ E) (fun vv uu => ∃ q μ', vv = some (.int (zI q)) ∧ uu = (gw 105 XSh cy b μ' ++ E) ∧ (StOK n s ∧ SqOK c r ∧ (m s.toNat = 0 ∨ Aln (p s.toNat (m s.toNat - 1)) c r) ∧ m s.toNat < 10 ∧ q = ((trk (pset (p s.toNat) (m s.toNat) (12 * c + r)) (m s.toNat + 1)).length : Nat) ∧ XI μ' n N ow (fset m s.toNat (m s.toNat + 1)) (fset p s.toNat (pset (p s.toNat) (m s.toNat) (12 * c + r))) ∧ μ' 1 = μ 1)) (fun q uu => ∃ μ', uu = (gw 105 XSh cy b μ' ++ E) ∧ (((q = xIO ∧ ¬ (StOK n s ∧ SqOK c r)) ∨ (q = xIA ∧ (StOK n s ∧ SqOK c r) ∧ ¬ (m s.toNat = 0 ∨ Aln (p s.toNat (m s.toNat - 1)) c r)) ∨ (q = xIS ∧ (StOK n s ∧ SqOK c r) ∧ (m s.toNat = 0 ∨ Aln (p s.toNat (m s.toNat - 1)) c r) ∧ m s.toNat = 10)) ∧ μ' = μ)) := by
  obtain ⟨x1, x2, x3, x4, x5, x6, x7⟩ := id hX
  refine CV.walk hfl (by decide) (Nat.le_of_ble_eq_true rfl) ?_
  intro A J hJ
  show J (gw 105 XSh cy b μ ++ E) 0 0 0 [(0, .ref (b 0)), (1, .int (zI s)), (2, .int (zI c)), (3, .int (zI r))] []
  refine j_aload_n hJ (j := 0) rfl rfl dX4_addPoint_0 ?_
  refine j_iload_n hJ (j := 1) rfl rfl dX4_addPoint_1 ?_
  refine j_callVX0 hJ (c_X4_checkStreet hfl (n := n) hsR x1 x2) mx_X4_51 k_X4_checkStreet (q0 := 0) (by rw [gw_get (by decide)]; rfl) rfl ⟨(Nat.le_of_ble_eq_true rfl), (Nat.le_of_ble_eq_true rfl)⟩ ⟨(Nat.le_of_ble_eq_true rfl), (Nat.le_of_ble_eq_true rfl)⟩ (Nat.le_of_ble_eq_true rfl) dX4_addPoint_2 (by rintro q u ⟨_, rfl, ⟨rfl, h⟩, rfl⟩; exact ⟨_, rfl, Or.inl ⟨rfl, fun g => h g.1⟩, rfl⟩) rfl ?_
  intro v1 u2 hv3
  obtain ⟨rfl, rfl, hs⟩ := hv3
  show J (gw 105 XSh cy b μ ++ E) 1 6 5 [(0, .ref (b 0)), (1, .int (zI s)), (2, .int (zI c)), (3, .int (zI r))] []
  have hs1 := hs.1
  have hs2 := hs.2
  have hs16 : s.toNat < 16 := by omega
  refine j_iload_n hJ (j := 2) rfl rfl dX4_addPoint_5 ?_
  refine j_iload_n hJ (j := 3) rfl rfl dX4_addPoint_6 ?_
  refine j_callSX0 hJ (c_X4_checkSquare hfl hcR hrR) mx_X4_55 k_X4_checkSquare ⟨(Nat.le_of_ble_eq_true rfl), (Nat.le_of_ble_eq_true rfl)⟩ ⟨(Nat.le_of_ble_eq_true rfl), (Nat.le_of_ble_eq_true rfl)⟩ (Nat.le_of_ble_eq_true rfl) dX4_addPoint_7 (by rintro q u ⟨_, rfl, ⟨rfl, h⟩, rfl⟩; exact ⟨_, rfl, Or.inl ⟨rfl, fun g => h g.2⟩, rfl⟩) rfl ?_
  intro v4 u5 hv6
  obtain ⟨rfl, rfl, hq⟩ := hv6
  show J (gw 105 XSh cy b μ ++ E) 2 12 10 [(0, .ref (b 0)), (1, .int (zI s)), (2, .int (zI c)), (3, .int (zI r))] []
  have hq1 := hq.1
  have hq2 := hq.2
  refine j_aload_n hJ (j := 0) rfl rfl dX4_addPoint_10 ?_
  refine w_getr hJ (by omega) rfl rfl f_X4_15 dX4_addPoint_11 ?_
  refine j_iload_n hJ (j := 1) rfl rfl dX4_addPoint_14 ?_
  refine w_aald hJ (by omega) rfl (by decide) (by omega) (by omega) dX4_addPoint_15 ?_
  refine w_getr hJ (by omega) (XS0 _) rfl f_X4_58 dX4_addPoint_16 ?_
  refine j_astore hJ (lv' := [(4, .ref (b (9 + 6 * s.toNat + 2))), (0, .ref (b 0)), (1, .int (zI s)), (2, .int (zI c)), (3, .int (zI r))]) (by decide) rfl dX4_addPoint_19 ?_
  refine j_aload hJ (j := 0) rfl dX4_addPoint_21 ?_
  refine j_iload_n hJ (j := 3) rfl rfl dX4_addPoint_23 ?_
  refine j_iload_n hJ (j := 4) rfl rfl dX4_addPoint_24 ?_
  refine j_callV0 hJ (c_X1_canGoTo hfl (i := s.toNat) (m := m s.toNat) (p := p s.toNat) hs16 hq1 hq2 (x6 _ hs16)) m_X4_62 k_X1_canGoTo (q0 := 9 + 6 * s.toNat + 2) (by rw [gw_get (by omega), XS2]; rfl) rfl ⟨(Nat.le_of_ble_eq_true rfl), (Nat.le_of_ble_eq_true rfl)⟩ ⟨(Nat.le_of_ble_eq_true rfl), (Nat.le_of_ble_eq_true rfl)⟩ (Nat.le_of_ble_eq_true rfl) dX4_addPoint_25 rfl ?_
  intro v7 u8 hv9
  obtain ⟨q25, rfl, rfl, h25⟩ := hv9
  show J (gw 105 XSh cy b μ ++ E) 2 12 28 [(4, .ref (b (9 + 6 * s.toNat + 2))), (0, .ref (b 0)), (1, .int (zI s)), (2, .int (zI c)), (3, .int (zI r))] [.int (zI q25)]
  have hb25 := b01 h25
  have hm10 := (x6 _ hs16).2.2.1
  refine j_if_ne hJ (tgt := 41) ⟨by omega, by omega⟩ (by decide) dX4_addPoint_28 ?_ ?_
  · intro h28
    have hcan : (m s.toNat = 0 ∨ Aln (p s.toNat (m s.toNat - 1)) c r) := Classical.byContradiction fun g => h28 (h25.2 g)
    refine j_aload hJ (j := 0) rfl dX4_addPoint_41 ?_
    refine w_geti hJ (fi := 3) rfl (by omega) (XS2 _) rfl f_X4_73 dX4_addPoint_43 ?_
    refine j_topi (y := zI (m s.toNat : Int)) (by rw [(x6 _ hs16).2.1]) ?_
    refine j_bipush hJ (v := 10) (by decide) dX4_addPoint_46 ?_
    refine j_icmp_lt hJ (tgt := 61) ⟨by omega, by omega⟩ ⟨by omega, by omega⟩ (by decide) dX4_addPoint_48 ?_ ?_
    · intro h48
      refine j_aload hJ (j := 0) rfl dX4_addPoint_61 ?_
      refine j_iload_n hJ (j := 3) rfl rfl dX4_addPoint_63 ?_
      refine j_iload_n hJ (j := 4) rfl rfl dX4_addPoint_64 ?_
      refine j_callV0 hJ (c_X1_goTo hfl (i := s.toNat) (m := m s.toNat) (p := p s.toNat) hs16 (by omega) hq1 hq2 (x6 _ hs16) (fun g => hcan.resolve_left (by omega))) m_X4_78 k_X1_goTo (q0 := 9 + 6 * s.toNat + 2) (by rw [gw_get (by omega), XS2]; rfl) rfl ⟨(Nat.le_of_ble_eq_true rfl), (Nat.le_of_ble_eq_true rfl)⟩ ⟨(Nat.le_of_ble_eq_true rfl), (Nat.le_of_ble_eq_true rfl)⟩ (Nat.le_of_ble_eq_true rfl) dX4_addPoint_65 rfl ?_
      intro v10 u11 hv12
      obtain ⟨μ1, rfl, rfl, h65⟩ := hv12
      show J (gw 105 XSh cy b μ1 ++ E) 2 12 68 [(4, .ref (b (9 + 6 * s.toNat + 2))), (0, .ref (b 0)), (1, .int (zI s)), (2, .int (zI c)), (3, .int (zI r))] []
      refine j_aload hJ (j := 0) rfl dX4_addPoint_68 ?_
      refine w_geti hJ (fi := 1) rfl (by omega) (XS2 _) rfl f_X4_81 dX4_addPoint_70 ?_
      refine j_iret hJ rfl rfl (rfl) (Nat.le_of_ble_eq_true rfl) (Nat.le_of_ble_eq_true rfl) dX4_addPoint_73 ⟨(μ1 (9 + 6 * s.toNat + 2) 1), μ1, rfl, rfl, ?_⟩
      exact ⟨hs, hq, hcan, by omega, h65.1.1.1, hX.setT (by omega) h65.2 h65.1, h65.2 1 (by omega) (by omega) (by omega) (by omega)⟩
    · intro h48
      refine j_throw hJ tf_ise (is := 76) (tx := "the street has 10 points") (by decide) (Nat.le_of_ble_eq_true rfl) (Nat.le_of_ble_eq_true rfl) ⟨(Nat.le_of_ble_eq_true rfl), (Nat.le_of_ble_eq_true rfl)⟩ dX4_addPoint_51 dX4_addPoint_54 dX4_addPoint_55 dX4_addPoint_57 dX4_addPoint_60 ⟨μ, rfl, ?_⟩
      exact ⟨Or.inr (Or.inr ⟨rfl, ⟨hs, hq⟩, hcan, by omega⟩), rfl⟩
  · intro h28
    refine j_throw hJ tf_iae (is := 70) (tx := "the point is not straight on from the last one") (by decide) (Nat.le_of_ble_eq_true rfl) (Nat.le_of_ble_eq_true rfl) ⟨(Nat.le_of_ble_eq_true rfl), (Nat.le_of_ble_eq_true rfl)⟩ dX4_addPoint_31 dX4_addPoint_34 dX4_addPoint_35 dX4_addPoint_37 dX4_addPoint_40 ⟨μ, rfl, ?_⟩
    exact ⟨Or.inr (Or.inl ⟨rfl, ⟨hs, hq⟩, fun g => by have := h25.1 g; omega⟩), rfl⟩
set_option maxHeartbeats 4000000 in
set_option maxRecDepth 100000 in
theorem c_X4_dropPoint {μ : Nat → Int → Int} {n : Nat} {N : Nat → List Int} {ow : Nat → Int} {m : Nat → Nat} {p : Nat → Nat → Int} {s : Int} (hfl : l.stackTraces = false) (hX : XI μ n N ow m p) (hsR : -2147483648 ≤ s ∧ s < 2147483648) : CV l D cy n0 ad yX4_dropPoint (.code yX4_dropPoint cX4_dropPoint 3 (some .int)) ({ frames := 7, cells := 2, slots := 12, locals := 103 }) [.ref (b 0), .int (zI s)] (gw 105 XSh cy b μ ++ E) (fun vv uu => ∃ q μ', vv = some (.int (zI q)) ∧ uu = (gw 105 XSh cy b μ' ++ E) ∧ (StOK n s ∧ 0 < m s.toNat ∧ q = ((trk (p s.toNat) (m s.toNat - 1)).length : Nat) ∧ XI μ' n N ow (fset m s.toNat (m s.toNat - 1)) p ∧ μ' 1 = μ 1)) (fun q uu => ∃ μ', uu = (gw 105 XSh cy b μ' ++ E) ∧ (((q = xIO ∧ ¬ StOK n s) ∨ (q = xIS ∧ StOK n s ∧ m s.toNat = 0)) ∧ μ' = μ)) := by
  obtain ⟨x1, x2, x3, x4, x5, x6, x7⟩ := id hX
  refine CV.walk hfl (by decide) (Nat.le_of_ble_eq_true rfl) ?_
  intro A J hJ
  show J (gw 105 XSh cy b μ ++ E) 0 0 0 [(0, .ref (b 0)), (1, .int (zI s))] []
  refine j_aload_n hJ (j := 0) rfl rfl dX4_dropPoint_0 ?_
  refine j_iload_n hJ (j := 1) rfl rfl dX4_dropPoint_1 ?_
  refine j_callVX0 hJ (c_X4_checkStreet hfl (n := n) hsR x1 x2) mx_X4_51 k_X4_checkStreet (q0 := 0) (by rw [gw_get (by decide)]; rfl) rfl ⟨(Nat.le_of_ble_eq_true rfl), (Nat.le_of_ble_eq_true rfl)⟩ ⟨(Nat.le_of_ble_eq_true rfl), (Nat.le_of_ble_eq_true rfl)⟩ (Nat.le_of_ble_eq_true rfl) dX4_dropPoint_2 (by rintro q u ⟨_, rfl, ⟨rfl, h⟩, rfl⟩; exact ⟨_, rfl, Or.inl ⟨rfl, h⟩, rfl⟩) rfl ?_
  intro v1 u2 hv3
  obtain ⟨rfl, rfl, hs⟩ := hv3
  show J (gw 105 XSh cy b μ ++ E) 1 6 5 [(0, .ref (b 0)), (1, .int (zI s))] []
  have hs1 := hs.1
  have hs2 := hs.2
  have hs16 : s.toNat < 16 := by omega
  refine j_aload_n hJ (j := 0) rfl rfl dX4_dropPoint_5 ?_
  refine w_getr hJ (by omega) rfl rfl f_X4_15 dX4_dropPoint_6 ?_
  refine j_iload_n hJ (j := 1) rfl rfl dX4_dropPoint_9 ?_
  refine w_aald hJ (by omega) rfl (by decide) (by omega) (by omega) dX4_dropPoint_10 ?_
  refine w_getr hJ (by omega) (XS0 _) rfl f_X4_58 dX4_dropPoint_11 ?_
  refine j_astore_n hJ (lv' := [(2, .ref (b (9 + 6 * s.toNat + 2))), (0, .ref (b 0)), (1, .int (zI s))]) rfl (by decide) rfl dX4_dropPoint_14 ?_
  refine j_aload_n hJ (j := 0) rfl rfl dX4_dropPoint_15 ?_
  have hm10 := (x6 _ hs16).2.2.1
  refine w_geti hJ (fi := 3) rfl (by omega) (XS2 _) rfl f_X4_73 dX4_dropPoint_16 ?_
  refine j_topi (y := zI (m s.toNat : Int)) (by rw [(x6 _ hs16).2.1]) ?_
  refine j_if_ne hJ (tgt := 32) ⟨by omega, by omega⟩ (by decide) dX4_dropPoint_19 ?_ ?_
  · intro h19
    refine j_aload_n hJ (j := 0) rfl rfl dX4_dropPoint_32 ?_
    refine j_callV0 hJ (c_X1_goBack hfl (i := s.toNat) (m := m s.toNat) (p := p s.toNat) hs16 (by omega) (x6 _ hs16)) m_X4_86 k_X1_goBack (q0 := 9 + 6 * s.toNat + 2) (by rw [gw_get (by omega), XS2]; rfl) rfl ⟨(Nat.le_of_ble_eq_true rfl), (Nat.le_of_ble_eq_true rfl)⟩ ⟨(Nat.le_of_ble_eq_true rfl), (Nat.le_of_ble_eq_true rfl)⟩ (Nat.le_of_ble_eq_true rfl) dX4_dropPoint_33 rfl ?_
    intro v4 u5 hv6
    obtain ⟨μ1, rfl, rfl, h33⟩ := hv6
    show J (gw 105 XSh cy b μ1 ++ E) 1 6 36 [(2, .ref (b (9 + 6 * s.toNat + 2))), (0, .ref (b 0)), (1, .int (zI s))] []
    refine j_aload_n hJ (j := 0) rfl rfl dX4_dropPoint_36 ?_
    refine w_geti hJ (fi := 1) rfl (by omega) (XS2 _) rfl f_X4_81 dX4_dropPoint_37 ?_
    refine j_iret hJ rfl rfl (rfl) (Nat.le_of_ble_eq_true rfl) (Nat.le_of_ble_eq_true rfl) dX4_dropPoint_40 ⟨(μ1 (9 + 6 * s.toNat + 2) 1), μ1, rfl, rfl, ?_⟩
    refine ⟨hs, by omega, h33.1.1.1, ?_, h33.2 1 (by omega) (by omega) (by omega) (by omega)⟩
    have := hX.setT (i := s.toNat) (by omega) h33.2 h33.1
    rwa [fset_self] at this
  · intro h19
    refine j_throw hJ tf_ise (is := 84) (tx := "the street has no point") (by decide) (Nat.le_of_ble_eq_true rfl) (Nat.le_of_ble_eq_true rfl) ⟨(Nat.le_of_ble_eq_true rfl), (Nat.le_of_ble_eq_true rfl)⟩ dX4_dropPoint_22 dX4_dropPoint_25 dX4_dropPoint_26 dX4_dropPoint_28 dX4_dropPoint_31 ⟨μ, rfl, ?_⟩
    exact ⟨Or.inr ⟨rfl, hs, by omega⟩, rfl⟩
set_option maxHeartbeats 4000000 in
set_option maxRecDepth 100000 in
theorem c_X4_setOneWay {μ : Nat → Int → Int} {n : Nat} {N : Nat → List Int} {ow : Nat → Int} {m : Nat → Nat} {p : Nat → Nat → Int} {s f : Int} (hfl : l.stackTraces = false) (hX : XI μ n N ow m p) (hsR : -2147483648 ≤ s ∧ s < 2147483648) (hf : f = 0 ∨ f = 1) : CV l D cy n0 ad yX4_setOneWay (.code yX4_setOneWay cX4_setOneWay 4 (some .boolean)) ({ frames := 7, cells := 1, slots := 6, locals := 103 }) [.ref (b 0), .int (zI s), .int (zI f)] (gw 105 XSh cy b μ ++ E) (fun vv uu => ∃ q μ', vv = some (.int (zI q)) ∧ uu = (gw 105 XSh cy b μ' ++ E) ∧ (StOK n s ∧ q = ow s.toNat ∧ XI μ' n N (fset ow s.toNat f) m p ∧ μ' 1 = μ 1)) (fun q uu => ∃ μ', uu = (gw 105 XSh cy b μ' ++ E) ∧ ((q = xIO ∧ ¬ StOK n s) ∧ μ' = μ)) := by
  obtain ⟨x1, x2, x3, x4, x5, x6, x7⟩ := id hX
  refine CV.walk hfl (by decide) (Nat.le_of_ble_eq_true rfl) ?_
  intro A J hJ
  show J (gw 105 XSh cy b μ ++ E) 0 0 0 [(0, .ref (b 0)), (1, .int (zI s)), (2, .int (zI f))] []
  refine j_aload_n hJ (j := 0) rfl rfl dX4_setOneWay_0 ?_
  refine j_iload_n hJ (j := 1) rfl rfl dX4_setOneWay_1 ?_
  refine j_callVX0 hJ (c_X4_checkStreet hfl (n := n) hsR x1 x2) mx_X4_51 k_X4_checkStreet (q0 := 0) (by rw [gw_get (by decide)]; rfl) rfl ⟨(Nat.le_of_ble_eq_true rfl), (Nat.le_of_ble_eq_true rfl)⟩ ⟨(Nat.le_of_ble_eq_true rfl), (Nat.le_of_ble_eq_true rfl)⟩ (Nat.le_of_ble_eq_true rfl) dX4_setOneWay_2 (by rintro q u ⟨_, rfl, ⟨rfl, h⟩, rfl⟩; exact ⟨_, rfl, ⟨rfl, h⟩, rfl⟩) rfl ?_
  intro v1 u2 hv3
  obtain ⟨rfl, rfl, hs⟩ := hv3
  show J (gw 105 XSh cy b μ ++ E) 1 6 5 [(0, .ref (b 0)), (1, .int (zI s)), (2, .int (zI f))] []
  have hs1 := hs.1
  have hs2 := hs.2
  have hs16 : s.toNat < 16 := by omega
  refine j_aload_n hJ (j := 0) rfl rfl dX4_setOneWay_5 ?_
  refine w_getr hJ (by omega) rfl rfl f_X4_15 dX4_setOneWay_6 ?_
  refine j_iload_n hJ (j := 1) rfl rfl dX4_setOneWay_9 ?_
  refine w_aald hJ (by omega) rfl (by decide) (by omega) (by omega) dX4_setOneWay_10 ?_
  refine w_geti hJ (fi := 2) rfl (by omega) (XS0 _) rfl f_X4_89 dX4_setOneWay_11 ?_
  refine j_topi (y := zI (ow s.toNat)) (by rw [(x5 _ hs16).1]) ?_
  refine j_istore_n hJ (lv' := [(3, .int (zI (ow s.toNat))), (0, .ref (b 0)), (1, .int (zI s)), (2, .int (zI f))]) rfl (by decide) rfl dX4_setOneWay_14 ?_
  refine j_aload_n hJ (j := 1) rfl rfl dX4_setOneWay_15 ?_
  refine w_getr hJ (by omega) rfl rfl f_X4_15 dX4_setOneWay_16 ?_
  refine j_iload_n hJ (j := 2) rfl rfl dX4_setOneWay_19 ?_
  refine w_aald hJ (by omega) rfl (by decide) (by omega) (by omega) dX4_setOneWay_20 ?_
  refine j_iload_n hJ (j := 3) rfl rfl dX4_setOneWay_21 ?_
  refine w_puti hJ (fi := 2) rfl (by omega) (XS0 _) rfl f_X4_89 (by rcases hf with rfl | rfl <;> rfl) (by rcases hf with rfl | rfl <;> decide) dX4_setOneWay_22 ?_
  intro μ1 hμ1
  have hM := hμ1
  refine j_iload_n hJ (j := 0) rfl rfl dX4_setOneWay_25 ?_
  refine j_iret hJ rfl rfl (by rcases (x5 _ hs16).2 with e | e <;> rw [e] <;> rfl) (Nat.le_of_ble_eq_true rfl) (Nat.le_of_ble_eq_true rfl) dX4_setOneWay_26 ⟨(ow s.toNat), μ1, rfl, rfl, ?_⟩
  refine ⟨hs, rfl, ?_⟩
  rw [hM]
  have e : ∀ a, a ≠ 9 + 6 * s.toNat → up μ (9 + 6 * s.toNat) 2 f a = μ a := fun a ha => up_rowf ha
  refine ⟨⟨by rw [e 0 (by omega)]; exact x1, x2, by rw [e 1 (by omega)]; exact x3, fun j hj => (x4 j hj).same (up_at (by omega)) (e _ (by omega)), fun j hj => ?_, fun j hj => (x6 j hj).same (e _ (by omega)) (e _ (by omega)) (e _ (by omega)) (e _ (by omega)), fun j hj => by rw [fset_ne (by omega)]; exact x7 j hj⟩, e 1 (by omega)⟩
  by_cases g : j = s.toNat
  · subst g; rw [fset_at, up_self]; exact ⟨rfl, hf⟩
  · rw [fset_ne g, e _ (by omega)]; exact x5 j hj
set_option maxHeartbeats 4000000 in
set_option maxRecDepth 100000 in
theorem c_X4_rename {μ : Nat → Int → Int} {n : Nat} {N : Nat → List Int} {ow : Nat → Int} {m : Nat → Nat} {p : Nat → Nat → Int} {s w z : Int} (hfl : l.stackTraces = false) (hX : XI μ n N ow m p) (hsR : -2147483648 ≤ s ∧ s < 2147483648) (hwR : -2147483648 ≤ w ∧ w < 2147483648) : CV l D cy n0 ad yX4_rename (.code yX4_rename cX4_rename 4 none) ({ frames := 7, cells := 2, slots := 12, locals := 104 }) [.ref (b 0), .int (zI s), .int (zI w), .int (zI z)] (gw 105 XSh cy b μ ++ E) (fun vv uu => ∃ μ', vv = none ∧ uu = (gw 105 XSh cy b μ' ++ E) ∧ (StOK n s ∧ NmOK w z ∧ XI μ' n (fset N s.toNat (nameL z w.toNat)) ow m p ∧ μ' 1 = μ 1)) (fun q uu => ∃ μ', uu = (gw 105 XSh cy b μ' ++ E) ∧ (((q = xIO ∧ ¬ StOK n s) ∨ (q = xIA ∧ StOK n s ∧ ¬ NmOK w z)) ∧ μ' = μ)) := by
  obtain ⟨x1, x2, x3, x4, x5, x6, x7⟩ := id hX
  refine CV.walk hfl (by decide) (Nat.le_of_ble_eq_true rfl) ?_
  intro A J hJ
  show J (gw 105 XSh cy b μ ++ E) 0 0 0 [(0, .ref (b 0)), (1, .int (zI s)), (2, .int (zI w)), (3, .int (zI z))] []
  refine j_aload_n hJ (j := 0) rfl rfl dX4_rename_0 ?_
  refine j_iload_n hJ (j := 1) rfl rfl dX4_rename_1 ?_
  refine j_callVX0 hJ (c_X4_checkStreet hfl (n := n) hsR x1 x2) mx_X4_51 k_X4_checkStreet (q0 := 0) (by rw [gw_get (by decide)]; rfl) rfl ⟨(Nat.le_of_ble_eq_true rfl), (Nat.le_of_ble_eq_true rfl)⟩ ⟨(Nat.le_of_ble_eq_true rfl), (Nat.le_of_ble_eq_true rfl)⟩ (Nat.le_of_ble_eq_true rfl) dX4_rename_2 (by rintro q u ⟨_, rfl, ⟨rfl, h⟩, rfl⟩; exact ⟨_, rfl, Or.inl ⟨rfl, h⟩, rfl⟩) rfl ?_
  intro v1 u2 hv3
  obtain ⟨rfl, rfl, hs⟩ := hv3
  show J (gw 105 XSh cy b μ ++ E) 1 6 5 [(0, .ref (b 0)), (1, .int (zI s)), (2, .int (zI w)), (3, .int (zI z))] []
  have hs1 := hs.1
  have hs2 := hs.2
  have hs16 : s.toNat < 16 := by omega
  refine j_iload_n hJ (j := 2) rfl rfl dX4_rename_5 ?_
  refine j_iload_n hJ (j := 3) rfl rfl dX4_rename_6 ?_
  refine j_callSX0 hJ (c_X4_checkName hfl hwR) mx_X4_33 k_X4_checkName ⟨(Nat.le_of_ble_eq_true rfl), (Nat.le_of_ble_eq_true rfl)⟩ ⟨(Nat.le_of_ble_eq_true rfl), (Nat.le_of_ble_eq_true rfl)⟩ (Nat.le_of_ble_eq_true rfl) dX4_rename_7 (by rintro q u ⟨_, rfl, ⟨rfl, h⟩, rfl⟩; exact ⟨_, rfl, Or.inr ⟨rfl, hs, h⟩, rfl⟩) rfl ?_
  intro v4 u5 hv6
  obtain ⟨rfl, rfl, hN⟩ := hv6
  show J (gw 105 XSh cy b μ ++ E) 2 12 10 [(0, .ref (b 0)), (1, .int (zI s)), (2, .int (zI w)), (3, .int (zI z))] []
  have hw1 := hN.1
  refine j_aload_n hJ (j := 0) rfl rfl dX4_rename_10 ?_
  refine w_getr hJ (by omega) rfl rfl f_X4_15 dX4_rename_11 ?_
  refine j_iload_n hJ (j := 1) rfl rfl dX4_rename_14 ?_
  refine w_aald hJ (by omega) rfl (by decide) (by omega) (by omega) dX4_rename_15 ?_
  refine j_iload_n hJ (j := 2) rfl rfl dX4_rename_16 ?_
  refine j_topi (y := zI (w.toNat : Int)) (by rw [Int.toNat_of_nonneg (by omega)]) ?_
  refine j_iload_n hJ (j := 3) rfl rfl dX4_rename_17 ?_
  refine j_callV0 hJ (c_X0_takeName hfl (i := s.toNat) (cn := w.toNat) hs16 (by omega) (fun k hk => hN.2 k (by omega))) m_X4_48 k_X0_takeName (q0 := 9 + 6 * s.toNat) (by rw [gw_get (by omega), XS0]; rfl) rfl ⟨(Nat.le_of_ble_eq_true rfl), (Nat.le_of_ble_eq_true rfl)⟩ ⟨(Nat.le_of_ble_eq_true rfl), (Nat.le_of_ble_eq_true rfl)⟩ (Nat.le_of_ble_eq_true rfl) dX4_rename_18 rfl ?_
  intro v7 u8 hv9
  obtain ⟨μ1, rfl, rfl, h18⟩ := hv9
  show J (gw 105 XSh cy b μ1 ++ E) 2 12 21 [(0, .ref (b 0)), (1, .int (zI s)), (2, .int (zI w)), (3, .int (zI z))] []
  refine j_vret hJ rfl rfl (Nat.le_of_ble_eq_true rfl) (Nat.le_of_ble_eq_true rfl) dX4_rename_21 ⟨μ1, rfl, rfl, ?_⟩
  exact ⟨hs, hN, hX.setN (by omega) h18.2.1 h18.2.2 h18.1, h18.2.1 1 (by omega) (by omega)⟩
set_option maxHeartbeats 4000000 in
set_option maxRecDepth 100000 in
theorem c_X4_setKind {μ : Nat → Int → Int} {n : Nat} {N : Nat → List Int} {ow : Nat → Int} {m : Nat → Nat} {p : Nat → Nat → Int} {w k : Int} (hfl : l.stackTraces = false) (hX : XI μ n N ow m p) (hwR : -2147483648 ≤ w ∧ w < 2147483648) (hkR : -2147483648 ≤ k ∧ k < 2147483648) : CV l D cy n0 ad yX4_setKind (.code yX4_setKind cX4_setKind 4 (some .int)) ({ frames := 6, cells := 1, slots := 6, locals := 82 }) [.ref (b 0), .int (zI w), .int (zI k)] (gw 105 XSh cy b μ ++ E) (fun vv uu => ∃ q μ', vv = some (.int (zI q)) ∧ uu = (gw 105 XSh cy b μ' ++ E) ∧ ((0 ≤ w ∧ w < 24) ∧ (0 ≤ k ∧ k ≤ 2) ∧ q = μ 1 w ∧ XI μ' n N ow m p ∧ ∀ j, μ' 1 j = if j = w then k else μ 1 j)) (fun q uu => ∃ μ', uu = (gw 105 XSh cy b μ' ++ E) ∧ (((q = xIO ∧ ¬ (0 ≤ w ∧ w < 24)) ∨ (q = xIA ∧ (0 ≤ w ∧ w < 24) ∧ ¬ (0 ≤ k ∧ k ≤ 2))) ∧ μ' = μ)) := by
  obtain ⟨x1, x2, x3, x4, x5, x6, x7⟩ := id hX
  refine CV.walk hfl (by decide) (Nat.le_of_ble_eq_true rfl) ?_
  intro A J hJ
  show J (gw 105 XSh cy b μ ++ E) 0 0 0 [(0, .ref (b 0)), (1, .int (zI w)), (2, .int (zI k))] []
  refine j_iload_n hJ (j := 1) rfl rfl dX4_setKind_0 ?_
  refine j_if_lt hJ (tgt := 10) ⟨by omega, by omega⟩ (by decide) dX4_setKind_1 ?_ ?_
  · intro h1
    refine j_throw hJ tf_ioobe (is := 95) (tx := "no such word") (by decide) (Nat.le_of_ble_eq_true rfl) (Nat.le_of_ble_eq_true rfl) ⟨(Nat.le_of_ble_eq_true rfl), (Nat.le_of_ble_eq_true rfl)⟩ dX4_setKind_10 dX4_setKind_13 dX4_setKind_14 dX4_setKind_16 dX4_setKind_19 ⟨μ, rfl, ?_⟩
    exact ⟨Or.inl ⟨rfl, by omega⟩, rfl⟩
  · intro h1
    refine j_iload_n hJ (j := 1) rfl rfl dX4_setKind_4 ?_
    refine j_bipush hJ (v := 24) (by decide) dX4_setKind_5 ?_
    refine j_icmp_lt hJ (tgt := 20) ⟨by omega, by omega⟩ ⟨by omega, by omega⟩ (by decide) dX4_setKind_7 ?_ ?_
    · intro h7
      refine j_iload_n hJ (j := 2) rfl rfl dX4_setKind_20 ?_
      refine j_if_lt hJ (tgt := 29) ⟨by omega, by omega⟩ (by decide) dX4_setKind_21 ?_ ?_
      · intro h21
        refine j_throw hJ tf_iae (is := 98) (tx := "no such kind") (by decide) (Nat.le_of_ble_eq_true rfl) (Nat.le_of_ble_eq_true rfl) ⟨(Nat.le_of_ble_eq_true rfl), (Nat.le_of_ble_eq_true rfl)⟩ dX4_setKind_29 dX4_setKind_32 dX4_setKind_33 dX4_setKind_35 dX4_setKind_38 ⟨μ, rfl, ?_⟩
        exact ⟨Or.inr ⟨rfl, by omega, by omega⟩, rfl⟩
      · intro h21
        refine j_iload_n hJ (j := 2) rfl rfl dX4_setKind_24 ?_
        refine j_iconst hJ dX4_setKind_25 ?_
        refine j_icmp_le hJ (tgt := 39) ⟨by omega, by omega⟩ ⟨by omega, by omega⟩ (by decide) dX4_setKind_26 ?_ ?_
        · intro h26
          refine j_aload_n hJ (j := 0) rfl rfl dX4_setKind_39 ?_
          refine w_getr hJ (by omega) rfl rfl f_X4_9 dX4_setKind_40 ?_
          refine j_iload_n hJ (j := 1) rfl rfl dX4_setKind_43 ?_
          refine w_iald hJ (by omega) rfl (by first | decide | omega) (by omega) (by omega) dX4_setKind_44 ?_
          refine j_istore_n hJ (lv' := [(3, .int (zI (μ 1 w))), (0, .ref (b 0)), (1, .int (zI w)), (2, .int (zI k))]) rfl (by decide) rfl dX4_setKind_45 ?_
          refine j_aload_n hJ (j := 1) rfl rfl dX4_setKind_46 ?_
          refine w_getr hJ (by omega) rfl rfl f_X4_9 dX4_setKind_47 ?_
          refine j_iload_n hJ (j := 2) rfl rfl dX4_setKind_50 ?_
          refine j_iload_n hJ (j := 3) rfl rfl dX4_setKind_51 ?_
          refine w_iast hJ (by omega) rfl (by first | decide | omega) (by omega) (by omega) dX4_setKind_52 ?_
          intro μ1 hμ1
          have hM := hμ1
          refine j_iload_n hJ (j := 0) rfl rfl dX4_setKind_53 ?_
          refine j_iret hJ rfl rfl (rfl) (Nat.le_of_ble_eq_true rfl) (Nat.le_of_ble_eq_true rfl) dX4_setKind_54 ⟨(μ 1 w), μ1, rfl, rfl, ?_⟩
          rw [hM]
          have e : ∀ a, a ≠ 1 → up μ 1 w k a = μ a := fun a ha => up_rowf ha
          have e1 : ∀ j, up μ 1 w k 1 j = if j = w then k else μ 1 j := fun j => by unfold up; simp
          refine ⟨by omega, by omega, rfl, ⟨by rw [e 0 (by omega)]; exact x1, x2, fun j j0 j1 => ?_, fun j hj => (x4 j hj).same (by rw [e _ (by omega)]) (e _ (by omega)), fun j hj => by rw [e _ (by omega)]; exact x5 j hj, fun j hj => (x6 j hj).same (e _ (by omega)) (e _ (by omega)) (e _ (by omega)) (e _ (by omega)), x7⟩, e1⟩
          rw [e1]
          split
          · omega
          · exact x3 j j0 j1
        · intro h26
          refine j_throw hJ tf_iae (is := 98) (tx := "no such kind") (by decide) (Nat.le_of_ble_eq_true rfl) (Nat.le_of_ble_eq_true rfl) ⟨(Nat.le_of_ble_eq_true rfl), (Nat.le_of_ble_eq_true rfl)⟩ dX4_setKind_29 dX4_setKind_32 dX4_setKind_33 dX4_setKind_35 dX4_setKind_38 ⟨μ, rfl, ?_⟩
          exact ⟨Or.inr ⟨rfl, by omega, by omega⟩, rfl⟩
    · intro h7
      refine j_throw hJ tf_ioobe (is := 95) (tx := "no such word") (by decide) (Nat.le_of_ble_eq_true rfl) (Nat.le_of_ble_eq_true rfl) ⟨(Nat.le_of_ble_eq_true rfl), (Nat.le_of_ble_eq_true rfl)⟩ dX4_setKind_10 dX4_setKind_13 dX4_setKind_14 dX4_setKind_16 dX4_setKind_19 ⟨μ, rfl, ?_⟩
      exact ⟨Or.inl ⟨rfl, by omega⟩, rfl⟩
set_option maxHeartbeats 4000000 in
set_option maxRecDepth 100000 in
theorem c_X4_streets {μ : Nat → Int → Int} {n : Nat} {N : Nat → List Int} {ow : Nat → Int} {m : Nat → Nat} {p : Nat → Nat → Int} (hfl : l.stackTraces = false) (hX : XI μ n N ow m p) : CT l D cy n0 ad yX4_streets (.code yX4_streets cX4_streets 1 (some .int)) ({ frames := 0, cells := 0, slots := 0, locals := 0 }) [.ref (b 0)] (gw 105 XSh cy b μ ++ E) (fun vv uu => ∃ q, vv = some (.int (zI q)) ∧ uu = (gw 105 XSh cy b μ ++ E) ∧ (q = n)) := by
  obtain ⟨x1, x2, x3, x4, x5, x6, x7⟩ := id hX
  refine CT.walk hfl (by decide) (Nat.le_of_ble_eq_true rfl) ?_
  intro A J hJ
  show J (gw 105 XSh cy b μ ++ E) 0 0 0 [(0, .ref (b 0))] []
  refine j_aload_n hJ (j := 0) rfl rfl dX4_streets_0 ?_
  refine w_geti hJ (fi := 2) rfl (by omega) rfl rfl f_X4_37 dX4_streets_1 ?_
  refine j_iret hJ rfl rfl (rfl) (Nat.le_of_ble_eq_true rfl) (Nat.le_of_ble_eq_true rfl) dX4_streets_4 ⟨(μ 0 2), rfl, rfl, ?_⟩
  exact x1
set_option maxHeartbeats 4000000 in
set_option maxRecDepth 100000 in
theorem c_X4_trackLength {μ : Nat → Int → Int} {n : Nat} {N : Nat → List Int} {ow : Nat → Int} {m : Nat → Nat} {p : Nat → Nat → Int} {s : Int} (hfl : l.stackTraces = false) (hX : XI μ n N ow m p) (hsR : -2147483648 ≤ s ∧ s < 2147483648) : CV l D cy n0 ad yX4_trackLength (.code yX4_trackLength cX4_trackLength 2 (some .int)) ({ frames := 7, cells := 1, slots := 6, locals := 103 }) [.ref (b 0), .int (zI s)] (gw 105 XSh cy b μ ++ E) (fun vv uu => ∃ q, vv = some (.int (zI q)) ∧ uu = (gw 105 XSh cy b μ ++ E) ∧ (StOK n s ∧ q = ((trk (p s.toNat) (m s.toNat)).length : Nat))) (fun q uu => ∃ μ', uu = (gw 105 XSh cy b μ' ++ E) ∧ ((q = xIO ∧ ¬ StOK n s) ∧ μ' = μ)) := by
  obtain ⟨x1, x2, x3, x4, x5, x6, x7⟩ := id hX
  refine CV.walk hfl (by decide) (Nat.le_of_ble_eq_true rfl) ?_
  intro A J hJ
  show J (gw 105 XSh cy b μ ++ E) 0 0 0 [(0, .ref (b 0)), (1, .int (zI s))] []
  refine j_aload_n hJ (j := 0) rfl rfl dX4_trackLength_0 ?_
  refine j_iload_n hJ (j := 1) rfl rfl dX4_trackLength_1 ?_
  refine j_callVX0 hJ (c_X4_checkStreet hfl (n := n) hsR x1 x2) mx_X4_51 k_X4_checkStreet (q0 := 0) (by rw [gw_get (by decide)]; rfl) rfl ⟨(Nat.le_of_ble_eq_true rfl), (Nat.le_of_ble_eq_true rfl)⟩ ⟨(Nat.le_of_ble_eq_true rfl), (Nat.le_of_ble_eq_true rfl)⟩ (Nat.le_of_ble_eq_true rfl) dX4_trackLength_2 (by rintro q u ⟨_, rfl, ⟨rfl, h⟩, rfl⟩; exact ⟨_, rfl, ⟨rfl, h⟩, rfl⟩) rfl ?_
  intro v1 u2 hv3
  obtain ⟨rfl, rfl, hs⟩ := hv3
  show J (gw 105 XSh cy b μ ++ E) 1 6 5 [(0, .ref (b 0)), (1, .int (zI s))] []
  have hs1 := hs.1
  have hs2 := hs.2
  have hs16 : s.toNat < 16 := by omega
  refine j_aload_n hJ (j := 0) rfl rfl dX4_trackLength_5 ?_
  refine w_getr hJ (by omega) rfl rfl f_X4_15 dX4_trackLength_6 ?_
  refine j_iload_n hJ (j := 1) rfl rfl dX4_trackLength_9 ?_
  refine w_aald hJ (by omega) rfl (by decide) (by omega) (by omega) dX4_trackLength_10 ?_
  refine w_getr hJ (by omega) (XS0 _) rfl f_X4_58 dX4_trackLength_11 ?_
  refine w_geti hJ (fi := 1) rfl (by omega) (XS2 _) rfl f_X4_81 dX4_trackLength_14 ?_
  refine j_iret hJ rfl rfl (rfl) (Nat.le_of_ble_eq_true rfl) (Nat.le_of_ble_eq_true rfl) dX4_trackLength_17 ⟨(μ (9 + 6 * s.toNat + 2) 1), rfl, rfl, ?_⟩
  exact ⟨hs, (x6 _ hs16).1.1⟩
set_option maxHeartbeats 4000000 in
set_option maxRecDepth 100000 in
theorem c_X4_squares {μ : Nat → Int → Int} {n : Nat} {N : Nat → List Int} {ow : Nat → Int} {m : Nat → Nat} {p : Nat → Nat → Int} {s : Int} (hfl : l.stackTraces = false) (hX : XI μ n N ow m p) (hsR : -2147483648 ≤ s ∧ s < 2147483648) : CV l D cy n0 ad yX4_squares (.code yX4_squares cX4_squares 2 (some .int)) ({ frames := 7, cells := 1, slots := 6, locals := 103 }) [.ref (b 0), .int (zI s)] (gw 105 XSh cy b μ ++ E) (fun vv uu => ∃ q, vv = some (.int (zI q)) ∧ uu = (gw 105 XSh cy b μ ++ E) ∧ (StOK n s ∧ q = (cntN (fun k => decide ((k : Int) ∈ trk (p s.toNat) (m s.toNat))) 144 : Nat))) (fun q uu => ∃ μ', uu = (gw 105 XSh cy b μ' ++ E) ∧ ((q = xIO ∧ ¬ StOK n s) ∧ μ' = μ)) := by
  obtain ⟨x1, x2, x3, x4, x5, x6, x7⟩ := id hX
  refine CV.walk hfl (by decide) (Nat.le_of_ble_eq_true rfl) ?_
  intro A J hJ
  show J (gw 105 XSh cy b μ ++ E) 0 0 0 [(0, .ref (b 0)), (1, .int (zI s))] []
  refine j_aload_n hJ (j := 0) rfl rfl dX4_squares_0 ?_
  refine j_iload_n hJ (j := 1) rfl rfl dX4_squares_1 ?_
  refine j_callVX0 hJ (c_X4_checkStreet hfl (n := n) hsR x1 x2) mx_X4_51 k_X4_checkStreet (q0 := 0) (by rw [gw_get (by decide)]; rfl) rfl ⟨(Nat.le_of_ble_eq_true rfl), (Nat.le_of_ble_eq_true rfl)⟩ ⟨(Nat.le_of_ble_eq_true rfl), (Nat.le_of_ble_eq_true rfl)⟩ (Nat.le_of_ble_eq_true rfl) dX4_squares_2 (by rintro q u ⟨_, rfl, ⟨rfl, h⟩, rfl⟩; exact ⟨_, rfl, ⟨rfl, h⟩, rfl⟩) rfl ?_
  intro v1 u2 hv3
  obtain ⟨rfl, rfl, hs⟩ := hv3
  show J (gw 105 XSh cy b μ ++ E) 1 6 5 [(0, .ref (b 0)), (1, .int (zI s))] []
  have hs1 := hs.1
  have hs2 := hs.2
  have hs16 : s.toNat < 16 := by omega
  refine j_aload_n hJ (j := 0) rfl rfl dX4_squares_5 ?_
  refine w_getr hJ (by omega) rfl rfl f_X4_15 dX4_squares_6 ?_
  refine j_iload_n hJ (j := 1) rfl rfl dX4_squares_9 ?_
  refine w_aald hJ (by omega) rfl (by decide) (by omega) (by omega) dX4_squares_10 ?_
  refine w_getr hJ (by omega) (XS0 _) rfl f_X4_58 dX4_squares_11 ?_
  refine j_callV0 hJ (c_X1_countSquares hfl (i := s.toNat) (On := fun x => decide (x ∈ trk (p s.toNat) (m s.toNat))) hs16 ((x6 _ hs16).1.2.2.2.2.iff (fun x _ _ => by simp))) m_X4_125 k_X1_countSquares (q0 := 9 + 6 * s.toNat + 2) (by rw [gw_get (by omega), XS2]; rfl) rfl ⟨(Nat.le_of_ble_eq_true rfl), (Nat.le_of_ble_eq_true rfl)⟩ ⟨(Nat.le_of_ble_eq_true rfl), (Nat.le_of_ble_eq_true rfl)⟩ (Nat.le_of_ble_eq_true rfl) dX4_squares_14 rfl ?_
  intro v4 u5 hv6
  obtain ⟨q14, rfl, rfl, h14⟩ := hv6
  show J (gw 105 XSh cy b μ ++ E) 1 6 17 [(0, .ref (b 0)), (1, .int (zI s))] [.int (zI q14)]
  refine j_iret hJ rfl rfl (rfl) (Nat.le_of_ble_eq_true rfl) (Nat.le_of_ble_eq_true rfl) dX4_squares_17 ⟨q14, rfl, rfl, ?_⟩
  exact ⟨hs, h14⟩
set_option maxHeartbeats 4000000 in
set_option maxRecDepth 100000 in
theorem c_X4_runs {μ : Nat → Int → Int} {n : Nat} {N : Nat → List Int} {ow : Nat → Int} {m : Nat → Nat} {p : Nat → Nat → Int} {s : Int} (hfl : l.stackTraces = false) (hX : XI μ n N ow m p) (hsR : -2147483648 ≤ s ∧ s < 2147483648) : CV l D cy n0 ad yX4_runs (.code yX4_runs cX4_runs 2 (some .int)) ({ frames := 7, cells := 1, slots := 6, locals := 103 }) [.ref (b 0), .int (zI s)] (gw 105 XSh cy b μ ++ E) (fun vv uu => ∃ q, vv = some (.int (zI q)) ∧ uu = (gw 105 XSh cy b μ ++ E) ∧ (StOK n s ∧ q = (cntN (fun k => decide ((k : Int) ∈ trk (p s.toNat) (m s.toNat)) && (k % 12 == 0 || !decide ((k : Int) - 1 ∈ trk (p s.toNat) (m s.toNat)))) 144 : Nat))) (fun q uu => ∃ μ', uu = (gw 105 XSh cy b μ' ++ E) ∧ ((q = xIO ∧ ¬ StOK n s) ∧ μ' = μ)) := by
  obtain ⟨x1, x2, x3, x4, x5, x6, x7⟩ := id hX
  refine CV.walk hfl (by decide) (Nat.le_of_ble_eq_true rfl) ?_
  intro A J hJ
  show J (gw 105 XSh cy b μ ++ E) 0 0 0 [(0, .ref (b 0)), (1, .int (zI s))] []
  refine j_aload_n hJ (j := 0) rfl rfl dX4_runs_0 ?_
  refine j_iload_n hJ (j := 1) rfl rfl dX4_runs_1 ?_
  refine j_callVX0 hJ (c_X4_checkStreet hfl (n := n) hsR x1 x2) mx_X4_51 k_X4_checkStreet (q0 := 0) (by rw [gw_get (by decide)]; rfl) rfl ⟨(Nat.le_of_ble_eq_true rfl), (Nat.le_of_ble_eq_true rfl)⟩ ⟨(Nat.le_of_ble_eq_true rfl), (Nat.le_of_ble_eq_true rfl)⟩ (Nat.le_of_ble_eq_true rfl) dX4_runs_2 (by rintro q u ⟨_, rfl, ⟨rfl, h⟩, rfl⟩; exact ⟨_, rfl, ⟨rfl, h⟩, rfl⟩) rfl ?_
  intro v1 u2 hv3
  obtain ⟨rfl, rfl, hs⟩ := hv3
  show J (gw 105 XSh cy b μ ++ E) 1 6 5 [(0, .ref (b 0)), (1, .int (zI s))] []
  have hs1 := hs.1
  have hs2 := hs.2
  have hs16 : s.toNat < 16 := by omega
  refine j_aload_n hJ (j := 0) rfl rfl dX4_runs_5 ?_
  refine w_getr hJ (by omega) rfl rfl f_X4_15 dX4_runs_6 ?_
  refine j_iload_n hJ (j := 1) rfl rfl dX4_runs_9 ?_
  refine w_aald hJ (by omega) rfl (by decide) (by omega) (by omega) dX4_runs_10 ?_
  refine w_getr hJ (by omega) (XS0 _) rfl f_X4_58 dX4_runs_11 ?_
  refine j_callV0 hJ (c_X1_countRuns hfl (i := s.toNat) (On := fun x => decide (x ∈ trk (p s.toNat) (m s.toNat))) hs16 ((x6 _ hs16).1.2.2.2.2.iff (fun x _ _ => by simp))) m_X4_128 k_X1_countRuns (q0 := 9 + 6 * s.toNat + 2) (by rw [gw_get (by omega), XS2]; rfl) rfl ⟨(Nat.le_of_ble_eq_true rfl), (Nat.le_of_ble_eq_true rfl)⟩ ⟨(Nat.le_of_ble_eq_true rfl), (Nat.le_of_ble_eq_true rfl)⟩ (Nat.le_of_ble_eq_true rfl) dX4_runs_14 rfl ?_
  intro v4 u5 hv6
  obtain ⟨q14, rfl, rfl, h14⟩ := hv6
  show J (gw 105 XSh cy b μ ++ E) 1 6 17 [(0, .ref (b 0)), (1, .int (zI s))] [.int (zI q14)]
  refine j_iret hJ rfl rfl (rfl) (Nat.le_of_ble_eq_true rfl) (Nat.le_of_ble_eq_true rfl) dX4_runs_17 ⟨q14, rfl, rfl, ?_⟩
  exact ⟨hs, h14⟩
set_option maxHeartbeats 4000000 in
set_option maxRecDepth 100000 in
theorem c_X4_isOn {μ : Nat → Int → Int} {n : Nat} {N : Nat → List Int} {ow : Nat → Int} {m : Nat → Nat} {p : Nat → Nat → Int} {s c r : Int} (hfl : l.stackTraces = false) (hX : XI μ n N ow m p) (hsR : -2147483648 ≤ s ∧ s < 2147483648) (hcR : -2147483648 ≤ c ∧ c < 2147483648) (hrR : -2147483648 ≤ r ∧ r < 2147483648) : CV l D cy n0 ad yX4_isOn (.code yX4_isOn cX4_isOn 4 (some .boolean)) ({ frames := 7, cells := 2, slots := 12, locals := 103 }) [.ref (b 0), .int (zI s), .int (zI c), .int (zI r)] (gw 105 XSh cy b μ ++ E) (fun vv uu => ∃ q, vv = some (.int (zI q)) ∧ uu = (gw 105 XSh cy b μ ++ E) ∧ ((StOK n s ∧ SqOK c r) ∧ q = (if 12 * c + r ∈ trk (p s.toNat) (m s.toNat) then 1 else 0))) (fun q uu => ∃ μ', uu = (gw 105 XSh cy b μ' ++ E) ∧ ((q = xIO ∧ ¬ (StOK n s ∧ SqOK c r)) ∧ μ' = μ)) := by
  obtain ⟨x1, x2, x3, x4, x5, x6, x7⟩ := id hX
  refine CV.walk hfl (by decide) (Nat.le_of_ble_eq_true rfl) ?_
  intro A J hJ
  show J (gw 105 XSh cy b μ ++ E) 0 0 0 [(0, .ref (b 0)), (1, .int (zI s)), (2, .int (zI c)), (3, .int (zI r))] []
  refine j_aload_n hJ (j := 0) rfl rfl dX4_isOn_0 ?_
  refine j_iload_n hJ (j := 1) rfl rfl dX4_isOn_1 ?_
  refine j_callVX0 hJ (c_X4_checkStreet hfl (n := n) hsR x1 x2) mx_X4_51 k_X4_checkStreet (q0 := 0) (by rw [gw_get (by decide)]; rfl) rfl ⟨(Nat.le_of_ble_eq_true rfl), (Nat.le_of_ble_eq_true rfl)⟩ ⟨(Nat.le_of_ble_eq_true rfl), (Nat.le_of_ble_eq_true rfl)⟩ (Nat.le_of_ble_eq_true rfl) dX4_isOn_2 (by rintro q u ⟨_, rfl, ⟨rfl, h⟩, rfl⟩; exact ⟨_, rfl, ⟨rfl, fun g => h g.1⟩, rfl⟩) rfl ?_
  intro v1 u2 hv3
  obtain ⟨rfl, rfl, hs⟩ := hv3
  show J (gw 105 XSh cy b μ ++ E) 1 6 5 [(0, .ref (b 0)), (1, .int (zI s)), (2, .int (zI c)), (3, .int (zI r))] []
  have hs1 := hs.1
  have hs2 := hs.2
  have hs16 : s.toNat < 16 := by omega
  refine j_iload_n hJ (j := 2) rfl rfl dX4_isOn_5 ?_
  refine j_iload_n hJ (j := 3) rfl rfl dX4_isOn_6 ?_
  refine j_callSX0 hJ (c_X4_checkSquare hfl hcR hrR) mx_X4_55 k_X4_checkSquare ⟨(Nat.le_of_ble_eq_true rfl), (Nat.le_of_ble_eq_true rfl)⟩ ⟨(Nat.le_of_ble_eq_true rfl), (Nat.le_of_ble_eq_true rfl)⟩ (Nat.le_of_ble_eq_true rfl) dX4_isOn_7 (by rintro q u ⟨_, rfl, ⟨rfl, h⟩, rfl⟩; exact ⟨_, rfl, ⟨rfl, fun g => h g.2⟩, rfl⟩) rfl ?_
  intro v4 u5 hv6
  obtain ⟨rfl, rfl, hq⟩ := hv6
  show J (gw 105 XSh cy b μ ++ E) 2 12 10 [(0, .ref (b 0)), (1, .int (zI s)), (2, .int (zI c)), (3, .int (zI r))] []
  have hq1 := hq.1
  have hq2 := hq.2
  refine j_aload_n hJ (j := 0) rfl rfl dX4_isOn_10 ?_
  refine w_getr hJ (by omega) rfl rfl f_X4_15 dX4_isOn_11 ?_
  refine j_iload_n hJ (j := 1) rfl rfl dX4_isOn_14 ?_
  refine w_aald hJ (by omega) rfl (by decide) (by omega) (by omega) dX4_isOn_15 ?_
  refine w_getr hJ (by omega) (XS0 _) rfl f_X4_58 dX4_isOn_16 ?_
  refine j_iload_n hJ (j := 2) rfl rfl dX4_isOn_19 ?_
  refine j_iload_n hJ (j := 3) rfl rfl dX4_isOn_20 ?_
  refine j_callV0 hJ (c_X1_covers hfl (i := s.toNat) (On := fun x => x ∈ trk (p s.toNat) (m s.toNat)) hs16 hq1 hq2 (x6 _ hs16).1.2.2.2.2) m_X4_131 k_X1_covers (q0 := 9 + 6 * s.toNat + 2) (by rw [gw_get (by omega), XS2]; rfl) rfl ⟨(Nat.le_of_ble_eq_true rfl), (Nat.le_of_ble_eq_true rfl)⟩ ⟨(Nat.le_of_ble_eq_true rfl), (Nat.le_of_ble_eq_true rfl)⟩ (Nat.le_of_ble_eq_true rfl) dX4_isOn_21 rfl ?_
  intro v7 u8 hv9
  obtain ⟨q21, rfl, rfl, h21⟩ := hv9
  show J (gw 105 XSh cy b μ ++ E) 2 12 24 [(0, .ref (b 0)), (1, .int (zI s)), (2, .int (zI c)), (3, .int (zI r))] [.int (zI q21)]
  have hb := b01 h21
  refine j_iret hJ rfl rfl (by rcases hb with e | e <;> rw [e] <;> rfl) (Nat.le_of_ble_eq_true rfl) (Nat.le_of_ble_eq_true rfl) dX4_isOn_24 ⟨q21, rfl, rfl, ?_⟩
  refine ⟨⟨hs, hq⟩, ?_⟩
  split
  · rename_i g; exact h21.1 g
  · rename_i g; exact h21.2 g
set_option maxHeartbeats 4000000 in
set_option maxRecDepth 100000 in
theorem c_X4_isOnTrack {μ : Nat → Int → Int} {n : Nat} {N : Nat → List Int} {ow : Nat → Int} {m : Nat → Nat} {p : Nat → Nat → Int} {s c r : Int} (hfl : l.stackTraces = false) (hX : XI μ n N ow m p) (hsR : -2147483648 ≤ s ∧ s < 2147483648) (hcR : -2147483648 ≤ c ∧ c < 2147483648) (hrR : -2147483648 ≤ r ∧ r < 2147483648) : CV l D cy n0 ad yX4_isOnTrack (.code yX4_isOnTrack cX4_isOnTrack 4 (some .boolean)) ({ frames := 7, cells := 2, slots := 12, locals := 103 }) [.ref (b 0), .int (zI s), .int (zI c), .int (zI r)] (gw 105 XSh cy b μ ++ E) (fun vv uu => ∃ q, vv = some (.int (zI q)) ∧ uu = (gw 105 XSh cy b μ ++ E) ∧ ((StOK n s ∧ SqOK c r) ∧ q = (if 12 * c + r ∈ trk (p s.toNat) (m s.toNat) then 1 else 0))) (fun q uu => ∃ μ', uu = (gw 105 XSh cy b μ' ++ E) ∧ ((q = xIO ∧ ¬ (StOK n s ∧ SqOK c r)) ∧ μ' = μ)) := by
  obtain ⟨x1, x2, x3, x4, x5, x6, x7⟩ := id hX
  refine CV.walk hfl (by decide) (Nat.le_of_ble_eq_true rfl) ?_
  intro A J hJ
  show J (gw 105 XSh cy b μ ++ E) 0 0 0 [(0, .ref (b 0)), (1, .int (zI s)), (2, .int (zI c)), (3, .int (zI r))] []
  refine j_aload_n hJ (j := 0) rfl rfl dX4_isOnTrack_0 ?_
  refine j_iload_n hJ (j := 1) rfl rfl dX4_isOnTrack_1 ?_
  refine j_callVX0 hJ (c_X4_checkStreet hfl (n := n) hsR x1 x2) mx_X4_51 k_X4_checkStreet (q0 := 0) (by rw [gw_get (by decide)]; rfl) rfl ⟨(Nat.le_of_ble_eq_true rfl), (Nat.le_of_ble_eq_true rfl)⟩ ⟨(Nat.le_of_ble_eq_true rfl), (Nat.le_of_ble_eq_true rfl)⟩ (Nat.le_of_ble_eq_true rfl) dX4_isOnTrack_2 (by rintro q u ⟨_, rfl, ⟨rfl, h⟩, rfl⟩; exact ⟨_, rfl, ⟨rfl, fun g => h g.1⟩, rfl⟩) rfl ?_
  intro v1 u2 hv3
  obtain ⟨rfl, rfl, hs⟩ := hv3
  show J (gw 105 XSh cy b μ ++ E) 1 6 5 [(0, .ref (b 0)), (1, .int (zI s)), (2, .int (zI c)), (3, .int (zI r))] []
  have hs1 := hs.1
  have hs2 := hs.2
  have hs16 : s.toNat < 16 := by omega
  refine j_iload_n hJ (j := 2) rfl rfl dX4_isOnTrack_5 ?_
  refine j_iload_n hJ (j := 3) rfl rfl dX4_isOnTrack_6 ?_
  refine j_callSX0 hJ (c_X4_checkSquare hfl hcR hrR) mx_X4_55 k_X4_checkSquare ⟨(Nat.le_of_ble_eq_true rfl), (Nat.le_of_ble_eq_true rfl)⟩ ⟨(Nat.le_of_ble_eq_true rfl), (Nat.le_of_ble_eq_true rfl)⟩ (Nat.le_of_ble_eq_true rfl) dX4_isOnTrack_7 (by rintro q u ⟨_, rfl, ⟨rfl, h⟩, rfl⟩; exact ⟨_, rfl, ⟨rfl, fun g => h g.2⟩, rfl⟩) rfl ?_
  intro v4 u5 hv6
  obtain ⟨rfl, rfl, hq⟩ := hv6
  show J (gw 105 XSh cy b μ ++ E) 2 12 10 [(0, .ref (b 0)), (1, .int (zI s)), (2, .int (zI c)), (3, .int (zI r))] []
  have hq1 := hq.1
  have hq2 := hq.2
  refine j_aload_n hJ (j := 0) rfl rfl dX4_isOnTrack_10 ?_
  refine w_getr hJ (by omega) rfl rfl f_X4_15 dX4_isOnTrack_11 ?_
  refine j_iload_n hJ (j := 1) rfl rfl dX4_isOnTrack_14 ?_
  refine w_aald hJ (by omega) rfl (by decide) (by omega) (by omega) dX4_isOnTrack_15 ?_
  refine w_getr hJ (by omega) (XS0 _) rfl f_X4_58 dX4_isOnTrack_16 ?_
  refine j_iload_n hJ (j := 2) rfl rfl dX4_isOnTrack_19 ?_
  refine j_iload_n hJ (j := 3) rfl rfl dX4_isOnTrack_20 ?_
  refine j_callS0 hJ (c_X4_squareOf hfl ) m_X4_134 k_X4_squareOf ⟨(Nat.le_of_ble_eq_true rfl), (Nat.le_of_ble_eq_true rfl)⟩ ⟨(Nat.le_of_ble_eq_true rfl), (Nat.le_of_ble_eq_true rfl)⟩ (Nat.le_of_ble_eq_true rfl) dX4_isOnTrack_21 rfl ?_
  intro v7 u8 hv9
  obtain ⟨_, rfl, rfl, rfl⟩ := hv9
  show J (gw 105 XSh cy b μ ++ E) 2 12 24 [(0, .ref (b 0)), (1, .int (zI s)), (2, .int (zI c)), (3, .int (zI r))] [.int (zI (12 * c + r)), .ref (b (9 + 6 * s.toNat + 2))]
  refine j_callV0 hJ (c_X1_comesTo hfl (i := s.toNat) (L := trk (p s.toNat) (m s.toNat)) hs16 (by omega) (x6 _ hs16).1) m_X4_137 k_X1_comesTo (q0 := 9 + 6 * s.toNat + 2) (by rw [gw_get (by omega), XS2]; rfl) rfl ⟨(Nat.le_of_ble_eq_true rfl), (Nat.le_of_ble_eq_true rfl)⟩ ⟨(Nat.le_of_ble_eq_true rfl), (Nat.le_of_ble_eq_true rfl)⟩ (Nat.le_of_ble_eq_true rfl) dX4_isOnTrack_24 rfl ?_
  intro v10 u11 hv12
  obtain ⟨q24, rfl, rfl, h24⟩ := hv12
  show J (gw 105 XSh cy b μ ++ E) 2 12 27 [(0, .ref (b 0)), (1, .int (zI s)), (2, .int (zI c)), (3, .int (zI r))] [.int (zI q24)]
  have hb := b01 h24
  refine j_iret hJ rfl rfl (by rcases hb with e | e <;> rw [e] <;> rfl) (Nat.le_of_ble_eq_true rfl) (Nat.le_of_ble_eq_true rfl) dX4_isOnTrack_27 ⟨q24, rfl, rfl, ?_⟩
  refine ⟨⟨hs, hq⟩, ?_⟩
  split
  · rename_i g; exact h24.1 g
  · rename_i g; exact h24.2 g
set_option maxHeartbeats 4000000 in
set_option maxRecDepth 100000 in
theorem c_X4_nearest {μ : Nat → Int → Int} {n : Nat} {N : Nat → List Int} {ow : Nat → Int} {m : Nat → Nat} {p : Nat → Nat → Int} {s c r : Int} (hfl : l.stackTraces = false) (hX : XI μ n N ow m p) (hsR : -2147483648 ≤ s ∧ s < 2147483648) (hcR : -2147483648 ≤ c ∧ c < 2147483648) (hrR : -2147483648 ≤ r ∧ r < 2147483648) : CV l D cy n0 ad yX4_nearest (.code yX4_nearest cX4_nearest 4 (some .int)) ({ frames := 7, cells := 2, slots := 12, locals := 103 }) [.ref (b 0), .int (zI s), .int (zI c), .int (zI r)] (gw 105 XSh cy b μ ++ E) (fun vv uu => ∃ q, vv = some (.int (zI q)) ∧ uu = (gw 105 XSh cy b μ ++ E) ∧ ((StOK n s ∧ SqOK c r) ∧ IsNear (fun x => x ∈ trk (p s.toNat) (m s.toNat)) c r 144 q)) (fun q uu => ∃ μ', uu = (gw 105 XSh cy b μ' ++ E) ∧ ((q = xIO ∧ ¬ (StOK n s ∧ SqOK c r)) ∧ μ' = μ)) := by
  obtain ⟨x1, x2, x3, x4, x5, x6, x7⟩ := id hX
  refine CV.walk hfl (by decide) (Nat.le_of_ble_eq_true rfl) ?_
  intro A J hJ
  show J (gw 105 XSh cy b μ ++ E) 0 0 0 [(0, .ref (b 0)), (1, .int (zI s)), (2, .int (zI c)), (3, .int (zI r))] []
  refine j_aload_n hJ (j := 0) rfl rfl dX4_nearest_0 ?_
  refine j_iload_n hJ (j := 1) rfl rfl dX4_nearest_1 ?_
  refine j_callVX0 hJ (c_X4_checkStreet hfl (n := n) hsR x1 x2) mx_X4_51 k_X4_checkStreet (q0 := 0) (by rw [gw_get (by decide)]; rfl) rfl ⟨(Nat.le_of_ble_eq_true rfl), (Nat.le_of_ble_eq_true rfl)⟩ ⟨(Nat.le_of_ble_eq_true rfl), (Nat.le_of_ble_eq_true rfl)⟩ (Nat.le_of_ble_eq_true rfl) dX4_nearest_2 (by rintro q u ⟨_, rfl, ⟨rfl, h⟩, rfl⟩; exact ⟨_, rfl, ⟨rfl, fun g => h g.1⟩, rfl⟩) rfl ?_
  intro v1 u2 hv3
  obtain ⟨rfl, rfl, hs⟩ := hv3
  show J (gw 105 XSh cy b μ ++ E) 1 6 5 [(0, .ref (b 0)), (1, .int (zI s)), (2, .int (zI c)), (3, .int (zI r))] []
  have hs1 := hs.1
  have hs2 := hs.2
  have hs16 : s.toNat < 16 := by omega
  refine j_iload_n hJ (j := 2) rfl rfl dX4_nearest_5 ?_
  refine j_iload_n hJ (j := 3) rfl rfl dX4_nearest_6 ?_
  refine j_callSX0 hJ (c_X4_checkSquare hfl hcR hrR) mx_X4_55 k_X4_checkSquare ⟨(Nat.le_of_ble_eq_true rfl), (Nat.le_of_ble_eq_true rfl)⟩ ⟨(Nat.le_of_ble_eq_true rfl), (Nat.le_of_ble_eq_true rfl)⟩ (Nat.le_of_ble_eq_true rfl) dX4_nearest_7 (by rintro q u ⟨_, rfl, ⟨rfl, h⟩, rfl⟩; exact ⟨_, rfl, ⟨rfl, fun g => h g.2⟩, rfl⟩) rfl ?_
  intro v4 u5 hv6
  obtain ⟨rfl, rfl, hq⟩ := hv6
  show J (gw 105 XSh cy b μ ++ E) 2 12 10 [(0, .ref (b 0)), (1, .int (zI s)), (2, .int (zI c)), (3, .int (zI r))] []
  have hq1 := hq.1
  have hq2 := hq.2
  refine j_aload_n hJ (j := 0) rfl rfl dX4_nearest_10 ?_
  refine w_getr hJ (by omega) rfl rfl f_X4_15 dX4_nearest_11 ?_
  refine j_iload_n hJ (j := 1) rfl rfl dX4_nearest_14 ?_
  refine w_aald hJ (by omega) rfl (by decide) (by omega) (by omega) dX4_nearest_15 ?_
  refine w_getr hJ (by omega) (XS0 _) rfl f_X4_58 dX4_nearest_16 ?_
  refine j_iload_n hJ (j := 2) rfl rfl dX4_nearest_19 ?_
  refine j_iload_n hJ (j := 3) rfl rfl dX4_nearest_20 ?_
  refine j_callV0 hJ (c_X1_nearestTo hfl (i := s.toNat) (On := fun x => x ∈ trk (p s.toNat) (m s.toNat)) hs16 hq1 hq2 (x6 _ hs16).1.2.2.2.2) m_X4_141 k_X1_nearestTo (q0 := 9 + 6 * s.toNat + 2) (by rw [gw_get (by omega), XS2]; rfl) rfl ⟨(Nat.le_of_ble_eq_true rfl), (Nat.le_of_ble_eq_true rfl)⟩ ⟨(Nat.le_of_ble_eq_true rfl), (Nat.le_of_ble_eq_true rfl)⟩ (Nat.le_of_ble_eq_true rfl) dX4_nearest_21 rfl ?_
  intro v7 u8 hv9
  obtain ⟨q21, rfl, rfl, h21⟩ := hv9
  show J (gw 105 XSh cy b μ ++ E) 2 12 24 [(0, .ref (b 0)), (1, .int (zI s)), (2, .int (zI c)), (3, .int (zI r))] [.int (zI q21)]
  refine j_iret hJ rfl rfl (rfl) (Nat.le_of_ble_eq_true rfl) (Nat.le_of_ble_eq_true rfl) dX4_nearest_24 ⟨q21, rfl, rfl, ?_⟩
  exact ⟨⟨hs, hq⟩, h21⟩
set_option maxHeartbeats 4000000 in
set_option maxRecDepth 100000 in
theorem c_X4_distance {μ : Nat → Int → Int} {n : Nat} {N : Nat → List Int} {ow : Nat → Int} {m : Nat → Nat} {p : Nat → Nat → Int} {s c r : Int} (hfl : l.stackTraces = false) (hX : XI μ n N ow m p) (hsR : -2147483648 ≤ s ∧ s < 2147483648) (hcR : -2147483648 ≤ c ∧ c < 2147483648) (hrR : -2147483648 ≤ r ∧ r < 2147483648) : CV l D cy n0 ad yX4_distance (.code yX4_distance cX4_distance 5 (some .int)) ({ frames := 7, cells := 2, slots := 12, locals := 103 }) [.ref (b 0), .int (zI s), .int (zI c), .int (zI r)] (gw 105 XSh cy b μ ++ E) (fun vv uu => ∃ q, vv = some (.int (zI q)) ∧ uu = (gw 105 XSh cy b μ ++ E) ∧ ((StOK n s ∧ SqOK c r) ∧ ∃ sq, IsNear (fun x => x ∈ trk (p s.toNat) (m s.toNat)) c r 144 sq ∧ q = (if sq = -1 then -1 else far sq c r))) (fun q uu => ∃ μ', uu = (gw 105 XSh cy b μ' ++ E) ∧ ((q = xIO ∧ ¬ (StOK n s ∧ SqOK c r)) ∧ μ' = μ)) := by
  obtain ⟨x1, x2, x3, x4, x5, x6, x7⟩ := id hX
  refine CV.walk hfl (by decide) (Nat.le_of_ble_eq_true rfl) ?_
  intro A J hJ
  show J (gw 105 XSh cy b μ ++ E) 0 0 0 [(0, .ref (b 0)), (1, .int (zI s)), (2, .int (zI c)), (3, .int (zI r))] []
  refine j_aload_n hJ (j := 0) rfl rfl dX4_distance_0 ?_
  refine j_iload_n hJ (j := 1) rfl rfl dX4_distance_1 ?_
  refine j_callVX0 hJ (c_X4_checkStreet hfl (n := n) hsR x1 x2) mx_X4_51 k_X4_checkStreet (q0 := 0) (by rw [gw_get (by decide)]; rfl) rfl ⟨(Nat.le_of_ble_eq_true rfl), (Nat.le_of_ble_eq_true rfl)⟩ ⟨(Nat.le_of_ble_eq_true rfl), (Nat.le_of_ble_eq_true rfl)⟩ (Nat.le_of_ble_eq_true rfl) dX4_distance_2 (by rintro q u ⟨_, rfl, ⟨rfl, h⟩, rfl⟩; exact ⟨_, rfl, ⟨rfl, fun g => h g.1⟩, rfl⟩) rfl ?_
  intro v1 u2 hv3
  obtain ⟨rfl, rfl, hs⟩ := hv3
  show J (gw 105 XSh cy b μ ++ E) 1 6 5 [(0, .ref (b 0)), (1, .int (zI s)), (2, .int (zI c)), (3, .int (zI r))] []
  have hs1 := hs.1
  have hs2 := hs.2
  have hs16 : s.toNat < 16 := by omega
  refine j_iload_n hJ (j := 2) rfl rfl dX4_distance_5 ?_
  refine j_iload_n hJ (j := 3) rfl rfl dX4_distance_6 ?_
  refine j_callSX0 hJ (c_X4_checkSquare hfl hcR hrR) mx_X4_55 k_X4_checkSquare ⟨(Nat.le_of_ble_eq_true rfl), (Nat.le_of_ble_eq_true rfl)⟩ ⟨(Nat.le_of_ble_eq_true rfl), (Nat.le_of_ble_eq_true rfl)⟩ (Nat.le_of_ble_eq_true rfl) dX4_distance_7 (by rintro q u ⟨_, rfl, ⟨rfl, h⟩, rfl⟩; exact ⟨_, rfl, ⟨rfl, fun g => h g.2⟩, rfl⟩) rfl ?_
  intro v4 u5 hv6
  obtain ⟨rfl, rfl, hq⟩ := hv6
  show J (gw 105 XSh cy b μ ++ E) 2 12 10 [(0, .ref (b 0)), (1, .int (zI s)), (2, .int (zI c)), (3, .int (zI r))] []
  have hq1 := hq.1
  have hq2 := hq.2
  refine j_aload_n hJ (j := 0) rfl rfl dX4_distance_10 ?_
  refine w_getr hJ (by omega) rfl rfl f_X4_15 dX4_distance_11 ?_
  refine j_iload_n hJ (j := 1) rfl rfl dX4_distance_14 ?_
  refine w_aald hJ (by omega) rfl (by decide) (by omega) (by omega) dX4_distance_15 ?_
  refine w_getr hJ (by omega) (XS0 _) rfl f_X4_58 dX4_distance_16 ?_
  refine j_iload_n hJ (j := 2) rfl rfl dX4_distance_19 ?_
  refine j_iload_n hJ (j := 3) rfl rfl dX4_distance_20 ?_
  refine j_callV0 hJ (c_X1_nearestTo hfl (i := s.toNat) (On := fun x => x ∈ trk (p s.toNat) (m s.toNat)) hs16 hq1 hq2 (x6 _ hs16).1.2.2.2.2) m_X4_141 k_X1_nearestTo (q0 := 9 + 6 * s.toNat + 2) (by rw [gw_get (by omega), XS2]; rfl) rfl ⟨(Nat.le_of_ble_eq_true rfl), (Nat.le_of_ble_eq_true rfl)⟩ ⟨(Nat.le_of_ble_eq_true rfl), (Nat.le_of_ble_eq_true rfl)⟩ (Nat.le_of_ble_eq_true rfl) dX4_distance_21 rfl ?_
  intro v7 u8 hv9
  obtain ⟨q21, rfl, rfl, h21⟩ := hv9
  show J (gw 105 XSh cy b μ ++ E) 2 12 24 [(0, .ref (b 0)), (1, .int (zI s)), (2, .int (zI c)), (3, .int (zI r))] [.int (zI q21)]
  have hrg : -1 ≤ q21 ∧ q21 < 144 := by rcases h21 with ⟨e, -⟩ | ⟨e1, e2, -⟩ <;> omega
  refine j_istore hJ (lv' := [(4, .int (zI q21)), (0, .ref (b 0)), (1, .int (zI s)), (2, .int (zI c)), (3, .int (zI r))]) (by decide) rfl dX4_distance_24 ?_
  refine j_iload hJ (j := 0) rfl dX4_distance_26 ?_
  refine j_iconst hJ dX4_distance_28 ?_
  refine j_icmp_ne hJ (tgt := 36) ⟨by omega, by omega⟩ ⟨by omega, by omega⟩ (by decide) dX4_distance_29 ?_ ?_
  · intro h29
    refine j_iload hJ (j := 0) rfl dX4_distance_36 ?_
    refine j_iload_n hJ (j := 3) rfl rfl dX4_distance_38 ?_
    refine j_iload_n hJ (j := 4) rfl rfl dX4_distance_39 ?_
    refine j_callS0 hJ (c_X4_apart hfl (by omega) hq1 hq2) m_X4_144 k_X4_apart ⟨(Nat.le_of_ble_eq_true rfl), (Nat.le_of_ble_eq_true rfl)⟩ ⟨(Nat.le_of_ble_eq_true rfl), (Nat.le_of_ble_eq_true rfl)⟩ (Nat.le_of_ble_eq_true rfl) dX4_distance_40 rfl ?_
    intro v10 u11 hv12
    obtain ⟨_, rfl, rfl, rfl⟩ := hv12
    show J (gw 105 XSh cy b μ ++ E) 2 12 43 [(4, .int (zI q21)), (0, .ref (b 0)), (1, .int (zI s)), (2, .int (zI c)), (3, .int (zI r))] [.int (zI (far q21 c r))]
    refine j_iret hJ rfl rfl (rfl) (Nat.le_of_ble_eq_true rfl) (Nat.le_of_ble_eq_true rfl) dX4_distance_43 ⟨(far q21 c r), rfl, rfl, ?_⟩
    exact ⟨⟨hs, hq⟩, q21, h21, by rw [if_neg (by omega)]⟩
  · intro h29
    refine j_iconst hJ dX4_distance_32 ?_
    refine j_goto hJ (tgt := 43) (by decide) dX4_distance_33 ?_
    refine j_iret hJ rfl rfl (rfl) (Nat.le_of_ble_eq_true rfl) (Nat.le_of_ble_eq_true rfl) dX4_distance_43 ⟨(-1), rfl, rfl, ?_⟩
    exact ⟨⟨hs, hq⟩, q21, h21, by rw [if_pos (by omega)]⟩
set_option maxHeartbeats 4000000 in
set_option maxRecDepth 100000 in
theorem c_X4_streetsOf {μ : Nat → Int → Int} {n : Nat} {N : Nat → List Int} {ow : Nat → Int} {m : Nat → Nat} {p : Nat → Nat → Int} {c r : Int} (hfl : l.stackTraces = false) (hX : XI μ n N ow m p) (hcR : -2147483648 ≤ c ∧ c < 2147483648) (hrR : -2147483648 ≤ r ∧ r < 2147483648) : CV l D cy n0 ad yX4_streetsOf (.code yX4_streetsOf cX4_streetsOf 5 (some .int)) ({ frames := 7, cells := 1, slots := 6, locals := 103 }) [.ref (b 0), .int (zI c), .int (zI r)] (gw 105 XSh cy b μ ++ E) (fun vv uu => ∃ q, vv = some (.int (zI q)) ∧ uu = (gw 105 XSh cy b μ ++ E) ∧ (SqOK c r ∧ q = bitsOf (fun k => decide (12 * c + r ∈ trk (p k) (m k))) n)) (fun q uu => ∃ μ', uu = (gw 105 XSh cy b μ' ++ E) ∧ ((q = xIO ∧ ¬ SqOK c r) ∧ μ' = μ)) := by
  obtain ⟨x1, x2, x3, x4, x5, x6, x7⟩ := id hX
  refine CV.walk hfl (by decide) (Nat.le_of_ble_eq_true rfl) ?_
  intro A J hJ
  show J (gw 105 XSh cy b μ ++ E) 0 0 0 [(0, .ref (b 0)), (1, .int (zI c)), (2, .int (zI r))] []
  refine j_iload_n hJ (j := 1) rfl rfl dX4_streetsOf_0 ?_
  refine j_iload_n hJ (j := 2) rfl rfl dX4_streetsOf_1 ?_
  refine j_callSX0 hJ (c_X4_checkSquare hfl hcR hrR) mx_X4_55 k_X4_checkSquare ⟨(Nat.le_of_ble_eq_true rfl), (Nat.le_of_ble_eq_true rfl)⟩ ⟨(Nat.le_of_ble_eq_true rfl), (Nat.le_of_ble_eq_true rfl)⟩ (Nat.le_of_ble_eq_true rfl) dX4_streetsOf_2 (by rintro q u ⟨_, rfl, ⟨rfl, h⟩, rfl⟩; exact ⟨_, rfl, ⟨rfl, h⟩, rfl⟩) rfl ?_
  intro v1 u2 hv3
  obtain ⟨rfl, rfl, hq⟩ := hv3
  show J (gw 105 XSh cy b μ ++ E) 1 6 5 [(0, .ref (b 0)), (1, .int (zI c)), (2, .int (zI r))] []
  have hq1 := hq.1
  have hq2 := hq.2
  refine j_iconst hJ dX4_streetsOf_5 ?_
  refine j_istore_n hJ (lv' := [(3, .int (zI 0)), (0, .ref (b 0)), (1, .int (zI c)), (2, .int (zI r))]) rfl (by decide) rfl dX4_streetsOf_6 ?_
  refine j_iconst hJ dX4_streetsOf_7 ?_
  refine j_istore hJ (lv' := [(4, .int (zI 0)), (3, .int (zI 0)), (0, .ref (b 0)), (1, .int (zI c)), (2, .int (zI r))]) (by decide) rfl dX4_streetsOf_8 ?_
  have lp10 : ∀ (nn10 : Nat) (bt : Int) (k : Int) (hmeas10 : ((n : Int) - k).toNat < nn10) (hk : 0 ≤ k ∧ k ≤ n) (hb : bt = bitsOf (fun k => decide (12 * c + r ∈ trk (p k) (m k))) k.toNat), J (gw 105 XSh cy b μ ++ E) 1 6 10 [(0, .ref (b 0)), (1, .int (zI c)), (2, .int (zI r)), (3, .int (zI bt)), (4, .int (zI k))] [] := by
    intro nn10
    induction nn10 with
    | zero => intro bt k hmeas10 hk hb; omega
    | succ nn10 ih10 =>
      intro bt k hmeas10 hk hb
      refine j_iload hJ (j := 4) rfl dX4_streetsOf_10 ?_
      refine j_aload_n hJ (j := 0) rfl rfl dX4_streetsOf_12 ?_
      refine w_geti hJ (fi := 2) rfl (by omega) rfl rfl f_X4_37 dX4_streetsOf_13 ?_
      refine j_topi (y := zI (n : Int)) (by rw [x1]) ?_
      refine j_icmp_ge hJ (tgt := 50) ⟨by omega, by omega⟩ ⟨by omega, by omega⟩ (by decide) dX4_streetsOf_16 ?_ ?_
      · intro h16
        refine j_iload_n hJ (j := 3) rfl rfl dX4_streetsOf_50 ?_
        refine j_iret hJ rfl rfl (rfl) (Nat.le_of_ble_eq_true rfl) (Nat.le_of_ble_eq_true rfl) dX4_streetsOf_51 ⟨bt, rfl, rfl, ?_⟩
        exact ⟨hq, by rw [hb, show k.toNat = n by omega]⟩
      · intro h16
        refine j_aload_n hJ (j := 0) rfl rfl dX4_streetsOf_19 ?_
        refine w_getr hJ (by omega) rfl rfl f_X4_15 dX4_streetsOf_20 ?_
        refine j_iload hJ (j := 4) rfl dX4_streetsOf_23 ?_
        refine w_aald hJ (by omega) rfl (by decide) (by omega) (by omega) dX4_streetsOf_25 ?_
        refine w_getr hJ (by omega) (XS0 _) rfl f_X4_58 dX4_streetsOf_26 ?_
        refine j_iload_n hJ (j := 1) rfl rfl dX4_streetsOf_29 ?_
        refine j_iload_n hJ (j := 2) rfl rfl dX4_streetsOf_30 ?_
        refine j_callV0 hJ (c_X1_covers hfl (i := k.toNat) (On := fun x => x ∈ trk (p k.toNat) (m k.toNat)) (by omega) hq1 hq2 (x6 _ (by omega)).1.2.2.2.2) m_X4_131 k_X1_covers (q0 := 9 + 6 * k.toNat + 2) (by rw [gw_get (by omega), XS2]; rfl) rfl ⟨(Nat.le_of_ble_eq_true rfl), (Nat.le_of_ble_eq_true rfl)⟩ ⟨(Nat.le_of_ble_eq_true rfl), (Nat.le_of_ble_eq_true rfl)⟩ (Nat.le_of_ble_eq_true rfl) dX4_streetsOf_31 rfl ?_
        intro v4 u5 hv6
        obtain ⟨q31, rfl, rfl, h31⟩ := hv6
        show J (gw 105 XSh cy b μ ++ E) 1 6 34 [(0, .ref (b 0)), (1, .int (zI c)), (2, .int (zI r)), (3, .int (zI bt)), (4, .int (zI k))] [.int (zI q31)]
        have hb31 := b01 h31
        have hbr := bitsOf_rng (f := fun k => decide (12 * c + r ∈ trk (p k) (m k))) (k := k.toNat) (by omega)
        refine j_if_eq hJ (tgt := 44) ⟨by omega, by omega⟩ (by decide) dX4_streetsOf_34 ?_ ?_
        · intro h34
          have g34 : ¬ 12 * c + r ∈ trk (p k.toNat) (m k.toNat) := fun g => by have := h31.1 g; omega
          refine j_iinc hJ (lv' := [(4, .int (zI (k + 1))), (0, .ref (b 0)), (1, .int (zI c)), (2, .int (zI r)), (3, .int (zI bt))]) (j := 4) rfl (by omega) (by decide) rfl dX4_streetsOf_44 ?_
          refine j_goto hJ (tgt := 10) (by decide) dX4_streetsOf_47 ?_
          refine j_locs hJ [1, 2, 3, 4, 0] rfl ?_
          exact ih10 bt (k + 1) (by omega) (by omega) (by rw [show (k + 1).toNat = k.toNat + 1 by omega]; unfold bitsOf; first | (rw [if_neg (by simpa using g34), hb]) | (rw [if_pos (by simpa using g34), hb, Int.toNat_of_nonneg hk.1]))
        · intro h34
          have g34 : 12 * c + r ∈ trk (p k.toNat) (m k.toNat) := Classical.byContradiction fun g => h34 (h31.2 g)
          refine j_iload_n hJ (j := 3) rfl rfl dX4_streetsOf_37 ?_
          refine j_iconst hJ dX4_streetsOf_38 ?_
          refine j_iload hJ (j := 4) rfl dX4_streetsOf_39 ?_
          refine j_ishl hJ (v := (2 ^ (k).toNat)) (zI_shl1 hk.1 (by omega)) dX4_streetsOf_41 ?_
          refine j_ior hJ (v := (orI (bt) k)) (zI_or (by omega)) dX4_streetsOf_42 ?_
          refine j_istore_n hJ (lv' := [(3, .int (zI (orI (bt) k))), (0, .ref (b 0)), (1, .int (zI c)), (2, .int (zI r)), (4, .int (zI k))]) rfl (by decide) rfl dX4_streetsOf_43 ?_
          refine j_iinc hJ (lv' := [(4, .int (zI (k + 1))), (3, .int (zI (orI (bt) k))), (0, .ref (b 0)), (1, .int (zI c)), (2, .int (zI r))]) (j := 4) rfl (by omega) (by decide) rfl dX4_streetsOf_44 ?_
          refine j_goto hJ (tgt := 10) (by decide) dX4_streetsOf_47 ?_
          refine j_locs hJ [2, 3, 4, 1, 0] rfl ?_
          exact ih10 (orI (bt) k) (k + 1) (by omega) (by omega) (by rw [show (k + 1).toNat = k.toNat + 1 by omega]; unfold bitsOf; first | (rw [if_neg (by simpa using g34), hb]) | (rw [if_pos (by simpa using g34), hb, Int.toNat_of_nonneg hk.1]))
  refine j_locs hJ [2, 3, 4, 1, 0] rfl ?_
  exact lp10 (((n : Int) - 0).toNat + 1) 0 0 (by omega) (by omega) (by rfl)
end
