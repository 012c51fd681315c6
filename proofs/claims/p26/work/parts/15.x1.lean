
theorem mm_X4_168 : Cond.methodLink RX4 168 Lib.Math.abs.name ∈ GT := (List.mem_of_getElem? (i := 376) (by decide +kernel))
theorem mm_X4_173 : Cond.methodLink RX4 173 Lib.Math.max.name ∈ GT := (List.mem_of_getElem? (i := 377) (by decide +kernel))
set_option maxRecDepth 20000 in
theorem f_X1_18 : FF RX1 18 2 4 (.array .int) true := ⟨RX1, TX1, 5, tyX1, rfl, by decide, lays_X1, tyX1_ok, rfl, rfl, nmX1, Or.inl (List.mem_of_getElem? (i := 119) (by decide +kernel))⟩
set_option maxRecDepth 20000 in
theorem f_X1_21 : FF RX1 21 2 1 .int false := ⟨RX1, TX1, 5, tyX1, rfl, by decide, lays_X1, tyX1_ok, rfl, rfl, nmX1, Or.inl (List.mem_of_getElem? (i := 113) (by decide +kernel))⟩
set_option maxRecDepth 20000 in
theorem f_X1_9 : FF RX1 9 2 0 (.array .int) true := ⟨RX1, TX1, 5, tyX1, rfl, by decide, lays_X1, tyX1_ok, rfl, rfl, nmX1, Or.inl (List.mem_of_getElem? (i := 111) (by decide +kernel))⟩
set_option maxRecDepth 20000 in
theorem m_X1_49 : MF RX1 49 1 yX4_squareOf 2 := ⟨Or.inr (List.mem_of_getElem? (i := 363) (by decide +kernel)), (List.mem_of_getElem? (i := 40) (by decide +kernel)), ⟨by decide +kernel, by decide +kernel⟩, by decide +kernel, fun h => by omega, fun _ => (List.mem_of_getElem? (i := 364) (by decide +kernel)), fun h => by omega⟩
set_option maxRecDepth 20000 in
theorem k_X4_squareOf : Cond.code yX4_squareOf cX4_squareOf 2 (some .int) ∈ GT := (List.mem_of_getElem? (i := 365) (by decide +kernel))
set_option maxRecDepth 20000 in
theorem m_X1_42 : MF RX1 42 1 yX4_sign 1 := ⟨Or.inr (List.mem_of_getElem? (i := 370) (by decide +kernel)), (List.mem_of_getElem? (i := 40) (by decide +kernel)), ⟨by decide +kernel, by decide +kernel⟩, by decide +kernel, fun h => by omega, fun _ => (List.mem_of_getElem? (i := 371) (by decide +kernel)), fun h => by omega⟩
set_option maxRecDepth 20000 in
theorem k_X4_sign : Cond.code yX4_sign cX4_sign 1 (some .int) ∈ GT := (List.mem_of_getElem? (i := 372) (by decide +kernel))
set_option maxRecDepth 20000 in
theorem m_X1_45 : MF RX1 45 1 yX4_apart 3 := ⟨Or.inr (List.mem_of_getElem? (i := 373) (by decide +kernel)), (List.mem_of_getElem? (i := 40) (by decide +kernel)), ⟨by decide +kernel, by decide +kernel⟩, by decide +kernel, fun h => by omega, fun _ => (List.mem_of_getElem? (i := 374) (by decide +kernel)), fun h => by omega⟩
set_option maxRecDepth 20000 in
theorem k_X4_apart : Cond.code yX4_apart cX4_apart 3 (some .int) ∈ GT := (List.mem_of_getElem? (i := 375) (by decide +kernel))
set_option maxRecDepth 20000 in
theorem m_X1_31 : MF RX1 31 0 yX1_addSquare 2 := ⟨Or.inl (List.mem_of_getElem? (i := 359) (by decide +kernel)), (List.mem_of_getElem? (i := 43) (by decide +kernel)), ⟨by decide +kernel, by decide +kernel⟩, by decide +kernel, fun _ => ⟨(List.mem_of_getElem? (i := 361) (by decide +kernel)), (List.mem_of_getElem? (i := 12) (by decide +kernel))⟩, fun h => by omega, fun h => by omega⟩
set_option maxRecDepth 20000 in
theorem k_X1_addSquare : Cond.code yX1_addSquare cX1_addSquare 3 none ∈ GT := (List.mem_of_getElem? (i := 362) (by decide +kernel))
theorem mm_X1_25 : Cond.methodLink RX1 25 Lib.Math.abs.name ∈ GT := (List.mem_of_getElem? (i := 350) (by decide +kernel))
set_option maxRecDepth 20000 in
theorem m_X1_64 : MF RX1 64 0 yX1_covers 2 := ⟨Or.inl (List.mem_of_getElem? (i := 725) (by decide +kernel)), (List.mem_of_getElem? (i := 43) (by decide +kernel)), ⟨by decide +kernel, by decide +kernel⟩, by decide +kernel, fun _ => ⟨(List.mem_of_getElem? (i := 727) (by decide +kernel)), (List.mem_of_getElem? (i := 33) (by decide +kernel))⟩, fun h => by omega, fun h => by omega⟩
set_option maxRecDepth 20000 in
theorem k_X1_covers : Cond.code yX1_covers cX1_covers 3 (some .boolean) ∈ GT := (List.mem_of_getElem? (i := 728) (by decide +kernel))
section
variable {l : Launch} {D : va_G} {cy : Nat → ClassId} {n0 : Nat} {ad : Nat → Nat} {b : Nat → Nat} {E : va_W} {ws : va_W}
set_option maxHeartbeats 4000000 in
set_option maxRecDepth 100000 in
theorem c_X4_sign {z : Int} (hfl : l.stackTraces = false) (hz : -2147483648 ≤ z ∧ z < 2147483648) : CT l D cy n0 ad yX4_sign (.code yX4_sign cX4_sign 1 (some .int)) ({ frames := 0, cells := 0, slots := 0, locals := 0 }) [.int (zI z)] ws (fun vv uu => ∃ q, vv = some (.int (zI q)) ∧ uu = ws ∧ (q = sg z)) := by
  refine CT.walk hfl (by decide) (Nat.le_of_ble_eq_true rfl) ?_
  intro A J hJ
  show J ws 0 0 0 [(0, .int (zI z))] []
  refine j_iload_n hJ (j := 0) rfl rfl dX4_sign_0 ?_
  refine j_if_ne hJ (tgt := 6) ⟨by omega, by omega⟩ (by decide) dX4_sign_1 ?_ ?_
  · intro h1
    refine j_iload_n hJ (j := 0) rfl rfl dX4_sign_6 ?_
    refine j_if_ge hJ (tgt := 14) ⟨by omega, by omega⟩ (by decide) dX4_sign_7 ?_ ?_
    · intro h7
      refine j_iconst hJ dX4_sign_14 ?_
      refine j_iret hJ rfl rfl (rfl) (Nat.le_of_ble_eq_true rfl) (Nat.le_of_ble_eq_true rfl) dX4_sign_15 ⟨1, rfl, rfl, ?_⟩
      have := sg_spec z; omega
    · intro h7
      refine j_iconst hJ dX4_sign_10 ?_
      refine j_goto hJ (tgt := 15) (by decide) dX4_sign_11 ?_
      refine j_iret hJ rfl rfl (rfl) (Nat.le_of_ble_eq_true rfl) (Nat.le_of_ble_eq_true rfl) dX4_sign_15 ⟨(-1), rfl, rfl, ?_⟩
      have := sg_spec z; omega
  · intro h1
    refine j_iconst hJ dX4_sign_4 ?_
    refine j_iret hJ rfl rfl (rfl) (Nat.le_of_ble_eq_true rfl) (Nat.le_of_ble_eq_true rfl) dX4_sign_5 ⟨0, rfl, rfl, ?_⟩
    have := sg_spec z; omega
set_option maxHeartbeats 4000000 in
set_option maxRecDepth 100000 in
theorem c_X4_squareOf {μ : Nat → Int → Int} {c r : Int} (hfl : l.stackTraces = false)  : CT l D cy n0 ad yX4_squareOf (.code yX4_squareOf cX4_squareOf 2 (some .int)) ({ frames := 0, cells := 0, slots := 0, locals := 0 }) [.int (zI c), .int (zI r)] (gw 105 XSh cy b μ ++ E) (fun vv uu => ∃ q, vv = some (.int (zI q)) ∧ uu = (gw 105 XSh cy b μ ++ E) ∧ (q = 12 * c + r)) := by
  refine CT.walk hfl (by decide) (Nat.le_of_ble_eq_true rfl) ?_
  intro A J hJ
  show J (gw 105 XSh cy b μ ++ E) 0 0 0 [(0, .int (zI c)), (1, .int (zI r))] []
  refine j_bipush hJ (v := 12) (by decide) dX4_squareOf_0 ?_
  refine j_iload_n hJ (j := 0) rfl rfl dX4_squareOf_2 ?_
  refine j_imul hJ dX4_squareOf_3 ?_
  refine j_iload_n hJ (j := 1) rfl rfl dX4_squareOf_4 ?_
  refine j_iadd hJ dX4_squareOf_5 ?_
  refine j_iret hJ rfl rfl (rfl) (Nat.le_of_ble_eq_true rfl) (Nat.le_of_ble_eq_true rfl) dX4_squareOf_6 ⟨((12 * c) + r), rfl, rfl, ?_⟩
  trivial
set_option maxHeartbeats 4000000 in
set_option maxRecDepth 100000 in
theorem c_X4_apart {μ : Nat → Int → Int} {s c r : Int} (hfl : l.stackTraces = false) (hs : 0 ≤ s ∧ s < 144) (hc : 0 ≤ c ∧ c < 12) (hr : 0 ≤ r ∧ r < 12) : CT l D cy n0 ad yX4_apart (.code yX4_apart cX4_apart 3 (some .int)) ({ frames := 1, cells := 0, slots := 0, locals := 21 }) [.int (zI s), .int (zI c), .int (zI r)] (gw 105 XSh cy b μ ++ E) (fun vv uu => ∃ q, vv = some (.int (zI q)) ∧ uu = (gw 105 XSh cy b μ ++ E) ∧ (q = far s c r)) := by
  refine CT.walk hfl (by decide) (Nat.le_of_ble_eq_true rfl) ?_
  intro A J hJ
  show J (gw 105 XSh cy b μ ++ E) 0 0 0 [(0, .int (zI s)), (1, .int (zI c)), (2, .int (zI r))] []
  refine j_iload_n hJ (j := 0) rfl rfl dX4_apart_0 ?_
  refine j_bipush hJ (v := 12) (by decide) dX4_apart_1 ?_
  refine j_idiv hJ (by omega) (by omega) (by omega) (by omega) dX4_apart_3 ?_
  refine j_iload_n hJ (j := 1) rfl rfl dX4_apart_4 ?_
  refine j_isub hJ dX4_apart_5 ?_
  refine j_mabs hJ mm_X4_168 ⟨by omega, by omega⟩ (Nat.le_of_ble_eq_true rfl) (Nat.le_of_ble_eq_true rfl) (Nat.le_of_ble_eq_true rfl) (Nat.le_of_ble_eq_true rfl) dX4_apart_6 ?_
  refine j_iload_n hJ (j := 0) rfl rfl dX4_apart_9 ?_
  refine j_bipush hJ (v := 12) (by decide) dX4_apart_10 ?_
  refine j_irem hJ (by omega) (by omega) (by omega) (by omega) dX4_apart_12 ?_
  refine j_iload_n hJ (j := 2) rfl rfl dX4_apart_13 ?_
  refine j_isub hJ dX4_apart_14 ?_
  refine j_mabs hJ mm_X4_168 ⟨by omega, by omega⟩ (Nat.le_of_ble_eq_true rfl) (Nat.le_of_ble_eq_true rfl) (Nat.le_of_ble_eq_true rfl) (Nat.le_of_ble_eq_true rfl) dX4_apart_15 ?_
  refine j_mmax hJ mm_X4_173 ⟨by unfold iabs; omega, by unfold iabs; omega⟩ ⟨by unfold iabs; omega, by unfold iabs; omega⟩ (Nat.le_of_ble_eq_true rfl) (Nat.le_of_ble_eq_true rfl) (Nat.le_of_ble_eq_true rfl) (Nat.le_of_ble_eq_true rfl) dX4_apart_18 ?_
  refine j_iret hJ rfl rfl (rfl) (Nat.le_of_ble_eq_true rfl) (Nat.le_of_ble_eq_true rfl) dX4_apart_21 ⟨(imax (iabs ((s / 12) - c)) (iabs ((s % 12) - r))), rfl, rfl, ?_⟩
  trivial
set_option maxHeartbeats 4000000 in
set_option maxRecDepth 100000 in
theorem c_X1_covers {μ : Nat → Int → Int} {i : Nat} {c r : Int} {On : Int → Prop} (hfl : l.stackTraces = false) (hi : i < 16) (hc : 0 ≤ c ∧ c < 12) (hr : 0 ≤ r ∧ r < 12) (hOn : RowsOn μ i On) : CT l D cy n0 ad yX1_covers (.code yX1_covers cX1_covers 3 (some .boolean)) ({ frames := 0, cells := 0, slots := 0, locals := 0 }) [.ref (b (9 + 6 * i + 2)), .int (zI c), .int (zI r)] (gw 105 XSh cy b μ ++ E) (fun vv uu => ∃ q, vv = some (.int (zI q)) ∧ uu = (gw 105 XSh cy b μ ++ E) ∧ ((On (12 * c + r) → q = 1) ∧ (¬ On (12 * c + r) → q = 0))) := by
  obtain ⟨g1, g2, g3⟩ := hOn c r hc.1 hc.2 hr.1 hr.2
  have g4 : 0 ≤ μ (9 + 6 * i + 5) c / 2 ^ r.toNat := Int.ediv_nonneg g1 (Int.le_of_lt (Int.pow_pos (by decide)))
  have g5 : μ (9 + 6 * i + 5) c / 2 ^ r.toNat ≤ μ (9 + 6 * i + 5) c := Int.ediv_le_self _ g1
  refine CT.walk hfl (by decide) (Nat.le_of_ble_eq_true rfl) ?_
  intro A J hJ
  show J (gw 105 XSh cy b μ ++ E) 0 0 0 [(0, .ref (b (9 + 6 * i + 2))), (1, .int (zI c)), (2, .int (zI r))] []
  refine j_aload_n hJ (j := 0) rfl rfl dX1_covers_0 ?_
  refine w_getr hJ (by omega) (XS2 _) rfl f_X1_18 dX1_covers_1 ?_
  refine j_iload_n hJ (j := 1) rfl rfl dX1_covers_4 ?_
  refine w_iald hJ (by omega) (XS5 _) (by first | decide | omega) (by omega) (by omega) dX1_covers_5 ?_
  refine j_iload_n hJ (j := 2) rfl rfl dX1_covers_6 ?_
  refine j_ishr hJ (v := (μ (9 + 6 * i + 5) c / 2 ^ (r).toNat)) (zI_shr g1 (by omega) hr.1 (by omega)) dX1_covers_7 ?_
  refine j_iconst hJ dX1_covers_8 ?_
  refine j_iand hJ (v := (μ (9 + 6 * i + 5) c / 2 ^ (r).toNat % 2)) (zI_and 1 g4 (by omega) (by decide)) dX1_covers_9 ?_
  refine j_iconst hJ dX1_covers_10 ?_
  refine j_icmp_ne hJ (tgt := 18) ⟨by omega, by omega⟩ ⟨by omega, by omega⟩ (by decide) dX1_covers_11 ?_ ?_
  · intro h11
    refine j_iconst hJ dX1_covers_18 ?_
    refine j_iret hJ rfl rfl (rfl) (Nat.le_of_ble_eq_true rfl) (Nat.le_of_ble_eq_true rfl) dX1_covers_19 ⟨0, rfl, rfl, ?_⟩
    exact ⟨fun h => absurd (g3.mpr h) h11, fun _ => rfl⟩
  · intro h11
    refine j_iconst hJ dX1_covers_14 ?_
    refine j_goto hJ (tgt := 19) (by decide) dX1_covers_15 ?_
    refine j_iret hJ rfl rfl (rfl) (Nat.le_of_ble_eq_true rfl) (Nat.le_of_ble_eq_true rfl) dX1_covers_19 ⟨1, rfl, rfl, ?_⟩
    exact ⟨fun _ => rfl, fun h => absurd (g3.mp h11) h⟩
set_option maxHeartbeats 4000000 in
set_option maxRecDepth 100000 in
theorem c_X1_comesTo {μ : Nat → Int → Int} {i : Nat} {sq : Int} {L : List Int} (hfl : l.stackTraces = false) (hi : i < 16) (hq : 0 ≤ sq ∧ sq < 144) (hT : TP μ i L) : CT l D cy n0 ad yX1_comesTo (.code yX1_comesTo cX1_comesTo 3 (some .boolean)) ({ frames := 0, cells := 0, slots := 0, locals := 0 }) [.ref (b (9 + 6 * i + 2)), .int (zI sq)] (gw 105 XSh cy b μ ++ E) (fun vv uu => ∃ q, vv = some (.int (zI q)) ∧ uu = (gw 105 XSh cy b μ ++ E) ∧ ((sq ∈ L → q = 1) ∧ (¬ sq ∈ L → q = 0))) := by
  obtain ⟨h1, h2, h3, h4, h5⟩ := hT
  refine CT.walk hfl (by decide) (Nat.le_of_ble_eq_true rfl) ?_
  intro A J hJ
  show J (gw 105 XSh cy b μ ++ E) 0 0 0 [(0, .ref (b (9 + 6 * i + 2))), (1, .int (zI sq))] []
  refine j_iconst hJ dX1_comesTo_0 ?_
  refine j_istore_n hJ (lv' := [(2, .int (zI 0)), (0, .ref (b (9 + 6 * i + 2))), (1, .int (zI sq))]) rfl (by decide) rfl dX1_comesTo_1 ?_
  have lp2 : ∀ (nn2 : Nat) (k : Int) (hmeas2 : ((L.length : Int) - k).toNat < nn2) (hk : 0 ≤ k ∧ k ≤ L.length) (hn : ∀ j : Int, 0 ≤ j → j < k → μ (9 + 6 * i + 3) j ≠ sq), J (gw 105 XSh cy b μ ++ E) 0 0 2 [(0, .ref (b (9 + 6 * i + 2))), (1, .int (zI sq)), (2, .int (zI k))] [] := by
    intro nn2
    induction nn2 with
    | zero => intro k hmeas2 hk hn; omega
    | succ nn2 ih2 =>
      intro k hmeas2 hk hn
      refine j_iload_n hJ (j := 2) rfl rfl dX1_comesTo_2 ?_
      refine j_aload_n hJ (j := 0) rfl rfl dX1_comesTo_3 ?_
      refine w_geti hJ (fi := 1) rfl (by omega) (XS2 _) rfl f_X1_21 dX1_comesTo_4 ?_
      refine j_icmp_ge hJ (tgt := 28) ⟨by omega, by omega⟩ ⟨by omega, by omega⟩ (by decide) dX1_comesTo_7 ?_ ?_
      · intro h7
        refine j_iconst hJ dX1_comesTo_28 ?_
        refine j_iret hJ rfl rfl (rfl) (Nat.le_of_ble_eq_true rfl) (Nat.le_of_ble_eq_true rfl) dX1_comesTo_29 ⟨0, rfl, rfl, ?_⟩
        refine ⟨fun h => ?_, fun _ => rfl⟩
        obtain ⟨j, hj⟩ := List.getElem?_of_mem h
        have hj2 := (List.getElem?_eq_some_iff.mp hj).1
        exact absurd (h2 j _ hj) (hn j (by omega) (by omega))
      · intro h7
        refine j_aload_n hJ (j := 0) rfl rfl dX1_comesTo_10 ?_
        refine w_getr hJ (by omega) (XS2 _) rfl f_X1_9 dX1_comesTo_11 ?_
        refine j_iload_n hJ (j := 2) rfl rfl dX1_comesTo_14 ?_
        refine w_iald hJ (by omega) (XS3 _) (by first | decide | omega) (by omega) (by omega) dX1_comesTo_15 ?_
        obtain ⟨x, -, e15, hx⟩ := h2.at (z := k) (by omega) (by omega)
        have hx2 := h4 x hx
        refine j_iload_n hJ (j := 1) rfl rfl dX1_comesTo_16 ?_
        refine j_icmp_ne hJ (tgt := 22) ⟨by omega, by omega⟩ ⟨by omega, by omega⟩ (by decide) dX1_comesTo_17 ?_ ?_
        · intro h17
          refine j_iinc hJ (lv' := [(2, .int (zI (k + 1))), (0, .ref (b (9 + 6 * i + 2))), (1, .int (zI sq))]) (j := 2) rfl (by omega) (by decide) rfl dX1_comesTo_22 ?_
          refine j_goto hJ (tgt := 2) (by decide) dX1_comesTo_25 ?_
          refine j_locs hJ [1, 2, 0] rfl ?_
          refine ih2 (k + 1) (by omega) (by omega) ?_
          · intro j a b
            by_cases e : j = k
            · rw [e]; exact h17
            · exact hn j a (by omega)
        · intro h17
          refine j_iconst hJ dX1_comesTo_20 ?_
          refine j_iret hJ rfl rfl (rfl) (Nat.le_of_ble_eq_true rfl) (Nat.le_of_ble_eq_true rfl) dX1_comesTo_21 ⟨1, rfl, rfl, ?_⟩
          rw [h17] at e15
          rw [← e15] at hx
          exact ⟨fun _ => rfl, fun h => absurd hx h⟩
  refine j_locs hJ [1, 2, 0] rfl ?_
  exact lp2 (((L.length : Int) - 0).toNat + 1) 0 (by omega) (by omega) (by intro j a b; omega)
set_option maxHeartbeats 4000000 in
set_option maxRecDepth 100000 in
theorem c_X1_addSquare {μ : Nat → Int → Int} {i : Nat} {c r : Int} {L : List Int} (hfl : l.stackTraces = false) (hi : i < 16) (hc : 0 ≤ c ∧ c < 12) (hr : 0 ≤ r ∧ r < 12) (hT : TP μ i L) (hL : L.length < 100) : CT l D cy n0 ad yX1_addSquare (.code yX1_addSquare cX1_addSquare 3 none) ({ frames := 1, cells := 0, slots := 0, locals := 21 }) [.ref (b (9 + 6 * i + 2)), .int (zI c), .int (zI r)] (gw 105 XSh cy b μ ++ E) (fun vv uu => ∃ μ', vv = none ∧ uu = (gw 105 XSh cy b μ' ++ E) ∧ (TP μ' i (L ++ [12 * c + r]) ∧ FrP μ μ' i)) := by
  obtain ⟨h1, h2, h3, h4, h5⟩ := id hT
  obtain ⟨g1, g2, g3⟩ := h5 c r hc.1 hc.2 hr.1 hr.2
  refine CT.walk hfl (by decide) (Nat.le_of_ble_eq_true rfl) ?_
  intro A J hJ
  show J (gw 105 XSh cy b μ ++ E) 0 0 0 [(0, .ref (b (9 + 6 * i + 2))), (1, .int (zI c)), (2, .int (zI r))] []
  refine j_aload_n hJ (j := 0) rfl rfl dX1_addSquare_0 ?_
  refine w_getr hJ (by omega) (XS2 _) rfl f_X1_9 dX1_addSquare_1 ?_
  refine j_aload_n hJ (j := 0) rfl rfl dX1_addSquare_4 ?_
  refine w_geti hJ (fi := 1) rfl (by omega) (XS2 _) rfl f_X1_21 dX1_addSquare_5 ?_
  refine j_iload_n hJ (j := 1) rfl rfl dX1_addSquare_8 ?_
  refine j_iload_n hJ (j := 2) rfl rfl dX1_addSquare_9 ?_
  refine j_callS0 hJ (c_X4_squareOf hfl ) m_X1_49 k_X4_squareOf ⟨(Nat.le_of_ble_eq_true rfl), (Nat.le_of_ble_eq_true rfl)⟩ ⟨(Nat.le_of_ble_eq_true rfl), (Nat.le_of_ble_eq_true rfl)⟩ (Nat.le_of_ble_eq_true rfl) dX1_addSquare_10 rfl ?_
  intro v1 u2 hv3
  obtain ⟨_, rfl, rfl, rfl⟩ := hv3
  show J (gw 105 XSh cy b μ ++ E) 0 0 13 [(0, .ref (b (9 + 6 * i + 2))), (1, .int (zI c)), (2, .int (zI r))] [.int (zI (12 * c + r)), .int (zI (μ (9 + 6 * i + 2) 1)), .ref (b (9 + 6 * i + 3))]
  refine w_iast hJ (by omega) (XS3 _) (by first | decide | omega) (by omega) (by omega) dX1_addSquare_13 ?_
  intro μ1 hμ1
  refine j_aload_n hJ (j := 0) rfl rfl dX1_addSquare_14 ?_
  refine j_dup hJ rfl dX1_addSquare_15 ?_
  have e1 : μ1 (9 + 6 * i + 2) 1 = μ (9 + 6 * i + 2) 1 := by rw [hμ1, up_row (by omega)]
  refine w_geti hJ (fi := 1) rfl (by omega) (XS2 _) rfl f_X1_21 dX1_addSquare_16 ?_
  refine j_iconst hJ dX1_addSquare_19 ?_
  refine j_iadd hJ dX1_addSquare_20 ?_
  refine w_puti hJ (fi := 1) rfl (by omega) (XS2 _) rfl f_X1_21 rfl rfl dX1_addSquare_21 ?_
  intro μ2 hμ2
  refine j_aload_n hJ (j := 0) rfl rfl dX1_addSquare_24 ?_
  refine w_getr hJ (by omega) (XS2 _) rfl f_X1_18 dX1_addSquare_25 ?_
  refine j_iload_n hJ (j := 1) rfl rfl dX1_addSquare_28 ?_
  refine j_dup2 hJ rfl rfl dX1_addSquare_29 ?_
  refine w_iald hJ (by omega) (XS5 _) (by first | decide | omega) (by omega) (by omega) dX1_addSquare_30 ?_
  have e2 : μ2 (9 + 6 * i + 5) c = μ (9 + 6 * i + 5) c := by rw [hμ2, up_row (by omega), hμ1, up_row (by omega)]
  refine j_iconst hJ dX1_addSquare_31 ?_
  refine j_iload_n hJ (j := 2) rfl rfl dX1_addSquare_32 ?_
  refine j_ishl hJ (v := (2 ^ (r).toNat)) (zI_shl1 hr.1 (by omega)) dX1_addSquare_33 ?_
  refine j_ior hJ (v := (orI (μ2 (9 + 6 * i + 5) c) r)) (zI_or (by omega)) dX1_addSquare_34 ?_
  refine w_iast hJ (by omega) (XS5 _) (by first | decide | omega) (by omega) (by omega) dX1_addSquare_35 ?_
  intro μ3 hμ3
  refine j_vret hJ rfl rfl (Nat.le_of_ble_eq_true rfl) (Nat.le_of_ble_eq_true rfl) dX1_addSquare_36 ⟨μ3, rfl, rfl, ?_⟩
  rw [e1] at hμ2
  rw [e2] at hμ3
  subst hμ3
  subst hμ2
  subst hμ1
  exact addSq_post hT hL hc hr
set_option maxHeartbeats 4000000 in
set_option maxRecDepth 100000 in
theorem c_X1_goStraight {μ : Nat → Int → Int} {i : Nat} {a c r : Int} {L : List Int} (hfl : l.stackTraces = false) (hi : i < 16) (ha : 0 ≤ a ∧ a < 144) (hc : 0 ≤ c ∧ c < 12) (hr : 0 ≤ r ∧ r < 12) (hal : Aln a c r) (hT : TP μ i L) (hL : L.length + far a c r ≤ 100) : CT l D cy n0 ad yX1_goStraight (.code yX1_goStraight cX1_goStraight 10 none) ({ frames := 2, cells := 0, slots := 0, locals := 43 }) [.ref (b (9 + 6 * i + 2)), .int (zI a), .int (zI c), .int (zI r)] (gw 105 XSh cy b μ ++ E) (fun vv uu => ∃ μ', vv = none ∧ uu = (gw 105 XSh cy b μ' ++ E) ∧ (TP μ' i (L ++ segk a (stp a c r) (far a c r).toNat) ∧ FrP μ μ' i)) := by
  have hfr := far_rng ha hc hr
  have hs1 := sg_spec (c - a / 12)
  have hs2 := sg_spec (r - a % 12)
  refine CT.walk hfl (by decide) (Nat.le_of_ble_eq_true rfl) ?_
  intro A J hJ
  show J (gw 105 XSh cy b μ ++ E) 0 0 0 [(0, .ref (b (9 + 6 * i + 2))), (1, .int (zI a)), (2, .int (zI c)), (3, .int (zI r))] []
  refine j_iload_n hJ (j := 1) rfl rfl dX1_goStraight_0 ?_
  refine j_bipush hJ (v := 12) (by decide) dX1_goStraight_1 ?_
  refine j_idiv hJ (by omega) (by omega) (by omega) (by omega) dX1_goStraight_3 ?_
  refine j_istore hJ (lv' := [(4, .int (zI (a / 12))), (0, .ref (b (9 + 6 * i + 2))), (1, .int (zI a)), (2, .int (zI c)), (3, .int (zI r))]) (by decide) rfl dX1_goStraight_4 ?_
  refine j_iload_n hJ (j := 2) rfl rfl dX1_goStraight_6 ?_
  refine j_bipush hJ (v := 12) (by decide) dX1_goStraight_7 ?_
  refine j_irem hJ (by omega) (by omega) (by omega) (by omega) dX1_goStraight_9 ?_
  refine j_istore hJ (lv' := [(5, .int (zI (a % 12))), (4, .int (zI (a / 12))), (0, .ref (b (9 + 6 * i + 2))), (1, .int (zI a)), (2, .int (zI c)), (3, .int (zI r))]) (by decide) rfl dX1_goStraight_10 ?_
  refine j_iload_n hJ (j := 4) rfl rfl dX1_goStraight_12 ?_
  refine j_iload hJ (j := 1) rfl dX1_goStraight_13 ?_
  refine j_isub hJ dX1_goStraight_15 ?_
  refine j_callS0 hJ (c_X4_sign hfl ⟨by omega, by omega⟩) m_X1_42 k_X4_sign ⟨(Nat.le_of_ble_eq_true rfl), (Nat.le_of_ble_eq_true rfl)⟩ ⟨(Nat.le_of_ble_eq_true rfl), (Nat.le_of_ble_eq_true rfl)⟩ (Nat.le_of_ble_eq_true rfl) dX1_goStraight_16 rfl ?_
  intro v1 u2 hv3
  obtain ⟨_, rfl, rfl, rfl⟩ := hv3
  show J (gw 105 XSh cy b μ ++ E) 0 0 19 [(5, .int (zI (a % 12))), (4, .int (zI (a / 12))), (0, .ref (b (9 + 6 * i + 2))), (1, .int (zI a)), (2, .int (zI c)), (3, .int (zI r))] [.int (zI (sg (c - a / 12)))]
  refine j_istore hJ (lv' := [(6, .int (zI (sg (c - a / 12)))), (5, .int (zI (a % 12))), (4, .int (zI (a / 12))), (0, .ref (b (9 + 6 * i + 2))), (1, .int (zI a)), (2, .int (zI c)), (3, .int (zI r))]) (by decide) rfl dX1_goStraight_19 ?_
  refine j_iload_n hJ (j := 6) rfl rfl dX1_goStraight_21 ?_
  refine j_iload hJ (j := 1) rfl dX1_goStraight_22 ?_
  refine j_isub hJ dX1_goStraight_24 ?_
  refine j_callS0 hJ (c_X4_sign hfl ⟨by omega, by omega⟩) m_X1_42 k_X4_sign ⟨(Nat.le_of_ble_eq_true rfl), (Nat.le_of_ble_eq_true rfl)⟩ ⟨(Nat.le_of_ble_eq_true rfl), (Nat.le_of_ble_eq_true rfl)⟩ (Nat.le_of_ble_eq_true rfl) dX1_goStraight_25 rfl ?_
  intro v4 u5 hv6
  obtain ⟨_, rfl, rfl, rfl⟩ := hv6
  show J (gw 105 XSh cy b μ ++ E) 0 0 28 [(6, .int (zI (sg (c - a / 12)))), (5, .int (zI (a % 12))), (4, .int (zI (a / 12))), (0, .ref (b (9 + 6 * i + 2))), (1, .int (zI a)), (2, .int (zI c)), (3, .int (zI r))] [.int (zI (sg (r - a % 12)))]
  refine j_istore hJ (lv' := [(7, .int (zI (sg (r - a % 12)))), (6, .int (zI (sg (c - a / 12)))), (5, .int (zI (a % 12))), (4, .int (zI (a / 12))), (0, .ref (b (9 + 6 * i + 2))), (1, .int (zI a)), (2, .int (zI c)), (3, .int (zI r))]) (by decide) rfl dX1_goStraight_28 ?_
  refine j_iload_n hJ (j := 5) rfl rfl dX1_goStraight_30 ?_
  refine j_iload_n hJ (j := 6) rfl rfl dX1_goStraight_31 ?_
  refine j_iload_n hJ (j := 7) rfl rfl dX1_goStraight_32 ?_
  refine j_callS0 hJ (c_X4_apart hfl ha hc hr) m_X1_45 k_X4_apart ⟨(Nat.le_of_ble_eq_true rfl), (Nat.le_of_ble_eq_true rfl)⟩ ⟨(Nat.le_of_ble_eq_true rfl), (Nat.le_of_ble_eq_true rfl)⟩ (Nat.le_of_ble_eq_true rfl) dX1_goStraight_33 rfl ?_
  intro v7 u8 hv9
  obtain ⟨_, rfl, rfl, rfl⟩ := hv9
  show J (gw 105 XSh cy b μ ++ E) 0 0 36 [(7, .int (zI (sg (r - a % 12)))), (6, .int (zI (sg (c - a / 12)))), (5, .int (zI (a % 12))), (4, .int (zI (a / 12))), (0, .ref (b (9 + 6 * i + 2))), (1, .int (zI a)), (2, .int (zI c)), (3, .int (zI r))] [.int (zI (far a c r))]
  refine j_istore hJ (lv' := [(8, .int (zI (far a c r))), (7, .int (zI (sg (r - a % 12)))), (6, .int (zI (sg (c - a / 12)))), (5, .int (zI (a % 12))), (4, .int (zI (a / 12))), (0, .ref (b (9 + 6 * i + 2))), (1, .int (zI a)), (2, .int (zI c)), (3, .int (zI r))]) (by decide) rfl dX1_goStraight_36 ?_
  refine j_iconst hJ dX1_goStraight_38 ?_
  refine j_istore hJ (lv' := [(9, .int (zI 1)), (8, .int (zI (far a c r))), (7, .int (zI (sg (r - a % 12)))), (6, .int (zI (sg (c - a / 12)))), (5, .int (zI (a % 12))), (4, .int (zI (a / 12))), (0, .ref (b (9 + 6 * i + 2))), (1, .int (zI a)), (2, .int (zI c)), (3, .int (zI r))]) (by decide) rfl dX1_goStraight_39 ?_
  have lp41 : ∀ (nn41 : Nat) (μk : Nat → Int → Int) (k : Int) (hmeas41 : (far a c r + 1 - k).toNat < nn41) (hk : 1 ≤ k ∧ k ≤ far a c r + 1) (hTk : TP μk i (L ++ segk a (stp a c r) (k - 1).toNat)) (hFk : FrP μ μk i), J (gw 105 XSh cy b μk ++ E) 0 0 41 [(0, .ref (b (9 + 6 * i + 2))), (1, .int (zI a)), (2, .int (zI c)), (3, .int (zI r)), (4, .int (zI (a / 12))), (5, .int (zI (a % 12))), (6, .int (zI (sg (c - a / 12)))), (7, .int (zI (sg (r - a % 12)))), (8, .int (zI (far a c r))), (9, .int (zI k))] [] := by
    intro nn41
    induction nn41 with
    | zero => intro μk k hmeas41 hk hTk hFk; omega
    | succ nn41 ih41 =>
      intro μk k hmeas41 hk hTk hFk
      refine j_iload hJ (j := 9) rfl dX1_goStraight_41 ?_
      refine j_iload hJ (j := 8) rfl dX1_goStraight_43 ?_
      refine j_icmp_gt hJ (tgt := 74) ⟨by omega, by omega⟩ ⟨by omega, by omega⟩ (by decide) dX1_goStraight_45 ?_ ?_
      · intro h45
        refine j_vret hJ rfl rfl (Nat.le_of_ble_eq_true rfl) (Nat.le_of_ble_eq_true rfl) dX1_goStraight_74 ⟨μk, rfl, rfl, ?_⟩
        rw [show k = far a c r + 1 by omega, show (far a c r + 1 - 1).toNat = (far a c r).toNat by omega] at hTk
        exact ⟨hTk, hFk⟩
      · intro h45
        obtain ⟨w1, w2, -⟩ := way_sq ha hc hr hal hk.1 h45
        have hk1 : k * sg (c - a / 12) = k ∨ k * sg (c - a / 12) = 0 ∨ k * sg (c - a / 12) = -k := by rcases hs1 with ⟨e, -⟩ | ⟨e, -⟩ | ⟨e, -⟩ <;> rw [e] <;> omega
        refine j_aload_n hJ (j := 0) rfl rfl dX1_goStraight_48 ?_
        refine j_iload hJ (j := 4) rfl dX1_goStraight_49 ?_
        refine j_iload hJ (j := 9) rfl dX1_goStraight_51 ?_
        refine j_iload hJ (j := 6) rfl dX1_goStraight_53 ?_
        refine j_imul hJ dX1_goStraight_55 ?_
        refine j_iadd hJ dX1_goStraight_56 ?_
        refine j_iload hJ (j := 5) rfl dX1_goStraight_57 ?_
        refine j_iload hJ (j := 9) rfl dX1_goStraight_59 ?_
        refine j_iload hJ (j := 7) rfl dX1_goStraight_61 ?_
        refine j_imul hJ dX1_goStraight_63 ?_
        refine j_iadd hJ dX1_goStraight_64 ?_
        refine j_callV0 hJ (c_X1_addSquare hfl (L := L ++ segk a (stp a c r) (k - 1).toNat) hi w1 w2 hTk (by rw [List.length_append, segk_len]; omega)) m_X1_31 k_X1_addSquare (q0 := 9 + 6 * i + 2) (by rw [gw_get (by omega), XS2]; rfl) rfl ⟨(Nat.le_of_ble_eq_true rfl), (Nat.le_of_ble_eq_true rfl)⟩ ⟨(Nat.le_of_ble_eq_true rfl), (Nat.le_of_ble_eq_true rfl)⟩ (Nat.le_of_ble_eq_true rfl) dX1_goStraight_65 rfl ?_
        intro v10 u11 hv12
        obtain ⟨μ1, rfl, rfl, hr65⟩ := hv12
        show J (gw 105 XSh cy b μ1 ++ E) 0 0 68 [(0, .ref (b (9 + 6 * i + 2))), (1, .int (zI a)), (2, .int (zI c)), (3, .int (zI r)), (4, .int (zI (a / 12))), (5, .int (zI (a % 12))), (6, .int (zI (sg (c - a / 12)))), (7, .int (zI (sg (r - a % 12)))), (8, .int (zI (far a c r))), (9, .int (zI k))] []
        refine j_iinc hJ (lv' := [(9, .int (zI (k + 1))), (0, .ref (b (9 + 6 * i + 2))), (1, .int (zI a)), (2, .int (zI c)), (3, .int (zI r)), (4, .int (zI (a / 12))), (5, .int (zI (a % 12))), (6, .int (zI (sg (c - a / 12)))), (7, .int (zI (sg (r - a % 12)))), (8, .int (zI (far a c r)))]) (j := 9) rfl (by omega) (by decide) rfl dX1_goStraight_68 ?_
        refine j_goto hJ (tgt := 41) (by decide) dX1_goStraight_71 ?_
        refine j_locs hJ [1, 2, 3, 4, 5, 6, 7, 8, 9, 0] rfl ?_
        refine ih41 μ1 (k + 1) (by omega) (by omega) ?_ (by exact hFk.tr hr65.2)
        · rw [show (k + 1 - 1).toNat = (k - 1).toNat + 1 by omega, segk_succ, ← List.append_assoc]
          have e := seg_step (a := a) (c := c) (r := r) k
          rw [show (((k - 1).toNat : Nat) : Int) + 1 = k by omega, ← e]
          exact hr65.1
  refine j_locs hJ [6, 7, 8, 9, 5, 4, 3, 2, 1, 0] rfl ?_
  refine lp41 ((far a c r + 1 - 1).toNat + 1) μ 1 (by omega) (by omega) ?_ (by exact FrP.rf)
  · rw [show (1 - 1 : Int).toNat = 0 from rfl]
    simpa [segk] using hT
set_option maxHeartbeats 4000000 in
set_option maxRecDepth 100000 in
theorem c_X1_canGoTo {μ : Nat → Int → Int} {i m : Nat} {p : Nat → Int} {c r : Int} (hfl : l.stackTraces = false) (hi : i < 16) (hc : 0 ≤ c ∧ c < 12) (hr : 0 ≤ r ∧ r < 12) (hT : TI μ i p m) : CT l D cy n0 ad yX1_canGoTo (.code yX1_canGoTo cX1_canGoTo 7 (some .boolean)) ({ frames := 1, cells := 0, slots := 0, locals := 21 }) [.ref (b (9 + 6 * i + 2)), .int (zI c), .int (zI r)] (gw 105 XSh cy b μ ++ E) (fun vv uu => ∃ q, vv = some (.int (zI q)) ∧ uu = (gw 105 XSh cy b μ ++ E) ∧ ((m = 0 ∨ Aln (p (m - 1)) c r → q = 1) ∧ (¬ (m = 0 ∨ Aln (p (m - 1)) c r) → q = 0))) := by
  have hlen := hT.len
  refine CT.walk hfl (by decide) (Nat.le_of_ble_eq_true rfl) ?_
  intro A J hJ
  show J (gw 105 XSh cy b μ ++ E) 0 0 0 [(0, .ref (b (9 + 6 * i + 2))), (1, .int (zI c)), (2, .int (zI r))] []
  refine j_aload_n hJ (j := 0) rfl rfl dX1_canGoTo_0 ?_
  refine w_geti hJ (fi := 1) rfl (by omega) (XS2 _) rfl f_X1_21 dX1_canGoTo_1 ?_
  refine j_if_ne hJ (tgt := 9) ⟨by omega, by omega⟩ (by decide) dX1_canGoTo_4 ?_ ?_
  · intro h4
    obtain ⟨m0, hm0⟩ : ∃ m0, m = m0 + 1 := ⟨m - 1, by omega⟩
    subst hm0
    obtain ⟨e1, e2, e3, e4, e5⟩ := hT.last
    refine j_aload_n hJ (j := 0) rfl rfl dX1_canGoTo_9 ?_
    refine w_getr hJ (by omega) (XS2 _) rfl f_X1_9 dX1_canGoTo_10 ?_
    refine j_aload_n hJ (j := 0) rfl rfl dX1_canGoTo_13 ?_
    refine w_geti hJ (fi := 1) rfl (by omega) (XS2 _) rfl f_X1_21 dX1_canGoTo_14 ?_
    refine j_iconst hJ dX1_canGoTo_17 ?_
    refine j_isub hJ dX1_canGoTo_18 ?_
    refine w_iald hJ (by omega) (XS3 _) (by first | decide | omega) (by omega) (by omega) dX1_canGoTo_19 ?_
    refine j_topi (y := zI (p m0)) (by rw [e1]) ?_
    refine j_istore_n hJ (lv' := [(3, .int (zI (p m0))), (0, .ref (b (9 + 6 * i + 2))), (1, .int (zI c)), (2, .int (zI r))]) rfl (by decide) rfl dX1_canGoTo_20 ?_
    refine j_iload_n hJ (j := 2) rfl rfl dX1_canGoTo_21 ?_
    refine j_iload_n hJ (j := 0) rfl rfl dX1_canGoTo_22 ?_
    refine j_bipush hJ (v := 12) (by decide) dX1_canGoTo_23 ?_
    refine j_idiv hJ (by omega) (by omega) (by omega) (by omega) dX1_canGoTo_25 ?_
    refine j_isub hJ dX1_canGoTo_26 ?_
    refine j_mabs hJ mm_X1_25 ⟨by omega, by omega⟩ (Nat.le_of_ble_eq_true rfl) (Nat.le_of_ble_eq_true rfl) (Nat.le_of_ble_eq_true rfl) (Nat.le_of_ble_eq_true rfl) dX1_canGoTo_27 ?_
    refine j_istore hJ (lv' := [(4, .int (zI (iabs (c - ((p m0) / 12))))), (3, .int (zI (p m0))), (0, .ref (b (9 + 6 * i + 2))), (1, .int (zI c)), (2, .int (zI r))]) (by decide) rfl dX1_canGoTo_30 ?_
    refine j_iload_n hJ (j := 4) rfl rfl dX1_canGoTo_32 ?_
    refine j_iload_n hJ (j := 1) rfl rfl dX1_canGoTo_33 ?_
    refine j_bipush hJ (v := 12) (by decide) dX1_canGoTo_34 ?_
    refine j_irem hJ (by omega) (by omega) (by omega) (by omega) dX1_canGoTo_36 ?_
    refine j_isub hJ dX1_canGoTo_37 ?_
    refine j_mabs hJ mm_X1_25 ⟨by omega, by omega⟩ (Nat.le_of_ble_eq_true rfl) (Nat.le_of_ble_eq_true rfl) (Nat.le_of_ble_eq_true rfl) (Nat.le_of_ble_eq_true rfl) dX1_canGoTo_38 ?_
    refine j_istore hJ (lv' := [(5, .int (zI (iabs (r - ((p m0) % 12))))), (4, .int (zI (iabs (c - ((p m0) / 12))))), (3, .int (zI (p m0))), (0, .ref (b (9 + 6 * i + 2))), (1, .int (zI c)), (2, .int (zI r))]) (by decide) rfl dX1_canGoTo_41 ?_
    have j58 : ∀ (s : Int) (hs : (s = 1 ∧ c = p m0 / 12 ∧ r = p m0 % 12) ∨ (s = 0 ∧ ¬ (c = p m0 / 12 ∧ r = p m0 % 12))), J (gw 105 XSh cy b μ ++ E) 0 0 58 [(5, .int (zI (iabs (r - p m0 % 12)))), (4, .int (zI (iabs (c - p m0 / 12)))), (3, .int (zI (p m0))), (0, .ref (b (9 + 6 * i + 2))), (1, .int (zI c)), (2, .int (zI r))] [.int (zI s)] := by
      intro s hs
      refine j_istore hJ (lv' := [(6, .int (zI s)), (5, .int (zI (iabs (r - p m0 % 12)))), (4, .int (zI (iabs (c - p m0 / 12)))), (3, .int (zI (p m0))), (0, .ref (b (9 + 6 * i + 2))), (1, .int (zI c)), (2, .int (zI r))]) (by decide) rfl dX1_canGoTo_58 ?_
      refine j_iload hJ (j := 0) rfl dX1_canGoTo_60 ?_
      refine j_if_ne hJ (tgt := 86) ⟨by omega, by omega⟩ (by decide) dX1_canGoTo_62 ?_ ?_
      · intro h62
        refine j_iconst hJ dX1_canGoTo_86 ?_
        refine j_iret hJ rfl rfl (rfl) (Nat.le_of_ble_eq_true rfl) (Nat.le_of_ble_eq_true rfl) dX1_canGoTo_87 ⟨0, rfl, rfl, ?_⟩
        rw [Nat.add_sub_cancel]
        simp only [Nat.add_one_ne_zero, false_or]
        have a1 := iabs_spec (c - p m0 / 12)
        have a2 := iabs_spec (r - p m0 % 12)
        unfold Aln
        exact ⟨fun h => by first | trivial | omega, fun h => by first | trivial | omega⟩
      · intro h62
        refine j_iload hJ (j := 2) rfl dX1_canGoTo_65 ?_
        refine j_if_eq hJ (tgt := 82) ⟨by unfold iabs; omega, by unfold iabs; omega⟩ (by decide) dX1_canGoTo_67 ?_ ?_
        · intro h67
          refine j_iconst hJ dX1_canGoTo_82 ?_
          refine j_goto hJ (tgt := 87) (by decide) dX1_canGoTo_83 ?_
          refine j_iret hJ rfl rfl (rfl) (Nat.le_of_ble_eq_true rfl) (Nat.le_of_ble_eq_true rfl) dX1_canGoTo_87 ⟨1, rfl, rfl, ?_⟩
          rw [Nat.add_sub_cancel]
          simp only [Nat.add_one_ne_zero, false_or]
          have a1 := iabs_spec (c - p m0 / 12)
          have a2 := iabs_spec (r - p m0 % 12)
          unfold Aln
          exact ⟨fun h => by first | trivial | omega, fun h => by first | trivial | omega⟩
        · intro h67
          refine j_iload hJ (j := 1) rfl dX1_canGoTo_70 ?_
          refine j_if_eq hJ (tgt := 82) ⟨by unfold iabs; omega, by unfold iabs; omega⟩ (by decide) dX1_canGoTo_72 ?_ ?_
          · intro h72
            refine j_iconst hJ dX1_canGoTo_82 ?_
            refine j_goto hJ (tgt := 87) (by decide) dX1_canGoTo_83 ?_
            refine j_iret hJ rfl rfl (rfl) (Nat.le_of_ble_eq_true rfl) (Nat.le_of_ble_eq_true rfl) dX1_canGoTo_87 ⟨1, rfl, rfl, ?_⟩
            rw [Nat.add_sub_cancel]
            simp only [Nat.add_one_ne_zero, false_or]
            have a1 := iabs_spec (c - p m0 / 12)
            have a2 := iabs_spec (r - p m0 % 12)
            unfold Aln
            exact ⟨fun h => by first | trivial | omega, fun h => by first | trivial | omega⟩
          · intro h72
            refine j_iload hJ (j := 2) rfl dX1_canGoTo_75 ?_
            refine j_iload hJ (j := 1) rfl dX1_canGoTo_77 ?_
            refine j_icmp_ne hJ (tgt := 86) ⟨by unfold iabs; omega, by unfold iabs; omega⟩ ⟨by unfold iabs; omega, by unfold iabs; omega⟩ (by decide) dX1_canGoTo_79 ?_ ?_
            · intro h79
              refine j_iconst hJ dX1_canGoTo_86 ?_
              refine j_iret hJ rfl rfl (rfl) (Nat.le_of_ble_eq_true rfl) (Nat.le_of_ble_eq_true rfl) dX1_canGoTo_87 ⟨0, rfl, rfl, ?_⟩
              rw [Nat.add_sub_cancel]
              simp only [Nat.add_one_ne_zero, false_or]
              have a1 := iabs_spec (c - p m0 / 12)
              have a2 := iabs_spec (r - p m0 % 12)
              unfold Aln
              exact ⟨fun h => by first | trivial | omega, fun h => by first | trivial | omega⟩
            · intro h79
              refine j_iconst hJ dX1_canGoTo_82 ?_
              refine j_goto hJ (tgt := 87) (by decide) dX1_canGoTo_83 ?_
              refine j_iret hJ rfl rfl (rfl) (Nat.le_of_ble_eq_true rfl) (Nat.le_of_ble_eq_true rfl) dX1_canGoTo_87 ⟨1, rfl, rfl, ?_⟩
              rw [Nat.add_sub_cancel]
              simp only [Nat.add_one_ne_zero, false_or]
              have a1 := iabs_spec (c - p m0 / 12)
              have a2 := iabs_spec (r - p m0 % 12)
              unfold Aln
              exact ⟨fun h => by first | trivial | omega, fun h => by first | trivial | omega⟩
    refine j_iload hJ (j := 1) rfl dX1_canGoTo_43 ?_
    refine j_if_ne hJ (tgt := 57) ⟨by unfold iabs; omega, by unfold iabs; omega⟩ (by decide) dX1_canGoTo_45 ?_ ?_
    · intro h45
      refine j_iconst hJ dX1_canGoTo_57 ?_
      exact j58 0 (by have a1 := iabs_spec (c - p m0 / 12); have a2 := iabs_spec (r - p m0 % 12); omega)
    · intro h45
      refine j_iload hJ (j := 0) rfl dX1_canGoTo_48 ?_
      refine j_if_ne hJ (tgt := 57) ⟨by unfold iabs; omega, by unfold iabs; omega⟩ (by decide) dX1_canGoTo_50 ?_ ?_
      · intro h50
        refine j_iconst hJ dX1_canGoTo_57 ?_
        exact j58 0 (by have a1 := iabs_spec (c - p m0 / 12); have a2 := iabs_spec (r - p m0 % 12); omega)
      · intro h50
        refine j_iconst hJ dX1_canGoTo_53 ?_
        refine j_goto hJ (tgt := 58) (by decide) dX1_canGoTo_54 ?_
        exact j58 1 (by have a1 := iabs_spec (c - p m0 / 12); have a2 := iabs_spec (r - p m0 % 12); omega)
  · intro h4
    refine j_iconst hJ dX1_canGoTo_7 ?_
    refine j_iret hJ rfl rfl (rfl) (Nat.le_of_ble_eq_true rfl) (Nat.le_of_ble_eq_true rfl) dX1_canGoTo_8 ⟨1, rfl, rfl, ?_⟩
    exact ⟨fun _ => rfl, fun h => absurd (Or.inl (hlen.1.mp h4)) h⟩
set_option maxHeartbeats 4000000 in
set_option maxRecDepth 100000 in
theorem c_X1_beginsRun {μ : Nat → Int → Int} {i : Nat} {c r : Int} {On : Int → Prop} (hfl : l.stackTraces = false) (hi : i < 16) (hc : 0 ≤ c ∧ c < 12) (hr : 0 ≤ r ∧ r < 12) (hOn : RowsOn μ i On) : CT l D cy n0 ad yX1_beginsRun (.code yX1_beginsRun cX1_beginsRun 3 (some .boolean)) ({ frames := 1, cells := 0, slots := 0, locals := 22 }) [.ref (b (9 + 6 * i + 2)), .int (zI c), .int (zI r)] (gw 105 XSh cy b μ ++ E) (fun vv uu => ∃ q, vv = some (.int (zI q)) ∧ uu = (gw 105 XSh cy b μ ++ E) ∧ (((On (12 * c + r) ∧ (r = 0 ∨ ¬ On (12 * c + r - 1))) → q = 1) ∧ (¬ (On (12 * c + r) ∧ (r = 0 ∨ ¬ On (12 * c + r - 1))) → q = 0))) := by
  refine CT.walk hfl (by decide) (Nat.le_of_ble_eq_true rfl) ?_
  intro A J hJ
  show J (gw 105 XSh cy b μ ++ E) 0 0 0 [(0, .ref (b (9 + 6 * i + 2))), (1, .int (zI c)), (2, .int (zI r))] []
  refine j_aload_n hJ (j := 0) rfl rfl dX1_beginsRun_0 ?_
  refine j_iload_n hJ (j := 1) rfl rfl dX1_beginsRun_1 ?_
  refine j_iload_n hJ (j := 2) rfl rfl dX1_beginsRun_2 ?_
  refine j_callV0 hJ (c_X1_covers hfl (On := On) hi hc hr hOn) m_X1_64 k_X1_covers (q0 := 9 + 6 * i + 2) (by rw [gw_get (by omega), XS2]; rfl) rfl ⟨(Nat.le_of_ble_eq_true rfl), (Nat.le_of_ble_eq_true rfl)⟩ ⟨(Nat.le_of_ble_eq_true rfl), (Nat.le_of_ble_eq_true rfl)⟩ (Nat.le_of_ble_eq_true rfl) dX1_beginsRun_3 rfl ?_
  intro v1 u2 hv3
  obtain ⟨q3, rfl, rfl, h3⟩ := hv3
  show J (gw 105 XSh cy b μ ++ E) 0 0 6 [(0, .ref (b (9 + 6 * i + 2))), (1, .int (zI c)), (2, .int (zI r))] [.int (zI q3)]
  have hq3 := b01 h3
  refine j_if_eq hJ (tgt := 28) ⟨by omega, by omega⟩ (by decide) dX1_beginsRun_6 ?_ ?_
  · intro h6
    refine j_iconst hJ dX1_beginsRun_28 ?_
    refine j_iret hJ rfl rfl (rfl) (Nat.le_of_ble_eq_true rfl) (Nat.le_of_ble_eq_true rfl) dX1_beginsRun_29 ⟨0, rfl, rfl, ?_⟩
    have g : ¬ On (12 * c + r) := fun g => by have := h3.1 g; omega
    exact ⟨fun h => absurd h.1 g, fun _ => rfl⟩
  · intro h6
    refine j_iload_n hJ (j := 2) rfl rfl dX1_beginsRun_9 ?_
    refine j_if_eq hJ (tgt := 24) ⟨by omega, by omega⟩ (by decide) dX1_beginsRun_10 ?_ ?_
    · intro h10
      refine j_iconst hJ dX1_beginsRun_24 ?_
      refine j_goto hJ (tgt := 29) (by decide) dX1_beginsRun_25 ?_
      refine j_iret hJ rfl rfl (rfl) (Nat.le_of_ble_eq_true rfl) (Nat.le_of_ble_eq_true rfl) dX1_beginsRun_29 ⟨1, rfl, rfl, ?_⟩
      have g : On (12 * c + r) := Classical.byContradiction fun g => h6 (h3.2 g)
      exact ⟨fun _ => rfl, fun h => absurd ⟨g, Or.inl h10⟩ h⟩
    · intro h10
      refine j_aload_n hJ (j := 0) rfl rfl dX1_beginsRun_13 ?_
      refine j_iload_n hJ (j := 1) rfl rfl dX1_beginsRun_14 ?_
      refine j_iload_n hJ (j := 2) rfl rfl dX1_beginsRun_15 ?_
      refine j_iconst hJ dX1_beginsRun_16 ?_
      refine j_isub hJ dX1_beginsRun_17 ?_
      refine j_callV0 hJ (c_X1_covers hfl (On := On) hi hc ⟨by omega, by omega⟩ hOn) m_X1_64 k_X1_covers (q0 := 9 + 6 * i + 2) (by rw [gw_get (by omega), XS2]; rfl) rfl ⟨(Nat.le_of_ble_eq_true rfl), (Nat.le_of_ble_eq_true rfl)⟩ ⟨(Nat.le_of_ble_eq_true rfl), (Nat.le_of_ble_eq_true rfl)⟩ (Nat.le_of_ble_eq_true rfl) dX1_beginsRun_18 rfl ?_
      intro v4 u5 hv6
      obtain ⟨q18, rfl, rfl, h18⟩ := hv6
      show J (gw 105 XSh cy b μ ++ E) 0 0 21 [(0, .ref (b (9 + 6 * i + 2))), (1, .int (zI c)), (2, .int (zI r))] [.int (zI q18)]
      rw [show 12 * c + (r - 1) = 12 * c + r - 1 by omega] at h18
      have hq18 := b01 h18
      refine j_if_ne hJ (tgt := 28) ⟨by omega, by omega⟩ (by decide) dX1_beginsRun_21 ?_ ?_
      · intro h21
        refine j_iconst hJ dX1_beginsRun_28 ?_
        refine j_iret hJ rfl rfl (rfl) (Nat.le_of_ble_eq_true rfl) (Nat.le_of_ble_eq_true rfl) dX1_beginsRun_29 ⟨0, rfl, rfl, ?_⟩
        have g : On (12 * c + r - 1) := Classical.byContradiction fun g => h21 (h18.2 g)
        exact ⟨fun h => absurd h.2 (by simp [g, h10]), fun _ => rfl⟩
      · intro h21
        refine j_iconst hJ dX1_beginsRun_24 ?_
        refine j_goto hJ (tgt := 29) (by decide) dX1_beginsRun_25 ?_
        refine j_iret hJ rfl rfl (rfl) (Nat.le_of_ble_eq_true rfl) (Nat.le_of_ble_eq_true rfl) dX1_beginsRun_29 ⟨1, rfl, rfl, ?_⟩
        have g : On (12 * c + r) := Classical.byContradiction fun g => h6 (h3.2 g)
        have g2 : ¬ On (12 * c + r - 1) := fun g => by have := h18.1 g; omega
        exact ⟨fun _ => rfl, fun h => absurd ⟨g, Or.inr g2⟩ h⟩
set_option maxHeartbeats 4000000 in
set_option maxRecDepth 100000 in
theorem c_X1_endOfRun {μ : Nat → Int → Int} {i : Nat} {c r : Int} {On : Int → Prop} (hfl : l.stackTraces = false) (hi : i < 16) (hc : 0 ≤ c ∧ c < 12) (hr : 0 ≤ r ∧ r < 12) (hOn : RowsOn μ i On) : CT l D cy n0 ad yX1_endOfRun (.code yX1_endOfRun cX1_endOfRun 4 (some .int)) ({ frames := 1, cells := 0, slots := 0, locals := 22 }) [.ref (b (9 + 6 * i + 2)), .int (zI c), .int (zI r)] (gw 105 XSh cy b μ ++ E) (fun vv uu => ∃ q, vv = some (.int (zI q)) ∧ uu = (gw 105 XSh cy b μ ++ E) ∧ (r ≤ q ∧ q < 12 ∧ (∀ j, r < j → j ≤ q → On (12 * c + j)) ∧ (q = 11 ∨ ¬ On (12 * c + q + 1)))) := by
  refine CT.walk hfl (by decide) (Nat.le_of_ble_eq_true rfl) ?_
  intro A J hJ
  show J (gw 105 XSh cy b μ ++ E) 0 0 0 [(0, .ref (b (9 + 6 * i + 2))), (1, .int (zI c)), (2, .int (zI r))] []
  refine j_iload_n hJ (j := 2) rfl rfl dX1_endOfRun_0 ?_
  refine j_istore_n hJ (lv' := [(3, .int (zI r)), (0, .ref (b (9 + 6 * i + 2))), (1, .int (zI c)), (2, .int (zI r))]) rfl (by decide) rfl dX1_endOfRun_1 ?_
  have lp2 : ∀ (nn2 : Nat) (k : Int) (hmeas2 : ((12 : Int) - k).toNat < nn2) (hk : r ≤ k ∧ k < 12) (hn : ∀ j, r < j → j ≤ k → On (12 * c + j)), J (gw 105 XSh cy b μ ++ E) 0 0 2 [(0, .ref (b (9 + 6 * i + 2))), (1, .int (zI c)), (2, .int (zI r)), (3, .int (zI k))] [] := by
    intro nn2
    induction nn2 with
    | zero => intro k hmeas2 hk hn; omega
    | succ nn2 ih2 =>
      intro k hmeas2 hk hn
      refine j_iload_n hJ (j := 3) rfl rfl dX1_endOfRun_2 ?_
      refine j_iconst hJ dX1_endOfRun_3 ?_
      refine j_iadd hJ dX1_endOfRun_4 ?_
      refine j_bipush hJ (v := 12) (by decide) dX1_endOfRun_5 ?_
      refine j_icmp_ge hJ (tgt := 27) ⟨by omega, by omega⟩ ⟨by omega, by omega⟩ (by decide) dX1_endOfRun_7 ?_ ?_
      · intro h7
        refine j_iload_n hJ (j := 3) rfl rfl dX1_endOfRun_27 ?_
        refine j_iret hJ rfl rfl (rfl) (Nat.le_of_ble_eq_true rfl) (Nat.le_of_ble_eq_true rfl) dX1_endOfRun_28 ⟨k, rfl, rfl, ?_⟩
        exact ⟨hk.1, hk.2, hn, Or.inl (by omega)⟩
      · intro h7
        refine j_aload_n hJ (j := 0) rfl rfl dX1_endOfRun_10 ?_
        refine j_iload_n hJ (j := 1) rfl rfl dX1_endOfRun_11 ?_
        refine j_iload_n hJ (j := 3) rfl rfl dX1_endOfRun_12 ?_
        refine j_iconst hJ dX1_endOfRun_13 ?_
        refine j_iadd hJ dX1_endOfRun_14 ?_
        refine j_callV0 hJ (c_X1_covers hfl (On := On) hi hc ⟨by omega, by omega⟩ hOn) m_X1_64 k_X1_covers (q0 := 9 + 6 * i + 2) (by rw [gw_get (by omega), XS2]; rfl) rfl ⟨(Nat.le_of_ble_eq_true rfl), (Nat.le_of_ble_eq_true rfl)⟩ ⟨(Nat.le_of_ble_eq_true rfl), (Nat.le_of_ble_eq_true rfl)⟩ (Nat.le_of_ble_eq_true rfl) dX1_endOfRun_15 rfl ?_
        intro v1 u2 hv3
        obtain ⟨q15, rfl, rfl, h15⟩ := hv3
        show J (gw 105 XSh cy b μ ++ E) 0 0 18 [(0, .ref (b (9 + 6 * i + 2))), (1, .int (zI c)), (2, .int (zI r)), (3, .int (zI k))] [.int (zI q15)]
        have hq15 := b01 h15
        refine j_if_eq hJ (tgt := 27) ⟨by omega, by omega⟩ (by decide) dX1_endOfRun_18 ?_ ?_
        · intro h18
          refine j_iload_n hJ (j := 3) rfl rfl dX1_endOfRun_27 ?_
          refine j_iret hJ rfl rfl (rfl) (Nat.le_of_ble_eq_true rfl) (Nat.le_of_ble_eq_true rfl) dX1_endOfRun_28 ⟨k, rfl, rfl, ?_⟩
          refine ⟨hk.1, hk.2, hn, Or.inr fun g => ?_⟩
          rw [show 12 * c + k + 1 = 12 * c + (k + 1) by omega] at g
          have := h15.1 g
          omega
        · intro h18
          refine j_iinc hJ (lv' := [(3, .int (zI (k + 1))), (0, .ref (b (9 + 6 * i + 2))), (1, .int (zI c)), (2, .int (zI r))]) (j := 3) rfl (by omega) (by decide) rfl dX1_endOfRun_21 ?_
          refine j_goto hJ (tgt := 2) (by decide) dX1_endOfRun_24 ?_
          refine j_locs hJ [1, 2, 3, 0] rfl ?_
          refine ih2 (k + 1) (by omega) (by omega) ?_
          · intro j a b
            by_cases e : j = k + 1
            · rw [e]; exact Classical.byContradiction fun g => h18 (h15.2 g)
            · exact hn j a (by omega)
  refine j_locs hJ [1, 2, 3, 0] rfl ?_
  exact lp2 (((12 : Int) - r).toNat + 1) r (by omega) (by omega) (by intro j a b; omega)
def IsNear (On : Int → Prop) (c r n q : Int) : Prop := (q = -1 ∧ ∀ s, 0 ≤ s → s < n → ¬ On s) ∨ (0 ≤ q ∧ q < n ∧ On q ∧ ∀ s, 0 ≤ s → s < n → On s → far q c r < far s c r ∨ (far q c r = far s c r ∧ q ≤ s))
theorem IsNear.one {On : Int → Prop} {c r n q q' : Int} (h : IsNear On c r n q) (h' : IsNear On c r n q') : q = q' := by
  rcases h with ⟨e, h⟩ | ⟨a1, a2, a3, a4⟩ <;> rcases h' with ⟨e', h'⟩ | ⟨b1, b2, b3, b4⟩
  · omega
  · exact absurd b3 (h q' b1 b2)
  · exact absurd a3 (h' q a1 a2)
  · have x := a4 q' b1 b2 b3
    have y := b4 q a1 a2 a3
    omega
theorem near_no {On : Int → Prop} {c r k best : Int} (h : IsNear On c r k best) (hk : 0 ≤ k) (g : ¬ On k) : IsNear On c r (k + 1) best := by
  rcases h with ⟨e, h⟩ | ⟨a1, a2, a3, a4⟩
  · refine Or.inl ⟨e, fun s s0 s1 => ?_⟩
    by_cases e : s = k
    · rw [e]; exact g
    · exact h s s0 (by omega)
  · refine Or.inr ⟨a1, by omega, a3, fun s s0 s1 hs => ?_⟩
    by_cases e : s = k
    · rw [e] at hs; exact absurd hs g
    · exact a4 s s0 (by omega) hs
theorem near_far {On : Int → Prop} {c r k best least : Int} (h : IsNear On c r k best) (hk : 0 ≤ k) (hb : (best = -1 ∧ least = 12) ∨ (0 ≤ best ∧ best < k ∧ least = far best c r)) (hf : 0 ≤ far k c r ∧ far k c r ≤ 11) (g : least ≤ far k c r) : IsNear On c r (k + 1) best := by
  rcases h with ⟨e, h⟩ | ⟨a1, a2, a3, a4⟩
  · omega
  · refine Or.inr ⟨a1, by omega, a3, fun s s0 s1 hs => ?_⟩
    by_cases e : s = k
    · rw [e]; omega
    · exact a4 s s0 (by omega) hs
theorem near_new {On : Int → Prop} {c r k best least : Int} (h : IsNear On c r k best) (hk : 0 ≤ k) (hb : (best = -1 ∧ least = 12) ∨ (0 ≤ best ∧ best < k ∧ least = far best c r)) (g : On k) (hf : 0 ≤ far k c r ∧ far k c r ≤ 11) (g2 : far k c r < least) : IsNear On c r (k + 1) k := by
  refine Or.inr ⟨hk, by omega, g, fun s s0 s1 hs => ?_⟩
  by_cases e : s = k
  · rw [e]; omega
  · rcases h with ⟨e, h⟩ | ⟨a1, a2, a3, a4⟩
    · exact absurd hs (h s s0 (by omega))
    · have := a4 s s0 (by omega) hs
      omega
set_option maxHeartbeats 4000000 in
set_option maxRecDepth 100000 in
theorem c_X1_nearestTo {μ : Nat → Int → Int} {i : Nat} {c r : Int} {On : Int → Prop} (hfl : l.stackTraces = false) (hi : i < 16) (hc : 0 ≤ c ∧ c < 12) (hr : 0 ≤ r ∧ r < 12) (hOn : RowsOn μ i On) : CT l D cy n0 ad yX1_nearestTo (.code yX1_nearestTo cX1_nearestTo 6 (some .int)) ({ frames := 2, cells := 0, slots := 0, locals := 43 }) [.ref (b (9 + 6 * i + 2)), .int (zI c), .int (zI r)] (gw 105 XSh cy b μ ++ E) (fun vv uu => ∃ q, vv = some (.int (zI q)) ∧ uu = (gw 105 XSh cy b μ ++ E) ∧ (IsNear On c r 144 q)) := by
  refine CT.walk hfl (by decide) (Nat.le_of_ble_eq_true rfl) ?_
  intro A J hJ
  show J (gw 105 XSh cy b μ ++ E) 0 0 0 [(0, .ref (b (9 + 6 * i + 2))), (1, .int (zI c)), (2, .int (zI r))] []
  refine j_iconst hJ dX1_nearestTo_0 ?_
  refine j_istore_n hJ (lv' := [(3, .int (zI (-1))), (0, .ref (b (9 + 6 * i + 2))), (1, .int (zI c)), (2, .int (zI r))]) rfl (by decide) rfl dX1_nearestTo_1 ?_
  refine j_bipush hJ (v := 12) (by decide) dX1_nearestTo_2 ?_
  refine j_istore hJ (lv' := [(4, .int (zI 12)), (3, .int (zI (-1))), (0, .ref (b (9 + 6 * i + 2))), (1, .int (zI c)), (2, .int (zI r))]) (by decide) rfl dX1_nearestTo_4 ?_
  refine j_iconst hJ dX1_nearestTo_6 ?_
  refine j_istore hJ (lv' := [(5, .int (zI 0)), (4, .int (zI 12)), (3, .int (zI (-1))), (0, .ref (b (9 + 6 * i + 2))), (1, .int (zI c)), (2, .int (zI r))]) (by decide) rfl dX1_nearestTo_7 ?_
  have lp9 : ∀ (nn9 : Nat) (best : Int) (least : Int) (k : Int) (hmeas9 : ((144 : Int) - k).toNat < nn9) (hk : 0 ≤ k ∧ k ≤ 144) (hb : (best = -1 ∧ least = 12) ∨ (0 ≤ best ∧ best < k ∧ least = far best c r)) (hn : IsNear On c r k best), J (gw 105 XSh cy b μ ++ E) 0 0 9 [(0, .ref (b (9 + 6 * i + 2))), (1, .int (zI c)), (2, .int (zI r)), (3, .int (zI best)), (4, .int (zI least)), (5, .int (zI k))] [] := by
    intro nn9
    induction nn9 with
    | zero => intro best least k hmeas9 hk hb hn; omega
    | succ nn9 ih9 =>
      intro best least k hmeas9 hk hb hn
      refine j_iload hJ (j := 5) rfl dX1_nearestTo_9 ?_
      refine j_sipush hJ (v := 144) (by decide) dX1_nearestTo_11 ?_
      refine j_icmp_ge hJ (tgt := 64) ⟨by omega, by omega⟩ ⟨by omega, by omega⟩ (by decide) dX1_nearestTo_14 ?_ ?_
      · intro h14
        refine j_iload_n hJ (j := 3) rfl rfl dX1_nearestTo_64 ?_
        refine j_iret hJ rfl rfl (rfl) (Nat.le_of_ble_eq_true rfl) (Nat.le_of_ble_eq_true rfl) dX1_nearestTo_65 ⟨best, rfl, rfl, ?_⟩
        rw [show k = 144 by omega] at hn
        exact hn
      · intro h14
        refine j_aload_n hJ (j := 0) rfl rfl dX1_nearestTo_17 ?_
        refine j_iload hJ (j := 5) rfl dX1_nearestTo_18 ?_
        refine j_bipush hJ (v := 12) (by decide) dX1_nearestTo_20 ?_
        refine j_idiv hJ (by omega) (by omega) (by omega) (by omega) dX1_nearestTo_22 ?_
        refine j_iload hJ (j := 5) rfl dX1_nearestTo_23 ?_
        refine j_bipush hJ (v := 12) (by decide) dX1_nearestTo_25 ?_
        refine j_irem hJ (by omega) (by omega) (by omega) (by omega) dX1_nearestTo_27 ?_
        refine j_callV0 hJ (c_X1_covers hfl (On := On) hi ⟨by omega, by omega⟩ ⟨by omega, by omega⟩ hOn) m_X1_64 k_X1_covers (q0 := 9 + 6 * i + 2) (by rw [gw_get (by omega), XS2]; rfl) rfl ⟨(Nat.le_of_ble_eq_true rfl), (Nat.le_of_ble_eq_true rfl)⟩ ⟨(Nat.le_of_ble_eq_true rfl), (Nat.le_of_ble_eq_true rfl)⟩ (Nat.le_of_ble_eq_true rfl) dX1_nearestTo_28 rfl ?_
        intro v1 u2 hv3
        obtain ⟨q28, rfl, rfl, h28⟩ := hv3
        show J (gw 105 XSh cy b μ ++ E) 0 0 31 [(0, .ref (b (9 + 6 * i + 2))), (1, .int (zI c)), (2, .int (zI r)), (3, .int (zI best)), (4, .int (zI least)), (5, .int (zI k))] [.int (zI q28)]
        rw [show 12 * (k / 12) + k % 12 = k by omega] at h28
        have hq28 := b01 h28
        refine j_if_eq hJ (tgt := 58) ⟨by omega, by omega⟩ (by decide) dX1_nearestTo_31 ?_ ?_
        · intro h31
          have g28 : ¬ On k := fun g => by have := h28.1 g; omega
          refine j_iinc hJ (lv' := [(5, .int (zI (k + 1))), (0, .ref (b (9 + 6 * i + 2))), (1, .int (zI c)), (2, .int (zI r)), (3, .int (zI best)), (4, .int (zI least))]) (j := 5) rfl (by omega) (by decide) rfl dX1_nearestTo_58 ?_
          refine j_goto hJ (tgt := 9) (by decide) dX1_nearestTo_61 ?_
          refine j_locs hJ [1, 2, 3, 4, 5, 0] rfl ?_
          exact ih9 best least (k + 1) (by omega) (by omega) (by omega) (by first | exact near_no hn hk.1 g28 | exact near_far hn hk.1 hb hfk h43 | exact near_new hn hk.1 hb g28 hfk h43)
        · intro h31
          have g28 : On k := Classical.byContradiction fun g => h31 (h28.2 g)
          have hfk := far_rng (a := k) ⟨by omega, by omega⟩ hc hr
          refine j_iload hJ (j := 5) rfl dX1_nearestTo_34 ?_
          refine j_iload_n hJ (j := 1) rfl rfl dX1_nearestTo_36 ?_
          refine j_iload_n hJ (j := 2) rfl rfl dX1_nearestTo_37 ?_
          refine j_callS0 hJ (c_X4_apart hfl ⟨by omega, by omega⟩ hc hr) m_X1_45 k_X4_apart ⟨(Nat.le_of_ble_eq_true rfl), (Nat.le_of_ble_eq_true rfl)⟩ ⟨(Nat.le_of_ble_eq_true rfl), (Nat.le_of_ble_eq_true rfl)⟩ (Nat.le_of_ble_eq_true rfl) dX1_nearestTo_38 rfl ?_
          intro v4 u5 hv6
          obtain ⟨_, rfl, rfl, rfl⟩ := hv6
          show J (gw 105 XSh cy b μ ++ E) 0 0 41 [(0, .ref (b (9 + 6 * i + 2))), (1, .int (zI c)), (2, .int (zI r)), (3, .int (zI best)), (4, .int (zI least)), (5, .int (zI k))] [.int (zI (far k c r))]
          refine j_iload hJ (j := 4) rfl dX1_nearestTo_41 ?_
          have hle : -2147483648 ≤ least ∧ least < 2147483648 := by
            rcases hb with ⟨-, e⟩ | ⟨b1, b2, e⟩
            · omega
            · have := far_rng (a := best) ⟨b1, by omega⟩ hc hr
              omega
          refine j_icmp_ge hJ (tgt := 58) ⟨by omega, by omega⟩ ⟨by omega, by omega⟩ (by decide) dX1_nearestTo_43 ?_ ?_
          · intro h43
            refine j_iinc hJ (lv' := [(5, .int (zI (k + 1))), (0, .ref (b (9 + 6 * i + 2))), (1, .int (zI c)), (2, .int (zI r)), (3, .int (zI best)), (4, .int (zI least))]) (j := 5) rfl (by omega) (by decide) rfl dX1_nearestTo_58 ?_
            refine j_goto hJ (tgt := 9) (by decide) dX1_nearestTo_61 ?_
            refine j_locs hJ [1, 2, 3, 4, 5, 0] rfl ?_
            exact ih9 best least (k + 1) (by omega) (by omega) (by omega) (by first | exact near_no hn hk.1 g28 | exact near_far hn hk.1 hb hfk h43 | exact near_new hn hk.1 hb g28 hfk h43)
          · intro h43
            refine j_iload hJ (j := 5) rfl dX1_nearestTo_46 ?_
            refine j_istore_n hJ (lv' := [(3, .int (zI k)), (0, .ref (b (9 + 6 * i + 2))), (1, .int (zI c)), (2, .int (zI r)), (4, .int (zI least)), (5, .int (zI k))]) rfl (by decide) rfl dX1_nearestTo_48 ?_
            refine j_iload hJ (j := 5) rfl dX1_nearestTo_49 ?_
            refine j_iload_n hJ (j := 2) rfl rfl dX1_nearestTo_51 ?_
            refine j_iload_n hJ (j := 3) rfl rfl dX1_nearestTo_52 ?_
            refine j_callS0 hJ (c_X4_apart hfl ⟨by omega, by omega⟩ hc hr) m_X1_45 k_X4_apart ⟨(Nat.le_of_ble_eq_true rfl), (Nat.le_of_ble_eq_true rfl)⟩ ⟨(Nat.le_of_ble_eq_true rfl), (Nat.le_of_ble_eq_true rfl)⟩ (Nat.le_of_ble_eq_true rfl) dX1_nearestTo_53 rfl ?_
            intro v7 u8 hv9
            obtain ⟨_, rfl, rfl, rfl⟩ := hv9
            show J (gw 105 XSh cy b μ ++ E) 0 0 56 [(3, .int (zI k)), (0, .ref (b (9 + 6 * i + 2))), (1, .int (zI c)), (2, .int (zI r)), (4, .int (zI least)), (5, .int (zI k))] [.int (zI (far k c r))]
            refine j_istore hJ (lv' := [(4, .int (zI (far k c r))), (3, .int (zI k)), (0, .ref (b (9 + 6 * i + 2))), (1, .int (zI c)), (2, .int (zI r)), (5, .int (zI k))]) (by decide) rfl dX1_nearestTo_56 ?_
            refine j_iinc hJ (lv' := [(5, .int (zI (k + 1))), (4, .int (zI (far k c r))), (3, .int (zI k)), (0, .ref (b (9 + 6 * i + 2))), (1, .int (zI c)), (2, .int (zI r))]) (j := 5) rfl (by omega) (by decide) rfl dX1_nearestTo_58 ?_
            refine j_goto hJ (tgt := 9) (by decide) dX1_nearestTo_61 ?_
            refine j_locs hJ [3, 4, 5, 2, 1, 0] rfl ?_
            exact ih9 k (far k c r) (k + 1) (by omega) (by omega) (by omega) (by first | exact near_no hn hk.1 g28 | exact near_far hn hk.1 hb hfk h43 | exact near_new hn hk.1 hb g28 hfk h43)
  refine j_locs hJ [3, 4, 5, 2, 1, 0] rfl ?_
  exact lp9 (((144 : Int) - 0).toNat + 1) (-1) 12 0 (by omega) (by omega) (by omega) (by exact Or.inl ⟨rfl, fun s a b => by omega⟩)
end
