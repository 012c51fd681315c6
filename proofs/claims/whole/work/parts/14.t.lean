
theorem mm_X4_168 : Cond.methodLink RX4 168 Lib.Math.abs.name ∈ GT := (List.mem_of_getElem? (i := 350) (by decide +kernel))
theorem mm_X4_173 : Cond.methodLink RX4 173 Lib.Math.max.name ∈ GT := (List.mem_of_getElem? (i := 351) (by decide +kernel))
set_option maxRecDepth 20000 in
theorem f_X1_18 : FF RX1 18 2 4 (.array .int) true := ⟨RX1, TX1, 5, tyX1, rfl, by decide, lays_X1, tyX1_ok, rfl, rfl, nmX1, Or.inl (List.mem_of_getElem? (i := 130) (by decide +kernel))⟩
section
variable {l : Launch} {D : va_G} {cy : Nat → ClassId} {n0 : Nat} {ad : Nat → Nat} {b : Nat} {E : va_W}
set_option maxHeartbeats 4000000 in
set_option maxRecDepth 100000 in
theorem c_X4_sign {μ : Nat → Int → Int} {z : Int} (hfl : l.stackTraces = false) (hz : -2147483648 ≤ z ∧ z < 2147483648) : CT l D cy n0 ad yX4_sign (.code yX4_sign cX4_sign 1 (some .int)) ({ frames := 0, cells := 0, slots := 0, locals := 0 }) [.int (zI z)] (gw 105 XSh cy b μ ++ E) (fun v u => ∃ q, v = some (.int (zI q)) ∧ u = (gw 105 XSh cy b μ ++ E) ∧ ((z < 0 → q = -1) ∧ (z = 0 → q = 0) ∧ (0 < z → q = 1))) := by
  refine CT.walk hfl (by decide) (Nat.le_of_ble_eq_true rfl) ?_
  intro A J hJ
  show J (gw 105 XSh cy b μ ++ E) 0 0 0 [(0, .int (zI z))] []
  refine j_iload_n hJ (j := 0) rfl rfl dX4_sign_0 ?_
  refine j_if_ne hJ (tgt := 6) ⟨by omega, by omega⟩ (by decide) dX4_sign_1 ?_ ?_
  · intro h1
    refine j_iload_n hJ (j := 0) rfl rfl dX4_sign_6 ?_
    refine j_if_ge hJ (tgt := 14) ⟨by omega, by omega⟩ (by decide) dX4_sign_7 ?_ ?_
    · intro h7
      refine j_iconst hJ dX4_sign_14 ?_
      refine j_iret hJ rfl rfl (rfl) (Nat.le_of_ble_eq_true rfl) (Nat.le_of_ble_eq_true rfl) dX4_sign_15 ⟨1, rfl, rfl, ?_⟩
      omega
    · intro h7
      refine j_iconst hJ dX4_sign_10 ?_
      refine j_goto hJ (tgt := 15) (by decide) dX4_sign_11 ?_
      refine j_iret hJ rfl rfl (rfl) (Nat.le_of_ble_eq_true rfl) (Nat.le_of_ble_eq_true rfl) dX4_sign_15 ⟨(-1), rfl, rfl, ?_⟩
      omega
  · intro h1
    refine j_iconst hJ dX4_sign_4 ?_
    refine j_iret hJ rfl rfl (rfl) (Nat.le_of_ble_eq_true rfl) (Nat.le_of_ble_eq_true rfl) dX4_sign_5 ⟨0, rfl, rfl, ?_⟩
    omega
set_option maxHeartbeats 4000000 in
set_option maxRecDepth 100000 in
theorem c_X4_squareOf {μ : Nat → Int → Int} {c r : Int} (hfl : l.stackTraces = false)  : CT l D cy n0 ad yX4_squareOf (.code yX4_squareOf cX4_squareOf 2 (some .int)) ({ frames := 0, cells := 0, slots := 0, locals := 0 }) [.int (zI c), .int (zI r)] (gw 105 XSh cy b μ ++ E) (fun v u => ∃ q, v = some (.int (zI q)) ∧ u = (gw 105 XSh cy b μ ++ E) ∧ (q = 12 * c + r)) := by
  refine CT.walk hfl (by decide) (Nat.le_of_ble_eq_true rfl) ?_
  intro A J hJ
  show J (gw 105 XSh cy b μ ++ E) 0 0 0 [(0, .int (zI c)), (1, .int (zI r))] []
  refine j_bipush hJ (v := 12) (by decide) dX4_squareOf_0 ?_
  refine j_iload_n hJ (j := 0) rfl rfl dX4_squareOf_2 ?_
  refine j_imul hJ dX4_squareOf_3 ?_
  refine j_iload_n hJ (j := 1) rfl rfl dX4_squareOf_4 ?_
  refine j_iadd hJ dX4_squareOf_5 ?_
  refine j_iret hJ rfl rfl (rfl) (Nat.le_of_ble_eq_true rfl) (Nat.le_of_ble_eq_true rfl) dX4_squareOf_6 ⟨((12 * c) + r), rfl, rfl, ?_⟩
  trivial
set_option maxHeartbeats 4000000 in
set_option maxRecDepth 100000 in
theorem c_X4_apart {μ : Nat → Int → Int} {s c r : Int} (hfl : l.stackTraces = false) (hs : 0 ≤ s ∧ s < 144) (hc : 0 ≤ c ∧ c < 12) (hr : 0 ≤ r ∧ r < 12) : CT l D cy n0 ad yX4_apart (.code yX4_apart cX4_apart 3 (some .int)) ({ frames := 1, cells := 0, slots := 0, locals := 21 }) [.int (zI s), .int (zI c), .int (zI r)] (gw 105 XSh cy b μ ++ E) (fun v u => ∃ q, v = some (.int (zI q)) ∧ u = (gw 105 XSh cy b μ ++ E) ∧ (q = imax (iabs (s / 12 - c)) (iabs (s % 12 - r)))) := by
  refine CT.walk hfl (by decide) (Nat.le_of_ble_eq_true rfl) ?_
  intro A J hJ
  show J (gw 105 XSh cy b μ ++ E) 0 0 0 [(0, .int (zI s)), (1, .int (zI c)), (2, .int (zI r))] []
  refine j_iload_n hJ (j := 0) rfl rfl dX4_apart_0 ?_
  refine j_bipush hJ (v := 12) (by decide) dX4_apart_1 ?_
  refine j_idiv hJ (by omega) (by omega) (by omega) (by omega) dX4_apart_3 ?_
  refine j_iload_n hJ (j := 1) rfl rfl dX4_apart_4 ?_
  refine j_isub hJ dX4_apart_5 ?_
  refine j_mabs hJ mm_X4_168 ⟨by omega, by omega⟩ (Nat.le_of_ble_eq_true rfl) (Nat.le_of_ble_eq_true rfl) (Nat.le_of_ble_eq_true rfl) (Nat.le_of_ble_eq_true rfl) dX4_apart_6 ?_
  refine j_iload_n hJ (j := 0) rfl rfl dX4_apart_9 ?_
  refine j_bipush hJ (v := 12) (by decide) dX4_apart_10 ?_
  refine j_irem hJ (by omega) (by omega) (by omega) (by omega) dX4_apart_12 ?_
  refine j_iload_n hJ (j := 2) rfl rfl dX4_apart_13 ?_
  refine j_isub hJ dX4_apart_14 ?_
  refine j_mabs hJ mm_X4_168 ⟨by omega, by omega⟩ (Nat.le_of_ble_eq_true rfl) (Nat.le_of_ble_eq_true rfl) (Nat.le_of_ble_eq_true rfl) (Nat.le_of_ble_eq_true rfl) dX4_apart_15 ?_
  refine j_mmax hJ mm_X4_173 ⟨by unfold iabs; omega, by unfold iabs; omega⟩ ⟨by unfold iabs; omega, by unfold iabs; omega⟩ (Nat.le_of_ble_eq_true rfl) (Nat.le_of_ble_eq_true rfl) (Nat.le_of_ble_eq_true rfl) (Nat.le_of_ble_eq_true rfl) dX4_apart_18 ?_
  refine j_iret hJ rfl rfl (rfl) (Nat.le_of_ble_eq_true rfl) (Nat.le_of_ble_eq_true rfl) dX4_apart_21 ⟨(imax (iabs ((s / 12) - c)) (iabs ((s % 12) - r))), rfl, rfl, ?_⟩
  trivial
set_option maxHeartbeats 4000000 in
set_option maxRecDepth 100000 in
theorem c_X1_covers {μ : Nat → Int → Int} {i : Nat} {c r : Int} {On : Int → Prop} (hfl : l.stackTraces = false) (hi : i < 16) (hc : 0 ≤ c ∧ c < 12) (hr : 0 ≤ r ∧ r < 12) (hOn : RowsOn μ i On) : CT l D cy n0 ad yX1_covers (.code yX1_covers cX1_covers 3 (some .boolean)) ({ frames := 0, cells := 0, slots := 0, locals := 0 }) [.ref (b + (9 + 6 * i + 2)), .int (zI c), .int (zI r)] (gw 105 XSh cy b μ ++ E) (fun v u => ∃ q, v = some (.int (zI q)) ∧ u = (gw 105 XSh cy b μ ++ E) ∧ ((On (12 * c + r) → q = 1) ∧ (¬ On (12 * c + r) → q = 0))) := by
  obtain ⟨g1, g2, g3⟩ := hOn c r hc.1 hc.2 hr.1 hr.2
  have g4 : 0 ≤ μ (9 + 6 * i + 5) c / 2 ^ r.toNat := Int.ediv_nonneg g1 (Int.le_of_lt (Int.pow_pos (by decide)))
  have g5 : μ (9 + 6 * i + 5) c / 2 ^ r.toNat ≤ μ (9 + 6 * i + 5) c := Int.ediv_le_self _ g1
  refine CT.walk hfl (by decide) (Nat.le_of_ble_eq_true rfl) ?_
  intro A J hJ
  show J (gw 105 XSh cy b μ ++ E) 0 0 0 [(0, .ref (b + (9 + 6 * i + 2))), (1, .int (zI c)), (2, .int (zI r))] []
  refine j_aload_n hJ (j := 0) rfl rfl dX1_covers_0 ?_
  refine w_getr hJ (by omega) (XS2 _) rfl f_X1_18 dX1_covers_1 ?_
  refine j_iload_n hJ (j := 1) rfl rfl dX1_covers_4 ?_
  refine w_iald hJ (by omega) (XS5 _) (by decide) (by omega) (by omega) dX1_covers_5 ?_
  refine j_iload_n hJ (j := 2) rfl rfl dX1_covers_6 ?_
  refine j_ishr hJ (v := (μ (9 + 6 * i + 5) c / 2 ^ (r).toNat)) (zI_shr g1 (by omega) hr.1 (by omega)) dX1_covers_7 ?_
  refine j_iconst hJ dX1_covers_8 ?_
  refine j_iand hJ (v := (μ (9 + 6 * i + 5) c / 2 ^ (r).toNat % 2)) (zI_and 1 g4 (by omega) (by decide)) dX1_covers_9 ?_
  refine j_iconst hJ dX1_covers_10 ?_
  refine j_icmp_ne hJ (tgt := 18) ⟨by omega, by omega⟩ ⟨by omega, by omega⟩ (by decide) dX1_covers_11 ?_ ?_
  · intro h11
    refine j_iconst hJ dX1_covers_18 ?_
    refine j_iret hJ rfl rfl (rfl) (Nat.le_of_ble_eq_true rfl) (Nat.le_of_ble_eq_true rfl) dX1_covers_19 ⟨0, rfl, rfl, ?_⟩
    exact ⟨fun h => absurd (g3.mpr h) h11, fun _ => rfl⟩
  · intro h11
    refine j_iconst hJ dX1_covers_14 ?_
    refine j_goto hJ (tgt := 19) (by decide) dX1_covers_15 ?_
    refine j_iret hJ rfl rfl (rfl) (Nat.le_of_ble_eq_true rfl) (Nat.le_of_ble_eq_true rfl) dX1_covers_19 ⟨1, rfl, rfl, ?_⟩
    exact ⟨fun _ => rfl, fun h => absurd (g3.mp h11) h⟩
end
