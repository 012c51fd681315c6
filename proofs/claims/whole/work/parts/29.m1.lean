
set_option maxRecDepth 20000 in
theorem f_X5_54 : FF RX5 54 5 16 .int false := ⟨RX5, TX5, 17, tyX5, rfl, by decide, lays_X5, tyX5_ok, rfl, rfl, nmX5, Or.inl (List.mem_of_getElem? (i := 892) (by decide +kernel))⟩
set_option maxRecDepth 20000 in
theorem f_X5_58 : FF RX5 58 5 7 .int false := ⟨RX5, TX5, 17, tyX5, rfl, by decide, lays_X5, tyX5_ok, rfl, rfl, nmX5, Or.inl (List.mem_of_getElem? (i := 883) (by decide +kernel))⟩
set_option maxRecDepth 20000 in
theorem m_X5_61 : MF RX5 61 1 yX5_in 3 := ⟨Or.inl (List.mem_of_getElem? (i := 940) (by decide +kernel)), (List.mem_of_getElem? (i := 63) (by decide +kernel)), ⟨by decide +kernel, by decide +kernel⟩, by decide +kernel, fun h => by omega, fun _ => (List.mem_of_getElem? (i := 941) (by decide +kernel)), fun h => by omega⟩
set_option maxRecDepth 20000 in
theorem k_X5_in : Cond.code yX5_in cX5_in 3 (some .boolean) ∈ GT := (List.mem_of_getElem? (i := 942) (by decide +kernel))
set_option maxRecDepth 20000 in
theorem f_X5_19 : FF RX5 19 5 3 (.array .int) true := ⟨RX5, TX5, 17, tyX5, rfl, by decide, lays_X5, tyX5_ok, rfl, rfl, nmX5, Or.inl (List.mem_of_getElem? (i := 879) (by decide +kernel))⟩
set_option maxRecDepth 20000 in
theorem f_X5_16 : FF RX5 16 5 2 (.array .int) true := ⟨RX5, TX5, 17, tyX5, rfl, by decide, lays_X5, tyX5_ok, rfl, rfl, nmX5, Or.inl (List.mem_of_getElem? (i := 878) (by decide +kernel))⟩
set_option maxRecDepth 20000 in
theorem f_X5_7 : FF RX5 7 5 0 (.array .int) true := ⟨RX5, TX5, 17, tyX5, rfl, by decide, lays_X5, tyX5_ok, rfl, rfl, nmX5, Or.inl (List.mem_of_getElem? (i := 876) (by decide +kernel))⟩
section
variable {l : Launch} {D : va_G} {cy : Nat → ClassId} {n0 : Nat} {ad : Nat → Nat} {b : Nat → Nat} {E : va_W} {ws : va_W}
set_option maxHeartbeats 4000000 in
set_option maxRecDepth 100000 in
theorem c_X5_in {v lo hi : Int} (hfl : l.stackTraces = false) (hvR : -2147483648 ≤ v ∧ v < 2147483648) (hl : -1000 ≤ lo ∧ lo ≤ 1000) (hh : -1000 ≤ hi ∧ hi ≤ 1000) : CT l D cy n0 ad yX5_in (.code yX5_in cX5_in 3 (some .boolean)) ({ frames := 0, cells := 0, slots := 0, locals := 0 }) [.int (zI v), .int (zI lo), .int (zI hi)] ws (fun vv uu => ∃ q, vv = some (.int (zI q)) ∧ uu = ws ∧ ((q = 1 ∧ lo ≤ v ∧ v ≤ hi) ∨ (q = 0 ∧ ¬ (lo ≤ v ∧ v ≤ hi)))) := by
  refine CT.walk hfl (by decide) (Nat.le_of_ble_eq_true rfl) ?_
  intro A J hJ
  show J ws 0 0 0 [(0, .int (zI v)), (1, .int (zI lo)), (2, .int (zI hi))] []
  refine j_iload_n hJ (j := 0) rfl rfl dX5_in_0 ?_
  refine j_iload_n hJ (j := 1) rfl rfl dX5_in_1 ?_
  refine j_icmp_lt hJ (tgt := 14) ⟨by omega, by omega⟩ ⟨by omega, by omega⟩ (by decide) dX5_in_2 ?_ ?_
  · intro h2
    refine j_iconst hJ dX5_in_14 ?_
    refine j_iret hJ rfl rfl (rfl) (Nat.le_of_ble_eq_true rfl) (Nat.le_of_ble_eq_true rfl) dX5_in_15 ⟨0, rfl, rfl, ?_⟩
    omega
  · intro h2
    refine j_iload_n hJ (j := 0) rfl rfl dX5_in_5 ?_
    refine j_iload_n hJ (j := 2) rfl rfl dX5_in_6 ?_
    refine j_icmp_gt hJ (tgt := 14) ⟨by omega, by omega⟩ ⟨by omega, by omega⟩ (by decide) dX5_in_7 ?_ ?_
    · intro h7
      refine j_iconst hJ dX5_in_14 ?_
      refine j_iret hJ rfl rfl (rfl) (Nat.le_of_ble_eq_true rfl) (Nat.le_of_ble_eq_true rfl) dX5_in_15 ⟨0, rfl, rfl, ?_⟩
      omega
    · intro h7
      refine j_iconst hJ dX5_in_10 ?_
      refine j_goto hJ (tgt := 15) (by decide) dX5_in_11 ?_
      refine j_iret hJ rfl rfl (rfl) (Nat.le_of_ble_eq_true rfl) (Nat.le_of_ble_eq_true rfl) dX5_in_15 ⟨1, rfl, rfl, ?_⟩
      omega
set_option maxHeartbeats 4000000 in
set_option maxRecDepth 100000 in
theorem c_X5_goes {ν : Nat → Int → Int} {k f c : Int} (hfl : l.stackTraces = false) (hk : k = 0 ∨ k = 1) (hf : f = 0 ∨ f = 1) (hc : c = 0 ∨ c = 1) : CT l D cy n0 ad yX5_goes (.code yX5_goes cX5_goes 4 (some .boolean)) ({ frames := 0, cells := 0, slots := 0, locals := 0 }) [.ref (b 0), .int (zI k), .int (zI f), .int (zI c)] (gw 14 MSh cy b ν ++ E) (fun vv uu => ∃ q μ', vv = some (.int (zI q)) ∧ uu = (gw 14 MSh cy b μ' ++ E) ∧ (μ' = up ν 0 16 (goC k f c) ∧ q = if goC k f c = 0 then 1 else 0)) := by
  have hg := goC_rng k f c
  refine CT.walk hfl (by decide) (Nat.le_of_ble_eq_true rfl) ?_
  intro A J hJ
  show J (gw 14 MSh cy b ν ++ E) 0 0 0 [(0, .ref (b 0)), (1, .int (zI k)), (2, .int (zI f)), (3, .int (zI c))] []
  refine j_aload_n hJ (j := 0) rfl rfl dX5_goes_0 ?_
  refine j_iload_n hJ (j := 1) rfl rfl dX5_goes_1 ?_
  refine j_if_ne hJ (tgt := 9) ⟨by omega, by omega⟩ (by decide) dX5_goes_2 ?_ ?_
  · intro h2
    refine j_iload_n hJ (j := 2) rfl rfl dX5_goes_9 ?_
    refine j_if_ne hJ (tgt := 17) ⟨by omega, by omega⟩ (by decide) dX5_goes_10 ?_ ?_
    · intro h10
      refine j_iload_n hJ (j := 3) rfl rfl dX5_goes_17 ?_
      refine j_if_eq hJ (tgt := 25) ⟨by omega, by omega⟩ (by decide) dX5_goes_18 ?_ ?_
      · intro h18
        refine j_iconst hJ dX5_goes_25 ?_
        refine j_topi (y := zI (goC k f c)) (by rw [show goC k f c = 3 by unfold goC; rw [if_neg (by omega), if_neg (by omega), if_pos (by omega)]]) ?_
        refine w_puti hJ (fi := 16) rfl (by omega) rfl rfl f_X5_54 rfl rfl dX5_goes_26 ?_
        intro ν1 hν1
        have hM := hν1
        refine j_aload_n hJ (j := 0) rfl rfl dX5_goes_29 ?_
        refine w_geti hJ (fi := 16) rfl (by omega) rfl rfl f_X5_54 dX5_goes_30 ?_
        refine j_topi (y := zI (goC k f c)) (by rw [hM, up_self]) ?_
        refine j_if_ne hJ (tgt := 40) ⟨by omega, by omega⟩ (by decide) dX5_goes_33 ?_ ?_
        · intro h33
          refine j_iconst hJ dX5_goes_40 ?_
          refine j_iret hJ rfl rfl (rfl) (Nat.le_of_ble_eq_true rfl) (Nat.le_of_ble_eq_true rfl) dX5_goes_41 ⟨0, ν1, rfl, rfl, ?_⟩
          exact ⟨hM, (if_neg h33).symm⟩
        · intro h33
          refine j_iconst hJ dX5_goes_36 ?_
          refine j_goto hJ (tgt := 41) (by decide) dX5_goes_37 ?_
          refine j_iret hJ rfl rfl (rfl) (Nat.le_of_ble_eq_true rfl) (Nat.le_of_ble_eq_true rfl) dX5_goes_41 ⟨1, ν1, rfl, rfl, ?_⟩
          exact ⟨hM, (if_pos h33).symm⟩
      · intro h18
        refine j_iconst hJ dX5_goes_21 ?_
        refine j_topi (y := zI (goC k f c)) (by rw [show goC k f c = 0 by unfold goC; rw [if_neg (by omega), if_neg (by omega), if_neg (by omega)]]) ?_
        refine j_goto hJ (tgt := 26) (by decide) dX5_goes_22 ?_
        refine w_puti hJ (fi := 16) rfl (by omega) rfl rfl f_X5_54 rfl rfl dX5_goes_26 ?_
        intro ν2 hν2
        have hM := hν2
        refine j_aload_n hJ (j := 0) rfl rfl dX5_goes_29 ?_
        refine w_geti hJ (fi := 16) rfl (by omega) rfl rfl f_X5_54 dX5_goes_30 ?_
        refine j_topi (y := zI (goC k f c)) (by rw [hM, up_self]) ?_
        refine j_if_ne hJ (tgt := 40) ⟨by omega, by omega⟩ (by decide) dX5_goes_33 ?_ ?_
        · intro h33
          refine j_iconst hJ dX5_goes_40 ?_
          refine j_iret hJ rfl rfl (rfl) (Nat.le_of_ble_eq_true rfl) (Nat.le_of_ble_eq_true rfl) dX5_goes_41 ⟨0, ν2, rfl, rfl, ?_⟩
          exact ⟨hM, (if_neg h33).symm⟩
        · intro h33
          refine j_iconst hJ dX5_goes_36 ?_
          refine j_goto hJ (tgt := 41) (by decide) dX5_goes_37 ?_
          refine j_iret hJ rfl rfl (rfl) (Nat.le_of_ble_eq_true rfl) (Nat.le_of_ble_eq_true rfl) dX5_goes_41 ⟨1, ν2, rfl, rfl, ?_⟩
          exact ⟨hM, (if_pos h33).symm⟩
    · intro h10
      refine j_iconst hJ dX5_goes_13 ?_
      refine j_topi (y := zI (goC k f c)) (by rw [show goC k f c = 2 by unfold goC; rw [if_neg (by omega), if_pos (by omega)]]) ?_
      refine j_goto hJ (tgt := 26) (by decide) dX5_goes_14 ?_
      refine w_puti hJ (fi := 16) rfl (by omega) rfl rfl f_X5_54 rfl rfl dX5_goes_26 ?_
      intro ν3 hν3
      have hM := hν3
      refine j_aload_n hJ (j := 0) rfl rfl dX5_goes_29 ?_
      refine w_geti hJ (fi := 16) rfl (by omega) rfl rfl f_X5_54 dX5_goes_30 ?_
      refine j_topi (y := zI (goC k f c)) (by rw [hM, up_self]) ?_
      refine j_if_ne hJ (tgt := 40) ⟨by omega, by omega⟩ (by decide) dX5_goes_33 ?_ ?_
      · intro h33
        refine j_iconst hJ dX5_goes_40 ?_
        refine j_iret hJ rfl rfl (rfl) (Nat.le_of_ble_eq_true rfl) (Nat.le_of_ble_eq_true rfl) dX5_goes_41 ⟨0, ν3, rfl, rfl, ?_⟩
        exact ⟨hM, (if_neg h33).symm⟩
      · intro h33
        refine j_iconst hJ dX5_goes_36 ?_
        refine j_goto hJ (tgt := 41) (by decide) dX5_goes_37 ?_
        refine j_iret hJ rfl rfl (rfl) (Nat.le_of_ble_eq_true rfl) (Nat.le_of_ble_eq_true rfl) dX5_goes_41 ⟨1, ν3, rfl, rfl, ?_⟩
        exact ⟨hM, (if_pos h33).symm⟩
  · intro h2
    refine j_iconst hJ dX5_goes_5 ?_
    refine j_topi (y := zI (goC k f c)) (by rw [show goC k f c = 1 by unfold goC; rw [if_pos (by omega)]]) ?_
    refine j_goto hJ (tgt := 26) (by decide) dX5_goes_6 ?_
    refine w_puti hJ (fi := 16) rfl (by omega) rfl rfl f_X5_54 rfl rfl dX5_goes_26 ?_
    intro ν4 hν4
    have hM := hν4
    refine j_aload_n hJ (j := 0) rfl rfl dX5_goes_29 ?_
    refine w_geti hJ (fi := 16) rfl (by omega) rfl rfl f_X5_54 dX5_goes_30 ?_
    refine j_topi (y := zI (goC k f c)) (by rw [hM, up_self]) ?_
    refine j_if_ne hJ (tgt := 40) ⟨by omega, by omega⟩ (by decide) dX5_goes_33 ?_ ?_
    · intro h33
      refine j_iconst hJ dX5_goes_40 ?_
      refine j_iret hJ rfl rfl (rfl) (Nat.le_of_ble_eq_true rfl) (Nat.le_of_ble_eq_true rfl) dX5_goes_41 ⟨0, ν4, rfl, rfl, ?_⟩
      exact ⟨hM, (if_neg h33).symm⟩
    · intro h33
      refine j_iconst hJ dX5_goes_36 ?_
      refine j_goto hJ (tgt := 41) (by decide) dX5_goes_37 ?_
      refine j_iret hJ rfl rfl (rfl) (Nat.le_of_ble_eq_true rfl) (Nat.le_of_ble_eq_true rfl) dX5_goes_41 ⟨1, ν4, rfl, rfl, ?_⟩
      exact ⟨hM, (if_pos h33).symm⟩
set_option maxHeartbeats 4000000 in
set_option maxRecDepth 100000 in
theorem c_X5_isStreet {ν : Nat → Int → Int} {n : Nat} {s : Int} (hfl : l.stackTraces = false) (hsR : -2147483648 ≤ s ∧ s < 2147483648) (h1 : ν 0 7 = n) (h2 : n ≤ 16) : CT l D cy n0 ad yX5_isStreet (.code yX5_isStreet cX5_isStreet 2 (some .boolean)) ({ frames := 1, cells := 0, slots := 0, locals := 22 }) [.ref (b 0), .int (zI s)] (gw 14 MSh cy b ν ++ E) (fun vv uu => ∃ q, vv = some (.int (zI q)) ∧ uu = (gw 14 MSh cy b ν ++ E) ∧ ((q = 1 ∧ StOK n s) ∨ (q = 0 ∧ ¬ StOK n s))) := by
  refine CT.walk hfl (by decide) (Nat.le_of_ble_eq_true rfl) ?_
  intro A J hJ
  show J (gw 14 MSh cy b ν ++ E) 0 0 0 [(0, .ref (b 0)), (1, .int (zI s))] []
  refine j_iload_n hJ (j := 1) rfl rfl dX5_isStreet_0 ?_
  refine j_iconst hJ dX5_isStreet_1 ?_
  refine j_aload_n hJ (j := 0) rfl rfl dX5_isStreet_2 ?_
  refine w_geti hJ (fi := 7) rfl (by omega) rfl rfl f_X5_58 dX5_isStreet_3 ?_
  refine j_topi (y := zI (n : Int)) (by rw [h1]) ?_
  refine j_iconst hJ dX5_isStreet_6 ?_
  refine j_isub hJ dX5_isStreet_7 ?_
  refine j_callS0 hJ (c_X5_in hfl hsR ⟨by omega, by omega⟩ ⟨by omega, by omega⟩) m_X5_61 k_X5_in ⟨(Nat.le_of_ble_eq_true rfl), (Nat.le_of_ble_eq_true rfl)⟩ ⟨(Nat.le_of_ble_eq_true rfl), (Nat.le_of_ble_eq_true rfl)⟩ (Nat.le_of_ble_eq_true rfl) dX5_isStreet_8 rfl ?_
  intro v1 u2 hv3
  obtain ⟨q8, rfl, rfl, h8⟩ := hv3
  show J (gw 14 MSh cy b ν ++ E) 0 0 11 [(0, .ref (b 0)), (1, .int (zI s))] [.int (zI q8)]
  refine j_iret hJ rfl rfl (b01n (by rcases h8 with ⟨h, _⟩ | ⟨h, _⟩ <;> omega)) (Nat.le_of_ble_eq_true rfl) (Nat.le_of_ble_eq_true rfl) dX5_isStreet_11 ⟨q8, rfl, rfl, ?_⟩
  unfold StOK; omega
set_option maxHeartbeats 4000000 in
set_option maxRecDepth 100000 in
theorem c_X5_isSquare {c r : Int} (hfl : l.stackTraces = false) (hcR : -2147483648 ≤ c ∧ c < 2147483648) (hrR : -2147483648 ≤ r ∧ r < 2147483648) : CT l D cy n0 ad yX5_isSquare (.code yX5_isSquare cX5_isSquare 2 (some .boolean)) ({ frames := 1, cells := 0, slots := 0, locals := 22 }) [.int (zI c), .int (zI r)] ws (fun vv uu => ∃ q, vv = some (.int (zI q)) ∧ uu = ws ∧ ((q = 1 ∧ SqOK c r) ∨ (q = 0 ∧ ¬ SqOK c r))) := by
  refine CT.walk hfl (by decide) (Nat.le_of_ble_eq_true rfl) ?_
  intro A J hJ
  show J ws 0 0 0 [(0, .int (zI c)), (1, .int (zI r))] []
  refine j_iload_n hJ (j := 0) rfl rfl dX5_isSquare_0 ?_
  refine j_iconst hJ dX5_isSquare_1 ?_
  refine j_bipush hJ (v := 11) (by decide) dX5_isSquare_2 ?_
  refine j_callS0 hJ (c_X5_in hfl hcR ⟨by omega, by omega⟩ ⟨by omega, by omega⟩) m_X5_61 k_X5_in ⟨(Nat.le_of_ble_eq_true rfl), (Nat.le_of_ble_eq_true rfl)⟩ ⟨(Nat.le_of_ble_eq_true rfl), (Nat.le_of_ble_eq_true rfl)⟩ (Nat.le_of_ble_eq_true rfl) dX5_isSquare_4 rfl ?_
  intro v1 u2 hv3
  obtain ⟨q4, rfl, hu9, h4⟩ := hv3
  subst u2
  show J ws 0 0 7 [(0, .int (zI c)), (1, .int (zI r))] [.int (zI q4)]
  refine j_if_eq hJ (tgt := 24) ⟨by omega, by omega⟩ (by decide) dX5_isSquare_7 ?_ ?_
  · intro h7
    refine j_iconst hJ dX5_isSquare_24 ?_
    refine j_iret hJ rfl rfl (rfl) (Nat.le_of_ble_eq_true rfl) (Nat.le_of_ble_eq_true rfl) dX5_isSquare_25 ⟨0, rfl, rfl, ?_⟩
    unfold SqOK; omega
  · intro h7
    refine j_iload_n hJ (j := 1) rfl rfl dX5_isSquare_10 ?_
    refine j_iconst hJ dX5_isSquare_11 ?_
    refine j_bipush hJ (v := 11) (by decide) dX5_isSquare_12 ?_
    refine j_callS0 hJ (c_X5_in hfl hrR ⟨by omega, by omega⟩ ⟨by omega, by omega⟩) m_X5_61 k_X5_in ⟨(Nat.le_of_ble_eq_true rfl), (Nat.le_of_ble_eq_true rfl)⟩ ⟨(Nat.le_of_ble_eq_true rfl), (Nat.le_of_ble_eq_true rfl)⟩ (Nat.le_of_ble_eq_true rfl) dX5_isSquare_14 rfl ?_
    intro v4 u5 hv6
    obtain ⟨q14, rfl, hu9, h14⟩ := hv6
    subst u5
    show J ws 0 0 17 [(0, .int (zI c)), (1, .int (zI r))] [.int (zI q14)]
    refine j_if_eq hJ (tgt := 24) ⟨by omega, by omega⟩ (by decide) dX5_isSquare_17 ?_ ?_
    · intro h17
      refine j_iconst hJ dX5_isSquare_24 ?_
      refine j_iret hJ rfl rfl (rfl) (Nat.le_of_ble_eq_true rfl) (Nat.le_of_ble_eq_true rfl) dX5_isSquare_25 ⟨0, rfl, rfl, ?_⟩
      unfold SqOK; omega
    · intro h17
      refine j_iconst hJ dX5_isSquare_20 ?_
      refine j_goto hJ (tgt := 25) (by decide) dX5_isSquare_21 ?_
      refine j_iret hJ rfl rfl (rfl) (Nat.le_of_ble_eq_true rfl) (Nat.le_of_ble_eq_true rfl) dX5_isSquare_25 ⟨1, rfl, rfl, ?_⟩
      unfold SqOK; omega
set_option maxHeartbeats 4000000 in
set_option maxRecDepth 100000 in
theorem c_X5_isName {w z : Int} (hfl : l.stackTraces = false) (hwR : -2147483648 ≤ w ∧ w < 2147483648) : CT l D cy n0 ad yX5_isName (.code yX5_isName cX5_isName 4 (some .boolean)) ({ frames := 1, cells := 0, slots := 0, locals := 22 }) [.int (zI w), .int (zI z)] ws (fun vv uu => ∃ q, vv = some (.int (zI q)) ∧ uu = ws ∧ ((q = 1 ∧ NmOK w z) ∨ (q = 0 ∧ ¬ NmOK w z))) := by
  refine CT.walk hfl (by decide) (Nat.le_of_ble_eq_true rfl) ?_
  intro A J hJ
  show J ws 0 0 0 [(0, .int (zI w)), (1, .int (zI z))] []
  refine j_iload_n hJ (j := 0) rfl rfl dX5_isName_0 ?_
  refine j_iconst hJ dX5_isName_1 ?_
  refine j_iconst hJ dX5_isName_2 ?_
  refine j_callS0 hJ (c_X5_in hfl hwR ⟨by omega, by omega⟩ ⟨by omega, by omega⟩) m_X5_61 k_X5_in ⟨(Nat.le_of_ble_eq_true rfl), (Nat.le_of_ble_eq_true rfl)⟩ ⟨(Nat.le_of_ble_eq_true rfl), (Nat.le_of_ble_eq_true rfl)⟩ (Nat.le_of_ble_eq_true rfl) dX5_isName_3 rfl ?_
  intro v1 u2 hv3
  obtain ⟨q3, rfl, hu9, h3⟩ := hv3
  subst u2
  show J ws 0 0 6 [(0, .int (zI w)), (1, .int (zI z))] [.int (zI q3)]
  refine j_istore_n hJ (lv' := [(2, .int (zI q3)), (0, .int (zI w)), (1, .int (zI z))]) rfl (by decide) rfl dX5_isName_6 ?_
  refine j_iconst hJ dX5_isName_7 ?_
  refine j_istore_n hJ (lv' := [(3, .int (zI 0)), (2, .int (zI q3)), (0, .int (zI w)), (1, .int (zI z))]) rfl (by decide) rfl dX5_isName_8 ?_
  have lp9 : ∀ (nn9 : Nat) (iz : Int) (k : Int) (hmeas9 : (w - k).toNat < nn9) (hk : 0 ≤ k ∧ k ≤ 4) (hi : (iz = 1 ∧ (1 ≤ w ∧ w ≤ 4 ∧ k ≤ w) ∧ ∀ j : Nat, (j : Int) < k → wd z j < 24) ∨ (iz = 0 ∧ ¬ NmOK w z)), J ws 0 0 9 [(0, .int (zI w)), (1, .int (zI z)), (2, .int (zI iz)), (3, .int (zI k))] [] := by
    intro nn9
    induction nn9 with
    | zero => intro iz k hmeas9 hk hi; omega
    | succ nn9 ih9 =>
      intro iz k hmeas9 hk hi
      refine j_iload_n hJ (j := 3) rfl rfl dX5_isName_9 ?_
      refine j_iload_n hJ (j := 0) rfl rfl dX5_isName_10 ?_
      have hkw : iz = 0 ∨ iz = 1 := by rcases hi with ⟨e, g⟩ | ⟨e, g⟩ <;> omega
      refine j_icmp_ge hJ (tgt := 45) ⟨by omega, by omega⟩ ⟨by omega, by omega⟩ (by decide) dX5_isName_11 ?_ ?_
      · intro h11
        refine j_iload_n hJ (j := 2) rfl rfl dX5_isName_45 ?_
        refine j_iret hJ rfl rfl (b01n hkw) (Nat.le_of_ble_eq_true rfl) (Nat.le_of_ble_eq_true rfl) dX5_isName_46 ⟨iz, rfl, rfl, ?_⟩
        rcases hi with ⟨e, g, g2⟩ | ⟨e, g⟩
        · exact Or.inl ⟨e, ⟨by omega, by omega⟩, fun j hj => g2 j (by omega)⟩
        · exact Or.inr ⟨e, g⟩
      · intro h11
        refine j_iload_n hJ (j := 2) rfl rfl dX5_isName_14 ?_
        refine j_if_eq hJ (tgt := 45) ⟨by omega, by omega⟩ (by decide) dX5_isName_15 ?_ ?_
        · intro h15
          refine j_iload_n hJ (j := 2) rfl rfl dX5_isName_45 ?_
          refine j_iret hJ rfl rfl (b01n hkw) (Nat.le_of_ble_eq_true rfl) (Nat.le_of_ble_eq_true rfl) dX5_isName_46 ⟨iz, rfl, rfl, ?_⟩
          rcases hi with ⟨e, g, g2⟩ | ⟨e, g⟩
          · exfalso; omega
          · exact Or.inr ⟨e, g⟩
        · intro h15
          have hi4 : k < 4 := by rcases hi with ⟨e, g, g2⟩ | ⟨e, g⟩ <;> omega
          have hwr := wd_range z k
          refine j_iload_n hJ (j := 1) rfl rfl dX5_isName_18 ?_
          refine j_bipush hJ (v := 8) (by decide) dX5_isName_19 ?_
          refine j_iload_n hJ (j := 3) rfl rfl dX5_isName_21 ?_
          refine j_imul hJ dX5_isName_22 ?_
          refine j_ishr hJ (v := ((zI z >>> (zI (8 * k) &&& 31)).toInt)) ((zI_of _).symm) dX5_isName_23 ?_
          refine j_sipush hJ (v := 255) (by decide) dX5_isName_24 ?_
          refine j_iand hJ (v := (wd z k)) (by rw [zI_of]; exact wd_shr (by omega) (by omega)) dX5_isName_27 ?_
          refine j_bipush hJ (v := 24) (by decide) dX5_isName_28 ?_
          refine j_icmp_ge hJ (tgt := 37) ⟨by omega, by omega⟩ ⟨by omega, by omega⟩ (by decide) dX5_isName_30 ?_ ?_
          · intro h30
            refine j_iconst hJ dX5_isName_37 ?_
            refine j_istore_n hJ (lv' := [(2, .int (zI 0)), (0, .int (zI w)), (1, .int (zI z)), (3, .int (zI k))]) rfl (by decide) rfl dX5_isName_38 ?_
            refine j_iinc hJ (lv' := [(3, .int (zI (k + 1))), (2, .int (zI 0)), (0, .int (zI w)), (1, .int (zI z))]) (j := 3) rfl (by omega) (by decide) rfl dX5_isName_39 ?_
            refine j_goto hJ (tgt := 9) (by decide) dX5_isName_42 ?_
            refine j_locs hJ [2, 3, 1, 0] rfl ?_
            refine ih9 0 (k + 1) (by omega) (by omega) ?_
            · rcases hi with ⟨e, g, g2⟩ | ⟨e, g⟩
              · by_cases e24 : wd z k < 24
                · exact Or.inl ⟨by first | rfl | (exfalso; omega), by omega, fun j hj => by
                    by_cases ej : (j : Int) = k
                    · rw [ej]; exact e24
                    · exact g2 j (by omega)⟩
                · exact Or.inr ⟨by first | rfl | (exfalso; omega), fun g3 => by
                    have := g3.2 k.toNat (by omega)
                    rw [Int.toNat_of_nonneg hk.1] at this
                    exact e24 this⟩
              · exact absurd e h15
          · intro h30
            refine j_iconst hJ dX5_isName_33 ?_
            refine j_goto hJ (tgt := 38) (by decide) dX5_isName_34 ?_
            refine j_istore_n hJ (lv' := [(2, .int (zI 1)), (0, .int (zI w)), (1, .int (zI z)), (3, .int (zI k))]) rfl (by decide) rfl dX5_isName_38 ?_
            refine j_iinc hJ (lv' := [(3, .int (zI (k + 1))), (2, .int (zI 1)), (0, .int (zI w)), (1, .int (zI z))]) (j := 3) rfl (by omega) (by decide) rfl dX5_isName_39 ?_
            refine j_goto hJ (tgt := 9) (by decide) dX5_isName_42 ?_
            refine j_locs hJ [2, 3, 1, 0] rfl ?_
            refine ih9 1 (k + 1) (by omega) (by omega) ?_
            · rcases hi with ⟨e, g, g2⟩ | ⟨e, g⟩
              · by_cases e24 : wd z k < 24
                · exact Or.inl ⟨by first | rfl | (exfalso; omega), by omega, fun j hj => by
                    by_cases ej : (j : Int) = k
                    · rw [ej]; exact e24
                    · exact g2 j (by omega)⟩
                · exact Or.inr ⟨by first | rfl | (exfalso; omega), fun g3 => by
                    have := g3.2 k.toNat (by omega)
                    rw [Int.toNat_of_nonneg hk.1] at this
                    exact e24 this⟩
              · exact absurd e h15
  refine j_locs hJ [2, 3, 1, 0] rfl ?_
  refine lp9 ((w - 0).toNat + 1) q3 0 (by omega) (by omega) ?_
  · rcases h3 with ⟨e, g⟩ | ⟨e, g⟩
    · exact Or.inl ⟨e, by omega, fun j hj => by omega⟩
    · exact Or.inr ⟨e, fun h => g h.1⟩
set_option maxHeartbeats 4000000 in
set_option maxRecDepth 100000 in
theorem c_X5_gives {ν : Nat → Int → Int} {i : Nat} {w z : Int} (hfl : l.stackTraces = false) (hi : i < 16) (hw : NmOK w z) : CT l D cy n0 ad yX5_gives (.code yX5_gives cX5_gives 5 none) ({ frames := 0, cells := 0, slots := 0, locals := 0 }) [.ref (b 0), .int (zI (i : Int)), .int (zI w), .int (zI z)] (gw 14 MSh cy b ν ++ E) (fun vv uu => ∃ μ', vv = none ∧ uu = (gw 14 MSh cy b μ' ++ E) ∧ (NmM μ' i (nameL z w.toNat) ∧ (∀ a, a ≠ 3 → a ≠ 4 → μ' a = ν a) ∧ (∀ j : Int, j ≠ i → μ' 4 j = ν 4 j) ∧ ∀ j : Int, j < 4 * i ∨ 4 * i + 4 ≤ j → μ' 3 j = ν 3 j)) := by
  obtain ⟨hw1, hw2⟩ := id hw
  refine CT.walk hfl (by decide) (Nat.le_of_ble_eq_true rfl) ?_
  intro A J hJ
  show J (gw 14 MSh cy b ν ++ E) 0 0 0 [(0, .ref (b 0)), (1, .int (zI (i : Int))), (2, .int (zI w)), (3, .int (zI z))] []
  refine j_aload_n hJ (j := 0) rfl rfl dX5_gives_0 ?_
  refine w_getr hJ (by omega) rfl rfl f_X5_19 dX5_gives_1 ?_
  refine j_iload_n hJ (j := 1) rfl rfl dX5_gives_4 ?_
  refine j_iload_n hJ (j := 2) rfl rfl dX5_gives_5 ?_
  refine w_iast hJ (by omega) rfl (by first | decide | omega) (by omega) (by omega) dX5_gives_6 ?_
  intro ν1 hν1
  have hM6 := hν1
  refine j_iconst hJ dX5_gives_7 ?_
  refine j_istore hJ (lv' := [(4, .int (zI 0)), (0, .ref (b 0)), (1, .int (zI (i : Int))), (2, .int (zI w)), (3, .int (zI z))]) (by decide) rfl dX5_gives_8 ?_
  have lp10 : ∀ (nn10 : Nat) (νk : Nat → Int → Int) (k : Int) (hmeas10 : (w - k).toNat < nn10) (hk : 0 ≤ k ∧ k ≤ w) (hF : ∀ a, a ≠ 3 → a ≠ 4 → νk a = ν a) (h4 : νk 4 i = w) (h4o : ∀ j : Int, j ≠ i → νk 4 j = ν 4 j) (h3 : ∀ j : Int, 0 ≤ j → j < k → νk 3 (4 * i + j) = wd z j) (h3o : ∀ j : Int, j < 4 * i ∨ 4 * i + 4 ≤ j → νk 3 j = ν 3 j), J (gw 14 MSh cy b νk ++ E) 0 0 10 [(0, .ref (b 0)), (1, .int (zI (i : Int))), (2, .int (zI w)), (3, .int (zI z)), (4, .int (zI k))] [] := by
    intro nn10
    induction nn10 with
    | zero => intro νk k hmeas10 hk hF h4 h4o h3 h3o; omega
    | succ nn10 ih10 =>
      intro νk k hmeas10 hk hF h4 h4o h3 h3o
      refine j_iload hJ (j := 4) rfl dX5_gives_10 ?_
      refine j_iload_n hJ (j := 2) rfl rfl dX5_gives_12 ?_
      refine j_icmp_ge hJ (tgt := 44) ⟨by omega, by omega⟩ ⟨by omega, by omega⟩ (by decide) dX5_gives_13 ?_ ?_
      · intro h13
        refine j_vret hJ rfl rfl (Nat.le_of_ble_eq_true rfl) (Nat.le_of_ble_eq_true rfl) dX5_gives_44 ⟨νk, rfl, rfl, ?_⟩
        refine ⟨⟨by rw [h4, nameL_len]; omega, by rw [nameL_len]; omega, by rw [nameL_len]; omega, fun k2 x hx => ?_, fun x hx => ?_⟩, hF, h4o, h3o⟩
        · unfold nameL at hx
          rw [List.getElem?_map, Option.map_eq_some_iff] at hx
          obtain ⟨k3, g1, g2⟩ := hx
          obtain ⟨g3, g4⟩ := List.getElem?_eq_some_iff.mp g1
          rw [List.getElem_range] at g4
          subst g4
          rw [List.length_range] at g3
          rw [h3 _ (by omega) (by omega)]
          exact g2
        · unfold nameL at hx
          obtain ⟨k3, g1, rfl⟩ := List.mem_map.mp hx
          have := List.mem_range.mp g1
          exact ⟨(wd_range _ _).1, hw2 k3 (by omega)⟩
      · intro h13
        refine j_aload_n hJ (j := 0) rfl rfl dX5_gives_16 ?_
        refine w_getr hJ (by omega) rfl rfl f_X5_16 dX5_gives_17 ?_
        refine j_iconst hJ dX5_gives_20 ?_
        refine j_iload_n hJ (j := 1) rfl rfl dX5_gives_21 ?_
        refine j_imul hJ dX5_gives_22 ?_
        refine j_iload hJ (j := 4) rfl dX5_gives_23 ?_
        refine j_iadd hJ dX5_gives_25 ?_
        refine j_iload_n hJ (j := 3) rfl rfl dX5_gives_26 ?_
        refine j_bipush hJ (v := 8) (by decide) dX5_gives_27 ?_
        refine j_iload hJ (j := 4) rfl dX5_gives_29 ?_
        refine j_imul hJ dX5_gives_31 ?_
        refine j_ishr hJ (v := ((zI z >>> (zI (8 * k) &&& 31)).toInt)) ((zI_of _).symm) dX5_gives_32 ?_
        refine j_sipush hJ (v := 255) (by decide) dX5_gives_33 ?_
        refine j_iand hJ (v := (wd z k)) (by rw [zI_of]; exact wd_shr (by omega) (by omega)) dX5_gives_36 ?_
        refine w_iast hJ (by omega) rfl (by first | decide | omega) (by omega) (by omega) dX5_gives_37 ?_
        intro ν2 hν2
        have hM37 := hν2
        refine j_iinc hJ (lv' := [(4, .int (zI (k + 1))), (0, .ref (b 0)), (1, .int (zI (i : Int))), (2, .int (zI w)), (3, .int (zI z))]) (j := 4) rfl (by omega) (by decide) rfl dX5_gives_38 ?_
        refine j_goto hJ (tgt := 10) (by decide) dX5_gives_41 ?_
        refine j_locs hJ [1, 2, 3, 4, 0] rfl ?_
        refine ih10 ν2 (k + 1) (by omega) (by omega) ?_ (by rw [hM37]; rw [up_rowf (by omega)]; exact h4) (by intro j hj; rw [hM37]; rw [up_rowf (by omega)]; exact h4o j hj) ?_ ?_
        · intro a g1 g2
          rw [hM37]
          rw [up_rowf g1]
          exact hF a g1 g2
        · intro j g1 g2
          rw [hM37]
          unfold up
          by_cases e : j = k
          · rw [if_pos (by omega), e]
          · rw [if_neg (by omega)]; exact h3 j g1 (by omega)
        · intro j hj
          rw [hM37]
          unfold up
          rw [if_neg (by omega)]
          exact h3o j hj
  refine j_locs hJ [1, 2, 3, 4, 0] rfl ?_
  exact lp10 ((w - 0).toNat + 1) ν1 0 (by omega) (by omega) (by intro a g1 g2; rw [hM6]; exact up_rowf g2) (by rw [hM6, up_self]) (by intro j hj; rw [hM6]; unfold up; rw [if_neg (by omega)]) (by intro j g1 g2; omega) (by intro j hj; rw [hM6]; unfold up; rw [if_neg (by omega)])
set_option maxHeartbeats 4000000 in
set_option maxRecDepth 100000 in
theorem c_X5_compareWords {ν : Nat → Int → Int} {i j : Nat} (hfl : l.stackTraces = false) (hi : i < 24) (hj : j < 24) (hL : LtM ν) : CT l D cy n0 ad yX5_compareWords (.code yX5_compareWords cX5_compareWords 5 (some .int)) ({ frames := 0, cells := 0, slots := 0, locals := 0 }) [.ref (b 0), .int (zI (i : Int)), .int (zI (j : Int))] (gw 14 MSh cy b ν ++ E) (fun vv uu => ∃ q, vv = some (.int (zI q)) ∧ uu = (gw 14 MSh cy b ν ++ E) ∧ (sg q = sg (wRk i - wRk j) ∧ -128 ≤ q ∧ q ≤ 128)) := by
  obtain ⟨o1, o2, o3⟩ := l_ord hi hj
  have o4 := (l_ord hj hi).2.2
  refine CT.walk hfl (by decide) (Nat.le_of_ble_eq_true rfl) ?_
  intro A J hJ
  show J (gw 14 MSh cy b ν ++ E) 0 0 0 [(0, .ref (b 0)), (1, .int (zI (i : Int))), (2, .int (zI (j : Int)))] []
  refine j_iconst hJ dX5_compareWords_0 ?_
  refine j_istore_n hJ (lv' := [(3, .int (zI 0)), (0, .ref (b 0)), (1, .int (zI (i : Int))), (2, .int (zI (j : Int)))]) rfl (by decide) rfl dX5_compareWords_1 ?_
  refine j_iconst hJ dX5_compareWords_2 ?_
  refine j_istore hJ (lv' := [(4, .int (zI 0)), (3, .int (zI 0)), (0, .ref (b 0)), (1, .int (zI (i : Int))), (2, .int (zI (j : Int)))]) (by decide) rfl dX5_compareWords_3 ?_
  have lp5 : ∀ (nn5 : Nat) (y : Int) (k : Nat) (hmeas5 : 8 - k < nn5) (hk : k ≤ 8 ∧ -128 ≤ y ∧ y ≤ 128) (hy : (y = 0 ∧ ∀ t, t < k → ltr i t = ltr j t) ∨ (y ≠ 0 ∧ sg y = sg (wRk i - wRk j))), J (gw 14 MSh cy b ν ++ E) 0 0 5 [(0, .ref (b 0)), (1, .int (zI (i : Int))), (2, .int (zI (j : Int))), (3, .int (zI y)), (4, .int (zI (k : Int)))] [] := by
    intro nn5
    induction nn5 with
    | zero => intro y k hmeas5 hk hy; omega
    | succ nn5 ih5 =>
      intro y k hmeas5 hk hy
      refine j_iload hJ (j := 4) rfl dX5_compareWords_5 ?_
      refine j_bipush hJ (v := 8) (by decide) dX5_compareWords_7 ?_
      refine j_icmp_ge hJ (tgt := 48) ⟨by omega, by omega⟩ ⟨by omega, by omega⟩ (by decide) dX5_compareWords_9 ?_ ?_
      · intro h9
        refine j_iload_n hJ (j := 3) rfl rfl dX5_compareWords_48 ?_
        refine j_iret hJ rfl rfl (rfl) (Nat.le_of_ble_eq_true rfl) (Nat.le_of_ble_eq_true rfl) dX5_compareWords_49 ⟨y, rfl, rfl, ?_⟩
        rcases hy with ⟨e, g⟩ | ⟨e, g⟩
        · rw [e, o2 (fun t ht => g t (by omega))]; exact ⟨rfl, by omega, by omega⟩
        · exact ⟨g, by omega, by omega⟩
      · intro h9
        refine j_iload_n hJ (j := 3) rfl rfl dX5_compareWords_12 ?_
        refine j_if_ne hJ (tgt := 48) ⟨by omega, by omega⟩ (by decide) dX5_compareWords_13 ?_ ?_
        · intro h13
          refine j_iload_n hJ (j := 3) rfl rfl dX5_compareWords_48 ?_
          refine j_iret hJ rfl rfl (rfl) (Nat.le_of_ble_eq_true rfl) (Nat.le_of_ble_eq_true rfl) dX5_compareWords_49 ⟨y, rfl, rfl, ?_⟩
          rcases hy with ⟨e, g⟩ | ⟨e, g⟩
          · exact absurd e h13
          · exact ⟨g, by omega, by omega⟩
        · intro h13
          refine j_aload_n hJ (j := 0) rfl rfl dX5_compareWords_16 ?_
          refine w_getr hJ (by omega) rfl rfl f_X5_7 dX5_compareWords_17 ?_
          refine j_bipush hJ (v := 8) (by decide) dX5_compareWords_20 ?_
          refine j_iload_n hJ (j := 1) rfl rfl dX5_compareWords_22 ?_
          refine j_imul hJ dX5_compareWords_23 ?_
          refine j_iload hJ (j := 4) rfl dX5_compareWords_24 ?_
          refine j_iadd hJ dX5_compareWords_26 ?_
          refine w_iald hJ (by omega) rfl (by first | decide | omega) (by omega) (by omega) dX5_compareWords_27 ?_
          refine j_topi (y := zI (ltr i k)) (by rw [hL i k hi (by omega)]) ?_
          refine j_aload_n hJ (j := 0) rfl rfl dX5_compareWords_28 ?_
          refine w_getr hJ (by omega) rfl rfl f_X5_7 dX5_compareWords_29 ?_
          refine j_bipush hJ (v := 8) (by decide) dX5_compareWords_32 ?_
          refine j_iload_n hJ (j := 2) rfl rfl dX5_compareWords_34 ?_
          refine j_imul hJ dX5_compareWords_35 ?_
          refine j_iload hJ (j := 4) rfl dX5_compareWords_36 ?_
          refine j_iadd hJ dX5_compareWords_38 ?_
          refine w_iald hJ (by omega) rfl (by first | decide | omega) (by omega) (by omega) dX5_compareWords_39 ?_
          refine j_topi (y := zI (ltr j k)) (by rw [hL j k hj (by omega)]) ?_
          refine j_isub hJ dX5_compareWords_40 ?_
          have g1 := o3 k (by omega)
          have g2 := o4 k (by omega)
          refine j_istore_n hJ (lv' := [(3, .int (zI ((ltr i k) - (ltr j k)))), (0, .ref (b 0)), (1, .int (zI (i : Int))), (2, .int (zI (j : Int))), (4, .int (zI (k : Int)))]) rfl (by decide) rfl dX5_compareWords_41 ?_
          refine j_iinc hJ (lv' := [(4, .int (zI ((k : Int) + 1))), (3, .int (zI ((ltr i k) - (ltr j k)))), (0, .ref (b 0)), (1, .int (zI (i : Int))), (2, .int (zI (j : Int)))]) (j := 4) rfl (by omega) (by decide) rfl dX5_compareWords_42 ?_
          refine j_goto hJ (tgt := 5) (by decide) dX5_compareWords_45 ?_
          refine j_locs hJ [2, 3, 4, 1, 0] rfl ?_
          refine ih5 ((ltr i k) - (ltr j k)) (k + 1) (by omega) (by omega) ?_
          · rcases hy with ⟨e, g⟩ | ⟨e, g⟩
            · by_cases e2 : ltr i k = ltr j k
              · exact Or.inl ⟨by omega, fun t ht => by
                  by_cases e3 : t = k
                  · subst e3; exact e2
                  · exact g t (by omega)⟩
              · exact Or.inr ⟨by omega, o1 k (by omega) g e2⟩
            · exact absurd h13 e
  refine j_locs hJ [2, 3, 4, 1, 0] rfl ?_
  exact lp5 (8 - 0 + 1) 0 0 (by omega) (by omega) (by exact Or.inl ⟨rfl, fun t ht => by omega⟩)
end
