
theorem mm_J8_194 : Cond.methodLink RJ8 194 Lib.Math.max.name ∈ GT := (List.mem_of_getElem? (i := 625) (by decide +kernel))
theorem q_J8_200 : Cond.constant RJ8 200 (zI 2147483639) ∈ GT := (List.mem_of_getElem? (i := 626) (by decide +kernel))
set_option maxRecDepth 20000 in
theorem g_J6_83 : Cond.fieldLink RJ6 83 "java/lang/Integer" "DigitOnes" "[B" ∈ GT ∨ Cond.fieldLinkNest RJ6 83 "java/lang/Integer" "DigitOnes" "[B" RX4 ∈ GT := Or.inl (List.mem_of_getElem? (i := 749) (by decide +kernel))
set_option maxRecDepth 20000 in
theorem g_J6_87 : Cond.fieldLink RJ6 87 "java/lang/Integer" "DigitTens" "[B" ∈ GT ∨ Cond.fieldLinkNest RJ6 87 "java/lang/Integer" "DigitTens" "[B" RX4 ∈ GT := Or.inl (List.mem_of_getElem? (i := 751) (by decide +kernel))
set_option maxRecDepth 20000 in
theorem g_J5_18 : Cond.fieldLink RJ5 18 "java/lang/String" "COMPACT_STRINGS" "Z" ∈ GT ∨ Cond.fieldLinkNest RJ5 18 "java/lang/String" "COMPACT_STRINGS" "Z" RX4 ∈ GT := Or.inl (List.mem_of_getElem? (i := 574) (by decide +kernel))
set_option maxRecDepth 20000 in
theorem f_J5_22 : FF RJ5 22 0 1 .byte false := ⟨RJ4, TJ4, 4, tyJ4, rfl, by decide, lays_J4, tyJ4_ok, rfl, rfl, nmJ4, Or.inl (List.mem_of_getElem? (i := 583) (by decide +kernel))⟩
set_option maxRecDepth 20000 in
theorem f_J5_79 : FF RJ5 79 0 3 .int false := ⟨RJ4, TJ4, 4, tyJ4, rfl, by decide, lays_J4, tyJ4_ok, rfl, rfl, nmJ4, Or.inl (List.mem_of_getElem? (i := 584) (by decide +kernel))⟩
set_option maxRecDepth 20000 in
theorem mp_J4_343 : MP RJ4 343 yJ5_length_8abf5 0 := ⟨(List.mem_of_getElem? (i := 765) (by decide +kernel)), (List.mem_of_getElem? (i := 58) (by decide +kernel)), by decide +kernel, by decide +kernel, (List.mem_of_getElem? (i := 863) (by decide +kernel)), (List.mem_of_getElem? (i := 766) (by decide +kernel)), (List.mem_of_getElem? (i := 593) (by decide +kernel))⟩
set_option maxRecDepth 20000 in
theorem k_J5_length_8abf5 : Cond.code yJ5_length_8abf5 cJ5_length_8abf5 1 (some .int) ∈ GT := (List.mem_of_getElem? (i := 767) (by decide +kernel))
set_option maxRecDepth 20000 in
theorem f_J5_15 : FF RJ5 15 0 0 (.array .byte) false := ⟨RJ4, TJ4, 4, tyJ4, rfl, by decide, lays_J4, tyJ4_ok, rfl, rfl, nmJ4, Or.inl (List.mem_of_getElem? (i := 582) (by decide +kernel))⟩
theorem mm_J5_138 : Cond.methodLink RJ5 138 Lib.Math.min.name ∈ GT := (List.mem_of_getElem? (i := 780) (by decide +kernel))
set_option maxRecDepth 20000 in
theorem m_J5_144 : MF RJ5 144 1 yJ0_checkIndex_df160 2 := ⟨Or.inl (List.mem_of_getElem? (i := 781) (by decide +kernel)), (List.mem_of_getElem? (i := 54) (by decide +kernel)), ⟨by decide +kernel, by decide +kernel⟩, by decide +kernel, fun h => by omega, fun _ => (List.mem_of_getElem? (i := 448) (by decide +kernel)), fun h => by omega⟩
set_option maxRecDepth 20000 in
theorem mp_J4_329 : MP RJ4 329 yJ5_charAt_5068e 1 := ⟨(List.mem_of_getElem? (i := 777) (by decide +kernel)), (List.mem_of_getElem? (i := 58) (by decide +kernel)), by decide +kernel, by decide +kernel, (List.mem_of_getElem? (i := 864) (by decide +kernel)), (List.mem_of_getElem? (i := 778) (by decide +kernel)), (List.mem_of_getElem? (i := 593) (by decide +kernel))⟩
set_option maxRecDepth 20000 in
theorem k_J5_charAt_5068e : Cond.code yJ5_charAt_5068e cJ5_charAt_5068e 5 (some .char) ∈ GT := (List.mem_of_getElem? (i := 779) (by decide +kernel))
set_option maxRecDepth 20000 in
theorem m_J5_114 : MF RJ5 114 1 yJ8_newLength_cabcc 3 := ⟨Or.inl (List.mem_of_getElem? (i := 622) (by decide +kernel)), (List.mem_of_getElem? (i := 60) (by decide +kernel)), ⟨by decide +kernel, by decide +kernel⟩, by decide +kernel, fun h => by omega, fun _ => (List.mem_of_getElem? (i := 623) (by decide +kernel)), fun h => by omega⟩
set_option maxRecDepth 20000 in
theorem k_J8_newLength_cabcc : Cond.code yJ8_newLength_cabcc cJ8_newLength_cabcc 4 (some .int) ∈ GT := (List.mem_of_getElem? (i := 624) (by decide +kernel))
theorem q_J5_39 : Cond.constant RJ5 39 (zI 2147483647) ∈ GT := (List.mem_of_getElem? (i := 630) (by decide +kernel))
set_option maxRecDepth 20000 in
theorem mu_J5_104 : MU RJ5 104 yJ5_newCapacity_0f7a4 1 := ⟨(List.mem_of_getElem? (i := 618) (by decide +kernel)), (List.mem_of_getElem? (i := 58) (by decide +kernel)), ⟨by decide +kernel, by decide +kernel⟩, by decide +kernel, (List.mem_of_getElem? (i := 856) (by decide +kernel)), (List.mem_of_getElem? (i := 620) (by decide +kernel)), (List.mem_of_getElem? (i := 1) (by decide +kernel))⟩
set_option maxRecDepth 20000 in
theorem k_J5_newCapacity_0f7a4 : Cond.code yJ5_newCapacity_0f7a4 cJ5_newCapacity_0f7a4 6 (some .int) ∈ GT := (List.mem_of_getElem? (i := 621) (by decide +kernel))
set_option maxRecDepth 20000 in
theorem m_J5_108 : MF RJ5 108 1 yJ7_copyOf_9075b 2 := ⟨Or.inl (List.mem_of_getElem? (i := 631) (by decide +kernel)), (List.mem_of_getElem? (i := 50) (by decide +kernel)), ⟨by decide +kernel, by decide +kernel⟩, by decide +kernel, fun h => by omega, fun _ => (List.mem_of_getElem? (i := 632) (by decide +kernel)), fun h => by omega⟩
set_option maxRecDepth 20000 in
theorem k_J7_copyOf_9075b : Cond.code yJ7_copyOf_9075b cJ7_copyOf_9075b 3 (some (.array .byte)) ∈ GT := (List.mem_of_getElem? (i := 633) (by decide +kernel))
section
variable {l : Launch} {D : va_G} {cy : Nat → ClassId} {n0 : Nat} {ad : Nat → Nat} {b : Nat → Nat} {E : va_W} {ws : va_W}
set_option maxHeartbeats 4000000 in
set_option maxRecDepth 100000 in
theorem c_J8_newLength_cabcc {o g p : Int} (hfl : l.stackTraces = false) (ho : 0 ≤ o ∧ o ≤ 2000) (hg : 0 < g ∧ g ≤ 2000) (hp : 0 < p ∧ p ≤ 2010) : CT l D cy n0 ad yJ8_newLength_cabcc (.code yJ8_newLength_cabcc cJ8_newLength_cabcc 4 (some .int)) ({ frames := 1, cells := 0, slots := 0, locals := 21 }) [.int (zI o), .int (zI g), .int (zI p)] ws (fun vv uu => ∃ q, vv = some (.int (zI q)) ∧ uu = ws ∧ (q = o + imax g p)) := by
  have hm : imax g p = g ∨ imax g p = p := by unfold imax; split <;> omega
  refine CT.walk hfl (by decide) (Nat.le_of_ble_eq_true rfl) ?_
  intro A J hJ
  show J ws 0 0 0 [(0, .int (zI o)), (1, .int (zI g)), (2, .int (zI p))] []
  refine j_iload_n hJ (j := 0) rfl rfl dJ8_newLength_cabcc_0 ?_
  refine j_iload_n hJ (j := 1) rfl rfl dJ8_newLength_cabcc_1 ?_
  refine j_iload_n hJ (j := 2) rfl rfl dJ8_newLength_cabcc_2 ?_
  refine j_mmax hJ mm_J8_194 ⟨by omega, by omega⟩ ⟨by omega, by omega⟩ (Nat.le_of_ble_eq_true rfl) (Nat.le_of_ble_eq_true rfl) (Nat.le_of_ble_eq_true rfl) (Nat.le_of_ble_eq_true rfl) dJ8_newLength_cabcc_3 ?_
  refine j_iadd hJ dJ8_newLength_cabcc_6 ?_
  refine j_istore_n hJ (lv' := [(3, .int (zI (o + (imax g p)))), (0, .int (zI o)), (1, .int (zI g)), (2, .int (zI p))]) rfl (by decide) rfl dJ8_newLength_cabcc_7 ?_
  refine j_iconst hJ dJ8_newLength_cabcc_8 ?_
  refine j_iload_n hJ (j := 0) rfl rfl dJ8_newLength_cabcc_9 ?_
  refine j_icmp_ge hJ (tgt := 21) ⟨by omega, by omega⟩ ⟨by omega, by omega⟩ (by decide) dJ8_newLength_cabcc_10 ?_ ?_
  · intro h10
    omega
  · intro h10
    refine j_iload_n hJ (j := 0) rfl rfl dJ8_newLength_cabcc_13 ?_
    refine j_ldc hJ q_J8_200 dJ8_newLength_cabcc_14 ?_
    refine j_icmp_gt hJ (tgt := 21) ⟨by omega, by omega⟩ ⟨by omega, by omega⟩ (by decide) dJ8_newLength_cabcc_16 ?_ ?_
    · intro h16
      omega
    · intro h16
      refine j_iload_n hJ (j := 0) rfl rfl dJ8_newLength_cabcc_19 ?_
      refine j_iret hJ rfl rfl (rfl) (Nat.le_of_ble_eq_true rfl) (Nat.le_of_ble_eq_true rfl) dJ8_newLength_cabcc_20 ⟨(o + (imax g p)), rfl, rfl, ?_⟩
      rfl
set_option maxHeartbeats 4000000 in
set_option maxRecDepth 100000 in
theorem c_J1_canEncode_fc78d {c : Int} (hfl : l.stackTraces = false) (hc : 0 ≤ c ∧ c < 128) : CT l D cy n0 ad yJ1_canEncode_fc78d (.code yJ1_canEncode_fc78d cJ1_canEncode_fc78d 1 (some .boolean)) ({ frames := 0, cells := 0, slots := 0, locals := 0 }) [.int (zI c)] ws (fun vv uu => ∃ q, vv = some (.int (zI q)) ∧ uu = ws ∧ (q = 1)) := by
  refine CT.walk hfl (by decide) (Nat.le_of_ble_eq_true rfl) ?_
  intro A J hJ
  show J ws 0 0 0 [(0, .int (zI c))] []
  refine j_iload_n hJ (j := 0) rfl rfl dJ1_canEncode_fc78d_0 ?_
  refine j_sipush hJ (v := 255) (by decide) dJ1_canEncode_fc78d_1 ?_
  refine j_icmp_gt hJ (tgt := 11) ⟨by omega, by omega⟩ ⟨by omega, by omega⟩ (by decide) dJ1_canEncode_fc78d_4 ?_ ?_
  · intro h4
    omega
  · intro h4
    refine j_iconst hJ dJ1_canEncode_fc78d_7 ?_
    refine j_goto hJ (tgt := 12) (by decide) dJ1_canEncode_fc78d_8 ?_
    refine j_iret hJ rfl rfl (by decide) (Nat.le_of_ble_eq_true rfl) (Nat.le_of_ble_eq_true rfl) dJ1_canEncode_fc78d_12 ⟨1, rfl, rfl, ?_⟩
    rfl
set_option maxHeartbeats 4000000 in
set_option maxRecDepth 100000 in
theorem c_J6_stringSize_0f7a4 {z : Int} (hfl : l.stackTraces = false) (hz : 1 ≤ z ∧ z ≤ 12) : CT l D cy n0 ad yJ6_stringSize_0f7a4 (.code yJ6_stringSize_0f7a4 cJ6_stringSize_0f7a4 4 (some .int)) ({ frames := 0, cells := 0, slots := 0, locals := 0 }) [.int (zI z)] ws (fun vv uu => ∃ q, vv = some (.int (zI q)) ∧ uu = ws ∧ (q = ((numT z).length : Int))) := by
  refine CT.walk hfl (by decide) (Nat.le_of_ble_eq_true rfl) ?_
  intro A J hJ
  show J ws 0 0 0 [(0, .int (zI z))] []
  refine j_iconst hJ dJ6_stringSize_0f7a4_0 ?_
  refine j_istore_n hJ (lv' := [(1, .int (zI 1)), (0, .int (zI z))]) rfl (by decide) rfl dJ6_stringSize_0f7a4_1 ?_
  refine j_iload_n hJ (j := 1) rfl rfl dJ6_stringSize_0f7a4_2 ?_
  refine j_if_lt hJ (tgt := 11) ⟨by omega, by omega⟩ (by decide) dJ6_stringSize_0f7a4_3 ?_ ?_
  · intro h3
    omega
  · intro h3
    refine j_iconst hJ dJ6_stringSize_0f7a4_6 ?_
    refine j_istore_n hJ (lv' := [(1, .int (zI 0)), (0, .int (zI z))]) rfl (by decide) rfl dJ6_stringSize_0f7a4_7 ?_
    refine j_iload_n hJ (j := 1) rfl rfl dJ6_stringSize_0f7a4_8 ?_
    refine j_ineg hJ dJ6_stringSize_0f7a4_9 ?_
    refine j_istore_n hJ (lv' := [(0, .int (zI (-z))), (1, .int (zI 0))]) rfl (by decide) rfl dJ6_stringSize_0f7a4_10 ?_
    refine j_bipush hJ (v := -10) (by decide) dJ6_stringSize_0f7a4_11 ?_
    refine j_istore_n hJ (lv' := [(2, .int (zI (-10))), (0, .int (zI (-z))), (1, .int (zI 0))]) rfl (by decide) rfl dJ6_stringSize_0f7a4_13 ?_
    refine j_iconst hJ dJ6_stringSize_0f7a4_14 ?_
    refine j_istore_n hJ (lv' := [(3, .int (zI 1)), (2, .int (zI (-10))), (0, .int (zI (-z))), (1, .int (zI 0))]) rfl (by decide) rfl dJ6_stringSize_0f7a4_15 ?_
    refine j_iload_n hJ (j := 0) rfl rfl dJ6_stringSize_0f7a4_16 ?_
    refine j_bipush hJ (v := 10) (by decide) dJ6_stringSize_0f7a4_17 ?_
    refine j_icmp_ge hJ (tgt := 42) ⟨by omega, by omega⟩ ⟨by omega, by omega⟩ (by decide) dJ6_stringSize_0f7a4_19 ?_ ?_
    · intro h19
      omega
    · intro h19
      refine j_iload_n hJ (j := 2) rfl rfl dJ6_stringSize_0f7a4_22 ?_
      refine j_iload_n hJ (j := 1) rfl rfl dJ6_stringSize_0f7a4_23 ?_
      refine j_icmp_le hJ (tgt := 31) ⟨by omega, by omega⟩ ⟨by omega, by omega⟩ (by decide) dJ6_stringSize_0f7a4_24 ?_ ?_
      · intro h24
        refine j_bipush hJ (v := 10) (by decide) dJ6_stringSize_0f7a4_31 ?_
        refine j_iload_n hJ (j := 1) rfl rfl dJ6_stringSize_0f7a4_33 ?_
        refine j_imul hJ dJ6_stringSize_0f7a4_34 ?_
        refine j_istore_n hJ (lv' := [(2, .int (zI (10 * (-10)))), (3, .int (zI 1)), (0, .int (zI (-z))), (1, .int (zI 0))]) rfl (by decide) rfl dJ6_stringSize_0f7a4_35 ?_
        refine j_iinc hJ (lv' := [(3, .int (zI (1 + 1))), (2, .int (zI (10 * (-10)))), (0, .int (zI (-z))), (1, .int (zI 0))]) (j := 1) rfl (by omega) (by decide) rfl dJ6_stringSize_0f7a4_36 ?_
        refine j_goto hJ (tgt := 16) (by decide) dJ6_stringSize_0f7a4_39 ?_
        refine j_iload_n hJ (j := 0) rfl rfl dJ6_stringSize_0f7a4_16 ?_
        refine j_bipush hJ (v := 10) (by decide) dJ6_stringSize_0f7a4_17 ?_
        refine j_icmp_ge hJ (tgt := 42) ⟨by omega, by omega⟩ ⟨by omega, by omega⟩ (by decide) dJ6_stringSize_0f7a4_19 ?_ ?_
        · intro h19
          omega
        · intro h19
          refine j_iload_n hJ (j := 2) rfl rfl dJ6_stringSize_0f7a4_22 ?_
          refine j_iload_n hJ (j := 1) rfl rfl dJ6_stringSize_0f7a4_23 ?_
          refine j_icmp_le hJ (tgt := 31) ⟨by omega, by omega⟩ ⟨by omega, by omega⟩ (by decide) dJ6_stringSize_0f7a4_24 ?_ ?_
          · intro h24
            omega
          · intro h24
            refine j_iload_n hJ (j := 0) rfl rfl dJ6_stringSize_0f7a4_27 ?_
            refine j_iload_n hJ (j := 3) rfl rfl dJ6_stringSize_0f7a4_28 ?_
            refine j_iadd hJ dJ6_stringSize_0f7a4_29 ?_
            refine j_iret hJ rfl rfl (rfl) (Nat.le_of_ble_eq_true rfl) (Nat.le_of_ble_eq_true rfl) dJ6_stringSize_0f7a4_30 ⟨((1 + 1) + 0), rfl, rfl, ?_⟩
            rw [numT_len]; split <;> omega
      · intro h24
        refine j_iload_n hJ (j := 0) rfl rfl dJ6_stringSize_0f7a4_27 ?_
        refine j_iload_n hJ (j := 3) rfl rfl dJ6_stringSize_0f7a4_28 ?_
        refine j_iadd hJ dJ6_stringSize_0f7a4_29 ?_
        refine j_iret hJ rfl rfl (rfl) (Nat.le_of_ble_eq_true rfl) (Nat.le_of_ble_eq_true rfl) dJ6_stringSize_0f7a4_30 ⟨(1 + 0), rfl, rfl, ?_⟩
        rw [numT_len]; split <;> omega
set_option maxHeartbeats 4000000 in
set_option maxRecDepth 100000 in
theorem c_J6_getChars_ba4f3 {s t m : Nat} {ν : Nat → Int → Int} {z e : Int} (hfl : l.stackTraces = false) (hz : 1 ≤ z ∧ z ≤ 12) (he : 1 ≤ e ∧ e ≤ m) (he2 : 10 ≤ z → 2 ≤ e) (hm : m ≤ 2000) : CT l D cy n0 ad yJ6_getChars_ba4f3 (.code yJ6_getChars_ba4f3 cJ6_getChars_ba4f3 7 (some .int)) ({ frames := 0, cells := 0, slots := 0, locals := 0 }) [.int (zI z), .int (zI e), .ref (sbb s t 1)] (gw 2 (SBSh m) cy (sbb s t) ν ++ E) (fun vv uu => ∃ q μ', vv = some (.int (zI q)) ∧ uu = (gw 2 (SBSh m) cy (sbb s t) μ' ++ E) ∧ ((z < 10 → μ' = up ν 1 (e + (-1)) (48 + z % 10)) ∧ (10 ≤ z → μ' = up (up ν 1 (e + (-1)) (48 + z % 10)) 1 (e + (-1) + (-1)) (48 + z / 10)))) := by
  refine CT.walk hfl (by decide) (Nat.le_of_ble_eq_true rfl) ?_
  intro A J hJ
  show J (gw 2 (SBSh m) cy (sbb s t) ν ++ E) 0 0 0 [(0, .int (zI z)), (1, .int (zI e)), (2, .ref (sbb s t 1))] []
  refine j_iload_n hJ (j := 1) rfl rfl dJ6_getChars_ba4f3_0 ?_
  refine j_istore hJ (lv' := [(5, .int (zI e)), (0, .int (zI z)), (1, .int (zI e)), (2, .ref (sbb s t 1))]) (by decide) rfl dJ6_getChars_ba4f3_1 ?_
  refine j_iload_n hJ (j := 1) rfl rfl dJ6_getChars_ba4f3_3 ?_
  refine j_if_ge hJ (tgt := 11) ⟨by omega, by omega⟩ (by decide) dJ6_getChars_ba4f3_4 ?_ ?_
  · intro h4
    refine j_iconst hJ dJ6_getChars_ba4f3_11 ?_
    refine j_istore hJ (lv' := [(6, .int (zI 0)), (5, .int (zI e)), (0, .int (zI z)), (1, .int (zI e)), (2, .ref (sbb s t 1))]) (by decide) rfl dJ6_getChars_ba4f3_12 ?_
    refine j_iload hJ (j := 0) rfl dJ6_getChars_ba4f3_14 ?_
    refine j_if_ne hJ (tgt := 22) ⟨by omega, by omega⟩ (by decide) dJ6_getChars_ba4f3_16 ?_ ?_
    · intro h16
      omega
    · intro h16
      refine j_iload_n hJ (j := 2) rfl rfl dJ6_getChars_ba4f3_19 ?_
      refine j_ineg hJ dJ6_getChars_ba4f3_20 ?_
      refine j_istore_n hJ (lv' := [(0, .int (zI (-z))), (6, .int (zI 0)), (5, .int (zI e)), (1, .int (zI e)), (2, .ref (sbb s t 1))]) rfl (by decide) rfl dJ6_getChars_ba4f3_21 ?_
      refine j_iload_n hJ (j := 0) rfl rfl dJ6_getChars_ba4f3_22 ?_
      refine j_bipush hJ (v := -100) (by decide) dJ6_getChars_ba4f3_23 ?_
      refine j_icmp_gt hJ (tgt := 72) ⟨by omega, by omega⟩ ⟨by omega, by omega⟩ (by decide) dJ6_getChars_ba4f3_25 ?_ ?_
      · intro h25
        refine j_aload_n hJ (j := 4) rfl rfl dJ6_getChars_ba4f3_72 ?_
        refine j_iinc hJ (lv' := [(5, .int (zI (e + (-1)))), (0, .int (zI (-z))), (6, .int (zI 0)), (1, .int (zI e)), (2, .ref (sbb s t 1))]) (j := 2) rfl (by omega) (by decide) rfl dJ6_getChars_ba4f3_73 ?_
        refine j_iload hJ (j := 0) rfl dJ6_getChars_ba4f3_76 ?_
        refine j_gets (v := .ref (ad 90)) hJ (fun _ h => h.2.2.2.2.2.2.2.1) g_J6_83 dJ6_getChars_ba4f3_78 ?_
        refine j_iload_n hJ (j := 1) rfl rfl dJ6_getChars_ba4f3_81 ?_
        refine j_ineg hJ dJ6_getChars_ba4f3_82 ?_
        refine j_topi (y := zI z) (by congr 1; omega) ?_
        refine j_baldK (N := 100) (v := .int (zI (48 + z % 10))) hJ (fun _ h => h.2.2.2.2.2.2.2.2.1) (by omega) (by omega) (by decide) (dg_ones (by omega) (by omega)) dJ6_getChars_ba4f3_83 ?_
        refine w_bast hJ (by omega) rfl (by first | decide | omega) (by omega) (by omega) ⟨by omega, by omega⟩ dJ6_getChars_ba4f3_84 ?_
        intro ν1 hν1
        refine j_iload_n hJ (j := 1) rfl rfl dJ6_getChars_ba4f3_85 ?_
        refine j_bipush hJ (v := -9) (by decide) dJ6_getChars_ba4f3_86 ?_
        refine j_icmp_ge hJ (tgt := 104) ⟨by omega, by omega⟩ ⟨by omega, by omega⟩ (by decide) dJ6_getChars_ba4f3_88 ?_ ?_
        · intro h88
          refine j_iload hJ (j := 2) rfl dJ6_getChars_ba4f3_104 ?_
          refine j_if_eq hJ (tgt := 118) ⟨by omega, by omega⟩ (by decide) dJ6_getChars_ba4f3_106 ?_ ?_
          · intro h106
            refine j_iload hJ (j := 0) rfl dJ6_getChars_ba4f3_118 ?_
            refine j_iret hJ rfl rfl (rfl) (Nat.le_of_ble_eq_true rfl) (Nat.le_of_ble_eq_true rfl) dJ6_getChars_ba4f3_120 ⟨(e + (-1)), ν1, rfl, rfl, ?_⟩
            exact ⟨fun _ => hν1, fun g => by omega⟩
          · intro h106
            omega
        · intro h88
          refine j_aload_n hJ (j := 4) rfl rfl dJ6_getChars_ba4f3_91 ?_
          refine j_iinc hJ (lv' := [(5, .int (zI ((e + (-1)) + (-1)))), (0, .int (zI (-z))), (6, .int (zI 0)), (1, .int (zI e)), (2, .ref (sbb s t 1))]) (j := 0) rfl (by omega) (by decide) rfl dJ6_getChars_ba4f3_92 ?_
          refine j_iload hJ (j := 0) rfl dJ6_getChars_ba4f3_95 ?_
          refine j_gets (v := .ref (ad 91)) hJ (fun _ h => h.2.2.2.2.2.2.2.2.2.1) g_J6_87 dJ6_getChars_ba4f3_97 ?_
          refine j_iload_n hJ (j := 1) rfl rfl dJ6_getChars_ba4f3_100 ?_
          refine j_ineg hJ dJ6_getChars_ba4f3_101 ?_
          refine j_topi (y := zI z) (by congr 1; omega) ?_
          refine j_baldK (N := 100) (v := .int (zI (48 + z / 10))) hJ (fun _ h => h.2.2.2.2.2.2.2.2.2.2.1) (by omega) (by omega) (by decide) (dg_tens (by omega) (by omega)) dJ6_getChars_ba4f3_102 ?_
          refine w_bast hJ (by omega) rfl (by first | decide | omega) (by omega) (by omega) ⟨by omega, by omega⟩ dJ6_getChars_ba4f3_103 ?_
          intro ν2 hν2
          refine j_iload hJ (j := 2) rfl dJ6_getChars_ba4f3_104 ?_
          refine j_if_eq hJ (tgt := 118) ⟨by omega, by omega⟩ (by decide) dJ6_getChars_ba4f3_106 ?_ ?_
          · intro h106
            refine j_iload hJ (j := 0) rfl dJ6_getChars_ba4f3_118 ?_
            refine j_iret hJ rfl rfl (rfl) (Nat.le_of_ble_eq_true rfl) (Nat.le_of_ble_eq_true rfl) dJ6_getChars_ba4f3_120 ⟨((e + (-1)) + (-1)), ν2, rfl, rfl, ?_⟩
            exact ⟨fun g => by omega, fun _ => by rw [hν2, hν1]⟩
          · intro h106
            omega
      · intro h25
        omega
  · intro h4
    omega
set_option maxHeartbeats 4000000 in
set_option maxRecDepth 100000 in
theorem c_J5_isLatin1_aae02 {s t m : Nat} {ν : Nat → Int → Int} (hfl : l.stackTraces = false) (hc : ν 0 1 = 0) : CT l D cy n0 ad yJ5_isLatin1_aae02 (.code yJ5_isLatin1_aae02 cJ5_isLatin1_aae02 1 (some .boolean)) ({ frames := 0, cells := 0, slots := 0, locals := 0 }) [.ref (sbb s t 0)] (gw 2 (SBSh m) cy (sbb s t) ν ++ E) (fun vv uu => ∃ q, vv = some (.int (zI q)) ∧ uu = (gw 2 (SBSh m) cy (sbb s t) ν ++ E) ∧ (q = 1)) := by
  refine CT.walk hfl (by decide) (Nat.le_of_ble_eq_true rfl) ?_
  intro A J hJ
  show J (gw 2 (SBSh m) cy (sbb s t) ν ++ E) 0 0 0 [(0, .ref (sbb s t 0))] []
  refine j_gets (v := .int (zI 1)) hJ (fun _ h => h.2.2.2.2.2.2.1) g_J5_18 dJ5_isLatin1_aae02_0 ?_
  refine j_if_eq hJ (tgt := 17) ⟨by omega, by omega⟩ (by decide) dJ5_isLatin1_aae02_3 ?_ ?_
  · intro h3
    omega
  · intro h3
    refine j_aload_n hJ (j := 0) rfl rfl dJ5_isLatin1_aae02_6 ?_
    refine w_geti hJ (fi := 1) rfl (by omega) rfl rfl f_J5_22 dJ5_isLatin1_aae02_7 ?_
    refine j_topi (y := zI 0) (by rw [hc]) ?_
    refine j_if_ne hJ (tgt := 17) ⟨by omega, by omega⟩ (by decide) dJ5_isLatin1_aae02_10 ?_ ?_
    · intro h10
      omega
    · intro h10
      refine j_iconst hJ dJ5_isLatin1_aae02_13 ?_
      refine j_goto hJ (tgt := 18) (by decide) dJ5_isLatin1_aae02_14 ?_
      refine j_iret hJ rfl rfl (by decide) (Nat.le_of_ble_eq_true rfl) (Nat.le_of_ble_eq_true rfl) dJ5_isLatin1_aae02_18 ⟨1, rfl, rfl, ?_⟩
      rfl
set_option maxHeartbeats 4000000 in
set_option maxRecDepth 100000 in
theorem c_J5_length_8abf5 {s t m : Nat} {ν : Nat → Int → Int} (hfl : l.stackTraces = false)  : CT l D cy n0 ad yJ5_length_8abf5 (.code yJ5_length_8abf5 cJ5_length_8abf5 1 (some .int)) ({ frames := 0, cells := 0, slots := 0, locals := 0 }) [.ref (sbb s t 0)] (gw 2 (SBSh m) cy (sbb s t) ν ++ E) (fun vv uu => ∃ q, vv = some (.int (zI q)) ∧ uu = (gw 2 (SBSh m) cy (sbb s t) ν ++ E) ∧ (q = ν 0 3)) := by
  refine CT.walk hfl (by decide) (Nat.le_of_ble_eq_true rfl) ?_
  intro A J hJ
  show J (gw 2 (SBSh m) cy (sbb s t) ν ++ E) 0 0 0 [(0, .ref (sbb s t 0))] []
  refine j_aload_n hJ (j := 0) rfl rfl dJ5_length_8abf5_0 ?_
  refine w_geti hJ (fi := 3) rfl (by omega) rfl rfl f_J5_79 dJ5_length_8abf5_1 ?_
  refine j_iret hJ rfl rfl (rfl) (Nat.le_of_ble_eq_true rfl) (Nat.le_of_ble_eq_true rfl) dJ5_length_8abf5_4 ⟨(ν 0 3), rfl, rfl, ?_⟩
  rfl
set_option maxHeartbeats 4000000 in
set_option maxRecDepth 100000 in
theorem c_J4_length_8abf5 {s t m : Nat} {ν : Nat → Int → Int} (hfl : l.stackTraces = false)  : CT l D cy n0 ad yJ4_length_8abf5 (.code yJ4_length_8abf5 cJ4_length_8abf5 1 (some .int)) ({ frames := 1, cells := 0, slots := 0, locals := 20 }) [.ref (sbb s t 0)] (gw 2 (SBSh m) cy (sbb s t) ν ++ E) (fun vv uu => ∃ q, vv = some (.int (zI q)) ∧ uu = (gw 2 (SBSh m) cy (sbb s t) ν ++ E) ∧ (q = ν 0 3)) := by
  refine CT.walk hfl (by decide) (Nat.le_of_ble_eq_true rfl) ?_
  intro A J hJ
  show J (gw 2 (SBSh m) cy (sbb s t) ν ++ E) 0 0 0 [(0, .ref (sbb s t 0))] []
  refine j_aload_n hJ (j := 0) rfl rfl dJ4_length_8abf5_0 ?_
  refine j_callP0 hJ (c_J5_length_8abf5 hfl ) mp_J4_343 k_J5_length_8abf5 (q0 := 0) (by rw [gw_get (by decide)]; rfl) ⟨(Nat.le_of_ble_eq_true rfl), (Nat.le_of_ble_eq_true rfl)⟩ ⟨(Nat.le_of_ble_eq_true rfl), (Nat.le_of_ble_eq_true rfl)⟩ (Nat.le_of_ble_eq_true rfl) dJ4_length_8abf5_1 rfl ?_
  intro v1 u2 hv3
  obtain ⟨_, rfl, rfl, rfl⟩ := hv3
  show J (gw 2 (SBSh m) cy (sbb s t) ν ++ E) 0 0 4 [(0, .ref (sbb s t 0))] [.int (zI (ν 0 3))]
  refine j_iret hJ rfl rfl (rfl) (Nat.le_of_ble_eq_true rfl) (Nat.le_of_ble_eq_true rfl) dJ4_length_8abf5_4 ⟨(ν 0 3), rfl, rfl, ?_⟩
  rfl
set_option maxHeartbeats 4000000 in
set_option maxRecDepth 100000 in
theorem c_J5_charAt_5068e {s t m : Nat} {ν : Nat → Int → Int} {k : Int} {L : List Int} (hfl : l.stackTraces = false) (hI : SBI m ν L) (h0 : 0 ≤ k) (h1 : k < L.length) : CT l D cy n0 ad yJ5_charAt_5068e (.code yJ5_charAt_5068e cJ5_charAt_5068e 5 (some .char)) ({ frames := 2, cells := 0, slots := 0, locals := 43 }) [.ref (sbb s t 0), .int (zI k)] (gw 2 (SBSh m) cy (sbb s t) ν ++ E) (fun vv uu => ∃ q, vv = some (.int (zI q)) ∧ uu = (gw 2 (SBSh m) cy (sbb s t) ν ++ E) ∧ (q = ν 1 k)) := by
  obtain ⟨i1, i2, i3, i4, i5, i6⟩ := id hI
  have r0 := cap_rng L.length
  have i7 := i5 k
  refine CT.walk hfl (by decide) (Nat.le_of_ble_eq_true rfl) ?_
  intro A J hJ
  show J (gw 2 (SBSh m) cy (sbb s t) ν ++ E) 0 0 0 [(0, .ref (sbb s t 0)), (1, .int (zI k))] []
  refine j_aload_n hJ (j := 0) rfl rfl dJ5_charAt_5068e_0 ?_
  refine w_geti hJ (fi := 1) rfl (by omega) rfl rfl f_J5_22 dJ5_charAt_5068e_1 ?_
  refine j_topi (y := zI 0) (by rw [i1]) ?_
  refine j_istore_n hJ (lv' := [(2, .int (zI 0)), (0, .ref (sbb s t 0)), (1, .int (zI k))]) rfl (by decide) rfl dJ5_charAt_5068e_4 ?_
  refine j_aload_n hJ (j := 1) rfl rfl dJ5_charAt_5068e_5 ?_
  refine w_getr hJ (by omega) rfl rfl f_J5_15 dJ5_charAt_5068e_6 ?_
  refine j_astore_n hJ (lv' := [(3, .ref (sbb s t 1)), (2, .int (zI 0)), (0, .ref (sbb s t 0)), (1, .int (zI k))]) rfl (by decide) rfl dJ5_charAt_5068e_9 ?_
  refine j_aload_n hJ (j := 2) rfl rfl dJ5_charAt_5068e_10 ?_
  refine w_geti hJ (fi := 3) rfl (by omega) rfl rfl f_J5_79 dJ5_charAt_5068e_11 ?_
  refine j_topi (y := zI (L.length : Int)) (by rw [i2]) ?_
  refine j_aload_n hJ (j := 0) rfl rfl dJ5_charAt_5068e_14 ?_
  refine w_alen hJ (by omega) rfl (fun _ => rfl) dJ5_charAt_5068e_15 ?_
  refine j_iload_n hJ (j := 1) rfl rfl dJ5_charAt_5068e_16 ?_
  refine j_ishr hJ (v := (m : Int)) ((sh0 (by omega) (by omega)).1) dJ5_charAt_5068e_17 ?_
  refine j_mmin hJ mm_J5_138 ⟨by omega, by omega⟩ ⟨by omega, by omega⟩ (Nat.le_of_ble_eq_true rfl) (Nat.le_of_ble_eq_true rfl) (Nat.le_of_ble_eq_true rfl) (Nat.le_of_ble_eq_true rfl) dJ5_charAt_5068e_18 ?_
  refine j_topi (y := zI (L.length : Int)) (by congr 1; unfold imin; split <;> omega) ?_
  refine j_istore hJ (lv' := [(4, .int (zI (L.length : Int))), (3, .ref (sbb s t 1)), (2, .int (zI 0)), (0, .ref (sbb s t 0)), (1, .int (zI k))]) (by decide) rfl dJ5_charAt_5068e_21 ?_
  refine j_iload_n hJ (j := 4) rfl rfl dJ5_charAt_5068e_23 ?_
  refine j_iload hJ (j := 0) rfl dJ5_charAt_5068e_24 ?_
  refine j_callS0 hJ (c_J0_checkIndex_df160 hfl h0 h1 (by omega)) m_J5_144 k_J0_checkIndex_df160 ⟨(Nat.le_of_ble_eq_true rfl), (Nat.le_of_ble_eq_true rfl)⟩ ⟨(Nat.le_of_ble_eq_true rfl), (Nat.le_of_ble_eq_true rfl)⟩ (Nat.le_of_ble_eq_true rfl) dJ5_charAt_5068e_26 rfl ?_
  intro v1 u2 hv3
  obtain ⟨rfl, rfl, hr4⟩ := hv3
  show J (gw 2 (SBSh m) cy (sbb s t) ν ++ E) 0 0 29 [(4, .int (zI (L.length : Int))), (3, .ref (sbb s t 1)), (2, .int (zI 0)), (0, .ref (sbb s t 0)), (1, .int (zI k))] []
  refine j_iload_n hJ (j := 2) rfl rfl dJ5_charAt_5068e_29 ?_
  refine j_if_ne hJ (tgt := 42) ⟨by omega, by omega⟩ (by decide) dJ5_charAt_5068e_30 ?_ ?_
  · intro h30
    omega
  · intro h30
    refine j_aload_n hJ (j := 1) rfl rfl dJ5_charAt_5068e_33 ?_
    refine j_iload_n hJ (j := 4) rfl rfl dJ5_charAt_5068e_34 ?_
    refine w_bald hJ (by omega) rfl (by first | decide | omega) (by omega) (by omega) dJ5_charAt_5068e_35 ?_
    refine j_sipush hJ (v := 255) (by decide) dJ5_charAt_5068e_36 ?_
    refine j_rand hJ dJ5_charAt_5068e_39 ?_
    refine j_i2c hJ (v := (ν 1 k)) (andB i7.1 i7.2) dJ5_charAt_5068e_40 ?_
    refine j_iret hJ rfl rfl (narC i7.1 i7.2) (Nat.le_of_ble_eq_true rfl) (Nat.le_of_ble_eq_true rfl) dJ5_charAt_5068e_41 ⟨(ν 1 k), rfl, rfl, ?_⟩
    rfl
set_option maxHeartbeats 4000000 in
set_option maxRecDepth 100000 in
theorem c_J4_charAt_5068e {s t m : Nat} {ν : Nat → Int → Int} {k : Int} {L : List Int} (hfl : l.stackTraces = false) (hI : SBI m ν L) (h0 : 0 ≤ k) (h1 : k < L.length) : CT l D cy n0 ad yJ4_charAt_5068e (.code yJ4_charAt_5068e cJ4_charAt_5068e 2 (some .char)) ({ frames := 3, cells := 0, slots := 0, locals := 67 }) [.ref (sbb s t 0), .int (zI k)] (gw 2 (SBSh m) cy (sbb s t) ν ++ E) (fun vv uu => ∃ q, vv = some (.int (zI q)) ∧ uu = (gw 2 (SBSh m) cy (sbb s t) ν ++ E) ∧ (q = ν 1 k)) := by
  obtain ⟨i1, i2, i3, i4, i5, i6⟩ := id hI
  have r0 := cap_rng L.length
  have i7 := i5 k
  refine CT.walk hfl (by decide) (Nat.le_of_ble_eq_true rfl) ?_
  intro A J hJ
  show J (gw 2 (SBSh m) cy (sbb s t) ν ++ E) 0 0 0 [(0, .ref (sbb s t 0)), (1, .int (zI k))] []
  refine j_aload_n hJ (j := 0) rfl rfl dJ4_charAt_5068e_0 ?_
  refine j_iload_n hJ (j := 1) rfl rfl dJ4_charAt_5068e_1 ?_
  refine j_callP0 hJ (c_J5_charAt_5068e hfl hI h0 h1) mp_J4_329 k_J5_charAt_5068e (q0 := 0) (by rw [gw_get (by decide)]; rfl) ⟨(Nat.le_of_ble_eq_true rfl), (Nat.le_of_ble_eq_true rfl)⟩ ⟨(Nat.le_of_ble_eq_true rfl), (Nat.le_of_ble_eq_true rfl)⟩ (Nat.le_of_ble_eq_true rfl) dJ4_charAt_5068e_2 rfl ?_
  intro v1 u2 hv3
  obtain ⟨_, rfl, rfl, rfl⟩ := hv3
  show J (gw 2 (SBSh m) cy (sbb s t) ν ++ E) 0 0 5 [(0, .ref (sbb s t 0)), (1, .int (zI k))] [.int (zI (ν 1 k))]
  refine j_iret hJ rfl rfl (narC i7.1 i7.2) (Nat.le_of_ble_eq_true rfl) (Nat.le_of_ble_eq_true rfl) dJ4_charAt_5068e_5 ⟨(ν 1 k), rfl, rfl, ?_⟩
  rfl
set_option maxHeartbeats 4000000 in
set_option maxRecDepth 100000 in
theorem c_J5_newCapacity_0f7a4 {s t m : Nat} {ν : Nat → Int → Int} {e : Int} (hfl : l.stackTraces = false) (hc : ν 0 1 = 0) (hm : 16 ≤ m ∧ m ≤ 574) (he : m < e ∧ e ≤ m + 8) : CT l D cy n0 ad yJ5_newCapacity_0f7a4 (.code yJ5_newCapacity_0f7a4 cJ5_newCapacity_0f7a4 6 (some .int)) ({ frames := 2, cells := 0, slots := 0, locals := 44 }) [.ref (sbb s t 0), .int (zI e)] (gw 2 (SBSh m) cy (sbb s t) ν ++ E) (fun vv uu => ∃ q, vv = some (.int (zI q)) ∧ uu = (gw 2 (SBSh m) cy (sbb s t) ν ++ E) ∧ (q = 2 * (m : Int) + 2)) := by
  refine CT.walk hfl (by decide) (Nat.le_of_ble_eq_true rfl) ?_
  intro A J hJ
  show J (gw 2 (SBSh m) cy (sbb s t) ν ++ E) 0 0 0 [(0, .ref (sbb s t 0)), (1, .int (zI e))] []
  refine j_aload_n hJ (j := 0) rfl rfl dJ5_newCapacity_0f7a4_0 ?_
  refine w_getr hJ (by omega) rfl rfl f_J5_15 dJ5_newCapacity_0f7a4_1 ?_
  refine w_alen hJ (by omega) rfl (fun _ => rfl) dJ5_newCapacity_0f7a4_4 ?_
  refine j_istore_n hJ (lv' := [(2, .int (zI (m : Int))), (0, .ref (sbb s t 0)), (1, .int (zI e))]) rfl (by decide) rfl dJ5_newCapacity_0f7a4_5 ?_
  refine j_iload_n hJ (j := 2) rfl rfl dJ5_newCapacity_0f7a4_6 ?_
  refine j_aload_n hJ (j := 1) rfl rfl dJ5_newCapacity_0f7a4_7 ?_
  refine w_geti hJ (fi := 1) rfl (by omega) rfl rfl f_J5_22 dJ5_newCapacity_0f7a4_8 ?_
  refine j_topi (y := zI 0) (by rw [hc]) ?_
  refine j_ishl hJ (v := e) ((sh0 (by omega) (by omega)).2) dJ5_newCapacity_0f7a4_11 ?_
  refine j_istore_n hJ (lv' := [(3, .int (zI e)), (2, .int (zI (m : Int))), (0, .ref (sbb s t 0)), (1, .int (zI e))]) rfl (by decide) rfl dJ5_newCapacity_0f7a4_12 ?_
  refine j_iload_n hJ (j := 0) rfl rfl dJ5_newCapacity_0f7a4_13 ?_
  refine j_iload_n hJ (j := 1) rfl rfl dJ5_newCapacity_0f7a4_14 ?_
  refine j_isub hJ dJ5_newCapacity_0f7a4_15 ?_
  refine j_istore hJ (lv' := [(4, .int (zI (e - (m : Int)))), (3, .int (zI e)), (2, .int (zI (m : Int))), (0, .ref (sbb s t 0)), (1, .int (zI e))]) (by decide) rfl dJ5_newCapacity_0f7a4_16 ?_
  refine j_iload_n hJ (j := 2) rfl rfl dJ5_newCapacity_0f7a4_18 ?_
  refine j_iload hJ (j := 0) rfl dJ5_newCapacity_0f7a4_19 ?_
  refine j_iload_n hJ (j := 2) rfl rfl dJ5_newCapacity_0f7a4_21 ?_
  refine j_iconst hJ dJ5_newCapacity_0f7a4_22 ?_
  refine j_aload_n hJ (j := 3) rfl rfl dJ5_newCapacity_0f7a4_23 ?_
  refine w_geti hJ (fi := 1) rfl (by omega) rfl rfl f_J5_22 dJ5_newCapacity_0f7a4_24 ?_
  refine j_topi (y := zI 0) (by rw [hc]) ?_
  refine j_ishl hJ (v := 2) ((sh0 (by omega) (by omega)).2) dJ5_newCapacity_0f7a4_27 ?_
  refine j_iadd hJ dJ5_newCapacity_0f7a4_28 ?_
  refine j_callS0 hJ (c_J8_newLength_cabcc hfl (by omega) (by omega) (by omega)) m_J5_114 k_J8_newLength_cabcc ⟨(Nat.le_of_ble_eq_true rfl), (Nat.le_of_ble_eq_true rfl)⟩ ⟨(Nat.le_of_ble_eq_true rfl), (Nat.le_of_ble_eq_true rfl)⟩ (Nat.le_of_ble_eq_true rfl) dJ5_newCapacity_0f7a4_29 rfl ?_
  intro v1 u2 hv3
  obtain ⟨_, rfl, rfl, rfl⟩ := hv3
  show J (gw 2 (SBSh m) cy (sbb s t) ν ++ E) 0 0 32 [(4, .int (zI (e - (m : Int)))), (3, .int (zI e)), (2, .int (zI (m : Int))), (0, .ref (sbb s t 0)), (1, .int (zI e))] [.int (zI ((m : Int) + imax (e - (m : Int)) ((m : Int) + 2)))]
  refine j_topi (y := zI (2 * (m : Int) + 2)) (by congr 1; unfold imax; split <;> omega) ?_
  refine j_istore hJ (lv' := [(5, .int (zI (2 * (m : Int) + 2))), (4, .int (zI (e - (m : Int)))), (3, .int (zI e)), (2, .int (zI (m : Int))), (0, .ref (sbb s t 0)), (1, .int (zI e))]) (by decide) rfl dJ5_newCapacity_0f7a4_32 ?_
  refine j_iload hJ (j := 0) rfl dJ5_newCapacity_0f7a4_34 ?_
  refine j_ldc hJ q_J5_39 dJ5_newCapacity_0f7a4_36 ?_
  refine j_icmp_ne hJ (tgt := 51) ⟨by omega, by omega⟩ ⟨by omega, by omega⟩ (by decide) dJ5_newCapacity_0f7a4_38 ?_ ?_
  · intro h38
    refine j_iload hJ (j := 0) rfl dJ5_newCapacity_0f7a4_51 ?_
    refine j_aload_n hJ (j := 4) rfl rfl dJ5_newCapacity_0f7a4_53 ?_
    refine w_geti hJ (fi := 1) rfl (by omega) rfl rfl f_J5_22 dJ5_newCapacity_0f7a4_54 ?_
    refine j_topi (y := zI 0) (by rw [hc]) ?_
    refine j_ishr hJ (v := (2 * (m : Int) + 2)) ((sh0 (by omega) (by omega)).1) dJ5_newCapacity_0f7a4_57 ?_
    refine j_iret hJ rfl rfl (rfl) (Nat.le_of_ble_eq_true rfl) (Nat.le_of_ble_eq_true rfl) dJ5_newCapacity_0f7a4_58 ⟨(2 * (m : Int) + 2), rfl, rfl, ?_⟩
    rfl
  · intro h38
    omega
set_option maxHeartbeats 4000000 in
set_option maxRecDepth 100000 in
theorem c_J5_ensureCapacityInternal_d00df {s t m : Nat} {ν : Nat → Int → Int} {n k : Nat} (hfl : l.stackTraces = false) (hc : ν 0 1 = 0) (hm : m = capO n) (hn : n ≤ k ∧ k ≤ n + 8 ∧ k ≤ 1150) (hB : ∀ j, 0 ≤ ν 1 j ∧ ν 1 j < 128) : CT l D cy n0 ad yJ5_ensureCapacityInternal_d00df (.code yJ5_ensureCapacityInternal_d00df cJ5_ensureCapacityInternal_d00df 3 none) ({ frames := 3, cells := cpC k - cpC n, slots := cpS k - cpS n, locals := 69 }) [.ref (sbb s t 0), .int (zI (k : Int))] (gw 2 (SBSh m) cy (sbb s t) ν ++ E) (fun vv uu => ∃ t' m' ν', vv = none ∧ uu = (gw 2 (SBSh m') cy (sbb s t') ν' ++ E) ∧ (m' = capO k ∧ ν' 0 1 = 0 ∧ ν' 0 3 = ν 0 3 ∧ (∀ j, 0 ≤ ν' 1 j ∧ ν' 1 j < 128) ∧ ∀ j : Int, 0 ≤ j → j < m → ν' 1 j = ν 1 j)) := by
  have g := cap_grow hn.1 hn.2.1 hn.2.2
  have r := cap_rng n
  refine CT.walk hfl (by decide) (Nat.le_of_ble_eq_true rfl) ?_
  intro A J hJ
  show J (gw 2 (SBSh m) cy (sbb s t) ν ++ E) 0 0 0 [(0, .ref (sbb s t 0)), (1, .int (zI (k : Int)))] []
  refine j_aload_n hJ (j := 0) rfl rfl dJ5_ensureCapacityInternal_d00df_0 ?_
  refine w_getr hJ (by omega) rfl rfl f_J5_15 dJ5_ensureCapacityInternal_d00df_1 ?_
  refine w_alen hJ (by omega) rfl (fun _ => rfl) dJ5_ensureCapacityInternal_d00df_4 ?_
  refine j_aload_n hJ (j := 0) rfl rfl dJ5_ensureCapacityInternal_d00df_5 ?_
  refine w_geti hJ (fi := 1) rfl (by omega) rfl rfl f_J5_22 dJ5_ensureCapacityInternal_d00df_6 ?_
  refine j_topi (y := zI 0) (by rw [hc]) ?_
  refine j_ishr hJ (v := (m : Int)) ((sh0 (by omega) (by omega)).1) dJ5_ensureCapacityInternal_d00df_9 ?_
  refine j_istore_n hJ (lv' := [(2, .int (zI (m : Int))), (0, .ref (sbb s t 0)), (1, .int (zI (k : Int)))]) rfl (by decide) rfl dJ5_ensureCapacityInternal_d00df_10 ?_
  refine j_iload_n hJ (j := 2) rfl rfl dJ5_ensureCapacityInternal_d00df_11 ?_
  refine j_iload_n hJ (j := 0) rfl rfl dJ5_ensureCapacityInternal_d00df_12 ?_
  refine j_isub hJ dJ5_ensureCapacityInternal_d00df_13 ?_
  refine j_if_le hJ (tgt := 38) ⟨by omega, by omega⟩ (by decide) dJ5_ensureCapacityInternal_d00df_14 ?_ ?_
  · intro h14
    refine j_vret hJ rfl rfl (by dsimp only; omega) (by dsimp only; omega) dJ5_ensureCapacityInternal_d00df_38 ⟨t, m, ν, rfl, rfl, ?_⟩
    exact ⟨by rw [hm]; exact ((g.1 (by omega)).1).symm, hc, rfl, hB, fun _ _ _ => rfl⟩
  · intro h14
    have g2 := g.2 (by omega)
    have g3 := cap_rng k
    refine j_aload_n hJ (j := 1) rfl rfl dJ5_ensureCapacityInternal_d00df_17 ?_
    refine j_aload_n hJ (j := 1) rfl rfl dJ5_ensureCapacityInternal_d00df_18 ?_
    refine w_getr hJ (by omega) rfl rfl f_J5_15 dJ5_ensureCapacityInternal_d00df_19 ?_
    refine j_aload_n hJ (j := 1) rfl rfl dJ5_ensureCapacityInternal_d00df_22 ?_
    refine j_iload_n hJ (j := 2) rfl rfl dJ5_ensureCapacityInternal_d00df_23 ?_
    refine j_callU0 hJ (c_J5_newCapacity_0f7a4 hfl hc ⟨by omega, by omega⟩ ⟨by omega, by omega⟩) mu_J5_104 k_J5_newCapacity_0f7a4 (q0 := 0) (by rw [gw_get (by decide)]; rfl) ⟨(Nat.le_of_ble_eq_true rfl), (Nat.le_of_ble_eq_true rfl)⟩ ⟨(Nat.le_of_ble_eq_true rfl), (Nat.le_of_ble_eq_true rfl)⟩ (Nat.le_of_ble_eq_true rfl) dJ5_ensureCapacityInternal_d00df_24 rfl ?_
    intro v1 u2 hv3
    obtain ⟨_, rfl, rfl, rfl⟩ := hv3
    show J (gw 2 (SBSh m) cy (sbb s t) ν ++ E) 0 0 27 [(2, .int (zI (m : Int))), (0, .ref (sbb s t 0)), (1, .int (zI (k : Int)))] [.int (zI (2 * (m : Int) + 2)), .ref (sbb s t 1), .ref (sbb s t 0)]
    refine j_aload_n hJ (j := 1) rfl rfl dJ5_ensureCapacityInternal_d00df_27 ?_
    refine w_geti hJ (fi := 1) rfl (by omega) rfl rfl f_J5_22 dJ5_ensureCapacityInternal_d00df_28 ?_
    refine j_topi (y := zI 0) (by rw [hc]) ?_
    refine j_ishl hJ (v := (2 * (m : Int) + 2)) ((sh0 (by omega) (by omega)).2) dJ5_ensureCapacityInternal_d00df_31 ?_
    refine j_topi (y := zI ((capO k : Nat) : Int)) (by congr 1; omega) ?_
    rw [sbw_app]
    refine j_perm hJ (List.Perm.swap _ _ _) ?_
    refine j_callS0 hJ (c_J7_copyOf_9075b hfl (t := t) (m := m) (m' := capO k) (f := fun j => zI (ν 1 j)) (E := (s, .inr (0, [.ref t, .int (zI (ν 0 1)), .int (zI (ν 0 2)), .int (zI (ν 0 3))])) :: E) (by omega) (by omega) (fun i _ => fitB (by have := hB i; omega) (hB i).2)) m_J5_108 k_J7_copyOf_9075b ⟨(Nat.le_of_ble_eq_true rfl), (Nat.le_of_ble_eq_true rfl)⟩ ⟨by dsimp only; omega, by dsimp only; omega⟩ (Nat.le_of_ble_eq_true rfl) dJ5_ensureCapacityInternal_d00df_32 (rest := [.ref s]) rfl ?_
    intro v9 u9 hv9
    obtain ⟨q9, rfl, rfl⟩ := hv9
    refine j_drop hJ (ws' := (s, .inr (0, [.ref t, .int (zI (ν 0 1)), .int (zI (ν 0 2)), .int (zI (ν 0 3))])) :: (q9, .inl (cy 3, capO k, .inl (va_cpy (fun j => zI (ν 1 j)) (fun _ => zI 0) 0 0 m))) :: E) (X := [(t, .inl (cy 3, m, .inl (fun j => zI (ν 1 j))))]) (perm_grow _ _ _ _) ?_
    refine j_put hJ (q0 := 0) (a := s) (ci := 0) (k := 0) (ty := .array .byte) (v := .ref q9) rfl f_J5_15 rfl rfl (by simp) dJ5_ensureCapacityInternal_d00df_35 ?_
    rw [List.set_cons_zero, List.set_cons_zero, grow_eq]
    show J (gw 2 (SBSh (capO k)) cy (sbb s q9) (cpyM ν m) ++ E) _ _ 38 [(2, .int (zI (m : Int))), (0, .ref (sbb s q9 0)), (1, .int (zI (k : Int)))] []
    refine j_vret hJ rfl rfl (by dsimp only; omega) (by dsimp only; omega) dJ5_ensureCapacityInternal_d00df_38 ⟨q9, capO k, cpyM ν m, rfl, rfl, ?_⟩
    refine ⟨rfl, by rw [cpyM_0]; exact hc, cpyM_0, fun j => ?_, fun j j0 j1 => ?_⟩
    · unfold cpyM; split
      · omega
      · exact hB j
    · unfold cpyM; rw [if_neg (fun g => g.2 ⟨j0, j1⟩)]
end
