
set_option maxRecDepth 20000 in
theorem g_J0_38 : Cond.fieldLink RJ0 38 "java/lang/String" "COMPACT_STRINGS" "Z" ∈ GT ∨ Cond.fieldLinkNest RJ0 38 "java/lang/String" "COMPACT_STRINGS" "Z" RX4 ∈ GT := Or.inl (List.mem_of_getElem? (i := 434) (by decide +kernel))
set_option maxRecDepth 20000 in
theorem g_J0_15 : Cond.fieldLink RJ0 15 "java/lang/String" "coder" "B" ∈ GT ∨ Cond.fieldLinkNest RJ0 15 "java/lang/String" "coder" "B" RX4 ∈ GT := Or.inl (List.mem_of_getElem? (i := 867) (by decide +kernel))
set_option maxRecDepth 20000 in
theorem g_J0_9 : Cond.fieldLink RJ0 9 "java/lang/String" "value" "[B" ∈ GT ∨ Cond.fieldLinkNest RJ0 9 "java/lang/String" "value" "[B" RX4 ∈ GT := Or.inl (List.mem_of_getElem? (i := 866) (by decide +kernel))
set_option maxRecDepth 20000 in
theorem m_J0_335 : MF RJ0 335 0 yJ0_coder_7d493 0 := ⟨Or.inl (List.mem_of_getElem? (i := 430) (by decide +kernel)), (List.mem_of_getElem? (i := 54) (by decide +kernel)), ⟨by decide +kernel, by decide +kernel⟩, by decide +kernel, fun _ => ⟨(List.mem_of_getElem? (i := 431) (by decide +kernel)), (List.mem_of_getElem? (i := 432) (by decide +kernel))⟩, fun h => by omega, fun h => by omega⟩
set_option maxRecDepth 20000 in
theorem k_J0_coder_7d493 : Cond.code yJ0_coder_7d493 cJ0_coder_7d493 1 (some .byte) ∈ GT := (List.mem_of_getElem? (i := 433) (by decide +kernel))
set_option maxRecDepth 20000 in
theorem g_J0_1053 : Cond.fieldLink RJ0 1053 "jdk/internal/util/Preconditions" "SIOOBE_FORMATTER" "Ljava/util/function/BiFunction;" ∈ GT ∨ Cond.fieldLinkNest RJ0 1053 "jdk/internal/util/Preconditions" "SIOOBE_FORMATTER" "Ljava/util/function/BiFunction;" RX4 ∈ GT := Or.inl (List.mem_of_getElem? (i := 450) (by decide +kernel))
set_option maxRecDepth 20000 in
theorem m_J0_1059 : MF RJ0 1059 1 yJ3_checkIndex_8e157 3 := ⟨Or.inl (List.mem_of_getElem? (i := 452) (by decide +kernel)), (List.mem_of_getElem? (i := 56) (by decide +kernel)), ⟨by decide +kernel, by decide +kernel⟩, by decide +kernel, fun h => by omega, fun _ => (List.mem_of_getElem? (i := 453) (by decide +kernel)), fun h => by omega⟩
set_option maxRecDepth 20000 in
theorem k_J3_checkIndex_8e157 : Cond.code yJ3_checkIndex_8e157 cJ3_checkIndex_8e157 3 (some .int) ∈ GT := (List.mem_of_getElem? (i := 454) (by decide +kernel))
set_option maxRecDepth 20000 in
theorem m_J1_9 : MF RJ1 9 1 yJ0_checkIndex_df160 2 := ⟨Or.inl (List.mem_of_getElem? (i := 447) (by decide +kernel)), (List.mem_of_getElem? (i := 54) (by decide +kernel)), ⟨by decide +kernel, by decide +kernel⟩, by decide +kernel, fun h => by omega, fun _ => (List.mem_of_getElem? (i := 448) (by decide +kernel)), fun h => by omega⟩
set_option maxRecDepth 20000 in
theorem k_J0_checkIndex_df160 : Cond.code yJ0_checkIndex_df160 cJ0_checkIndex_df160 2 none ∈ GT := (List.mem_of_getElem? (i := 449) (by decide +kernel))
set_option maxRecDepth 20000 in
theorem m_J0_492 : MF RJ0 492 0 yJ0_isLatin1_aae02 0 := ⟨Or.inl (List.mem_of_getElem? (i := 440) (by decide +kernel)), (List.mem_of_getElem? (i := 54) (by decide +kernel)), ⟨by decide +kernel, by decide +kernel⟩, by decide +kernel, fun _ => ⟨(List.mem_of_getElem? (i := 441) (by decide +kernel)), (List.mem_of_getElem? (i := 442) (by decide +kernel))⟩, fun h => by omega, fun h => by omega⟩
set_option maxRecDepth 20000 in
theorem k_J0_isLatin1_aae02 : Cond.code yJ0_isLatin1_aae02 cJ0_isLatin1_aae02 1 (some .boolean) ∈ GT := (List.mem_of_getElem? (i := 443) (by decide +kernel))
set_option maxRecDepth 20000 in
theorem m_J0_495 : MF RJ0 495 1 yJ1_charAt_3b067 2 := ⟨Or.inl (List.mem_of_getElem? (i := 444) (by decide +kernel)), (List.mem_of_getElem? (i := 55) (by decide +kernel)), ⟨by decide +kernel, by decide +kernel⟩, by decide +kernel, fun h => by omega, fun _ => (List.mem_of_getElem? (i := 445) (by decide +kernel)), fun h => by omega⟩
set_option maxRecDepth 20000 in
theorem k_J1_charAt_3b067 : Cond.code yJ1_charAt_3b067 cJ1_charAt_3b067 2 (some .char) ∈ GT := (List.mem_of_getElem? (i := 446) (by decide +kernel))
set_option maxRecDepth 20000 in
theorem m_X4_217 : MF RX4 217 0 yJ0_length_8abf5 0 := ⟨Or.inl (List.mem_of_getElem? (i := 426) (by decide +kernel)), (List.mem_of_getElem? (i := 54) (by decide +kernel)), ⟨by decide +kernel, by decide +kernel⟩, by decide +kernel, fun _ => ⟨(List.mem_of_getElem? (i := 427) (by decide +kernel)), (List.mem_of_getElem? (i := 428) (by decide +kernel))⟩, fun h => by omega, fun h => by omega⟩
set_option maxRecDepth 20000 in
theorem k_J0_length_8abf5 : Cond.code yJ0_length_8abf5 cJ0_length_8abf5 1 (some .int) ∈ GT := (List.mem_of_getElem? (i := 429) (by decide +kernel))
theorem mm_X4_200 : Cond.methodLink RX4 200 Lib.Math.min.name ∈ GT := (List.mem_of_getElem? (i := 418) (by decide +kernel))
set_option maxRecDepth 20000 in
theorem m_X4_183 : MF RX4 183 1 yX4_sign 1 := ⟨Or.inl (List.mem_of_getElem? (i := 474) (by decide +kernel)), (List.mem_of_getElem? (i := 40) (by decide +kernel)), ⟨by decide +kernel, by decide +kernel⟩, by decide +kernel, fun h => by omega, fun _ => (List.mem_of_getElem? (i := 371) (by decide +kernel)), fun h => by omega⟩
set_option maxRecDepth 20000 in
theorem m_X4_220 : MF RX4 220 0 yJ0_charAt_5068e 1 := ⟨Or.inl (List.mem_of_getElem? (i := 436) (by decide +kernel)), (List.mem_of_getElem? (i := 54) (by decide +kernel)), ⟨by decide +kernel, by decide +kernel⟩, by decide +kernel, fun _ => ⟨(List.mem_of_getElem? (i := 437) (by decide +kernel)), (List.mem_of_getElem? (i := 438) (by decide +kernel))⟩, fun h => by omega, fun h => by omega⟩
set_option maxRecDepth 20000 in
theorem k_J0_charAt_5068e : Cond.code yJ0_charAt_5068e cJ0_charAt_5068e 2 (some .char) ∈ GT := (List.mem_of_getElem? (i := 439) (by decide +kernel))
section
variable {l : Launch} {D : va_G} {cy : Nat → ClassId} {n0 : Nat} {ad : Nat → Nat} {b : Nat → Nat} {E : va_W} {ws : va_W}
set_option maxHeartbeats 4000000 in
set_option maxRecDepth 100000 in
theorem c_J0_coder_7d493 {i : Nat} (hfl : l.stackTraces = false) (hi : i < 25) : CT l D cy n0 ad yJ0_coder_7d493 (.code yJ0_coder_7d493 cJ0_coder_7d493 1 (some .byte)) ({ frames := 0, cells := 0, slots := 0, locals := 0 }) [.ref (ad (30 + i))] ws (fun vv uu => ∃ q, vv = some (.int (zI q)) ∧ uu = ws ∧ (q = 0)) := by
  refine CT.walk hfl (by decide) (Nat.le_of_ble_eq_true rfl) ?_
  intro A J hJ
  show J ws 0 0 0 [(0, .ref (ad (30 + i)))] []
  refine j_gets (v := .int (zI 1)) hJ (fun _ h => h.2.2.2.2.2.2.1) g_J0_38 dJ0_coder_7d493_0 ?_
  refine j_if_eq hJ (tgt := 13) ⟨by omega, by omega⟩ (by decide) dJ0_coder_7d493_3 ?_ ?_
  · intro h3
    omega
  · intro h3
    refine j_aload_n hJ (j := 0) rfl rfl dJ0_coder_7d493_6 ?_
    refine j_getK (v := .int (zI 0)) hJ (fun _ h => (h.2.2.2.2.2.1.1 _ (by omega)).2.1) g_J0_15 dJ0_coder_7d493_7 ?_
    refine j_goto hJ (tgt := 14) (by decide) dJ0_coder_7d493_10 ?_
    refine j_iret hJ rfl rfl (by decide) (Nat.le_of_ble_eq_true rfl) (Nat.le_of_ble_eq_true rfl) dJ0_coder_7d493_14 ⟨0, rfl, rfl, ?_⟩
    rfl
set_option maxHeartbeats 4000000 in
set_option maxRecDepth 100000 in
theorem c_J0_length_8abf5 {i : Nat} (hfl : l.stackTraces = false) (hi : i < 25) : CT l D cy n0 ad yJ0_length_8abf5 (.code yJ0_length_8abf5 cJ0_length_8abf5 1 (some .int)) ({ frames := 1, cells := 0, slots := 0, locals := 20 }) [.ref (ad (30 + i))] ws (fun vv uu => ∃ q, vv = some (.int (zI q)) ∧ uu = ws ∧ (q = wL i)) := by
  refine CT.walk hfl (by decide) (Nat.le_of_ble_eq_true rfl) ?_
  intro A J hJ
  show J ws 0 0 0 [(0, .ref (ad (30 + i)))] []
  refine j_aload_n hJ (j := 0) rfl rfl dJ0_length_8abf5_0 ?_
  refine j_getK (v := .ref (ad (60 + i))) hJ (fun _ h => (h.2.2.2.2.2.1.1 _ (by omega)).2.2.1) g_J0_9 dJ0_length_8abf5_1 ?_
  refine j_alenK (N := wL i) hJ (fun _ h => (h.2.2.2.2.2.1.1 _ (by omega)).2.2.2) dJ0_length_8abf5_4 ?_
  refine j_aload_n hJ (j := 0) rfl rfl dJ0_length_8abf5_5 ?_
  refine j_callK hJ (by omega) rfl (c_J0_coder_7d493 hfl hi) m_J0_335 k_J0_coder_7d493 ⟨(Nat.le_of_ble_eq_true rfl), (Nat.le_of_ble_eq_true rfl)⟩ ⟨(Nat.le_of_ble_eq_true rfl), (Nat.le_of_ble_eq_true rfl)⟩ (Nat.le_of_ble_eq_true rfl) dJ0_length_8abf5_6 rfl ?_
  intro v1 u2 hv3
  obtain ⟨q4, rfl, hu9, hq9⟩ := hv3
  subst u2
  subst q4
  show J ws 0 0 9 [(0, .ref (ad (30 + i)))] [.int (zI 0), .int (zI (wL i : Int))]
  refine j_ishr hJ (v := (wL i : Int)) (wL_shr hi) dJ0_length_8abf5_9 ?_
  refine j_iret hJ rfl rfl (rfl) (Nat.le_of_ble_eq_true rfl) (Nat.le_of_ble_eq_true rfl) dJ0_length_8abf5_10 ⟨(wL i : Int), rfl, rfl, ?_⟩
  rfl
set_option maxHeartbeats 4000000 in
set_option maxRecDepth 100000 in
theorem c_J0_isLatin1_aae02 {i : Nat} (hfl : l.stackTraces = false) (hi : i < 25) : CT l D cy n0 ad yJ0_isLatin1_aae02 (.code yJ0_isLatin1_aae02 cJ0_isLatin1_aae02 1 (some .boolean)) ({ frames := 0, cells := 0, slots := 0, locals := 0 }) [.ref (ad (30 + i))] ws (fun vv uu => ∃ q, vv = some (.int (zI q)) ∧ uu = ws ∧ (q = 1)) := by
  refine CT.walk hfl (by decide) (Nat.le_of_ble_eq_true rfl) ?_
  intro A J hJ
  show J ws 0 0 0 [(0, .ref (ad (30 + i)))] []
  refine j_gets (v := .int (zI 1)) hJ (fun _ h => h.2.2.2.2.2.2.1) g_J0_38 dJ0_isLatin1_aae02_0 ?_
  refine j_if_eq hJ (tgt := 17) ⟨by omega, by omega⟩ (by decide) dJ0_isLatin1_aae02_3 ?_ ?_
  · intro h3
    omega
  · intro h3
    refine j_aload_n hJ (j := 0) rfl rfl dJ0_isLatin1_aae02_6 ?_
    refine j_getK (v := .int (zI 0)) hJ (fun _ h => (h.2.2.2.2.2.1.1 _ (by omega)).2.1) g_J0_15 dJ0_isLatin1_aae02_7 ?_
    refine j_if_ne hJ (tgt := 17) ⟨by omega, by omega⟩ (by decide) dJ0_isLatin1_aae02_10 ?_ ?_
    · intro h10
      omega
    · intro h10
      refine j_iconst hJ dJ0_isLatin1_aae02_13 ?_
      refine j_goto hJ (tgt := 18) (by decide) dJ0_isLatin1_aae02_14 ?_
      refine j_iret hJ rfl rfl (by decide) (Nat.le_of_ble_eq_true rfl) (Nat.le_of_ble_eq_true rfl) dJ0_isLatin1_aae02_18 ⟨1, rfl, rfl, ?_⟩
      rfl
set_option maxHeartbeats 4000000 in
set_option maxRecDepth 100000 in
theorem c_J3_checkIndex_8e157 {k n : Int} {f : Value} (hfl : l.stackTraces = false) (h0 : 0 ≤ k) (h1 : k < n) (h2 : n < 2147483648) (hf : f = .null ∨ ∃ t, f = .ref t) : CT l D cy n0 ad yJ3_checkIndex_8e157 (.code yJ3_checkIndex_8e157 cJ3_checkIndex_8e157 3 (some .int)) ({ frames := 0, cells := 0, slots := 0, locals := 0 }) [.int (zI k), .int (zI n), f] ws (fun vv uu => ∃ q, vv = some (.int (zI q)) ∧ uu = ws ∧ (q = k)) := by
  rcases hf with rfl | ⟨t9, rfl⟩
  all_goals
    refine CT.walk hfl (by decide) (Nat.le_of_ble_eq_true rfl) ?_
    intro A J hJ
    show J ws 0 0 0 [(0, .int (zI k)), (1, .int (zI n)), (2, _)] []
    refine j_iload_n hJ (j := 0) rfl rfl dJ3_checkIndex_8e157_0 ?_
    refine j_if_lt hJ (tgt := 9) ⟨by omega, by omega⟩ (by decide) dJ3_checkIndex_8e157_1 ?_ ?_
    · intro h1
      omega
    · intro h1
      refine j_iload_n hJ (j := 0) rfl rfl dJ3_checkIndex_8e157_4 ?_
      refine j_iload_n hJ (j := 1) rfl rfl dJ3_checkIndex_8e157_5 ?_
      refine j_icmp_lt hJ (tgt := 16) ⟨by omega, by omega⟩ ⟨by omega, by omega⟩ (by decide) dJ3_checkIndex_8e157_6 ?_ ?_
      · intro h6
        refine j_iload_n hJ (j := 0) rfl rfl dJ3_checkIndex_8e157_16 ?_
        refine j_iret hJ rfl rfl (rfl) (Nat.le_of_ble_eq_true rfl) (Nat.le_of_ble_eq_true rfl) dJ3_checkIndex_8e157_17 ⟨k, rfl, rfl, ?_⟩
        rfl
      · intro h6
        omega
set_option maxHeartbeats 4000000 in
set_option maxRecDepth 100000 in
theorem c_J0_checkIndex_df160 {k n : Int} (hfl : l.stackTraces = false) (h0 : 0 ≤ k) (h1 : k < n) (h2 : n < 2147483648) : CT l D cy n0 ad yJ0_checkIndex_df160 (.code yJ0_checkIndex_df160 cJ0_checkIndex_df160 2 none) ({ frames := 1, cells := 0, slots := 0, locals := 22 }) [.int (zI k), .int (zI n)] ws (fun vv uu => vv = none ∧ uu = ws ∧ True) := by
  refine CT.walk hfl (by decide) (Nat.le_of_ble_eq_true rfl) ?_
  intro A J hJ
  show J ws 0 0 0 [(0, .int (zI k)), (1, .int (zI n))] []
  refine j_iload_n hJ (j := 0) rfl rfl dJ0_checkIndex_df160_0 ?_
  refine j_iload_n hJ (j := 1) rfl rfl dJ0_checkIndex_df160_1 ?_
  refine j_getsq hJ (fun _ h => h.2.2.2.2.2.2.2.2.2.2.2) (g_J0_1053.resolve_right (by decide +kernel)) dJ0_checkIndex_df160_2 ?_
  intro f1 hf1
  refine j_callS0 hJ (c_J3_checkIndex_8e157 hfl h0 h1 h2 hf1) m_J0_1059 k_J3_checkIndex_8e157 ⟨(Nat.le_of_ble_eq_true rfl), (Nat.le_of_ble_eq_true rfl)⟩ ⟨(Nat.le_of_ble_eq_true rfl), (Nat.le_of_ble_eq_true rfl)⟩ (Nat.le_of_ble_eq_true rfl) dJ0_checkIndex_df160_5 rfl ?_
  intro v2 u3 hv4
  obtain ⟨q5, rfl, hu9, hq9⟩ := hv4
  subst u3
  subst q5
  show J ws 0 0 8 [(0, .int (zI k)), (1, .int (zI n))] [.int (zI k)]
  refine j_pop hJ rfl dJ0_checkIndex_df160_8 ?_
  refine j_vret hJ rfl rfl (Nat.le_of_ble_eq_true rfl) (Nat.le_of_ble_eq_true rfl) dJ0_checkIndex_df160_9 ⟨rfl, rfl, ?_⟩
  trivial
set_option maxHeartbeats 4000000 in
set_option maxRecDepth 100000 in
theorem c_J1_charAt_3b067 {i : Nat} {k : Int} (hfl : l.stackTraces = false) (hi : i < 25) (h0 : 0 ≤ k) (h1 : k < wL i) : CT l D cy n0 ad yJ1_charAt_3b067 (.code yJ1_charAt_3b067 cJ1_charAt_3b067 2 (some .char)) ({ frames := 2, cells := 0, slots := 0, locals := 43 }) [.ref (ad (60 + i)), .int (zI k)] ws (fun vv uu => ∃ q, vv = some (.int (zI q)) ∧ uu = ws ∧ (q = wC i k.toNat)) := by
  have hw := wC_tab i hi k.toNat (by omega)
  have hl8 := wL_lt i
  refine CT.walk hfl (by decide) (Nat.le_of_ble_eq_true rfl) ?_
  intro A J hJ
  show J ws 0 0 0 [(0, .ref (ad (60 + i))), (1, .int (zI k))] []
  refine j_iload_n hJ (j := 1) rfl rfl dJ1_charAt_3b067_0 ?_
  refine j_aload_n hJ (j := 0) rfl rfl dJ1_charAt_3b067_1 ?_
  refine j_alenK (N := wL i) hJ (fun _ h => (h.2.2.2.2.2.1.1 _ (by omega)).2.2.2) dJ1_charAt_3b067_2 ?_
  refine j_callS0 hJ (c_J0_checkIndex_df160 hfl h0 h1 (by omega)) m_J1_9 k_J0_checkIndex_df160 ⟨(Nat.le_of_ble_eq_true rfl), (Nat.le_of_ble_eq_true rfl)⟩ ⟨(Nat.le_of_ble_eq_true rfl), (Nat.le_of_ble_eq_true rfl)⟩ (Nat.le_of_ble_eq_true rfl) dJ1_charAt_3b067_3 rfl ?_
  intro v1 u2 hv3
  obtain ⟨rfl, hu9, hr4⟩ := hv3
  subst u2
  show J ws 0 0 6 [(0, .ref (ad (60 + i))), (1, .int (zI k))] []
  refine j_aload_n hJ (j := 0) rfl rfl dJ1_charAt_3b067_6 ?_
  refine j_iload_n hJ (j := 1) rfl rfl dJ1_charAt_3b067_7 ?_
  refine j_baldK (N := wL i) (v := .int ((wByt.getD i []).getD (k).toNat 0)) hJ (fun _ h => (h.2.2.2.2.2.1.1 _ (by omega)).2.2.2) (by omega) (by omega) (by have := wL_lt i; omega) rfl dJ1_charAt_3b067_8 ?_
  refine j_sipush hJ (v := 255) (by decide) dJ1_charAt_3b067_9 ?_
  refine j_rand hJ dJ1_charAt_3b067_12 ?_
  refine j_i2c hJ (v := (wC i k.toNat)) (hw.1) dJ1_charAt_3b067_13 ?_
  refine j_iret hJ rfl rfl (hw.2.1) (Nat.le_of_ble_eq_true rfl) (Nat.le_of_ble_eq_true rfl) dJ1_charAt_3b067_14 ⟨(wC i k.toNat), rfl, rfl, ?_⟩
  rfl
set_option maxHeartbeats 4000000 in
set_option maxRecDepth 100000 in
theorem c_J0_charAt_5068e {i : Nat} {k : Int} (hfl : l.stackTraces = false) (hi : i < 25) (h0 : 0 ≤ k) (h1 : k < wL i) : CT l D cy n0 ad yJ0_charAt_5068e (.code yJ0_charAt_5068e cJ0_charAt_5068e 2 (some .char)) ({ frames := 3, cells := 0, slots := 0, locals := 64 }) [.ref (ad (30 + i)), .int (zI k)] ws (fun vv uu => ∃ q, vv = some (.int (zI q)) ∧ uu = ws ∧ (q = wC i k.toNat)) := by
  have hw := wC_tab i hi k.toNat (by omega)
  refine CT.walk hfl (by decide) (Nat.le_of_ble_eq_true rfl) ?_
  intro A J hJ
  show J ws 0 0 0 [(0, .ref (ad (30 + i))), (1, .int (zI k))] []
  refine j_aload_n hJ (j := 0) rfl rfl dJ0_charAt_5068e_0 ?_
  refine j_callK hJ (by omega) rfl (c_J0_isLatin1_aae02 hfl hi) m_J0_492 k_J0_isLatin1_aae02 ⟨(Nat.le_of_ble_eq_true rfl), (Nat.le_of_ble_eq_true rfl)⟩ ⟨(Nat.le_of_ble_eq_true rfl), (Nat.le_of_ble_eq_true rfl)⟩ (Nat.le_of_ble_eq_true rfl) dJ0_charAt_5068e_1 rfl ?_
  intro v1 u2 hv3
  obtain ⟨q4, rfl, hu9, hq9⟩ := hv3
  subst u2
  subst q4
  show J ws 0 0 4 [(0, .ref (ad (30 + i))), (1, .int (zI k))] [.int (zI 1)]
  refine j_if_eq hJ (tgt := 16) ⟨by omega, by omega⟩ (by decide) dJ0_charAt_5068e_4 ?_ ?_
  · intro h4
    omega
  · intro h4
    refine j_aload_n hJ (j := 0) rfl rfl dJ0_charAt_5068e_7 ?_
    refine j_getK (v := .ref (ad (60 + i))) hJ (fun _ h => (h.2.2.2.2.2.1.1 _ (by omega)).2.2.1) g_J0_9 dJ0_charAt_5068e_8 ?_
    refine j_iload_n hJ (j := 1) rfl rfl dJ0_charAt_5068e_11 ?_
    refine j_callS0 hJ (c_J1_charAt_3b067 hfl hi h0 h1) m_J0_495 k_J1_charAt_3b067 ⟨(Nat.le_of_ble_eq_true rfl), (Nat.le_of_ble_eq_true rfl)⟩ ⟨(Nat.le_of_ble_eq_true rfl), (Nat.le_of_ble_eq_true rfl)⟩ (Nat.le_of_ble_eq_true rfl) dJ0_charAt_5068e_12 rfl ?_
    intro v5 u6 hv7
    obtain ⟨q8, rfl, hu9, hq9⟩ := hv7
    subst u6
    subst q8
    show J ws 0 0 15 [(0, .ref (ad (30 + i))), (1, .int (zI k))] [.int (zI (wC i k.toNat))]
    refine j_iret hJ rfl rfl (hw.2.1) (Nat.le_of_ble_eq_true rfl) (Nat.le_of_ble_eq_true rfl) dJ0_charAt_5068e_15 ⟨(wC i k.toNat), rfl, rfl, ?_⟩
    rfl
set_option maxHeartbeats 4000000 in
set_option maxRecDepth 100000 in
theorem c_X4_lettersOrder {i j : Nat} (hfl : l.stackTraces = false) (hi : i < 24) (hj : j < 24) : CT l D cy n0 ad yX4_lettersOrder (.code yX4_lettersOrder cX4_lettersOrder 4 (some .int)) ({ frames := 4, cells := 0, slots := 0, locals := 85 }) [.ref (ad (30 + i)), .ref (ad (30 + j))] ws (fun vv uu => ∃ q, vv = some (.int (zI q)) ∧ uu = ws ∧ (q = sg (wRk i - wRk j))) := by
  have hl8 := wL_lt i
  have hl9 := wL_lt j
  have hO := w_ord hi hj
  have hR : ∀ i k : Nat, i < 25 → k < wL i → 0 ≤ wC i k ∧ wC i k < 128 := fun i k h1 h2 => ⟨(wC_tab i h1 k h2).2.2.1, (wC_tab i h1 k h2).2.2.2⟩
  refine CT.walk hfl (by decide) (Nat.le_of_ble_eq_true rfl) ?_
  intro A J hJ
  show J ws 0 0 0 [(0, .ref (ad (30 + i))), (1, .ref (ad (30 + j)))] []
  refine j_aload_n hJ (j := 0) rfl rfl dX4_lettersOrder_0 ?_
  refine j_callK hJ (by omega) rfl (c_J0_length_8abf5 hfl (by omega)) m_X4_217 k_J0_length_8abf5 ⟨(Nat.le_of_ble_eq_true rfl), (Nat.le_of_ble_eq_true rfl)⟩ ⟨(Nat.le_of_ble_eq_true rfl), (Nat.le_of_ble_eq_true rfl)⟩ (Nat.le_of_ble_eq_true rfl) dX4_lettersOrder_1 rfl ?_
  intro v1 u2 hv3
  obtain ⟨q4, rfl, hu9, hq9⟩ := hv3
  subst u2
  subst q4
  show J ws 0 0 4 [(0, .ref (ad (30 + i))), (1, .ref (ad (30 + j)))] [.int (zI (wL i : Int))]
  refine j_aload_n hJ (j := 1) rfl rfl dX4_lettersOrder_4 ?_
  refine j_callK hJ (by omega) rfl (c_J0_length_8abf5 hfl (by omega)) m_X4_217 k_J0_length_8abf5 ⟨(Nat.le_of_ble_eq_true rfl), (Nat.le_of_ble_eq_true rfl)⟩ ⟨(Nat.le_of_ble_eq_true rfl), (Nat.le_of_ble_eq_true rfl)⟩ (Nat.le_of_ble_eq_true rfl) dX4_lettersOrder_5 rfl ?_
  intro v5 u6 hv7
  obtain ⟨q8, rfl, hu9, hq9⟩ := hv7
  subst u6
  subst q8
  show J ws 0 0 8 [(0, .ref (ad (30 + i))), (1, .ref (ad (30 + j)))] [.int (zI (wL j : Int)), .int (zI (wL i : Int))]
  refine j_mmin hJ mm_X4_200 ⟨by omega, by omega⟩ ⟨by omega, by omega⟩ (Nat.le_of_ble_eq_true rfl) (Nat.le_of_ble_eq_true rfl) (Nat.le_of_ble_eq_true rfl) (Nat.le_of_ble_eq_true rfl) dX4_lettersOrder_8 ?_
  refine j_topi (y := zI (min (wL i) (wL j) : Nat)) (by unfold imin; congr 1; split <;> omega) ?_
  refine j_istore_n hJ (lv' := [(2, .int (zI (min (wL i) (wL j) : Nat))), (0, .ref (ad (30 + i))), (1, .ref (ad (30 + j)))]) rfl (by decide) rfl dX4_lettersOrder_11 ?_
  refine j_iconst hJ dX4_lettersOrder_12 ?_
  refine j_istore_n hJ (lv' := [(3, .int (zI 0)), (2, .int (zI (min (wL i) (wL j) : Nat))), (0, .ref (ad (30 + i))), (1, .ref (ad (30 + j)))]) rfl (by decide) rfl dX4_lettersOrder_13 ?_
  have lp14 : ∀ (nn14 : Nat) (k : Nat) (hmeas14 : min (wL i) (wL j) - k < nn14) (hk : k ≤ min (wL i) (wL j)) (he : ∀ t, t < k → wC i t = wC j t), J ws 0 0 14 [(0, .ref (ad (30 + i))), (1, .ref (ad (30 + j))), (2, .int (zI (min (wL i) (wL j) : Nat))), (3, .int (zI (k : Int)))] [] := by
    intro nn14
    induction nn14 with
    | zero => intro k hmeas14 hk he; omega
    | succ nn14 ih14 =>
      intro k hmeas14 hk he
      refine j_iload_n hJ (j := 3) rfl rfl dX4_lettersOrder_14 ?_
      refine j_iload_n hJ (j := 2) rfl rfl dX4_lettersOrder_15 ?_
      refine j_icmp_ge hJ (tgt := 57) ⟨by omega, by omega⟩ ⟨by omega, by omega⟩ (by decide) dX4_lettersOrder_16 ?_ ?_
      · intro h16
        refine j_aload_n hJ (j := 0) rfl rfl dX4_lettersOrder_57 ?_
        refine j_callK hJ (by omega) rfl (c_J0_length_8abf5 hfl (by omega)) m_X4_217 k_J0_length_8abf5 ⟨(Nat.le_of_ble_eq_true rfl), (Nat.le_of_ble_eq_true rfl)⟩ ⟨(Nat.le_of_ble_eq_true rfl), (Nat.le_of_ble_eq_true rfl)⟩ (Nat.le_of_ble_eq_true rfl) dX4_lettersOrder_58 rfl ?_
        intro v9 u10 hv11
        obtain ⟨q12, rfl, hu9, hq9⟩ := hv11
        subst u10
        subst q12
        show J ws 0 0 61 [(0, .ref (ad (30 + i))), (1, .ref (ad (30 + j))), (2, .int (zI (min (wL i) (wL j) : Nat))), (3, .int (zI (k : Int)))] [.int (zI (wL i : Int))]
        refine j_aload_n hJ (j := 1) rfl rfl dX4_lettersOrder_61 ?_
        refine j_callK hJ (by omega) rfl (c_J0_length_8abf5 hfl (by omega)) m_X4_217 k_J0_length_8abf5 ⟨(Nat.le_of_ble_eq_true rfl), (Nat.le_of_ble_eq_true rfl)⟩ ⟨(Nat.le_of_ble_eq_true rfl), (Nat.le_of_ble_eq_true rfl)⟩ (Nat.le_of_ble_eq_true rfl) dX4_lettersOrder_62 rfl ?_
        intro v13 u14 hv15
        obtain ⟨q16, rfl, hu9, hq9⟩ := hv15
        subst u14
        subst q16
        show J ws 0 0 65 [(0, .ref (ad (30 + i))), (1, .ref (ad (30 + j))), (2, .int (zI (min (wL i) (wL j) : Nat))), (3, .int (zI (k : Int)))] [.int (zI (wL j : Int)), .int (zI (wL i : Int))]
        refine j_isub hJ dX4_lettersOrder_65 ?_
        refine j_callS0 hJ (c_X4_sign hfl ⟨by omega, by omega⟩) m_X4_183 k_X4_sign ⟨(Nat.le_of_ble_eq_true rfl), (Nat.le_of_ble_eq_true rfl)⟩ ⟨(Nat.le_of_ble_eq_true rfl), (Nat.le_of_ble_eq_true rfl)⟩ (Nat.le_of_ble_eq_true rfl) dX4_lettersOrder_66 rfl ?_
        intro v17 u18 hv19
        obtain ⟨q20, rfl, hu9, hq9⟩ := hv19
        subst u18
        subst q20
        show J ws 0 0 69 [(0, .ref (ad (30 + i))), (1, .ref (ad (30 + j))), (2, .int (zI (min (wL i) (wL j) : Nat))), (3, .int (zI (k : Int)))] [.int (zI (sg ((wL i : Int) - wL j)))]
        refine j_iret hJ rfl rfl (rfl) (Nat.le_of_ble_eq_true rfl) (Nat.le_of_ble_eq_true rfl) dX4_lettersOrder_69 ⟨(sg ((wL i : Int) - wL j)), rfl, rfl, ?_⟩
        exact (hO.2 (fun t h1 h2 => he t (by omega))).symm
      · intro h16
        have hki : k < wL i := by omega
        have hkj : k < wL j := by omega
        have r1 := hR i k (by omega) hki
        have r2 := hR j k (by omega) hkj
        refine j_aload_n hJ (j := 0) rfl rfl dX4_lettersOrder_19 ?_
        refine j_iload_n hJ (j := 3) rfl rfl dX4_lettersOrder_20 ?_
        refine j_callK hJ (by omega) rfl (c_J0_charAt_5068e hfl (i := i) (by omega) (by omega) (by omega)) m_X4_220 k_J0_charAt_5068e ⟨(Nat.le_of_ble_eq_true rfl), (Nat.le_of_ble_eq_true rfl)⟩ ⟨(Nat.le_of_ble_eq_true rfl), (Nat.le_of_ble_eq_true rfl)⟩ (Nat.le_of_ble_eq_true rfl) dX4_lettersOrder_21 rfl ?_
        intro v21 u22 hv23
        obtain ⟨q24, rfl, hu9, hq9⟩ := hv23
        subst u22
        subst q24
        show J ws 0 0 24 [(0, .ref (ad (30 + i))), (1, .ref (ad (30 + j))), (2, .int (zI (min (wL i) (wL j) : Nat))), (3, .int (zI (k : Int)))] [.int (zI (wC i k))]
        refine j_aload_n hJ (j := 1) rfl rfl dX4_lettersOrder_24 ?_
        refine j_iload_n hJ (j := 3) rfl rfl dX4_lettersOrder_25 ?_
        refine j_callK hJ (by omega) rfl (c_J0_charAt_5068e hfl (i := j) (by omega) (by omega) (by omega)) m_X4_220 k_J0_charAt_5068e ⟨(Nat.le_of_ble_eq_true rfl), (Nat.le_of_ble_eq_true rfl)⟩ ⟨(Nat.le_of_ble_eq_true rfl), (Nat.le_of_ble_eq_true rfl)⟩ (Nat.le_of_ble_eq_true rfl) dX4_lettersOrder_26 rfl ?_
        intro v25 u26 hv27
        obtain ⟨q28, rfl, hu9, hq9⟩ := hv27
        subst u26
        subst q28
        show J ws 0 0 29 [(0, .ref (ad (30 + i))), (1, .ref (ad (30 + j))), (2, .int (zI (min (wL i) (wL j) : Nat))), (3, .int (zI (k : Int)))] [.int (zI (wC j k)), .int (zI (wC i k))]
        refine j_icmp_eq hJ (tgt := 51) ⟨by omega, by omega⟩ ⟨by omega, by omega⟩ (by decide) dX4_lettersOrder_29 ?_ ?_
        · intro h29
          refine j_iinc hJ (lv' := [(3, .int (zI ((k : Int) + 1))), (0, .ref (ad (30 + i))), (1, .ref (ad (30 + j))), (2, .int (zI (min (wL i) (wL j) : Nat)))]) (j := 3) rfl (by omega) (by decide) rfl dX4_lettersOrder_51 ?_
          refine j_goto hJ (tgt := 14) (by decide) dX4_lettersOrder_54 ?_
          refine j_locs hJ [1, 2, 3, 0] rfl ?_
          refine ih14 (k + 1) (by omega) (by omega) ?_
          · intro t ht
            by_cases e : t = k
            · subst e; omega
            · exact he t (by omega)
        · intro h29
          refine j_aload_n hJ (j := 0) rfl rfl dX4_lettersOrder_32 ?_
          refine j_iload_n hJ (j := 3) rfl rfl dX4_lettersOrder_33 ?_
          refine j_callK hJ (by omega) rfl (c_J0_charAt_5068e hfl (i := i) (by omega) (by omega) (by omega)) m_X4_220 k_J0_charAt_5068e ⟨(Nat.le_of_ble_eq_true rfl), (Nat.le_of_ble_eq_true rfl)⟩ ⟨(Nat.le_of_ble_eq_true rfl), (Nat.le_of_ble_eq_true rfl)⟩ (Nat.le_of_ble_eq_true rfl) dX4_lettersOrder_34 rfl ?_
          intro v29 u30 hv31
          obtain ⟨q32, rfl, hu9, hq9⟩ := hv31
          subst u30
          subst q32
          show J ws 0 0 37 [(0, .ref (ad (30 + i))), (1, .ref (ad (30 + j))), (2, .int (zI (min (wL i) (wL j) : Nat))), (3, .int (zI (k : Int)))] [.int (zI (wC i k))]
          refine j_aload_n hJ (j := 1) rfl rfl dX4_lettersOrder_37 ?_
          refine j_iload_n hJ (j := 3) rfl rfl dX4_lettersOrder_38 ?_
          refine j_callK hJ (by omega) rfl (c_J0_charAt_5068e hfl (i := j) (by omega) (by omega) (by omega)) m_X4_220 k_J0_charAt_5068e ⟨(Nat.le_of_ble_eq_true rfl), (Nat.le_of_ble_eq_true rfl)⟩ ⟨(Nat.le_of_ble_eq_true rfl), (Nat.le_of_ble_eq_true rfl)⟩ (Nat.le_of_ble_eq_true rfl) dX4_lettersOrder_39 rfl ?_
          intro v33 u34 hv35
          obtain ⟨q36, rfl, hu9, hq9⟩ := hv35
          subst u34
          subst q36
          show J ws 0 0 42 [(0, .ref (ad (30 + i))), (1, .ref (ad (30 + j))), (2, .int (zI (min (wL i) (wL j) : Nat))), (3, .int (zI (k : Int)))] [.int (zI (wC j k)), .int (zI (wC i k))]
          refine j_icmp_ge hJ (tgt := 49) ⟨by omega, by omega⟩ ⟨by omega, by omega⟩ (by decide) dX4_lettersOrder_42 ?_ ?_
          · intro h42
            refine j_iconst hJ dX4_lettersOrder_49 ?_
            refine j_iret hJ rfl rfl (rfl) (Nat.le_of_ble_eq_true rfl) (Nat.le_of_ble_eq_true rfl) dX4_lettersOrder_50 ⟨1, rfl, rfl, ?_⟩
            exact ((hO.1 k hki hkj he).2 (by omega)).symm
          · intro h42
            refine j_iconst hJ dX4_lettersOrder_45 ?_
            refine j_goto hJ (tgt := 50) (by decide) dX4_lettersOrder_46 ?_
            refine j_iret hJ rfl rfl (rfl) (Nat.le_of_ble_eq_true rfl) (Nat.le_of_ble_eq_true rfl) dX4_lettersOrder_50 ⟨(-1), rfl, rfl, ?_⟩
            exact ((hO.1 k hki hkj he).1 (by omega)).symm
  refine j_locs hJ [2, 3, 1, 0] rfl ?_
  exact lp14 (min (wL i) (wL j) - 0 + 1) 0 (by omega) (by omega) (by intro t ht; omega)
end
