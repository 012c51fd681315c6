
set_option maxRecDepth 20000 in
theorem mu_J5_100 : MU RJ5 100 yJ5_ensureCapacityInternal_d00df 1 := ⟨(List.mem_of_getElem? (i := 614) (by decide +kernel)), (List.mem_of_getElem? (i := 58) (by decide +kernel)), ⟨by decide +kernel, by decide +kernel⟩, by decide +kernel, (List.mem_of_getElem? (i := 855) (by decide +kernel)), (List.mem_of_getElem? (i := 616) (by decide +kernel)), (List.mem_of_getElem? (i := 0) (by decide +kernel))⟩
set_option maxRecDepth 20000 in
theorem k_J5_ensureCapacityInternal_d00df : Cond.code yJ5_ensureCapacityInternal_d00df cJ5_ensureCapacityInternal_d00df 3 none ∈ GT := (List.mem_of_getElem? (i := 617) (by decide +kernel))
set_option maxRecDepth 20000 in
theorem mu_J5_83 : MU RJ5 83 yJ5_isLatin1_aae02 0 := ⟨(List.mem_of_getElem? (i := 645) (by decide +kernel)), (List.mem_of_getElem? (i := 58) (by decide +kernel)), ⟨by decide +kernel, by decide +kernel⟩, by decide +kernel, (List.mem_of_getElem? (i := 647) (by decide +kernel)), (List.mem_of_getElem? (i := 646) (by decide +kernel)), (List.mem_of_getElem? (i := 648) (by decide +kernel))⟩
set_option maxRecDepth 20000 in
theorem k_J5_isLatin1_aae02 : Cond.code yJ5_isLatin1_aae02 cJ5_isLatin1_aae02 1 (some .boolean) ∈ GT := (List.mem_of_getElem? (i := 649) (by decide +kernel))
set_option maxRecDepth 20000 in
theorem m_J5_191 : MF RJ5 191 1 yJ1_canEncode_fc78d 1 := ⟨Or.inl (List.mem_of_getElem? (i := 650) (by decide +kernel)), (List.mem_of_getElem? (i := 55) (by decide +kernel)), ⟨by decide +kernel, by decide +kernel⟩, by decide +kernel, fun h => by omega, fun _ => (List.mem_of_getElem? (i := 651) (by decide +kernel)), fun h => by omega⟩
set_option maxRecDepth 20000 in
theorem k_J1_canEncode_fc78d : Cond.code yJ1_canEncode_fc78d cJ1_canEncode_fc78d 1 (some .boolean) ∈ GT := (List.mem_of_getElem? (i := 652) (by decide +kernel))
set_option maxRecDepth 20000 in
theorem mp_J4_50 : MP RJ4 50 yJ5_append_3fe6f 1 := ⟨(List.mem_of_getElem? (i := 611) (by decide +kernel)), (List.mem_of_getElem? (i := 58) (by decide +kernel)), by decide +kernel, by decide +kernel, (List.mem_of_getElem? (i := 854) (by decide +kernel)), (List.mem_of_getElem? (i := 612) (by decide +kernel)), (List.mem_of_getElem? (i := 593) (by decide +kernel))⟩
set_option maxRecDepth 20000 in
theorem k_J5_append_3fe6f : Cond.code yJ5_append_3fe6f cJ5_append_3fe6f 2 (some (.object "java/lang/AbstractStringBuilder")) ∈ GT := (List.mem_of_getElem? (i := 613) (by decide +kernel))
set_option maxRecDepth 20000 in
theorem m_J5_40 : MF RJ5 40 0 yJ0_coder_7d493 0 := ⟨Or.inl (List.mem_of_getElem? (i := 710) (by decide +kernel)), (List.mem_of_getElem? (i := 54) (by decide +kernel)), ⟨by decide +kernel, by decide +kernel⟩, by decide +kernel, fun _ => ⟨(List.mem_of_getElem? (i := 431) (by decide +kernel)), (List.mem_of_getElem? (i := 432) (by decide +kernel))⟩, fun h => by omega, fun h => by omega⟩
set_option maxRecDepth 20000 in
theorem mu_J5_397 : MU RJ5 397 yJ5_inflateIfNeededFor_a7421 1 := ⟨(List.mem_of_getElem? (i := 706) (by decide +kernel)), (List.mem_of_getElem? (i := 58) (by decide +kernel)), ⟨by decide +kernel, by decide +kernel⟩, by decide +kernel, (List.mem_of_getElem? (i := 861) (by decide +kernel)), (List.mem_of_getElem? (i := 708) (by decide +kernel)), (List.mem_of_getElem? (i := 5) (by decide +kernel))⟩
set_option maxRecDepth 20000 in
theorem k_J5_inflateIfNeededFor_a7421 : Cond.code yJ5_inflateIfNeededFor_a7421 cJ5_inflateIfNeededFor_a7421 2 none ∈ GT := (List.mem_of_getElem? (i := 709) (by decide +kernel))
set_option maxRecDepth 20000 in
theorem m_J5_399 : MF RJ5 399 0 yJ0_getBytes_840e7 3 := ⟨Or.inl (List.mem_of_getElem? (i := 711) (by decide +kernel)), (List.mem_of_getElem? (i := 54) (by decide +kernel)), ⟨by decide +kernel, by decide +kernel⟩, by decide +kernel, fun _ => ⟨(List.mem_of_getElem? (i := 712) (by decide +kernel)), (List.mem_of_getElem? (i := 713) (by decide +kernel))⟩, fun h => by omega, fun h => by omega⟩
set_option maxRecDepth 20000 in
theorem k_J0_getBytes_840e7 : Cond.code yJ0_getBytes_840e7 cJ0_getBytes_840e7 4 none ∈ GT := (List.mem_of_getElem? (i := 714) (by decide +kernel))
set_option maxRecDepth 20000 in
theorem m_J5_32 : MF RJ5 32 0 yJ0_length_8abf5 0 := ⟨Or.inl (List.mem_of_getElem? (i := 701) (by decide +kernel)), (List.mem_of_getElem? (i := 54) (by decide +kernel)), ⟨by decide +kernel, by decide +kernel⟩, by decide +kernel, fun _ => ⟨(List.mem_of_getElem? (i := 427) (by decide +kernel)), (List.mem_of_getElem? (i := 428) (by decide +kernel))⟩, fun h => by omega, fun h => by omega⟩
set_option maxRecDepth 20000 in
theorem mu_J5_208 : MU RJ5 208 yJ5_putStringAt_47b60 2 := ⟨(List.mem_of_getElem? (i := 702) (by decide +kernel)), (List.mem_of_getElem? (i := 58) (by decide +kernel)), ⟨by decide +kernel, by decide +kernel⟩, by decide +kernel, (List.mem_of_getElem? (i := 860) (by decide +kernel)), (List.mem_of_getElem? (i := 704) (by decide +kernel)), (List.mem_of_getElem? (i := 4) (by decide +kernel))⟩
set_option maxRecDepth 20000 in
theorem k_J5_putStringAt_47b60 : Cond.code yJ5_putStringAt_47b60 cJ5_putStringAt_47b60 3 none ∈ GT := (List.mem_of_getElem? (i := 705) (by decide +kernel))
set_option maxRecDepth 20000 in
theorem mp_J4_29 : MP RJ4 29 yJ5_append_cf1ce 1 := ⟨(List.mem_of_getElem? (i := 682) (by decide +kernel)), (List.mem_of_getElem? (i := 58) (by decide +kernel)), by decide +kernel, by decide +kernel, (List.mem_of_getElem? (i := 858) (by decide +kernel)), (List.mem_of_getElem? (i := 683) (by decide +kernel)), (List.mem_of_getElem? (i := 593) (by decide +kernel))⟩
set_option maxRecDepth 20000 in
theorem k_J5_append_cf1ce : Cond.code yJ5_append_cf1ce cJ5_append_cf1ce 3 (some (.object "java/lang/AbstractStringBuilder")) ∈ GT := (List.mem_of_getElem? (i := 684) (by decide +kernel))
set_option maxRecDepth 20000 in
theorem m_J5_245 : MF RJ5 245 1 yJ6_stringSize_0f7a4 1 := ⟨Or.inl (List.mem_of_getElem? (i := 743) (by decide +kernel)), (List.mem_of_getElem? (i := 63) (by decide +kernel)), ⟨by decide +kernel, by decide +kernel⟩, by decide +kernel, fun h => by omega, fun _ => (List.mem_of_getElem? (i := 744) (by decide +kernel)), fun h => by omega⟩
set_option maxRecDepth 20000 in
theorem k_J6_stringSize_0f7a4 : Cond.code yJ6_stringSize_0f7a4 cJ6_stringSize_0f7a4 4 (some .int) ∈ GT := (List.mem_of_getElem? (i := 745) (by decide +kernel))
set_option maxRecDepth 20000 in
theorem m_J5_248 : MF RJ5 248 1 yJ6_getChars_ba4f3 3 := ⟨Or.inl (List.mem_of_getElem? (i := 746) (by decide +kernel)), (List.mem_of_getElem? (i := 63) (by decide +kernel)), ⟨by decide +kernel, by decide +kernel⟩, by decide +kernel, fun h => by omega, fun _ => (List.mem_of_getElem? (i := 747) (by decide +kernel)), fun h => by omega⟩
set_option maxRecDepth 20000 in
theorem k_J6_getChars_ba4f3 : Cond.code yJ6_getChars_ba4f3 cJ6_getChars_ba4f3 7 (some .int) ∈ GT := (List.mem_of_getElem? (i := 748) (by decide +kernel))
set_option maxRecDepth 20000 in
theorem mp_J4_53 : MP RJ4 53 yJ5_append_c97b9 1 := ⟨(List.mem_of_getElem? (i := 740) (by decide +kernel)), (List.mem_of_getElem? (i := 58) (by decide +kernel)), by decide +kernel, by decide +kernel, (List.mem_of_getElem? (i := 862) (by decide +kernel)), (List.mem_of_getElem? (i := 741) (by decide +kernel)), (List.mem_of_getElem? (i := 593) (by decide +kernel))⟩
set_option maxRecDepth 20000 in
theorem k_J5_append_c97b9 : Cond.code yJ5_append_c97b9 cJ5_append_c97b9 4 (some (.object "java/lang/AbstractStringBuilder")) ∈ GT := (List.mem_of_getElem? (i := 742) (by decide +kernel))
section
variable {l : Launch} {D : va_G} {cy : Nat → ClassId} {n0 : Nat} {ad : Nat → Nat} {b : Nat → Nat} {E : va_W} {ws : va_W}
set_option maxHeartbeats 4000000 in
set_option maxRecDepth 100000 in
theorem c_J5_append_3fe6f {s t m : Nat} {ν : Nat → Int → Int} {c : Int} {L : List Int} (hfl : l.stackTraces = false) (hI : SBI m ν L) (hL : L.length + 1 ≤ 1150) (hk : 0 ≤ c ∧ c < 128) : CT l D cy n0 ad yJ5_append_3fe6f (.code yJ5_append_3fe6f cJ5_append_3fe6f 2 (some (.object "java/lang/AbstractStringBuilder"))) ({ frames := 4, cells := cpC (L.length + 1) - cpC L.length, slots := cpS (L.length + 1) - cpS L.length, locals := 91 }) [.ref (sbb s t 0), .int (zI c)] (gw 2 (SBSh m) cy (sbb s t) ν ++ E) (fun vv uu => ∃ t' m' ν', vv = some (.ref (sbb s t' 0)) ∧ uu = (gw 2 (SBSh m') cy (sbb s t') ν' ++ E) ∧ (SBI m' ν' (L ++ [c]))) := by
  obtain ⟨i1, i2, i3, i4, i5, i6⟩ := id hI
  have r0 := cap_rng L.length
  have r1 := cap_rng (L.length + 1)
  have r2 := cap_mono (n := L.length) (k := L.length + 1) (by omega)
  refine CT.walk hfl (by decide) (Nat.le_of_ble_eq_true rfl) ?_
  intro A J hJ
  show J (gw 2 (SBSh m) cy (sbb s t) ν ++ E) 0 0 0 [(0, .ref (sbb s t 0)), (1, .int (zI c))] []
  refine j_aload_n hJ (j := 0) rfl rfl dJ5_append_3fe6f_0 ?_
  refine j_aload_n hJ (j := 0) rfl rfl dJ5_append_3fe6f_1 ?_
  refine w_geti hJ (fi := 3) rfl (by omega) rfl rfl f_J5_79 dJ5_append_3fe6f_2 ?_
  refine j_topi (y := zI (L.length : Int)) (by rw [i2]) ?_
  refine j_iconst hJ dJ5_append_3fe6f_5 ?_
  refine j_iadd hJ dJ5_append_3fe6f_6 ?_
  refine j_topi (y := zI ((L.length + 1 : Nat) : Int)) (by congr 1) ?_
  refine j_callU0 hJ (c_J5_ensureCapacityInternal_d00df hfl (n := L.length) (k := L.length + 1) i1 i3 ⟨by omega, by omega, by omega⟩ i5) mu_J5_100 k_J5_ensureCapacityInternal_d00df (q0 := 0) (by rw [gw_get (by decide)]; rfl) ⟨(Nat.le_of_ble_eq_true rfl), (Nat.le_of_ble_eq_true rfl)⟩ ⟨by dsimp only; omega, by dsimp only; omega⟩ (Nat.le_of_ble_eq_true rfl) dJ5_append_3fe6f_7 rfl ?_
  intro v1 u2 hv3
  obtain ⟨t4, m4, ν4, rfl, rfl, h7⟩ := hv3
  show J (gw 2 (SBSh m4) cy (sbb s t4) ν4 ++ E) _ _ 10 [(0, .ref (sbb s t4 0)), (1, .int (zI c))] []
  obtain ⟨e1, e2, e3, e4, e5⟩ := h7
  refine j_aload_n hJ (j := 0) rfl rfl dJ5_append_3fe6f_10 ?_
  refine j_callU0 hJ (c_J5_isLatin1_aae02 hfl e2) mu_J5_83 k_J5_isLatin1_aae02 (q0 := 0) (by rw [gw_get (by decide)]; rfl) ⟨(Nat.le_of_ble_eq_true rfl), (Nat.le_of_ble_eq_true rfl)⟩ ⟨by dsimp only; omega, by dsimp only; omega⟩ (Nat.le_of_ble_eq_true rfl) dJ5_append_3fe6f_11 rfl ?_
  intro v5 u6 hv7
  obtain ⟨_, rfl, rfl, rfl⟩ := hv7
  show J (gw 2 (SBSh m4) cy (sbb s t4) ν4 ++ E) _ _ 14 [(0, .ref (sbb s t4 0)), (1, .int (zI c))] [.int (zI 1)]
  refine j_if_eq hJ (tgt := 45) ⟨by omega, by omega⟩ (by decide) dJ5_append_3fe6f_14 ?_ ?_
  · intro h14
    omega
  · intro h14
    refine j_iload_n hJ (j := 1) rfl rfl dJ5_append_3fe6f_17 ?_
    refine j_callS0 hJ (c_J1_canEncode_fc78d hfl hk) m_J5_191 k_J1_canEncode_fc78d ⟨(Nat.le_of_ble_eq_true rfl), (Nat.le_of_ble_eq_true rfl)⟩ ⟨by dsimp only; omega, by dsimp only; omega⟩ (Nat.le_of_ble_eq_true rfl) dJ5_append_3fe6f_18 rfl ?_
    intro v8 u9 hv10
    obtain ⟨_, rfl, rfl, rfl⟩ := hv10
    show J (gw 2 (SBSh m4) cy (sbb s t4) ν4 ++ E) _ _ 21 [(0, .ref (sbb s t4 0)), (1, .int (zI c))] [.int (zI 1)]
    refine j_if_eq hJ (tgt := 45) ⟨by omega, by omega⟩ (by decide) dJ5_append_3fe6f_21 ?_ ?_
    · intro h21
      omega
    · intro h21
      refine j_aload_n hJ (j := 0) rfl rfl dJ5_append_3fe6f_24 ?_
      refine w_getr hJ (by omega) rfl rfl f_J5_15 dJ5_append_3fe6f_25 ?_
      refine j_aload_n hJ (j := 0) rfl rfl dJ5_append_3fe6f_28 ?_
      refine j_dup hJ rfl dJ5_append_3fe6f_29 ?_
      refine w_geti hJ (fi := 3) rfl (by omega) rfl rfl f_J5_79 dJ5_append_3fe6f_30 ?_
      refine j_topi (y := zI (L.length : Int)) (by rw [e3, i2]) ?_
      refine j_dup_x1 hJ rfl rfl dJ5_append_3fe6f_33 ?_
      refine j_iconst hJ dJ5_append_3fe6f_34 ?_
      refine j_iadd hJ dJ5_append_3fe6f_35 ?_
      refine w_puti hJ (fi := 3) rfl (by omega) rfl rfl f_J5_79 rfl rfl dJ5_append_3fe6f_36 ?_
      intro ν1 hν1
      refine j_iload_n hJ (j := 1) rfl rfl dJ5_append_3fe6f_39 ?_
      refine j_i2b hJ (by omega) (by omega) dJ5_append_3fe6f_40 ?_
      refine w_bast hJ (by omega) rfl (by first | decide | omega) (by omega) (by omega) ⟨by omega, by omega⟩ dJ5_append_3fe6f_41 ?_
      intro ν2 hν2
      refine j_goto hJ (tgt := 75) (by decide) dJ5_append_3fe6f_42 ?_
      refine j_aload_n hJ (j := 0) rfl rfl dJ5_append_3fe6f_75 ?_
      refine j_aret hJ rfl rfl (by dsimp only; omega) (by dsimp only; omega) dJ5_append_3fe6f_76 ⟨t4, m4, ν2, rfl, rfl, ?_⟩
      refine hI.app (K := [c]) hL e1 e5 ?_ ?_ ?_ ?_ ?_
      · rw [hν2, up_row (by omega), hν1, up_at (by omega)]; exact e2
      · rw [hν2, up_row (by omega), hν1, up_self]; rfl
      · intro j j0 j1; rw [hν2, up_at (by omega), hν1, up_row (by omega)]
      · intro k x hx
        match k, hx with
        | 0, hx => rw [hν2, show (L.length : Int) + ((0 : Nat) : Int) = L.length by omega, up_self]; exact (Option.some.inj hx)
      · intro j
        rw [hν2]; unfold up
        split
        · exact hk
        · rw [hν1]; unfold up; rw [if_neg (by omega)]; exact e4 j
set_option maxHeartbeats 4000000 in
set_option maxRecDepth 100000 in
theorem c_J4_append_cf468 {s t m : Nat} {ν : Nat → Int → Int} {c : Int} {L : List Int} (hfl : l.stackTraces = false) (hI : SBI m ν L) (hL : L.length + 1 ≤ 1150) (hk : 0 ≤ c ∧ c < 128) : CT l D cy n0 ad yJ4_append_cf468 (.code yJ4_append_cf468 cJ4_append_cf468 2 (some (.object "java/lang/StringBuilder"))) ({ frames := 5, cells := cpC (L.length + 1) - cpC L.length, slots := cpS (L.length + 1) - cpS L.length, locals := 112 }) [.ref (sbb s t 0), .int (zI c)] (gw 2 (SBSh m) cy (sbb s t) ν ++ E) (fun vv uu => ∃ t' m' ν', vv = some (.ref (sbb s t' 0)) ∧ uu = (gw 2 (SBSh m') cy (sbb s t') ν' ++ E) ∧ (SBI m' ν' (L ++ [c]))) := by
  refine CT.walk hfl (by decide) (Nat.le_of_ble_eq_true rfl) ?_
  intro A J hJ
  show J (gw 2 (SBSh m) cy (sbb s t) ν ++ E) 0 0 0 [(0, .ref (sbb s t 0)), (1, .int (zI c))] []
  refine j_aload_n hJ (j := 0) rfl rfl dJ4_append_cf468_0 ?_
  refine j_iload_n hJ (j := 1) rfl rfl dJ4_append_cf468_1 ?_
  refine j_callP0 hJ (c_J5_append_3fe6f hfl hI hL hk) mp_J4_50 k_J5_append_3fe6f (q0 := 0) (by rw [gw_get (by decide)]; rfl) ⟨(Nat.le_of_ble_eq_true rfl), (Nat.le_of_ble_eq_true rfl)⟩ ⟨by dsimp only; omega, by dsimp only; omega⟩ (Nat.le_of_ble_eq_true rfl) dJ4_append_cf468_2 rfl ?_
  intro v1 u2 hv3
  obtain ⟨t4, m4, ν4, rfl, rfl, h1⟩ := hv3
  show J (gw 2 (SBSh m4) cy (sbb s t4) ν4 ++ E) _ _ 5 [(0, .ref (sbb s t4 0)), (1, .int (zI c))] [.ref (sbb s t4 0)]
  refine j_pop hJ rfl dJ4_append_cf468_5 ?_
  refine j_aload_n hJ (j := 0) rfl rfl dJ4_append_cf468_6 ?_
  refine j_aret hJ rfl rfl (by dsimp only; omega) (by dsimp only; omega) dJ4_append_cf468_7 ⟨t4, m4, ν4, rfl, rfl, ?_⟩
  exact h1
set_option maxHeartbeats 4000000 in
set_option maxRecDepth 100000 in
theorem c_J0_getBytes_840e7 {s t m : Nat} {ν : Nat → Int → Int} {i : Nat} {d : Int} (hfl : l.stackTraces = false) (hi : i < 25) (hd : 0 ≤ d ∧ d + wL i ≤ m) (hm : m ≤ 1999) : CT l D cy n0 ad yJ0_getBytes_840e7 (.code yJ0_getBytes_840e7 cJ0_getBytes_840e7 4 none) ({ frames := 1, cells := 0, slots := 0, locals := 40 }) [.ref (ad (30 + i)), .ref (sbb s t 1), .int (zI d), .int (zI 0)] (gw 2 (SBSh m) cy (sbb s t) ν ++ E) (fun vv uu => ∃ μ', vv = none ∧ uu = (gw 2 (SBSh m) cy (sbb s t) μ' ++ E) ∧ (μ' = putW ν i d)) := by
  have hw := wL_lt i
  refine CT.walk hfl (by decide) (Nat.le_of_ble_eq_true rfl) ?_
  intro A J hJ
  show J (gw 2 (SBSh m) cy (sbb s t) ν ++ E) 0 0 0 [(0, .ref (ad (30 + i))), (1, .ref (sbb s t 1)), (2, .int (zI d)), (3, .int (zI 0))] []
  refine j_aload_n hJ (j := 0) rfl rfl dJ0_getBytes_840e7_0 ?_
  refine j_callK hJ (by omega) rfl (c_J0_coder_7d493 hfl hi) m_J0_335 k_J0_coder_7d493 ⟨(Nat.le_of_ble_eq_true rfl), (Nat.le_of_ble_eq_true rfl)⟩ ⟨(Nat.le_of_ble_eq_true rfl), (Nat.le_of_ble_eq_true rfl)⟩ (Nat.le_of_ble_eq_true rfl) dJ0_getBytes_840e7_1 rfl ?_
  intro v1 u2 hv3
  obtain ⟨_, rfl, rfl, rfl⟩ := hv3
  show J (gw 2 (SBSh m) cy (sbb s t) ν ++ E) 0 0 4 [(0, .ref (ad (30 + i))), (1, .ref (sbb s t 1)), (2, .int (zI d)), (3, .int (zI 0))] [.int (zI 0)]
  refine j_iload_n hJ (j := 3) rfl rfl dJ0_getBytes_840e7_4 ?_
  refine j_icmp_ne hJ (tgt := 28) ⟨by omega, by omega⟩ ⟨by omega, by omega⟩ (by decide) dJ0_getBytes_840e7_5 ?_ ?_
  · intro h5
    omega
  · intro h5
    refine j_aload_n hJ (j := 0) rfl rfl dJ0_getBytes_840e7_8 ?_
    refine j_getK (v := .ref (ad (60 + i))) hJ (fun _ h => (h.2.2.2.2.2.1.1 _ (by omega)).2.2.1) g_J0_9 dJ0_getBytes_840e7_9 ?_
    refine j_iconst hJ dJ0_getBytes_840e7_12 ?_
    refine j_aload_n hJ (j := 1) rfl rfl dJ0_getBytes_840e7_13 ?_
    refine j_iload_n hJ (j := 2) rfl rfl dJ0_getBytes_840e7_14 ?_
    refine j_iload_n hJ (j := 3) rfl rfl dJ0_getBytes_840e7_15 ?_
    refine j_ishl hJ (v := d) ((sh0 (by omega) (by omega)).2) dJ0_getBytes_840e7_16 ?_
    refine j_aload_n hJ (j := 0) rfl rfl dJ0_getBytes_840e7_17 ?_
    refine j_getK (v := .ref (ad (60 + i))) hJ (fun _ h => (h.2.2.2.2.2.1.1 _ (by omega)).2.2.1) g_J0_9 dJ0_getBytes_840e7_18 ?_
    refine j_alenK (N := wL i) hJ (fun _ h => (h.2.2.2.2.2.1.1 _ (by omega)).2.2.2) dJ0_getBytes_840e7_21 ?_
    refine j_copyt hJ (q1 := 1) (i := i) (m1 := m) (g := fun j => zI (ν 1 j)) mlk_J0 hi rfl rfl hd.1 rfl (by omega) (by omega) (Nat.le_of_ble_eq_true rfl) (Nat.le_of_ble_eq_true rfl) dJ0_getBytes_840e7_22 ?_
    rw [show (sbb s t 1) = t from rfl, putW_eq hd.1]
    show J (gw 2 (SBSh m) cy (sbb s t) (putW ν i d) ++ E) 0 0 25 [(0, .ref (ad (30 + i))), (1, .ref (sbb s t 1)), (2, .int (zI d)), (3, .int (zI 0))] []
    refine j_goto hJ (tgt := 43) (by decide) dJ0_getBytes_840e7_25 ?_
    refine j_vret hJ rfl rfl (Nat.le_of_ble_eq_true rfl) (Nat.le_of_ble_eq_true rfl) dJ0_getBytes_840e7_43 ⟨putW ν i d, rfl, rfl, ?_⟩
    rfl
set_option maxHeartbeats 4000000 in
set_option maxRecDepth 100000 in
theorem c_J5_inflateIfNeededFor_a7421 {s t m : Nat} {ν : Nat → Int → Int} {i : Nat} (hfl : l.stackTraces = false) (hi : i < 25) (hc : ν 0 1 = 0) : CT l D cy n0 ad yJ5_inflateIfNeededFor_a7421 (.code yJ5_inflateIfNeededFor_a7421 cJ5_inflateIfNeededFor_a7421 2 none) ({ frames := 1, cells := 0, slots := 0, locals := 20 }) [.ref (sbb s t 0), .ref (ad (30 + i))] (gw 2 (SBSh m) cy (sbb s t) ν ++ E) (fun vv uu => vv = none ∧ uu = (gw 2 (SBSh m) cy (sbb s t) ν ++ E) ∧ True) := by
  refine CT.walk hfl (by decide) (Nat.le_of_ble_eq_true rfl) ?_
  intro A J hJ
  show J (gw 2 (SBSh m) cy (sbb s t) ν ++ E) 0 0 0 [(0, .ref (sbb s t 0)), (1, .ref (ad (30 + i)))] []
  refine j_gets (v := .int (zI 1)) hJ (fun _ h => h.2.2.2.2.2.2.1) g_J5_18 dJ5_inflateIfNeededFor_a7421_0 ?_
  refine j_if_eq hJ (tgt := 21) ⟨by omega, by omega⟩ (by decide) dJ5_inflateIfNeededFor_a7421_3 ?_ ?_
  · intro h3
    omega
  · intro h3
    refine j_aload_n hJ (j := 0) rfl rfl dJ5_inflateIfNeededFor_a7421_6 ?_
    refine w_geti hJ (fi := 1) rfl (by omega) rfl rfl f_J5_22 dJ5_inflateIfNeededFor_a7421_7 ?_
    refine j_topi (y := zI 0) (by rw [hc]) ?_
    refine j_aload_n hJ (j := 1) rfl rfl dJ5_inflateIfNeededFor_a7421_10 ?_
    refine j_callK hJ (by omega) rfl (c_J0_coder_7d493 hfl hi) m_J5_40 k_J0_coder_7d493 ⟨(Nat.le_of_ble_eq_true rfl), (Nat.le_of_ble_eq_true rfl)⟩ ⟨(Nat.le_of_ble_eq_true rfl), (Nat.le_of_ble_eq_true rfl)⟩ (Nat.le_of_ble_eq_true rfl) dJ5_inflateIfNeededFor_a7421_11 rfl ?_
    intro v1 u2 hv3
    obtain ⟨_, rfl, rfl, rfl⟩ := hv3
    show J (gw 2 (SBSh m) cy (sbb s t) ν ++ E) 0 0 14 [(0, .ref (sbb s t 0)), (1, .ref (ad (30 + i)))] [.int (zI 0), .int (zI 0)]
    refine j_icmp_eq hJ (tgt := 21) ⟨by omega, by omega⟩ ⟨by omega, by omega⟩ (by decide) dJ5_inflateIfNeededFor_a7421_14 ?_ ?_
    · intro h14
      refine j_vret hJ rfl rfl (Nat.le_of_ble_eq_true rfl) (Nat.le_of_ble_eq_true rfl) dJ5_inflateIfNeededFor_a7421_21 ⟨rfl, rfl, ?_⟩
      trivial
    · intro h14
      omega
set_option maxHeartbeats 4000000 in
set_option maxRecDepth 100000 in
theorem c_J5_putStringAt_47b60 {s t m : Nat} {ν : Nat → Int → Int} {i : Nat} {d : Int} (hfl : l.stackTraces = false) (hi : i < 25) (hd : 0 ≤ d ∧ d + wL i ≤ m) (hm : m ≤ 1999) (hc : ν 0 1 = 0) : CT l D cy n0 ad yJ5_putStringAt_47b60 (.code yJ5_putStringAt_47b60 cJ5_putStringAt_47b60 3 none) ({ frames := 2, cells := 0, slots := 0, locals := 63 }) [.ref (sbb s t 0), .int (zI d), .ref (ad (30 + i))] (gw 2 (SBSh m) cy (sbb s t) ν ++ E) (fun vv uu => ∃ μ', vv = none ∧ uu = (gw 2 (SBSh m) cy (sbb s t) μ' ++ E) ∧ (μ' = putW ν i d)) := by
  have hw := wL_lt i
  refine CT.walk hfl (by decide) (Nat.le_of_ble_eq_true rfl) ?_
  intro A J hJ
  show J (gw 2 (SBSh m) cy (sbb s t) ν ++ E) 0 0 0 [(0, .ref (sbb s t 0)), (1, .int (zI d)), (2, .ref (ad (30 + i)))] []
  refine j_aload_n hJ (j := 0) rfl rfl dJ5_putStringAt_47b60_0 ?_
  refine j_aload_n hJ (j := 2) rfl rfl dJ5_putStringAt_47b60_1 ?_
  refine j_callU0 hJ (c_J5_inflateIfNeededFor_a7421 hfl hi hc) mu_J5_397 k_J5_inflateIfNeededFor_a7421 (q0 := 0) (by rw [gw_get (by decide)]; rfl) ⟨(Nat.le_of_ble_eq_true rfl), (Nat.le_of_ble_eq_true rfl)⟩ ⟨(Nat.le_of_ble_eq_true rfl), (Nat.le_of_ble_eq_true rfl)⟩ (Nat.le_of_ble_eq_true rfl) dJ5_putStringAt_47b60_2 rfl ?_
  intro v1 u2 hv3
  obtain ⟨rfl, rfl, hr4⟩ := hv3
  show J (gw 2 (SBSh m) cy (sbb s t) ν ++ E) 0 0 5 [(0, .ref (sbb s t 0)), (1, .int (zI d)), (2, .ref (ad (30 + i)))] []
  refine j_aload_n hJ (j := 2) rfl rfl dJ5_putStringAt_47b60_5 ?_
  refine j_aload_n hJ (j := 0) rfl rfl dJ5_putStringAt_47b60_6 ?_
  refine w_getr hJ (by omega) rfl rfl f_J5_15 dJ5_putStringAt_47b60_7 ?_
  refine j_iload_n hJ (j := 1) rfl rfl dJ5_putStringAt_47b60_10 ?_
  refine j_aload_n hJ (j := 0) rfl rfl dJ5_putStringAt_47b60_11 ?_
  refine w_geti hJ (fi := 1) rfl (by omega) rfl rfl f_J5_22 dJ5_putStringAt_47b60_12 ?_
  refine j_topi (y := zI 0) (by rw [hc]) ?_
  refine j_callK hJ (by omega) rfl (c_J0_getBytes_840e7 hfl hi hd hm) m_J5_399 k_J0_getBytes_840e7 ⟨(Nat.le_of_ble_eq_true rfl), (Nat.le_of_ble_eq_true rfl)⟩ ⟨(Nat.le_of_ble_eq_true rfl), (Nat.le_of_ble_eq_true rfl)⟩ (Nat.le_of_ble_eq_true rfl) dJ5_putStringAt_47b60_15 rfl ?_
  intro v5 u6 hv7
  obtain ⟨ν1, rfl, rfl, h15⟩ := hv7
  show J (gw 2 (SBSh m) cy (sbb s t) ν1 ++ E) 0 0 18 [(0, .ref (sbb s t 0)), (1, .int (zI d)), (2, .ref (ad (30 + i)))] []
  refine j_vret hJ rfl rfl (Nat.le_of_ble_eq_true rfl) (Nat.le_of_ble_eq_true rfl) dJ5_putStringAt_47b60_18 ⟨ν1, rfl, rfl, ?_⟩
  exact h15
set_option maxHeartbeats 4000000 in
set_option maxRecDepth 100000 in
theorem c_J5_append_cf1ce {s t m : Nat} {ν : Nat → Int → Int} {i : Nat} {L : List Int} (hfl : l.stackTraces = false) (hI : SBI m ν L) (hi : i < 25) (hL : L.length + wL i ≤ 1150) : CT l D cy n0 ad yJ5_append_cf1ce (.code yJ5_append_cf1ce cJ5_append_cf1ce 3 (some (.object "java/lang/AbstractStringBuilder"))) ({ frames := 4, cells := cpC (L.length + wL i) - cpC L.length, slots := cpS (L.length + wL i) - cpS L.length, locals := 91 }) [.ref (sbb s t 0), .ref (ad (30 + i))] (gw 2 (SBSh m) cy (sbb s t) ν ++ E) (fun vv uu => ∃ t' m' ν', vv = some (.ref (sbb s t' 0)) ∧ uu = (gw 2 (SBSh m') cy (sbb s t') ν' ++ E) ∧ (SBI m' ν' (L ++ wordT i))) := by
  obtain ⟨i1, i2, i3, i4, i5, i6⟩ := id hI
  have r0 := cap_rng L.length
  have hw := wL_lt i
  have r1 := cap_rng (L.length + wL i)
  have r2 := cap_mono (n := L.length) (k := L.length + wL i) (by omega)
  refine CT.walk hfl (by decide) (Nat.le_of_ble_eq_true rfl) ?_
  intro A J hJ
  show J (gw 2 (SBSh m) cy (sbb s t) ν ++ E) 0 0 0 [(0, .ref (sbb s t 0)), (1, .ref (ad (30 + i)))] []
  refine j_aload_n hJ (j := 1) rfl rfl dJ5_append_cf1ce_0 ?_
  refine j_ifnonnull hJ (tgt := 9) (by decide) dJ5_append_cf1ce_1 ?_
  refine j_aload_n hJ (j := 1) rfl rfl dJ5_append_cf1ce_9 ?_
  refine j_callK hJ (by omega) rfl (c_J0_length_8abf5 hfl hi) m_J5_32 k_J0_length_8abf5 ⟨(Nat.le_of_ble_eq_true rfl), (Nat.le_of_ble_eq_true rfl)⟩ ⟨(Nat.le_of_ble_eq_true rfl), (Nat.le_of_ble_eq_true rfl)⟩ (Nat.le_of_ble_eq_true rfl) dJ5_append_cf1ce_10 rfl ?_
  intro v1 u2 hv3
  obtain ⟨_, rfl, rfl, rfl⟩ := hv3
  show J (gw 2 (SBSh m) cy (sbb s t) ν ++ E) 0 0 13 [(0, .ref (sbb s t 0)), (1, .ref (ad (30 + i)))] [.int (zI (wL i : Int))]
  refine j_istore_n hJ (lv' := [(2, .int (zI (wL i : Int))), (0, .ref (sbb s t 0)), (1, .ref (ad (30 + i)))]) rfl (by decide) rfl dJ5_append_cf1ce_13 ?_
  refine j_aload_n hJ (j := 1) rfl rfl dJ5_append_cf1ce_14 ?_
  refine j_aload_n hJ (j := 1) rfl rfl dJ5_append_cf1ce_15 ?_
  refine w_geti hJ (fi := 3) rfl (by omega) rfl rfl f_J5_79 dJ5_append_cf1ce_16 ?_
  refine j_topi (y := zI (L.length : Int)) (by rw [i2]) ?_
  refine j_iload_n hJ (j := 0) rfl rfl dJ5_append_cf1ce_19 ?_
  refine j_iadd hJ dJ5_append_cf1ce_20 ?_
  refine j_topi (y := zI ((L.length + wL i : Nat) : Int)) (by congr 1) ?_
  refine j_callU0 hJ (c_J5_ensureCapacityInternal_d00df hfl (n := L.length) (k := L.length + wL i) i1 i3 ⟨by omega, by omega, by omega⟩ i5) mu_J5_100 k_J5_ensureCapacityInternal_d00df (q0 := 0) (by rw [gw_get (by decide)]; rfl) ⟨(Nat.le_of_ble_eq_true rfl), (Nat.le_of_ble_eq_true rfl)⟩ ⟨by dsimp only; omega, by dsimp only; omega⟩ (Nat.le_of_ble_eq_true rfl) dJ5_append_cf1ce_21 rfl ?_
  intro v4 u5 hv6
  obtain ⟨t7, m7, ν7, rfl, rfl, h21⟩ := hv6
  show J (gw 2 (SBSh m7) cy (sbb s t7) ν7 ++ E) _ _ 24 [(2, .int (zI (wL i : Int))), (0, .ref (sbb s t7 0)), (1, .ref (ad (30 + i)))] []
  obtain ⟨e1, e2, e3, e4, e5⟩ := h21
  refine j_aload_n hJ (j := 1) rfl rfl dJ5_append_cf1ce_24 ?_
  refine j_aload_n hJ (j := 1) rfl rfl dJ5_append_cf1ce_25 ?_
  refine w_geti hJ (fi := 3) rfl (by omega) rfl rfl f_J5_79 dJ5_append_cf1ce_26 ?_
  refine j_topi (y := zI (L.length : Int)) (by rw [e3, i2]) ?_
  refine j_aload_n hJ (j := 2) rfl rfl dJ5_append_cf1ce_29 ?_
  refine j_callU0 hJ (c_J5_putStringAt_47b60 hfl hi ⟨by omega, by omega⟩ (by omega) e2) mu_J5_208 k_J5_putStringAt_47b60 (q0 := 0) (by rw [gw_get (by decide)]; rfl) ⟨(Nat.le_of_ble_eq_true rfl), (Nat.le_of_ble_eq_true rfl)⟩ ⟨by dsimp only; omega, by dsimp only; omega⟩ (Nat.le_of_ble_eq_true rfl) dJ5_append_cf1ce_30 rfl ?_
  intro v8 u9 hv10
  obtain ⟨ν1, rfl, rfl, h30⟩ := hv10
  show J (gw 2 (SBSh m7) cy (sbb s t7) ν1 ++ E) _ _ 33 [(2, .int (zI (wL i : Int))), (0, .ref (sbb s t7 0)), (1, .ref (ad (30 + i)))] []
  refine j_aload_n hJ (j := 1) rfl rfl dJ5_append_cf1ce_33 ?_
  refine j_dup hJ rfl dJ5_append_cf1ce_34 ?_
  refine w_geti hJ (fi := 3) rfl (by omega) rfl rfl f_J5_79 dJ5_append_cf1ce_35 ?_
  refine j_topi (y := zI (L.length : Int)) (by rw [h30, putW_0, e3, i2]) ?_
  refine j_iload_n hJ (j := 0) rfl rfl dJ5_append_cf1ce_38 ?_
  refine j_iadd hJ dJ5_append_cf1ce_39 ?_
  refine w_puti hJ (fi := 3) rfl (by omega) rfl rfl f_J5_79 rfl rfl dJ5_append_cf1ce_40 ?_
  intro ν2 hν2
  refine j_aload_n hJ (j := 1) rfl rfl dJ5_append_cf1ce_43 ?_
  refine j_aret hJ rfl rfl (by dsimp only; omega) (by dsimp only; omega) dJ5_append_cf1ce_44 ⟨t7, m7, ν2, rfl, rfl, ?_⟩
  refine hI.app (K := wordT i) (by rw [wordT_len]; exact hL) (by rw [wordT_len]; exact e1) e5 ?_ ?_ ?_ ?_ ?_
  · rw [hν2, up_at (by omega), h30, putW_0]; exact e2
  · rw [hν2, up_self, wordT_len]; omega
  · intro j j0 j1; rw [hν2, up_row (by omega), h30]; unfold putW; rw [if_neg (by omega)]
  · intro k x hx
    obtain ⟨g1, g2⟩ := wordT_at hx
    rw [hν2, up_row (by omega), h30]; unfold putW
    rw [if_pos ⟨rfl, by omega, by omega⟩, g2]; congr 1; omega
  · intro j
    rw [hν2, up_row (by omega), h30]; unfold putW
    split
    · rename_i g
      have := wC_tab i hi (j - (L.length : Int)).toNat (by omega)
      exact this.2.2
    · exact e4 j
set_option maxHeartbeats 4000000 in
set_option maxRecDepth 100000 in
theorem c_J4_append_15ec4 {s t m : Nat} {ν : Nat → Int → Int} {i : Nat} {L : List Int} (hfl : l.stackTraces = false) (hI : SBI m ν L) (hi : i < 25) (hL : L.length + wL i ≤ 1150) : CT l D cy n0 ad yJ4_append_15ec4 (.code yJ4_append_15ec4 cJ4_append_15ec4 2 (some (.object "java/lang/StringBuilder"))) ({ frames := 5, cells := cpC (L.length + wL i) - cpC L.length, slots := cpS (L.length + wL i) - cpS L.length, locals := 113 }) [.ref (sbb s t 0), .ref (ad (30 + i))] (gw 2 (SBSh m) cy (sbb s t) ν ++ E) (fun vv uu => ∃ t' m' ν', vv = some (.ref (sbb s t' 0)) ∧ uu = (gw 2 (SBSh m') cy (sbb s t') ν' ++ E) ∧ (SBI m' ν' (L ++ wordT i))) := by
  refine CT.walk hfl (by decide) (Nat.le_of_ble_eq_true rfl) ?_
  intro A J hJ
  show J (gw 2 (SBSh m) cy (sbb s t) ν ++ E) 0 0 0 [(0, .ref (sbb s t 0)), (1, .ref (ad (30 + i)))] []
  refine j_aload_n hJ (j := 0) rfl rfl dJ4_append_15ec4_0 ?_
  refine j_aload_n hJ (j := 1) rfl rfl dJ4_append_15ec4_1 ?_
  refine j_callP0 hJ (c_J5_append_cf1ce hfl hI hi hL) mp_J4_29 k_J5_append_cf1ce (q0 := 0) (by rw [gw_get (by decide)]; rfl) ⟨(Nat.le_of_ble_eq_true rfl), (Nat.le_of_ble_eq_true rfl)⟩ ⟨by dsimp only; omega, by dsimp only; omega⟩ (Nat.le_of_ble_eq_true rfl) dJ4_append_15ec4_2 rfl ?_
  intro v1 u2 hv3
  obtain ⟨t4, m4, ν4, rfl, rfl, h1⟩ := hv3
  show J (gw 2 (SBSh m4) cy (sbb s t4) ν4 ++ E) _ _ 5 [(0, .ref (sbb s t4 0)), (1, .ref (ad (30 + i)))] [.ref (sbb s t4 0)]
  refine j_pop hJ rfl dJ4_append_15ec4_5 ?_
  refine j_aload_n hJ (j := 0) rfl rfl dJ4_append_15ec4_6 ?_
  refine j_aret hJ rfl rfl (by dsimp only; omega) (by dsimp only; omega) dJ4_append_15ec4_7 ⟨t4, m4, ν4, rfl, rfl, ?_⟩
  exact h1
set_option maxHeartbeats 4000000 in
set_option maxRecDepth 100000 in
theorem c_J5_append_c97b9 {s t m : Nat} {ν : Nat → Int → Int} {z : Int} {L : List Int} (hfl : l.stackTraces = false) (hI : SBI m ν L) (hz : 1 ≤ z ∧ z ≤ 12) (hL : L.length + (numT z).length ≤ 1150) : CT l D cy n0 ad yJ5_append_c97b9 (.code yJ5_append_c97b9 cJ5_append_c97b9 4 (some (.object "java/lang/AbstractStringBuilder"))) ({ frames := 4, cells := cpC (L.length + (numT z).length) - cpC L.length, slots := cpS (L.length + (numT z).length) - cpS L.length, locals := 91 }) [.ref (sbb s t 0), .int (zI z)] (gw 2 (SBSh m) cy (sbb s t) ν ++ E) (fun vv uu => ∃ t' m' ν', vv = some (.ref (sbb s t' 0)) ∧ uu = (gw 2 (SBSh m') cy (sbb s t') ν' ++ E) ∧ (SBI m' ν' (L ++ numT z))) := by
  obtain ⟨i1, i2, i3, i4, i5, i6⟩ := id hI
  have r0 := cap_rng L.length
  have hn := numT_len z
  have hn2 : (numT z).length = 1 ∧ z < 10 ∨ (numT z).length = 2 ∧ 10 ≤ z := by split at hn <;> omega
  have r1 := cap_rng (L.length + (numT z).length)
  have r2 := cap_mono (n := L.length) (k := L.length + (numT z).length) (by omega)
  refine CT.walk hfl (by decide) (Nat.le_of_ble_eq_true rfl) ?_
  intro A J hJ
  show J (gw 2 (SBSh m) cy (sbb s t) ν ++ E) 0 0 0 [(0, .ref (sbb s t 0)), (1, .int (zI z))] []
  refine j_aload_n hJ (j := 0) rfl rfl dJ5_append_c97b9_0 ?_
  refine w_geti hJ (fi := 3) rfl (by omega) rfl rfl f_J5_79 dJ5_append_c97b9_1 ?_
  refine j_topi (y := zI (L.length : Int)) (by rw [i2]) ?_
  refine j_istore_n hJ (lv' := [(2, .int (zI (L.length : Int))), (0, .ref (sbb s t 0)), (1, .int (zI z))]) rfl (by decide) rfl dJ5_append_c97b9_4 ?_
  refine j_iload_n hJ (j := 0) rfl rfl dJ5_append_c97b9_5 ?_
  refine j_iload_n hJ (j := 2) rfl rfl dJ5_append_c97b9_6 ?_
  refine j_callS0 hJ (c_J6_stringSize_0f7a4 hfl hz) m_J5_245 k_J6_stringSize_0f7a4 ⟨(Nat.le_of_ble_eq_true rfl), (Nat.le_of_ble_eq_true rfl)⟩ ⟨(Nat.le_of_ble_eq_true rfl), (Nat.le_of_ble_eq_true rfl)⟩ (Nat.le_of_ble_eq_true rfl) dJ5_append_c97b9_7 rfl ?_
  intro v1 u2 hv3
  obtain ⟨_, rfl, rfl, rfl⟩ := hv3
  show J (gw 2 (SBSh m) cy (sbb s t) ν ++ E) 0 0 10 [(2, .int (zI (L.length : Int))), (0, .ref (sbb s t 0)), (1, .int (zI z))] [.int (zI ((numT z).length : Int)), .int (zI (L.length : Int))]
  refine j_iadd hJ dJ5_append_c97b9_10 ?_
  refine j_topi (y := zI ((L.length + (numT z).length : Nat) : Int)) (by congr 1) ?_
  refine j_istore_n hJ (lv' := [(3, .int (zI ((L.length + (numT z).length : Nat) : Int))), (2, .int (zI (L.length : Int))), (0, .ref (sbb s t 0)), (1, .int (zI z))]) rfl (by decide) rfl dJ5_append_c97b9_11 ?_
  refine j_aload_n hJ (j := 2) rfl rfl dJ5_append_c97b9_12 ?_
  refine j_iload_n hJ (j := 0) rfl rfl dJ5_append_c97b9_13 ?_
  refine j_callU0 hJ (c_J5_ensureCapacityInternal_d00df hfl (n := L.length) (k := L.length + (numT z).length) i1 i3 ⟨by omega, by omega, by omega⟩ i5) mu_J5_100 k_J5_ensureCapacityInternal_d00df (q0 := 0) (by rw [gw_get (by decide)]; rfl) ⟨(Nat.le_of_ble_eq_true rfl), (Nat.le_of_ble_eq_true rfl)⟩ ⟨by dsimp only; omega, by dsimp only; omega⟩ (Nat.le_of_ble_eq_true rfl) dJ5_append_c97b9_14 rfl ?_
  intro v4 u5 hv6
  obtain ⟨t7, m7, ν7, rfl, rfl, h14⟩ := hv6
  show J (gw 2 (SBSh m7) cy (sbb s t7) ν7 ++ E) _ _ 17 [(3, .int (zI ((L.length + (numT z).length : Nat) : Int))), (2, .int (zI (L.length : Int))), (0, .ref (sbb s t7 0)), (1, .int (zI z))] []
  obtain ⟨e1, e2, e3, e4, e5⟩ := h14
  refine j_aload_n hJ (j := 2) rfl rfl dJ5_append_c97b9_17 ?_
  refine j_callU0 hJ (c_J5_isLatin1_aae02 hfl e2) mu_J5_83 k_J5_isLatin1_aae02 (q0 := 0) (by rw [gw_get (by decide)]; rfl) ⟨(Nat.le_of_ble_eq_true rfl), (Nat.le_of_ble_eq_true rfl)⟩ ⟨by dsimp only; omega, by dsimp only; omega⟩ (Nat.le_of_ble_eq_true rfl) dJ5_append_c97b9_18 rfl ?_
  intro v8 u9 hv10
  obtain ⟨_, rfl, rfl, rfl⟩ := hv10
  show J (gw 2 (SBSh m7) cy (sbb s t7) ν7 ++ E) _ _ 21 [(3, .int (zI ((L.length + (numT z).length : Nat) : Int))), (2, .int (zI (L.length : Int))), (0, .ref (sbb s t7 0)), (1, .int (zI z))] [.int (zI 1)]
  refine j_if_eq hJ (tgt := 37) ⟨by omega, by omega⟩ (by decide) dJ5_append_c97b9_21 ?_ ?_
  · intro h21
    omega
  · intro h21
    refine j_iload_n hJ (j := 3) rfl rfl dJ5_append_c97b9_24 ?_
    refine j_iload_n hJ (j := 0) rfl rfl dJ5_append_c97b9_25 ?_
    refine j_aload_n hJ (j := 2) rfl rfl dJ5_append_c97b9_26 ?_
    refine w_getr hJ (by omega) rfl rfl f_J5_15 dJ5_append_c97b9_27 ?_
    refine j_callS0 hJ (c_J6_getChars_ba4f3 hfl hz ⟨by omega, by omega⟩ (by omega) (by omega)) m_J5_248 k_J6_getChars_ba4f3 ⟨(Nat.le_of_ble_eq_true rfl), (Nat.le_of_ble_eq_true rfl)⟩ ⟨by dsimp only; omega, by dsimp only; omega⟩ (Nat.le_of_ble_eq_true rfl) dJ5_append_c97b9_30 rfl ?_
    intro v11 u12 hv13
    obtain ⟨q30, ν1, rfl, rfl, h30⟩ := hv13
    show J (gw 2 (SBSh m7) cy (sbb s t7) ν1 ++ E) _ _ 33 [(3, .int (zI ((L.length + (numT z).length : Nat) : Int))), (2, .int (zI (L.length : Int))), (0, .ref (sbb s t7 0)), (1, .int (zI z))] [.int (zI q30)]
    refine j_pop hJ rfl dJ5_append_c97b9_33 ?_
    refine j_goto hJ (tgt := 48) (by decide) dJ5_append_c97b9_34 ?_
    refine j_aload_n hJ (j := 2) rfl rfl dJ5_append_c97b9_48 ?_
    refine j_iload_n hJ (j := 0) rfl rfl dJ5_append_c97b9_49 ?_
    refine w_puti hJ (fi := 3) rfl (by omega) rfl rfl f_J5_79 rfl rfl dJ5_append_c97b9_50 ?_
    intro ν2 hν2
    refine j_aload_n hJ (j := 2) rfl rfl dJ5_append_c97b9_53 ?_
    refine j_aret hJ rfl rfl (by dsimp only; omega) (by dsimp only; omega) dJ5_append_c97b9_54 ⟨t7, m7, ν2, rfl, rfl, ?_⟩
    refine hI.app (K := numT z) hL e1 e5 ?_ ?_ ?_ ?_ ?_
    · rw [hν2, up_at (by omega)]
      rcases hn2 with ⟨g1, g2⟩ | ⟨g1, g2⟩
      · rw [h30.1 g2, up_row (by omega)]; exact e2
      · rw [h30.2 g2, up_row (by omega), up_row (by omega)]; exact e2
    · rw [hν2, up_self]
    · intro j j0 j1; rw [hν2, up_row (by omega)]
      rcases hn2 with ⟨g1, g2⟩ | ⟨g1, g2⟩
      · rw [h30.1 g2, up_at (by omega)]
      · rw [h30.2 g2, up_at (by omega), up_at (by omega)]
    · intro k x hx
      rw [hν2, up_row (by omega)]
      unfold numT at hx
      rcases hn2 with ⟨g1, g2⟩ | ⟨g1, g2⟩
      · rw [if_pos g2] at hx
        match k, hx with
        | 0, hx => rw [h30.1 g2, show (L.length : Int) + ((0 : Nat) : Int) = ((L.length + (numT z).length : Nat) : Int) + (-1) by omega, up_self]; exact Option.some.inj hx
      · rw [if_neg (by omega)] at hx
        match k, hx with
        | 0, hx => rw [h30.2 g2, show (L.length : Int) + ((0 : Nat) : Int) = ((L.length + (numT z).length : Nat) : Int) + (-1) + (-1) by omega, up_self]; exact Option.some.inj hx
        | 1, hx => rw [h30.2 g2, up_at (by omega), show (L.length : Int) + ((1 : Nat) : Int) = ((L.length + (numT z).length : Nat) : Int) + (-1) by omega, up_self]; exact Option.some.inj hx
    · intro j
      rw [hν2, up_row (by omega)]
      rcases hn2 with ⟨g1, g2⟩ | ⟨g1, g2⟩
      · rw [h30.1 g2]; unfold up; split
        · omega
        · exact e4 j
      · rw [h30.2 g2]; unfold up; split
        · omega
        · split
          · omega
          · exact e4 j
set_option maxHeartbeats 4000000 in
set_option maxRecDepth 100000 in
theorem c_J4_append_bf812 {s t m : Nat} {ν : Nat → Int → Int} {z : Int} {L : List Int} (hfl : l.stackTraces = false) (hI : SBI m ν L) (hz : 1 ≤ z ∧ z ≤ 12) (hL : L.length + (numT z).length ≤ 1150) : CT l D cy n0 ad yJ4_append_bf812 (.code yJ4_append_bf812 cJ4_append_bf812 2 (some (.object "java/lang/StringBuilder"))) ({ frames := 5, cells := cpC (L.length + (numT z).length) - cpC L.length, slots := cpS (L.length + (numT z).length) - cpS L.length, locals := 114 }) [.ref (sbb s t 0), .int (zI z)] (gw 2 (SBSh m) cy (sbb s t) ν ++ E) (fun vv uu => ∃ t' m' ν', vv = some (.ref (sbb s t' 0)) ∧ uu = (gw 2 (SBSh m') cy (sbb s t') ν' ++ E) ∧ (SBI m' ν' (L ++ numT z))) := by
  refine CT.walk hfl (by decide) (Nat.le_of_ble_eq_true rfl) ?_
  intro A J hJ
  show J (gw 2 (SBSh m) cy (sbb s t) ν ++ E) 0 0 0 [(0, .ref (sbb s t 0)), (1, .int (zI z))] []
  refine j_aload_n hJ (j := 0) rfl rfl dJ4_append_bf812_0 ?_
  refine j_iload_n hJ (j := 1) rfl rfl dJ4_append_bf812_1 ?_
  refine j_callP0 hJ (c_J5_append_c97b9 hfl hI hz hL) mp_J4_53 k_J5_append_c97b9 (q0 := 0) (by rw [gw_get (by decide)]; rfl) ⟨(Nat.le_of_ble_eq_true rfl), (Nat.le_of_ble_eq_true rfl)⟩ ⟨by dsimp only; omega, by dsimp only; omega⟩ (Nat.le_of_ble_eq_true rfl) dJ4_append_bf812_2 rfl ?_
  intro v1 u2 hv3
  obtain ⟨t4, m4, ν4, rfl, rfl, h1⟩ := hv3
  show J (gw 2 (SBSh m4) cy (sbb s t4) ν4 ++ E) _ _ 5 [(0, .ref (sbb s t4 0)), (1, .int (zI z))] [.ref (sbb s t4 0)]
  refine j_pop hJ rfl dJ4_append_bf812_5 ?_
  refine j_aload_n hJ (j := 0) rfl rfl dJ4_append_bf812_6 ?_
  refine j_aret hJ rfl rfl (by dsimp only; omega) (by dsimp only; omega) dJ4_append_bf812_7 ⟨t4, m4, ν4, rfl, rfl, ?_⟩
  exact h1
end
