
set_option maxRecDepth 20000 in
theorem m_X5_90 : MF RX5 90 1 yX5_isName 2 := ⟨Or.inl (List.mem_of_getElem? (i := 937) (by decide +kernel)), (List.mem_of_getElem? (i := 63) (by decide +kernel)), ⟨by decide +kernel, by decide +kernel⟩, by decide +kernel, fun h => by omega, fun _ => (List.mem_of_getElem? (i := 938) (by decide +kernel)), fun h => by omega⟩
set_option maxRecDepth 20000 in
theorem k_X5_isName : Cond.code yX5_isName cX5_isName 4 (some .boolean) ∈ GT := (List.mem_of_getElem? (i := 939) (by decide +kernel))
set_option maxRecDepth 20000 in
theorem m_X5_93 : MF RX5 93 0 yX5_gives 3 := ⟨Or.inl (List.mem_of_getElem? (i := 943) (by decide +kernel)), (List.mem_of_getElem? (i := 63) (by decide +kernel)), ⟨by decide +kernel, by decide +kernel⟩, by decide +kernel, fun _ => ⟨(List.mem_of_getElem? (i := 945) (by decide +kernel)), (List.mem_of_getElem? (i := 40) (by decide +kernel))⟩, fun h => by omega, fun h => by omega⟩
set_option maxRecDepth 20000 in
theorem k_X5_gives : Cond.code yX5_gives cX5_gives 5 none ∈ GT := (List.mem_of_getElem? (i := 946) (by decide +kernel))
set_option maxRecDepth 20000 in
theorem m_X5_97 : MF RX5 97 0 yX5_isStreet 1 := ⟨Or.inl (List.mem_of_getElem? (i := 951) (by decide +kernel)), (List.mem_of_getElem? (i := 63) (by decide +kernel)), ⟨by decide +kernel, by decide +kernel⟩, by decide +kernel, fun _ => ⟨(List.mem_of_getElem? (i := 953) (by decide +kernel)), (List.mem_of_getElem? (i := 41) (by decide +kernel))⟩, fun h => by omega, fun h => by omega⟩
set_option maxRecDepth 20000 in
theorem k_X5_isStreet : Cond.code yX5_isStreet cX5_isStreet 2 (some .boolean) ∈ GT := (List.mem_of_getElem? (i := 954) (by decide +kernel))
set_option maxRecDepth 20000 in
theorem m_X5_108 : MF RX5 108 0 yX5_tracked 1 := ⟨Or.inl (List.mem_of_getElem? (i := 962) (by decide +kernel)), (List.mem_of_getElem? (i := 63) (by decide +kernel)), ⟨by decide +kernel, by decide +kernel⟩, by decide +kernel, fun _ => ⟨(List.mem_of_getElem? (i := 964) (by decide +kernel)), (List.mem_of_getElem? (i := 43) (by decide +kernel))⟩, fun h => by omega, fun h => by omega⟩
set_option maxRecDepth 20000 in
theorem k_X5_tracked : Cond.code yX5_tracked cX5_tracked 2 (some .int) ∈ GT := (List.mem_of_getElem? (i := 965) (by decide +kernel))
set_option maxRecDepth 20000 in
theorem m_X5_104 : MF RX5 104 0 yX5_goes 3 := ⟨Or.inl (List.mem_of_getElem? (i := 958) (by decide +kernel)), (List.mem_of_getElem? (i := 63) (by decide +kernel)), ⟨by decide +kernel, by decide +kernel⟩, by decide +kernel, fun _ => ⟨(List.mem_of_getElem? (i := 960) (by decide +kernel)), (List.mem_of_getElem? (i := 42) (by decide +kernel))⟩, fun h => by omega, fun h => by omega⟩
set_option maxRecDepth 20000 in
theorem k_X5_goes : Cond.code yX5_goes cX5_goes 4 (some .boolean) ∈ GT := (List.mem_of_getElem? (i := 961) (by decide +kernel))
set_option maxRecDepth 20000 in
theorem f_X5_28 : FF RX5 28 5 6 (.array .boolean) true := ⟨RX5, TX5, 17, tyX5, rfl, by decide, lays_X5, tyX5_ok, rfl, rfl, nmX5, Or.inl (List.mem_of_getElem? (i := 882) (by decide +kernel))⟩
set_option maxRecDepth 20000 in
theorem m_X5_112 : MF RX5 112 0 yX5_countAhead 1 := ⟨Or.inl (List.mem_of_getElem? (i := 997) (by decide +kernel)), (List.mem_of_getElem? (i := 63) (by decide +kernel)), ⟨by decide +kernel, by decide +kernel⟩, by decide +kernel, fun _ => ⟨(List.mem_of_getElem? (i := 999) (by decide +kernel)), (List.mem_of_getElem? (i := 45) (by decide +kernel))⟩, fun h => by omega, fun h => by omega⟩
set_option maxRecDepth 20000 in
theorem k_X5_countAhead : Cond.code yX5_countAhead cX5_countAhead 4 (some .int) ∈ GT := (List.mem_of_getElem? (i := 1000) (by decide +kernel))
section
variable {l : Launch} {D : va_G} {cy : Nat → ClassId} {n0 : Nat} {ad : Nat → Nat} {b : Nat → Nat} {E : va_W} {ws : va_W}
set_option maxHeartbeats 4000000 in
set_option maxRecDepth 100000 in
theorem c_X5_addStreet {ν : Nat → Int → Int} {kd : Int → Int} {n : Nat} {N : Nat → List Int} {ow : Nat → Int} {m : Nat → Nat} {p : Nat → Nat → Int} {w z : Int} (hfl : l.stackTraces = false) (hX : MI ν kd n N ow m p) (hwR : -2147483648 ≤ w ∧ w < 2147483648) : CT l D cy n0 ad yX5_addStreet (.code yX5_addStreet cX5_addStreet 3 (some .int)) ({ frames := 2, cells := 0, slots := 0, locals := 45 }) [.ref (b 0), .int (zI w), .int (zI z)] (gw 14 MSh cy b ν ++ E) (fun vv uu => ∃ q μ', vv = some (.int (zI q)) ∧ uu = (gw 14 MSh cy b μ' ++ E) ∧ ((NmOK w z ∧ n < 16 ∧ μ' 0 16 = 0 ∧ q = n ∧ MI μ' kd (n + 1) (fset N n (nameL z w.toNat)) ow m p) ∨ (μ' 0 16 = 1 ∧ ¬ NmOK w z ∧ MI μ' kd n N ow m p) ∨ (μ' 0 16 = 2 ∧ NmOK w z ∧ n = 16 ∧ MI μ' kd n N ow m p))) := by
  obtain ⟨x1, x2, x3, x4, x5, x6, x7, x8⟩ := id hX
  refine CT.walk hfl (by decide) (Nat.le_of_ble_eq_true rfl) ?_
  intro A J hJ
  show J (gw 14 MSh cy b ν ++ E) 0 0 0 [(0, .ref (b 0)), (1, .int (zI w)), (2, .int (zI z))] []
  refine j_aload_n hJ (j := 0) rfl rfl dX5_addStreet_0 ?_
  refine j_iload_n hJ (j := 1) rfl rfl dX5_addStreet_1 ?_
  refine j_iload_n hJ (j := 2) rfl rfl dX5_addStreet_2 ?_
  refine j_callS0 hJ (c_X5_isName hfl hwR) m_X5_90 k_X5_isName ⟨(Nat.le_of_ble_eq_true rfl), (Nat.le_of_ble_eq_true rfl)⟩ ⟨(Nat.le_of_ble_eq_true rfl), (Nat.le_of_ble_eq_true rfl)⟩ (Nat.le_of_ble_eq_true rfl) dX5_addStreet_3 rfl ?_
  intro v1 u2 hv3
  obtain ⟨q3, rfl, rfl, h3⟩ := hv3
  show J (gw 14 MSh cy b ν ++ E) 0 0 6 [(0, .ref (b 0)), (1, .int (zI w)), (2, .int (zI z))] [.int (zI q3), .ref (b 0)]
  refine j_if_ne hJ (tgt := 13) ⟨by omega, by omega⟩ (by decide) dX5_addStreet_6 ?_ ?_
  · intro h6
    have hok : NmOK w z := h3.elim (fun g => g.2) (fun g => absurd g.1 h6)
    refine j_aload_n hJ (j := 0) rfl rfl dX5_addStreet_13 ?_
    refine w_geti hJ (fi := 7) rfl (by omega) rfl rfl f_X5_58 dX5_addStreet_14 ?_
    refine j_topi (y := zI (n : Int)) (by rw [x1]) ?_
    refine j_bipush hJ (v := 16) (by decide) dX5_addStreet_17 ?_
    refine j_icmp_ne hJ (tgt := 26) ⟨by omega, by omega⟩ ⟨by omega, by omega⟩ (by decide) dX5_addStreet_19 ?_ ?_
    · intro h19
      refine j_iconst hJ dX5_addStreet_26 ?_
      refine w_puti hJ (fi := 16) rfl (by omega) rfl rfl f_X5_54 rfl rfl dX5_addStreet_27 ?_
      intro ν1 hν1
      have hM := hν1
      have hS := hX.scratch (ν' := ν1) (by rw [hM]; exact FrM.last)
      refine j_aload_n hJ (j := 0) rfl rfl dX5_addStreet_30 ?_
      refine w_geti hJ (fi := 16) rfl (by omega) rfl rfl f_X5_54 dX5_addStreet_31 ?_
      refine j_topi (y := zI 0) (by rw [hM, up_self]) ?_
      refine j_if_le hJ (tgt := 39) ⟨by omega, by omega⟩ (by decide) dX5_addStreet_34 ?_ ?_
      · intro h34
        refine j_aload_n hJ (j := 0) rfl rfl dX5_addStreet_39 ?_
        refine j_aload_n hJ (j := 0) rfl rfl dX5_addStreet_40 ?_
        refine w_geti hJ (fi := 7) rfl (by omega) rfl rfl f_X5_58 dX5_addStreet_41 ?_
        refine j_topi (y := zI (n : Int)) (by rw [hS.1]) ?_
        refine j_iload_n hJ (j := 1) rfl rfl dX5_addStreet_44 ?_
        refine j_iload_n hJ (j := 2) rfl rfl dX5_addStreet_45 ?_
        refine j_callV0 hJ (c_X5_gives hfl (i := n) (by omega) hok) m_X5_93 k_X5_gives (q0 := 0) (by rw [gw_get (by decide)]; rfl) rfl ⟨(Nat.le_of_ble_eq_true rfl), (Nat.le_of_ble_eq_true rfl)⟩ ⟨(Nat.le_of_ble_eq_true rfl), (Nat.le_of_ble_eq_true rfl)⟩ (Nat.le_of_ble_eq_true rfl) dX5_addStreet_46 rfl ?_
        intro v4 u5 hv6
        obtain ⟨ν2, rfl, rfl, h46⟩ := hv6
        show J (gw 14 MSh cy b ν2 ++ E) 0 0 49 [(0, .ref (b 0)), (1, .int (zI w)), (2, .int (zI z))] []
        obtain ⟨g1, g2, g3, g4⟩ := h46
        have e0 : ν2 0 = _ := g2 0 (by omega) (by omega)
        refine j_aload_n hJ (j := 0) rfl rfl dX5_addStreet_49 ?_
        refine j_dup hJ rfl dX5_addStreet_50 ?_
        refine w_geti hJ (fi := 7) rfl (by omega) rfl rfl f_X5_58 dX5_addStreet_51 ?_
        refine j_topi (y := zI (n : Int)) (by rw [e0, hS.1]) ?_
        refine j_iconst hJ dX5_addStreet_54 ?_
        refine j_iadd hJ dX5_addStreet_55 ?_
        refine w_puti hJ (fi := 7) rfl (by omega) rfl rfl f_X5_58 rfl rfl dX5_addStreet_56 ?_
        intro ν3 hν3
        have hM2 := hν3
        refine j_aload_n hJ (j := 0) rfl rfl dX5_addStreet_59 ?_
        refine w_geti hJ (fi := 7) rfl (by omega) rfl rfl f_X5_58 dX5_addStreet_60 ?_
        refine j_topi (y := zI ((n : Int) + 1)) (by rw [hM2, up_self]) ?_
        refine j_iconst hJ dX5_addStreet_63 ?_
        refine j_isub hJ dX5_addStreet_64 ?_
        have hA := hS.addS (by omega) g1 g2 g3 g4
        refine j_iret hJ rfl rfl (rfl) (Nat.le_of_ble_eq_true rfl) (Nat.le_of_ble_eq_true rfl) dX5_addStreet_65 ⟨(((n : Int) + 1) - 1), ν3, rfl, rfl, ?_⟩
        refine Or.inl ⟨hok, by omega, ?_, by omega, by rw [hM2]; exact hA⟩
        rw [hM2]
        unfold up
        rw [if_neg (by omega), e0, hM, up_self]
      · intro h34
        omega
    · intro h19
      refine j_iconst hJ dX5_addStreet_22 ?_
      refine j_goto hJ (tgt := 27) (by decide) dX5_addStreet_23 ?_
      refine w_puti hJ (fi := 16) rfl (by omega) rfl rfl f_X5_54 rfl rfl dX5_addStreet_27 ?_
      intro ν4 hν4
      have hM := hν4
      have hS := hX.scratch (ν' := ν4) (by rw [hM]; exact FrM.last)
      refine j_aload_n hJ (j := 0) rfl rfl dX5_addStreet_30 ?_
      refine w_geti hJ (fi := 16) rfl (by omega) rfl rfl f_X5_54 dX5_addStreet_31 ?_
      refine j_topi (y := zI 2) (by rw [hM, up_self]) ?_
      refine j_if_le hJ (tgt := 39) ⟨by omega, by omega⟩ (by decide) dX5_addStreet_34 ?_ ?_
      · intro h34
        omega
      · intro h34
        refine j_iconst hJ dX5_addStreet_37 ?_
        refine j_iret hJ rfl rfl (rfl) (Nat.le_of_ble_eq_true rfl) (Nat.le_of_ble_eq_true rfl) dX5_addStreet_38 ⟨0, ν4, rfl, rfl, ?_⟩
        exact Or.inr (Or.inr ⟨by rw [hM, up_self], hok, by omega, hS⟩)
  · intro h6
    have hno : ¬ NmOK w z := h3.elim (fun g => by exfalso; omega) (fun g => g.2)
    refine j_iconst hJ dX5_addStreet_9 ?_
    refine j_goto hJ (tgt := 27) (by decide) dX5_addStreet_10 ?_
    refine w_puti hJ (fi := 16) rfl (by omega) rfl rfl f_X5_54 rfl rfl dX5_addStreet_27 ?_
    intro ν5 hν5
    have hM := hν5
    have hS := hX.scratch (ν' := ν5) (by rw [hM]; exact FrM.last)
    refine j_aload_n hJ (j := 0) rfl rfl dX5_addStreet_30 ?_
    refine w_geti hJ (fi := 16) rfl (by omega) rfl rfl f_X5_54 dX5_addStreet_31 ?_
    refine j_topi (y := zI 1) (by rw [hM, up_self]) ?_
    refine j_if_le hJ (tgt := 39) ⟨by omega, by omega⟩ (by decide) dX5_addStreet_34 ?_ ?_
    · intro h34
      omega
    · intro h34
      refine j_iconst hJ dX5_addStreet_37 ?_
      refine j_iret hJ rfl rfl (rfl) (Nat.le_of_ble_eq_true rfl) (Nat.le_of_ble_eq_true rfl) dX5_addStreet_38 ⟨0, ν5, rfl, rfl, ?_⟩
      exact Or.inr (Or.inl ⟨by rw [hM, up_self], hno, hS⟩)
set_option maxHeartbeats 4000000 in
set_option maxRecDepth 100000 in
theorem c_X5_dropPoint {ν : Nat → Int → Int} {kd : Int → Int} {n : Nat} {N : Nat → List Int} {ow : Nat → Int} {m : Nat → Nat} {p : Nat → Nat → Int} {s : Int} (hfl : l.stackTraces = false) (hX : MI ν kd n N ow m p) (hsR : -2147483648 ≤ s ∧ s < 2147483648) : CT l D cy n0 ad yX5_dropPoint (.code yX5_dropPoint cX5_dropPoint 3 (some .int)) ({ frames := 3, cells := 0, slots := 0, locals := 66 }) [.ref (b 0), .int (zI s)] (gw 14 MSh cy b ν ++ E) (fun vv uu => ∃ q μ', vv = some (.int (zI q)) ∧ uu = (gw 14 MSh cy b μ' ++ E) ∧ ((StOK n s ∧ 0 < m s.toNat ∧ μ' 0 16 = 0 ∧ q = ((trk (p s.toNat) (m s.toNat - 1)).length : Nat) ∧ MI μ' kd n N ow (fset m s.toNat (m s.toNat - 1)) p) ∨ (μ' 0 16 = 1 ∧ ¬ StOK n s ∧ MI μ' kd n N ow m p) ∨ (μ' 0 16 = 2 ∧ StOK n s ∧ m s.toNat = 0 ∧ MI μ' kd n N ow m p))) := by
  obtain ⟨x1, x2, x3, x4, x5, x6, x7, x8⟩ := id hX
  refine CT.walk hfl (by decide) (Nat.le_of_ble_eq_true rfl) ?_
  intro A J hJ
  show J (gw 14 MSh cy b ν ++ E) 0 0 0 [(0, .ref (b 0)), (1, .int (zI s))] []
  refine j_aload_n hJ (j := 0) rfl rfl dX5_dropPoint_0 ?_
  refine j_iload_n hJ (j := 1) rfl rfl dX5_dropPoint_1 ?_
  refine j_callV0 hJ (c_X5_isStreet hfl (n := n) hsR x1 x2) m_X5_97 k_X5_isStreet (q0 := 0) (by rw [gw_get (by decide)]; rfl) rfl ⟨(Nat.le_of_ble_eq_true rfl), (Nat.le_of_ble_eq_true rfl)⟩ ⟨(Nat.le_of_ble_eq_true rfl), (Nat.le_of_ble_eq_true rfl)⟩ (Nat.le_of_ble_eq_true rfl) dX5_dropPoint_2 rfl ?_
  intro v1 u2 hv3
  obtain ⟨q2, rfl, rfl, h2⟩ := hv3
  show J (gw 14 MSh cy b ν ++ E) 0 0 5 [(0, .ref (b 0)), (1, .int (zI s))] [.int (zI q2)]
  refine j_istore_n hJ (lv' := [(2, .int (zI q2)), (0, .ref (b 0)), (1, .int (zI s))]) rfl (by decide) rfl dX5_dropPoint_5 ?_
  refine j_aload_n hJ (j := 1) rfl rfl dX5_dropPoint_6 ?_
  refine j_iload_n hJ (j := 0) rfl rfl dX5_dropPoint_7 ?_
  refine j_if_ne hJ (tgt := 15) ⟨by omega, by omega⟩ (by decide) dX5_dropPoint_8 ?_ ?_
  · intro h8
    have hs : StOK n s := h2.elim (fun g => g.2) (fun g => absurd g.1 h8)
    obtain ⟨hs1, hs2⟩ := id hs
    have hp := x7 s.toNat (by omega)
    have hp1 := hp.1
    have hp2 := hp.2.1
    rw [Int.toNat_of_nonneg hs1] at hp1
    refine j_aload_n hJ (j := 1) rfl rfl dX5_dropPoint_15 ?_
    refine w_getr hJ (by omega) rfl rfl f_X5_25 dX5_dropPoint_16 ?_
    refine j_iload_n hJ (j := 2) rfl rfl dX5_dropPoint_19 ?_
    refine w_iald hJ (by omega) rfl (by first | decide | omega) (by omega) (by omega) dX5_dropPoint_20 ?_
    refine j_topi (y := zI (m s.toNat : Int)) (by rw [hp1]) ?_
    refine j_if_le hJ (tgt := 28) ⟨by omega, by omega⟩ (by decide) dX5_dropPoint_21 ?_ ?_
    · intro h21
      refine j_iconst hJ dX5_dropPoint_28 ?_
      refine w_puti hJ (fi := 16) rfl (by omega) rfl rfl f_X5_54 rfl rfl dX5_dropPoint_29 ?_
      intro ν1 hν1
      have hM := hν1
      have hS := hX.scratch (ν' := ν1) (by rw [hM]; exact FrM.last)
      refine j_aload_n hJ (j := 1) rfl rfl dX5_dropPoint_32 ?_
      refine w_geti hJ (fi := 16) rfl (by omega) rfl rfl f_X5_54 dX5_dropPoint_33 ?_
      refine j_topi (y := zI 2) (by rw [hM, up_self]) ?_
      refine j_if_le hJ (tgt := 41) ⟨by omega, by omega⟩ (by decide) dX5_dropPoint_36 ?_ ?_
      · intro h36
        omega
      · intro h36
        refine j_iconst hJ dX5_dropPoint_39 ?_
        refine j_iret hJ rfl rfl (rfl) (Nat.le_of_ble_eq_true rfl) (Nat.le_of_ble_eq_true rfl) dX5_dropPoint_40 ⟨0, ν1, rfl, rfl, ?_⟩
        exact Or.inr (Or.inr ⟨by rw [hM, up_self], hs, by omega, hS⟩)
    · intro h21
      refine j_iconst hJ dX5_dropPoint_24 ?_
      refine j_goto hJ (tgt := 29) (by decide) dX5_dropPoint_25 ?_
      refine w_puti hJ (fi := 16) rfl (by omega) rfl rfl f_X5_54 rfl rfl dX5_dropPoint_29 ?_
      intro ν2 hν2
      have hM := hν2
      have hS := hX.scratch (ν' := ν2) (by rw [hM]; exact FrM.last)
      refine j_aload_n hJ (j := 1) rfl rfl dX5_dropPoint_32 ?_
      refine w_geti hJ (fi := 16) rfl (by omega) rfl rfl f_X5_54 dX5_dropPoint_33 ?_
      refine j_topi (y := zI 0) (by rw [hM, up_self]) ?_
      refine j_if_le hJ (tgt := 41) ⟨by omega, by omega⟩ (by decide) dX5_dropPoint_36 ?_ ?_
      · intro h36
        refine j_aload_n hJ (j := 1) rfl rfl dX5_dropPoint_41 ?_
        refine w_getr hJ (by omega) rfl rfl f_X5_25 dX5_dropPoint_42 ?_
        refine j_iload_n hJ (j := 2) rfl rfl dX5_dropPoint_45 ?_
        refine j_dup2 hJ rfl rfl dX5_dropPoint_46 ?_
        refine w_iald hJ (by omega) rfl (by first | decide | omega) (by omega) (by omega) dX5_dropPoint_47 ?_
        refine j_topi (y := zI (m s.toNat : Int)) (by rw [hM, up_rowf (by omega), hp1]) ?_
        refine j_iconst hJ dX5_dropPoint_48 ?_
        refine j_isub hJ dX5_dropPoint_49 ?_
        refine w_iast hJ (by omega) rfl (by first | decide | omega) (by omega) (by omega) dX5_dropPoint_50 ?_
        intro ν3 hν3
        have hM2 := hν3
        have hP2 : PtM ν3 s.toNat (p s.toNat) (m s.toNat - 1) := ⟨by rw [hM2, Int.toNat_of_nonneg hs1, up_self]; omega, by omega, hp.2.2.1.less (by omega), fun k hk => by rw [hM2, up_rowf (by omega), hM, up_rowf (by omega)]; exact hp.2.2.2 k (by omega)⟩
        have hS2 := hS.setP (i := s.toNat) (by omega) hP2 (fun a g1 g2 => by rw [hM2, up_rowf g2]) (fun j g => by rw [hM2, up_at (by omega)]) (fun j g => by rw [hM2, up_rowf (by omega)])
        rw [fset_self] at hS2
        refine j_aload_n hJ (j := 1) rfl rfl dX5_dropPoint_51 ?_
        refine j_iload_n hJ (j := 2) rfl rfl dX5_dropPoint_52 ?_
        refine j_topi (y := zI (s.toNat : Int)) (by rw [Int.toNat_of_nonneg hs1]) ?_
        refine j_callV0 hJ (c_X5_tracked hfl (i := s.toNat) (by omega) hP2) m_X5_108 k_X5_tracked (q0 := 0) (by rw [gw_get (by decide)]; rfl) rfl ⟨(Nat.le_of_ble_eq_true rfl), (Nat.le_of_ble_eq_true rfl)⟩ ⟨(Nat.le_of_ble_eq_true rfl), (Nat.le_of_ble_eq_true rfl)⟩ (Nat.le_of_ble_eq_true rfl) dX5_dropPoint_53 rfl ?_
        intro v4 u5 hv6
        obtain ⟨q53, ν4, rfl, rfl, h53⟩ := hv6
        show J (gw 14 MSh cy b ν4 ++ E) 0 0 56 [(2, .int (zI q2)), (0, .ref (b 0)), (1, .int (zI s))] [.int (zI q53)]
        refine j_iret hJ rfl rfl (rfl) (Nat.le_of_ble_eq_true rfl) (Nat.le_of_ble_eq_true rfl) dX5_dropPoint_56 ⟨q53, ν4, rfl, rfl, ?_⟩
        obtain ⟨g1, g2, g3⟩ := h53
        exact Or.inl ⟨hs, by omega, by rw [g3.2 16 (by omega), hM2, up_rowf (by omega), hM, up_self], g1, hS2.scratch g3.M⟩
      · intro h36
        omega
  · intro h8
    have hno : ¬ StOK n s := h2.elim (fun g => by exfalso; omega) (fun g => g.2)
    refine j_iconst hJ dX5_dropPoint_11 ?_
    refine j_goto hJ (tgt := 29) (by decide) dX5_dropPoint_12 ?_
    refine w_puti hJ (fi := 16) rfl (by omega) rfl rfl f_X5_54 rfl rfl dX5_dropPoint_29 ?_
    intro ν5 hν5
    have hM := hν5
    have hS := hX.scratch (ν' := ν5) (by rw [hM]; exact FrM.last)
    refine j_aload_n hJ (j := 1) rfl rfl dX5_dropPoint_32 ?_
    refine w_geti hJ (fi := 16) rfl (by omega) rfl rfl f_X5_54 dX5_dropPoint_33 ?_
    refine j_topi (y := zI 1) (by rw [hM, up_self]) ?_
    refine j_if_le hJ (tgt := 41) ⟨by omega, by omega⟩ (by decide) dX5_dropPoint_36 ?_ ?_
    · intro h36
      omega
    · intro h36
      refine j_iconst hJ dX5_dropPoint_39 ?_
      refine j_iret hJ rfl rfl (rfl) (Nat.le_of_ble_eq_true rfl) (Nat.le_of_ble_eq_true rfl) dX5_dropPoint_40 ⟨0, ν5, rfl, rfl, ?_⟩
      exact Or.inr (Or.inl ⟨by rw [hM, up_self], hno, hS⟩)
set_option maxHeartbeats 4000000 in
set_option maxRecDepth 100000 in
theorem c_X5_setOneWay {ν : Nat → Int → Int} {kd : Int → Int} {n : Nat} {N : Nat → List Int} {ow : Nat → Int} {m : Nat → Nat} {p : Nat → Nat → Int} {s f : Int} (hfl : l.stackTraces = false) (hX : MI ν kd n N ow m p) (hsR : -2147483648 ≤ s ∧ s < 2147483648) (hf : f = 0 ∨ f = 1) : CT l D cy n0 ad yX5_setOneWay (.code yX5_setOneWay cX5_setOneWay 4 (some .boolean)) ({ frames := 2, cells := 0, slots := 0, locals := 43 }) [.ref (b 0), .int (zI s), .int (zI f)] (gw 14 MSh cy b ν ++ E) (fun vv uu => ∃ q μ', vv = some (.int (zI q)) ∧ uu = (gw 14 MSh cy b μ' ++ E) ∧ ((StOK n s ∧ μ' 0 16 = 0 ∧ q = ow s.toNat ∧ MI μ' kd n N (fset ow s.toNat f) m p) ∨ (μ' 0 16 = 1 ∧ ¬ StOK n s ∧ MI μ' kd n N ow m p))) := by
  obtain ⟨x1, x2, x3, x4, x5, x6, x7, x8⟩ := id hX
  refine CT.walk hfl (by decide) (Nat.le_of_ble_eq_true rfl) ?_
  intro A J hJ
  show J (gw 14 MSh cy b ν ++ E) 0 0 0 [(0, .ref (b 0)), (1, .int (zI s)), (2, .int (zI f))] []
  refine j_aload_n hJ (j := 0) rfl rfl dX5_setOneWay_0 ?_
  refine j_aload_n hJ (j := 0) rfl rfl dX5_setOneWay_1 ?_
  refine j_iload_n hJ (j := 1) rfl rfl dX5_setOneWay_2 ?_
  refine j_callV0 hJ (c_X5_isStreet hfl (n := n) hsR x1 x2) m_X5_97 k_X5_isStreet (q0 := 0) (by rw [gw_get (by decide)]; rfl) rfl ⟨(Nat.le_of_ble_eq_true rfl), (Nat.le_of_ble_eq_true rfl)⟩ ⟨(Nat.le_of_ble_eq_true rfl), (Nat.le_of_ble_eq_true rfl)⟩ (Nat.le_of_ble_eq_true rfl) dX5_setOneWay_3 rfl ?_
  intro v1 u2 hv3
  obtain ⟨q3, rfl, rfl, h3⟩ := hv3
  show J (gw 14 MSh cy b ν ++ E) 0 0 6 [(0, .ref (b 0)), (1, .int (zI s)), (2, .int (zI f))] [.int (zI q3), .ref (b 0)]
  have hq3 : q3 = 0 ∨ q3 = 1 := by omega
  refine j_iconst hJ dX5_setOneWay_6 ?_
  refine j_iconst hJ dX5_setOneWay_7 ?_
  refine j_callV0 hJ (c_X5_goes hfl hq3 (Or.inr rfl) (Or.inr rfl)) m_X5_104 k_X5_goes (q0 := 0) (by rw [gw_get (by decide)]; rfl) rfl ⟨(Nat.le_of_ble_eq_true rfl), (Nat.le_of_ble_eq_true rfl)⟩ ⟨(Nat.le_of_ble_eq_true rfl), (Nat.le_of_ble_eq_true rfl)⟩ (Nat.le_of_ble_eq_true rfl) dX5_setOneWay_8 rfl ?_
  intro v4 u5 hv6
  obtain ⟨q8, ν1, rfl, rfl, h8⟩ := hv6
  show J (gw 14 MSh cy b ν1 ++ E) 0 0 11 [(0, .ref (b 0)), (1, .int (zI s)), (2, .int (zI f))] [.int (zI q8)]
  obtain ⟨hM, hq8⟩ := h8
  have hS := hX.scratch (ν' := ν1) (by rw [hM]; exact FrM.last)
  have hg : (q3 = 0 ∧ goC q3 1 1 = 1) ∨ (q3 = 1 ∧ goC q3 1 1 = 0) := by unfold goC; rcases hq3 with e | e <;> rw [e] <;> simp
  have hq8' : (q3 = 0 ∧ q8 = 0) ∨ (q3 = 1 ∧ q8 = 1) := by rcases hg with ⟨e, g⟩ | ⟨e, g⟩ <;> rw [g] at hq8 <;> simp at hq8 <;> omega
  refine j_if_ne hJ (tgt := 16) ⟨by omega, by omega⟩ (by decide) dX5_setOneWay_11 ?_ ?_
  · intro h11
    have hs : StOK n s := h3.elim (fun g => g.2) (fun g => by exfalso; omega)
    obtain ⟨hs1, hs2⟩ := id hs
    have ho := x6 s.toNat (by omega)
    rw [Int.toNat_of_nonneg hs1] at ho
    refine j_aload_n hJ (j := 0) rfl rfl dX5_setOneWay_16 ?_
    refine w_getr hJ (by omega) rfl rfl f_X5_28 dX5_setOneWay_17 ?_
    refine j_iload_n hJ (j := 1) rfl rfl dX5_setOneWay_20 ?_
    refine w_zald hJ (by omega) rfl (by first | decide | omega) (by omega) (by omega) dX5_setOneWay_21 ?_
    refine j_topi (y := zI (ow s.toNat)) (by rw [hM, up_rowf (by omega), ho.1]) ?_
    refine j_istore_n hJ (lv' := [(3, .int (zI (ow s.toNat))), (0, .ref (b 0)), (1, .int (zI s)), (2, .int (zI f))]) rfl (by decide) rfl dX5_setOneWay_22 ?_
    refine j_aload_n hJ (j := 1) rfl rfl dX5_setOneWay_23 ?_
    refine w_getr hJ (by omega) rfl rfl f_X5_28 dX5_setOneWay_24 ?_
    refine j_iload_n hJ (j := 2) rfl rfl dX5_setOneWay_27 ?_
    refine j_iload_n hJ (j := 3) rfl rfl dX5_setOneWay_28 ?_
    refine w_zast hJ (by omega) rfl (by first | decide | omega) (by omega) (by omega) (by omega) dX5_setOneWay_29 ?_
    intro ν2 hν2
    have hM2 := hν2
    refine j_iload_n hJ (j := 0) rfl rfl dX5_setOneWay_30 ?_
    refine j_iret hJ rfl rfl (b01n ho.2) (Nat.le_of_ble_eq_true rfl) (Nat.le_of_ble_eq_true rfl) dX5_setOneWay_31 ⟨(ow s.toNat), ν2, rfl, rfl, ?_⟩
    refine Or.inl ⟨hs, ?_, rfl, ?_⟩
    · rw [hM2, up_rowf (by omega), hM, up_self]; omega
    · rw [hM2]
      have := hS.setO (i := s.toNat) (f := f) (by omega) hf
      rwa [Int.toNat_of_nonneg hs1] at this
  · intro h11
    have hno : ¬ StOK n s := h3.elim (fun g => by exfalso; omega) (fun g => g.2)
    refine j_iconst hJ dX5_setOneWay_14 ?_
    refine j_iret hJ rfl rfl (rfl) (Nat.le_of_ble_eq_true rfl) (Nat.le_of_ble_eq_true rfl) dX5_setOneWay_15 ⟨0, ν1, rfl, rfl, ?_⟩
    refine Or.inr ⟨?_, hno, hS⟩
    rw [hM, up_self]; omega
set_option maxHeartbeats 4000000 in
set_option maxRecDepth 100000 in
theorem c_X5_placeOf {ν : Nat → Int → Int} {kd : Int → Int} {n : Nat} {N : Nat → List Int} {ow : Nat → Int} {m : Nat → Nat} {p : Nat → Nat → Int} {s : Int} (hfl : l.stackTraces = false) (hX : MI ν kd n N ow m p) (hsR : -2147483648 ≤ s ∧ s < 2147483648) : CT l D cy n0 ad yX5_placeOf (.code yX5_placeOf cX5_placeOf 2 (some .int)) ({ frames := 4, cells := 0, slots := 0, locals := 98 }) [.ref (b 0), .int (zI s)] (gw 14 MSh cy b ν ++ E) (fun vv uu => ∃ q μ', vv = some (.int (zI q)) ∧ uu = (gw 14 MSh cy b μ' ++ E) ∧ ((StOK n s ∧ μ' 0 16 = 0 ∧ q = (cnt kd N n s.toNat : Nat) ∧ MI μ' kd n N ow m p) ∨ (μ' 0 16 = 1 ∧ ¬ StOK n s ∧ MI μ' kd n N ow m p))) := by
  obtain ⟨x1, x2, x3, x4, x5, x6, x7, x8⟩ := id hX
  refine CT.walk hfl (by decide) (Nat.le_of_ble_eq_true rfl) ?_
  intro A J hJ
  show J (gw 14 MSh cy b ν ++ E) 0 0 0 [(0, .ref (b 0)), (1, .int (zI s))] []
  refine j_aload_n hJ (j := 0) rfl rfl dX5_placeOf_0 ?_
  refine j_aload_n hJ (j := 0) rfl rfl dX5_placeOf_1 ?_
  refine j_iload_n hJ (j := 1) rfl rfl dX5_placeOf_2 ?_
  refine j_callV0 hJ (c_X5_isStreet hfl (n := n) hsR x1 x2) m_X5_97 k_X5_isStreet (q0 := 0) (by rw [gw_get (by decide)]; rfl) rfl ⟨(Nat.le_of_ble_eq_true rfl), (Nat.le_of_ble_eq_true rfl)⟩ ⟨(Nat.le_of_ble_eq_true rfl), (Nat.le_of_ble_eq_true rfl)⟩ (Nat.le_of_ble_eq_true rfl) dX5_placeOf_3 rfl ?_
  intro v1 u2 hv3
  obtain ⟨q3, rfl, rfl, h3⟩ := hv3
  show J (gw 14 MSh cy b ν ++ E) 0 0 6 [(0, .ref (b 0)), (1, .int (zI s))] [.int (zI q3), .ref (b 0)]
  have hq3 : q3 = 0 ∨ q3 = 1 := by omega
  refine j_iconst hJ dX5_placeOf_6 ?_
  refine j_iconst hJ dX5_placeOf_7 ?_
  refine j_callV0 hJ (c_X5_goes hfl hq3 (Or.inr rfl) (Or.inr rfl)) m_X5_104 k_X5_goes (q0 := 0) (by rw [gw_get (by decide)]; rfl) rfl ⟨(Nat.le_of_ble_eq_true rfl), (Nat.le_of_ble_eq_true rfl)⟩ ⟨(Nat.le_of_ble_eq_true rfl), (Nat.le_of_ble_eq_true rfl)⟩ (Nat.le_of_ble_eq_true rfl) dX5_placeOf_8 rfl ?_
  intro v4 u5 hv6
  obtain ⟨q8, ν1, rfl, rfl, h8⟩ := hv6
  show J (gw 14 MSh cy b ν1 ++ E) 0 0 11 [(0, .ref (b 0)), (1, .int (zI s))] [.int (zI q8)]
  obtain ⟨hM, hq8⟩ := h8
  have hS := hX.scratch (ν' := ν1) (by rw [hM]; exact FrM.last)
  have hg : (q3 = 0 ∧ goC q3 1 1 = 1) ∨ (q3 = 1 ∧ goC q3 1 1 = 0) := by unfold goC; rcases hq3 with e | e <;> rw [e] <;> simp
  have hq8' : (q3 = 0 ∧ q8 = 0) ∨ (q3 = 1 ∧ q8 = 1) := by rcases hg with ⟨e, g⟩ | ⟨e, g⟩ <;> rw [g] at hq8 <;> simp at hq8 <;> omega
  refine j_if_eq hJ (tgt := 22) ⟨by omega, by omega⟩ (by decide) dX5_placeOf_11 ?_ ?_
  · intro h11
    have hno : ¬ StOK n s := h3.elim (fun g => by exfalso; omega) (fun g => g.2)
    refine j_iconst hJ dX5_placeOf_22 ?_
    refine j_iret hJ rfl rfl (rfl) (Nat.le_of_ble_eq_true rfl) (Nat.le_of_ble_eq_true rfl) dX5_placeOf_23 ⟨0, ν1, rfl, rfl, ?_⟩
    refine Or.inr ⟨?_, hno, hS⟩
    rw [hM, up_self]; omega
  · intro h11
    have hs : StOK n s := h3.elim (fun g => g.2) (fun g => by exfalso; omega)
    obtain ⟨hs1, hs2⟩ := id hs
    refine j_aload_n hJ (j := 0) rfl rfl dX5_placeOf_14 ?_
    refine j_iload_n hJ (j := 1) rfl rfl dX5_placeOf_15 ?_
    refine j_topi (y := zI (s.toNat : Int)) (by rw [Int.toNat_of_nonneg hs1]) ?_
    refine j_callV0 hJ (c_X5_countAhead hfl hS (t := s.toNat) (by omega)) m_X5_112 k_X5_countAhead (q0 := 0) (by rw [gw_get (by decide)]; rfl) rfl ⟨(Nat.le_of_ble_eq_true rfl), (Nat.le_of_ble_eq_true rfl)⟩ ⟨(Nat.le_of_ble_eq_true rfl), (Nat.le_of_ble_eq_true rfl)⟩ (Nat.le_of_ble_eq_true rfl) dX5_placeOf_16 rfl ?_
    intro v7 u8 hv9
    obtain ⟨q16, ν2, rfl, rfl, h16⟩ := hv9
    show J (gw 14 MSh cy b ν2 ++ E) 0 0 19 [(0, .ref (b 0)), (1, .int (zI s))] [.int (zI q16)]
    refine j_goto hJ (tgt := 23) (by decide) dX5_placeOf_19 ?_
    refine j_iret hJ rfl rfl (rfl) (Nat.le_of_ble_eq_true rfl) (Nat.le_of_ble_eq_true rfl) dX5_placeOf_23 ⟨q16, ν2, rfl, rfl, ?_⟩
    refine Or.inl ⟨hs, ?_, h16.1, hS.scratch (FrM.of h16.2)⟩
    rw [h16.2 0 (by omega) (by omega), hM, up_self]; omega
end
