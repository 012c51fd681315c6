
section
variable {l : Launch} {D : va_G} {cy : Nat → ClassId} {n0 : Nat} {ad : Nat → Nat} {b : Nat → Nat} {E : va_W} {ws : va_W}
set_option maxHeartbeats 4000000 in
set_option maxRecDepth 100000 in
theorem c_X5_rename {ν : Nat → Int → Int} {kd : Int → Int} {n : Nat} {N : Nat → List Int} {ow : Nat → Int} {m : Nat → Nat} {p : Nat → Nat → Int} {s w z : Int} (hfl : l.stackTraces = false) (hX : MI ν kd n N ow m p) (hsR : -2147483648 ≤ s ∧ s < 2147483648) (hwR : -2147483648 ≤ w ∧ w < 2147483648) : CT l D cy n0 ad yX5_rename (.code yX5_rename cX5_rename 4 none) ({ frames := 2, cells := 0, slots := 0, locals := 45 }) [.ref (b 0), .int (zI s), .int (zI w), .int (zI z)] (gw 14 MSh cy b ν ++ E) (fun vv uu => ∃ μ', vv = none ∧ uu = (gw 14 MSh cy b μ' ++ E) ∧ ((StOK n s ∧ NmOK w z ∧ μ' 0 16 = 0 ∧ MI μ' kd n (fset N s.toNat (nameL z w.toNat)) ow m p) ∨ (μ' 0 16 = 1 ∧ ¬ StOK n s ∧ MI μ' kd n N ow m p) ∨ (μ' 0 16 = 2 ∧ StOK n s ∧ ¬ NmOK w z ∧ MI μ' kd n N ow m p))) := by
  obtain ⟨x1, x2, x3, x4, x5, x6, x7, x8⟩ := id hX
  refine CT.walk hfl (by decide) (Nat.le_of_ble_eq_true rfl) ?_
  intro A J hJ
  show J (gw 14 MSh cy b ν ++ E) 0 0 0 [(0, .ref (b 0)), (1, .int (zI s)), (2, .int (zI w)), (3, .int (zI z))] []
  refine j_aload_n hJ (j := 0) rfl rfl dX5_rename_0 ?_
  refine j_aload_n hJ (j := 0) rfl rfl dX5_rename_1 ?_
  refine j_iload_n hJ (j := 1) rfl rfl dX5_rename_2 ?_
  refine j_callV0 hJ (c_X5_isStreet hfl (n := n) hsR x1 x2) m_X5_97 k_X5_isStreet (q0 := 0) (by rw [gw_get (by decide)]; rfl) rfl ⟨(Nat.le_of_ble_eq_true rfl), (Nat.le_of_ble_eq_true rfl)⟩ ⟨(Nat.le_of_ble_eq_true rfl), (Nat.le_of_ble_eq_true rfl)⟩ (Nat.le_of_ble_eq_true rfl) dX5_rename_3 rfl ?_
  intro v1 u2 hv3
  obtain ⟨q3, rfl, rfl, h3⟩ := hv3
  show J (gw 14 MSh cy b ν ++ E) 0 0 6 [(0, .ref (b 0)), (1, .int (zI s)), (2, .int (zI w)), (3, .int (zI z))] [.int (zI q3), .ref (b 0)]
  have hq3 : q3 = 0 ∨ q3 = 1 := by omega
  refine j_iload_n hJ (j := 2) rfl rfl dX5_rename_6 ?_
  refine j_iload_n hJ (j := 3) rfl rfl dX5_rename_7 ?_
  refine j_callS0 hJ (c_X5_isName hfl hwR) m_X5_90 k_X5_isName ⟨(Nat.le_of_ble_eq_true rfl), (Nat.le_of_ble_eq_true rfl)⟩ ⟨(Nat.le_of_ble_eq_true rfl), (Nat.le_of_ble_eq_true rfl)⟩ (Nat.le_of_ble_eq_true rfl) dX5_rename_8 rfl ?_
  intro v4 u5 hv6
  obtain ⟨q9, rfl, rfl, h9⟩ := hv6
  show J (gw 14 MSh cy b ν ++ E) 0 0 11 [(0, .ref (b 0)), (1, .int (zI s)), (2, .int (zI w)), (3, .int (zI z))] [.int (zI q9), .int (zI q3), .ref (b 0)]
  have hq9 : q9 = 0 ∨ q9 = 1 := by omega
  refine j_iconst hJ dX5_rename_11 ?_
  refine j_callV0 hJ (c_X5_goes hfl hq3 hq9 (Or.inr rfl)) m_X5_104 k_X5_goes (q0 := 0) (by rw [gw_get (by decide)]; rfl) rfl ⟨(Nat.le_of_ble_eq_true rfl), (Nat.le_of_ble_eq_true rfl)⟩ ⟨(Nat.le_of_ble_eq_true rfl), (Nat.le_of_ble_eq_true rfl)⟩ (Nat.le_of_ble_eq_true rfl) dX5_rename_12 rfl ?_
  intro v7 u8 hv9
  obtain ⟨q8, ν1, rfl, rfl, h8⟩ := hv9
  show J (gw 14 MSh cy b ν1 ++ E) 0 0 15 [(0, .ref (b 0)), (1, .int (zI s)), (2, .int (zI w)), (3, .int (zI z))] [.int (zI q8)]
  obtain ⟨hM, hq8⟩ := h8
  have hS := hX.scratch (ν' := ν1) (by rw [hM]; exact FrM.last)
  have h11 : (1 : Int) = 0 ∨ (1 : Int) = 1 := Or.inr rfl
  have hq8' : (goC q3 q9 1 = 0 ∧ q8 = 1) ∨ (goC q3 q9 1 ≠ 0 ∧ q8 = 0) := by
    by_cases e : goC q3 q9 1 = 0
    · rw [if_pos e] at hq8; exact Or.inl ⟨e, hq8⟩
    · rw [if_neg e] at hq8; exact Or.inr ⟨e, hq8⟩
  have hg := goC_c hq3 hq9 h11
  refine j_if_eq hJ (tgt := 25) ⟨by omega, by omega⟩ (by decide) dX5_rename_15 ?_ ?_
  · intro h15
    refine j_vret hJ rfl rfl (Nat.le_of_ble_eq_true rfl) (Nat.le_of_ble_eq_true rfl) dX5_rename_25 ⟨ν1, rfl, rfl, ?_⟩
    rcases h3 with ⟨e3, g3⟩ | ⟨e3, g3⟩
    · rcases h9 with ⟨e9, g9⟩ | ⟨e9, g9⟩
      · exfalso; omega
      · exact Or.inr (Or.inr ⟨by rw [hM, up_self]; omega, g3, g9, hS⟩)
    · exact Or.inr (Or.inl ⟨by rw [hM, up_self]; omega, g3, hS⟩)
  · intro h15
    have hs : StOK n s := h3.elim (fun g => g.2) (fun g => by exfalso; omega)
    obtain ⟨hs1, hs2⟩ := id hs
    have hok : NmOK w z := h9.elim (fun g => g.2) (fun g => by exfalso; omega)
    refine j_aload_n hJ (j := 0) rfl rfl dX5_rename_18 ?_
    refine j_iload_n hJ (j := 1) rfl rfl dX5_rename_19 ?_
    refine j_topi (y := zI (s.toNat : Int)) (by rw [Int.toNat_of_nonneg hs1]) ?_
    refine j_iload_n hJ (j := 2) rfl rfl dX5_rename_20 ?_
    refine j_iload_n hJ (j := 3) rfl rfl dX5_rename_21 ?_
    refine j_callV0 hJ (c_X5_gives hfl (i := s.toNat) (by omega) hok) m_X5_93 k_X5_gives (q0 := 0) (by rw [gw_get (by decide)]; rfl) rfl ⟨(Nat.le_of_ble_eq_true rfl), (Nat.le_of_ble_eq_true rfl)⟩ ⟨(Nat.le_of_ble_eq_true rfl), (Nat.le_of_ble_eq_true rfl)⟩ (Nat.le_of_ble_eq_true rfl) dX5_rename_22 rfl ?_
    intro v10 u11 hv12
    obtain ⟨ν2, rfl, rfl, h22⟩ := hv12
    show J (gw 14 MSh cy b ν2 ++ E) 0 0 25 [(0, .ref (b 0)), (1, .int (zI s)), (2, .int (zI w)), (3, .int (zI z))] []
    refine j_vret hJ rfl rfl (Nat.le_of_ble_eq_true rfl) (Nat.le_of_ble_eq_true rfl) dX5_rename_25 ⟨ν2, rfl, rfl, ?_⟩
    obtain ⟨g1, g2, g3, g4⟩ := h22
    exact Or.inl ⟨hs, hok, by rw [g2 0 (by omega) (by omega), hM, up_self]; omega, hS.setN (by omega) g1 g2 g3 g4⟩
set_option maxHeartbeats 4000000 in
set_option maxRecDepth 100000 in
theorem c_X5_setKind {ν : Nat → Int → Int} {kd : Int → Int} {n : Nat} {N : Nat → List Int} {ow : Nat → Int} {m : Nat → Nat} {p : Nat → Nat → Int} {w k : Int} (hfl : l.stackTraces = false) (hX : MI ν kd n N ow m p) (hwR : -2147483648 ≤ w ∧ w < 2147483648) (hkR : -2147483648 ≤ k ∧ k < 2147483648) : CT l D cy n0 ad yX5_setKind (.code yX5_setKind cX5_setKind 4 (some .int)) ({ frames := 1, cells := 0, slots := 0, locals := 23 }) [.ref (b 0), .int (zI w), .int (zI k)] (gw 14 MSh cy b ν ++ E) (fun vv uu => ∃ q μ', vv = some (.int (zI q)) ∧ uu = (gw 14 MSh cy b μ' ++ E) ∧ (((0 ≤ w ∧ w < 24) ∧ (0 ≤ k ∧ k ≤ 2) ∧ μ' 0 16 = 0 ∧ q = kd w ∧ MI μ' (kset kd w k) n N ow m p) ∨ (μ' 0 16 = 1 ∧ ¬ (0 ≤ w ∧ w < 24) ∧ MI μ' kd n N ow m p) ∨ (μ' 0 16 = 2 ∧ (0 ≤ w ∧ w < 24) ∧ ¬ (0 ≤ k ∧ k ≤ 2) ∧ MI μ' kd n N ow m p))) := by
  obtain ⟨x1, x2, x3, x4, x5, x6, x7, x8⟩ := id hX
  refine CT.walk hfl (by decide) (Nat.le_of_ble_eq_true rfl) ?_
  intro A J hJ
  show J (gw 14 MSh cy b ν ++ E) 0 0 0 [(0, .ref (b 0)), (1, .int (zI w)), (2, .int (zI k))] []
  refine j_aload_n hJ (j := 0) rfl rfl dX5_setKind_0 ?_
  refine j_iload_n hJ (j := 1) rfl rfl dX5_setKind_1 ?_
  refine j_iconst hJ dX5_setKind_2 ?_
  refine j_bipush hJ (v := 23) (by decide) dX5_setKind_3 ?_
  refine j_callS0 hJ (c_X5_in hfl hwR ⟨by omega, by omega⟩ ⟨by omega, by omega⟩) m_X5_61 k_X5_in ⟨(Nat.le_of_ble_eq_true rfl), (Nat.le_of_ble_eq_true rfl)⟩ ⟨(Nat.le_of_ble_eq_true rfl), (Nat.le_of_ble_eq_true rfl)⟩ (Nat.le_of_ble_eq_true rfl) dX5_setKind_5 rfl ?_
  intro v1 u2 hv3
  obtain ⟨q3, rfl, rfl, h3⟩ := hv3
  show J (gw 14 MSh cy b ν ++ E) 0 0 8 [(0, .ref (b 0)), (1, .int (zI w)), (2, .int (zI k))] [.int (zI q3), .ref (b 0)]
  have hq3 : q3 = 0 ∨ q3 = 1 := by omega
  refine j_iload_n hJ (j := 2) rfl rfl dX5_setKind_8 ?_
  refine j_iconst hJ dX5_setKind_9 ?_
  refine j_iconst hJ dX5_setKind_10 ?_
  refine j_callS0 hJ (c_X5_in hfl hkR ⟨by omega, by omega⟩ ⟨by omega, by omega⟩) m_X5_61 k_X5_in ⟨(Nat.le_of_ble_eq_true rfl), (Nat.le_of_ble_eq_true rfl)⟩ ⟨(Nat.le_of_ble_eq_true rfl), (Nat.le_of_ble_eq_true rfl)⟩ (Nat.le_of_ble_eq_true rfl) dX5_setKind_11 rfl ?_
  intro v4 u5 hv6
  obtain ⟨q9, rfl, rfl, h9⟩ := hv6
  show J (gw 14 MSh cy b ν ++ E) 0 0 14 [(0, .ref (b 0)), (1, .int (zI w)), (2, .int (zI k))] [.int (zI q9), .int (zI q3), .ref (b 0)]
  have hq9 : q9 = 0 ∨ q9 = 1 := by omega
  refine j_iconst hJ dX5_setKind_14 ?_
  refine j_callV0 hJ (c_X5_goes hfl hq3 hq9 (Or.inr rfl)) m_X5_104 k_X5_goes (q0 := 0) (by rw [gw_get (by decide)]; rfl) rfl ⟨(Nat.le_of_ble_eq_true rfl), (Nat.le_of_ble_eq_true rfl)⟩ ⟨(Nat.le_of_ble_eq_true rfl), (Nat.le_of_ble_eq_true rfl)⟩ (Nat.le_of_ble_eq_true rfl) dX5_setKind_15 rfl ?_
  intro v7 u8 hv9
  obtain ⟨q8, ν1, rfl, rfl, h8⟩ := hv9
  show J (gw 14 MSh cy b ν1 ++ E) 0 0 18 [(0, .ref (b 0)), (1, .int (zI w)), (2, .int (zI k))] [.int (zI q8)]
  obtain ⟨hM, hq8⟩ := h8
  have hS := hX.scratch (ν' := ν1) (by rw [hM]; exact FrM.last)
  have h11 : (1 : Int) = 0 ∨ (1 : Int) = 1 := Or.inr rfl
  have hq8' : (goC q3 q9 1 = 0 ∧ q8 = 1) ∨ (goC q3 q9 1 ≠ 0 ∧ q8 = 0) := by
    by_cases e : goC q3 q9 1 = 0
    · rw [if_pos e] at hq8; exact Or.inl ⟨e, hq8⟩
    · rw [if_neg e] at hq8; exact Or.inr ⟨e, hq8⟩
  have hg := goC_c hq3 hq9 h11
  refine j_if_ne hJ (tgt := 23) ⟨by omega, by omega⟩ (by decide) dX5_setKind_18 ?_ ?_
  · intro h18
    have hw : 0 ≤ w ∧ w < 24 := by omega
    have hk : 0 ≤ k ∧ k ≤ 2 := by omega
    refine j_aload_n hJ (j := 0) rfl rfl dX5_setKind_23 ?_
    refine w_getr hJ (by omega) rfl rfl f_X5_13 dX5_setKind_24 ?_
    refine j_iload_n hJ (j := 1) rfl rfl dX5_setKind_27 ?_
    refine w_iald hJ (by omega) rfl (by first | decide | omega) (by omega) (by omega) dX5_setKind_28 ?_
    refine j_topi (y := zI (kd w)) (by rw [hM, up_rowf (by omega), (x3 w hw.1 hw.2).1]) ?_
    refine j_istore_n hJ (lv' := [(3, .int (zI (kd w))), (0, .ref (b 0)), (1, .int (zI w)), (2, .int (zI k))]) rfl (by decide) rfl dX5_setKind_29 ?_
    refine j_aload_n hJ (j := 1) rfl rfl dX5_setKind_30 ?_
    refine w_getr hJ (by omega) rfl rfl f_X5_13 dX5_setKind_31 ?_
    refine j_iload_n hJ (j := 2) rfl rfl dX5_setKind_34 ?_
    refine j_iload_n hJ (j := 3) rfl rfl dX5_setKind_35 ?_
    refine w_iast hJ (by omega) rfl (by first | decide | omega) (by omega) (by omega) dX5_setKind_36 ?_
    intro ν2 hν2
    have hM2 := hν2
    refine j_iload_n hJ (j := 0) rfl rfl dX5_setKind_37 ?_
    refine j_iret hJ rfl rfl (rfl) (Nat.le_of_ble_eq_true rfl) (Nat.le_of_ble_eq_true rfl) dX5_setKind_38 ⟨(kd w), ν2, rfl, rfl, ?_⟩
    refine Or.inl ⟨hw, hk, ?_, rfl, by rw [hM2]; exact hS.setK hk⟩
    rw [hM2, up_rowf (by omega), hM, up_self]; omega
  · intro h18
    refine j_iconst hJ dX5_setKind_21 ?_
    refine j_iret hJ rfl rfl (rfl) (Nat.le_of_ble_eq_true rfl) (Nat.le_of_ble_eq_true rfl) dX5_setKind_22 ⟨0, ν1, rfl, rfl, ?_⟩
    by_cases e : q3 = 0
    · exact Or.inr (Or.inl ⟨by rw [hM, up_self]; omega, by omega, hS⟩)
    · exact Or.inr (Or.inr ⟨by rw [hM, up_self]; omega, by omega, by omega, hS⟩)
set_option maxHeartbeats 4000000 in
set_option maxRecDepth 100000 in
theorem c_X5_streetAt {ν : Nat → Int → Int} {kd : Int → Int} {n : Nat} {N : Nat → List Int} {ow : Nat → Int} {m : Nat → Nat} {p : Nat → Nat → Int} {v : Int} (hfl : l.stackTraces = false) (hX : MI ν kd n N ow m p) (hvR : -2147483648 ≤ v ∧ v < 2147483648) : CT l D cy n0 ad yX5_streetAt (.code yX5_streetAt cX5_streetAt 3 (some .int)) ({ frames := 4, cells := 0, slots := 0, locals := 98 }) [.ref (b 0), .int (zI v)] (gw 14 MSh cy b ν ++ E) (fun vv uu => ∃ q μ', vv = some (.int (zI q)) ∧ uu = (gw 14 MSh cy b μ' ++ E) ∧ ((StOK n v ∧ μ' 0 16 = 0 ∧ (∃ s : Nat, s < n ∧ q = s ∧ (cnt kd N n s : Int) = v) ∧ MI μ' kd n N ow m p) ∨ (μ' 0 16 = 1 ∧ ¬ StOK n v ∧ MI μ' kd n N ow m p))) := by
  obtain ⟨x1, x2, x3, x4, x5, x6, x7, x8⟩ := id hX
  refine CT.walk hfl (by decide) (Nat.le_of_ble_eq_true rfl) ?_
  intro A J hJ
  show J (gw 14 MSh cy b ν ++ E) 0 0 0 [(0, .ref (b 0)), (1, .int (zI v))] []
  refine j_iconst hJ dX5_streetAt_0 ?_
  refine j_istore_n hJ (lv' := [(2, .int (zI 0)), (0, .ref (b 0)), (1, .int (zI v))]) rfl (by decide) rfl dX5_streetAt_1 ?_
  refine j_aload_n hJ (j := 1) rfl rfl dX5_streetAt_2 ?_
  refine j_iload_n hJ (j := 2) rfl rfl dX5_streetAt_3 ?_
  refine j_iconst hJ dX5_streetAt_4 ?_
  refine j_aload_n hJ (j := 1) rfl rfl dX5_streetAt_5 ?_
  refine w_geti hJ (fi := 7) rfl (by omega) rfl rfl f_X5_58 dX5_streetAt_6 ?_
  refine j_topi (y := zI (n : Int)) (by rw [x1]) ?_
  refine j_iconst hJ dX5_streetAt_9 ?_
  refine j_isub hJ dX5_streetAt_10 ?_
  refine j_callS0 hJ (c_X5_in hfl hvR ⟨by omega, by omega⟩ ⟨by omega, by omega⟩) m_X5_61 k_X5_in ⟨(Nat.le_of_ble_eq_true rfl), (Nat.le_of_ble_eq_true rfl)⟩ ⟨(Nat.le_of_ble_eq_true rfl), (Nat.le_of_ble_eq_true rfl)⟩ (Nat.le_of_ble_eq_true rfl) dX5_streetAt_11 rfl ?_
  intro v1 u2 hv3
  obtain ⟨q3, rfl, rfl, h3⟩ := hv3
  show J (gw 14 MSh cy b ν ++ E) 0 0 14 [(2, .int (zI 0)), (0, .ref (b 0)), (1, .int (zI v))] [.int (zI q3), .ref (b 0)]
  have hq3 : q3 = 0 ∨ q3 = 1 := by omega
  refine j_iconst hJ dX5_streetAt_14 ?_
  refine j_iconst hJ dX5_streetAt_15 ?_
  refine j_callV0 hJ (c_X5_goes hfl hq3 (Or.inr rfl) (Or.inr rfl)) m_X5_104 k_X5_goes (q0 := 0) (by rw [gw_get (by decide)]; rfl) rfl ⟨(Nat.le_of_ble_eq_true rfl), (Nat.le_of_ble_eq_true rfl)⟩ ⟨(Nat.le_of_ble_eq_true rfl), (Nat.le_of_ble_eq_true rfl)⟩ (Nat.le_of_ble_eq_true rfl) dX5_streetAt_16 rfl ?_
  intro v4 u5 hv6
  obtain ⟨q8, ν1, rfl, rfl, h8⟩ := hv6
  show J (gw 14 MSh cy b ν1 ++ E) 0 0 19 [(2, .int (zI 0)), (0, .ref (b 0)), (1, .int (zI v))] [.int (zI q8)]
  obtain ⟨hM, hq8⟩ := h8
  have hS := hX.scratch (ν' := ν1) (by rw [hM]; exact FrM.last)
  have h11 : (1 : Int) = 0 ∨ (1 : Int) = 1 := Or.inr rfl
  have hq8' : (goC q3 1 1 = 0 ∧ q8 = 1) ∨ (goC q3 1 1 ≠ 0 ∧ q8 = 0) := by
    by_cases e : goC q3 1 1 = 0
    · rw [if_pos e] at hq8; exact Or.inl ⟨e, hq8⟩
    · rw [if_neg e] at hq8; exact Or.inr ⟨e, hq8⟩
  have hg := goC_c hq3 h11 h11
  refine j_if_eq hJ (tgt := 37) ⟨by omega, by omega⟩ (by decide) dX5_streetAt_19 ?_ ?_
  · intro h19
    refine j_iload_n hJ (j := 0) rfl rfl dX5_streetAt_37 ?_
    refine j_iret hJ rfl rfl (rfl) (Nat.le_of_ble_eq_true rfl) (Nat.le_of_ble_eq_true rfl) dX5_streetAt_38 ⟨0, ν1, rfl, rfl, ?_⟩
    refine Or.inr ⟨?_, by unfold StOK; omega, hS⟩
    rw [hM, up_self]; omega
  · intro h19
    have hv : StOK n v := by unfold StOK; omega
    obtain ⟨hv1, hv2⟩ := id hv
    obtain ⟨u0, hu0, eu0⟩ := cnt_ex (kd := kd) (N := N) (n := n) (v := v.toNat) (by omega)
    have lp22 : ∀ (nn22 : Nat) (νk : Nat → Int → Int) (s : Nat) (hmeas22 : n - s < nn22) (hk : s < n) (hFk : ∀ a, a ≠ 10 → a ≠ 11 → νk a = ν1 a) (hc : ∀ u, u < s → (cnt kd N n u : Int) ≠ v), J (gw 14 MSh cy b νk ++ E) 0 0 22 [(0, .ref (b 0)), (1, .int (zI v)), (2, .int (zI (s : Int)))] [] := by
      intro nn22
      induction nn22 with
      | zero => intro νk s hmeas22 hk hFk hc; omega
      | succ nn22 ih22 =>
        intro νk s hmeas22 hk hFk hc
        
        refine j_aload_n hJ (j := 0) rfl rfl dX5_streetAt_22 ?_
        refine j_iload_n hJ (j := 2) rfl rfl dX5_streetAt_23 ?_
        refine j_callV0 hJ (c_X5_countAhead hfl (hS.scratch (FrM.of hFk)) (t := s) hk) m_X5_112 k_X5_countAhead (q0 := 0) (by rw [gw_get (by decide)]; rfl) rfl ⟨(Nat.le_of_ble_eq_true rfl), (Nat.le_of_ble_eq_true rfl)⟩ ⟨(Nat.le_of_ble_eq_true rfl), (Nat.le_of_ble_eq_true rfl)⟩ (Nat.le_of_ble_eq_true rfl) dX5_streetAt_24 rfl ?_
        intro v7 u8 hv9
        obtain ⟨q24, ν2, rfl, rfl, h24⟩ := hv9
        show J (gw 14 MSh cy b ν2 ++ E) 0 0 27 [(0, .ref (b 0)), (1, .int (zI v)), (2, .int (zI (s : Int)))] [.int (zI q24)]
        obtain ⟨e24, F24⟩ := h24
        have c24 := cnt_lt (kd := kd) (N := N) hk
        refine j_iload_n hJ (j := 1) rfl rfl dX5_streetAt_27 ?_
        refine j_icmp_eq hJ (tgt := 37) ⟨by omega, by omega⟩ ⟨by omega, by omega⟩ (by decide) dX5_streetAt_28 ?_ ?_
        · intro h28
          refine j_iload_n hJ (j := 2) rfl rfl dX5_streetAt_37 ?_
          refine j_iret hJ rfl rfl (rfl) (Nat.le_of_ble_eq_true rfl) (Nat.le_of_ble_eq_true rfl) dX5_streetAt_38 ⟨(s : Int), ν2, rfl, rfl, ?_⟩
          refine Or.inl ⟨hv, ?_, ⟨s, hk, rfl, by omega⟩, (hS.scratch (FrM.of hFk)).scratch (FrM.of F24)⟩
          rw [F24 0 (by omega) (by omega), hFk 0 (by omega) (by omega), hM, up_self]; omega
        · intro h28
          refine j_iinc hJ (lv' := [(2, .int (zI ((s : Int) + 1))), (0, .ref (b 0)), (1, .int (zI v))]) (j := 2) rfl (by omega) (by decide) rfl dX5_streetAt_31 ?_
          refine j_goto hJ (tgt := 22) (by decide) dX5_streetAt_34 ?_
          refine j_locs hJ [1, 2, 0] rfl ?_
          refine ih22 ν2 (s + 1) (by omega) ?_ (by exact fun a g1 g2 => (F24 a g1 g2).trans (hFk a g1 g2)) ?_
          · have g1 : ¬ u0 < s := fun g => hc u0 g (by omega)
            have g2 : u0 ≠ s := fun g => by subst g; omega
            omega
          · intro u hu
            by_cases e : u = s
            · subst e; omega
            · exact hc u (by omega)
    refine j_locs hJ [1, 2, 0] rfl ?_
    exact lp22 (n - 0 + 1) ν1 0 (by omega) (by omega) (by exact fun _ _ _ => rfl) (by intro u hu; omega)
set_option maxHeartbeats 4000000 in
set_option maxRecDepth 100000 in
theorem c_X5_compareKeys {ν : Nat → Int → Int} {kd : Int → Int} {n : Nat} {N : Nat → List Int} {ow : Nat → Int} {m : Nat → Nat} {p : Nat → Nat → Int} {s t : Int} (hfl : l.stackTraces = false) (hX : MI ν kd n N ow m p) (hsR : -2147483648 ≤ s ∧ s < 2147483648) (htR : -2147483648 ≤ t ∧ t < 2147483648) : CT l D cy n0 ad yX5_compareKeys (.code yX5_compareKeys cX5_compareKeys 3 (some .int)) ({ frames := 2, cells := 0, slots := 0, locals := 51 }) [.ref (b 0), .int (zI s), .int (zI t)] (gw 14 MSh cy b ν ++ E) (fun vv uu => ∃ q μ', vv = some (.int (zI q)) ∧ uu = (gw 14 MSh cy b μ' ++ E) ∧ (((StOK n s ∧ StOK n t) ∧ μ' 0 16 = 0 ∧ q = ko kd N s.toNat t.toNat ∧ MI μ' kd n N ow m p) ∨ (μ' 0 16 = 1 ∧ ¬ (StOK n s ∧ StOK n t) ∧ MI μ' kd n N ow m p))) := by
  obtain ⟨x1, x2, x3, x4, x5, x6, x7, x8⟩ := id hX
  refine CT.walk hfl (by decide) (Nat.le_of_ble_eq_true rfl) ?_
  intro A J hJ
  show J (gw 14 MSh cy b ν ++ E) 0 0 0 [(0, .ref (b 0)), (1, .int (zI s)), (2, .int (zI t))] []
  have j22 : ∀ (kn : Int) (hkn : (kn = 1 ∧ StOK n s ∧ StOK n t) ∨ (kn = 0 ∧ ¬ (StOK n s ∧ StOK n t))), J (gw 14 MSh cy b ν ++ E) 0 0 22 [(0, .ref (b 0)), (1, .int (zI s)), (2, .int (zI t))] [.int (zI kn), .ref (b 0)] := by
    intro kn hkn
    refine j_iconst hJ dX5_compareKeys_22 ?_
    have hq3 : kn = 0 ∨ kn = 1 := by omega
    refine j_iconst hJ dX5_compareKeys_23 ?_
    refine j_callV0 hJ (c_X5_goes hfl hq3 (Or.inr rfl) (Or.inr rfl)) m_X5_104 k_X5_goes (q0 := 0) (by rw [gw_get (by decide)]; rfl) rfl ⟨(Nat.le_of_ble_eq_true rfl), (Nat.le_of_ble_eq_true rfl)⟩ ⟨(Nat.le_of_ble_eq_true rfl), (Nat.le_of_ble_eq_true rfl)⟩ (Nat.le_of_ble_eq_true rfl) dX5_compareKeys_24 rfl ?_
    intro v1 u2 hv3
    obtain ⟨q8, ν1, rfl, rfl, h8⟩ := hv3
    show J (gw 14 MSh cy b ν1 ++ E) 0 0 27 [(0, .ref (b 0)), (1, .int (zI s)), (2, .int (zI t))] [.int (zI q8)]
    obtain ⟨hM, hq8⟩ := h8
    have hS := hX.scratch (ν' := ν1) (by rw [hM]; exact FrM.last)
    have h11 : (1 : Int) = 0 ∨ (1 : Int) = 1 := Or.inr rfl
    have hq8' : (goC kn 1 1 = 0 ∧ q8 = 1) ∨ (goC kn 1 1 ≠ 0 ∧ q8 = 0) := by
      by_cases e : goC kn 1 1 = 0
      · rw [if_pos e] at hq8; exact Or.inl ⟨e, hq8⟩
      · rw [if_neg e] at hq8; exact Or.inr ⟨e, hq8⟩
    have hg := goC_c hq3 h11 h11
    refine j_if_eq hJ (tgt := 39) ⟨by omega, by omega⟩ (by decide) dX5_compareKeys_27 ?_ ?_
    · intro h27
      have hno : ¬ (StOK n s ∧ StOK n t) := hkn.elim (fun g => by exfalso; omega) (fun g => g.2)
      refine j_iconst hJ dX5_compareKeys_39 ?_
      refine j_iret hJ rfl rfl (rfl) (Nat.le_of_ble_eq_true rfl) (Nat.le_of_ble_eq_true rfl) dX5_compareKeys_40 ⟨0, ν1, rfl, rfl, ?_⟩
      refine Or.inr ⟨?_, hno, hS⟩
      rw [hM, up_self]; omega
    · intro h27
      have hst : StOK n s ∧ StOK n t := hkn.elim (fun g => g.2) (fun g => by exfalso; omega)
      obtain ⟨⟨hs1, hs2⟩, ht1, ht2⟩ := id hst
      refine j_aload_n hJ (j := 0) rfl rfl dX5_compareKeys_30 ?_
      refine j_iload_n hJ (j := 1) rfl rfl dX5_compareKeys_31 ?_
      refine j_topi (y := zI (s.toNat : Int)) (by rw [Int.toNat_of_nonneg hs1]) ?_
      refine j_iload_n hJ (j := 2) rfl rfl dX5_compareKeys_32 ?_
      refine j_topi (y := zI (t.toNat : Int)) (by rw [Int.toNat_of_nonneg ht1]) ?_
      refine j_callV0 hJ (c_X5_compareOf hfl hS (i := s.toNat) (j := t.toNat) (by omega) (by omega)) m_X5_73 k_X5_compareOf (q0 := 0) (by rw [gw_get (by decide)]; rfl) rfl ⟨(Nat.le_of_ble_eq_true rfl), (Nat.le_of_ble_eq_true rfl)⟩ ⟨(Nat.le_of_ble_eq_true rfl), (Nat.le_of_ble_eq_true rfl)⟩ (Nat.le_of_ble_eq_true rfl) dX5_compareKeys_33 rfl ?_
      intro v4 u5 hv6
      obtain ⟨q33, ν2, rfl, rfl, h33⟩ := hv6
      show J (gw 14 MSh cy b ν2 ++ E) 0 0 36 [(0, .ref (b 0)), (1, .int (zI s)), (2, .int (zI t))] [.int (zI q33)]
      refine j_goto hJ (tgt := 40) (by decide) dX5_compareKeys_36 ?_
      refine j_iret hJ rfl rfl (rfl) (Nat.le_of_ble_eq_true rfl) (Nat.le_of_ble_eq_true rfl) dX5_compareKeys_40 ⟨q33, ν2, rfl, rfl, ?_⟩
      refine Or.inl ⟨hst, ?_, h33.1, hS.scratch (FrM.of h33.2)⟩
      rw [h33.2 0 (by omega) (by omega), hM, up_self]; omega
  refine j_aload_n hJ (j := 0) rfl rfl dX5_compareKeys_0 ?_
  refine j_aload_n hJ (j := 0) rfl rfl dX5_compareKeys_1 ?_
  refine j_iload_n hJ (j := 1) rfl rfl dX5_compareKeys_2 ?_
  refine j_callV0 hJ (c_X5_isStreet hfl (n := n) hsR x1 x2) m_X5_97 k_X5_isStreet (q0 := 0) (by rw [gw_get (by decide)]; rfl) rfl ⟨(Nat.le_of_ble_eq_true rfl), (Nat.le_of_ble_eq_true rfl)⟩ ⟨(Nat.le_of_ble_eq_true rfl), (Nat.le_of_ble_eq_true rfl)⟩ (Nat.le_of_ble_eq_true rfl) dX5_compareKeys_3 rfl ?_
  intro v7 u8 hv9
  obtain ⟨q3, rfl, rfl, h3⟩ := hv9
  show J (gw 14 MSh cy b ν ++ E) 0 0 6 [(0, .ref (b 0)), (1, .int (zI s)), (2, .int (zI t))] [.int (zI q3), .ref (b 0)]
  refine j_if_eq hJ (tgt := 21) ⟨by omega, by omega⟩ (by decide) dX5_compareKeys_6 ?_ ?_
  · intro h6
    refine j_iconst hJ dX5_compareKeys_21 ?_
    refine j22 0 ?_
    · rcases h3 with ⟨e3, g3⟩ | ⟨e3, g3⟩
      · first
        | (exfalso; omega)
        | (rcases h9 with ⟨e9, g9⟩ | ⟨e9, g9⟩
           · first
             | exact Or.inl ⟨rfl, g3, g9⟩
             | (exfalso; omega)
           · first
             | exact Or.inr ⟨rfl, fun g => g9 g.2⟩
             | (exfalso; omega))
      · first
        | exact Or.inr ⟨rfl, fun g => g3 g.1⟩
        | (exfalso; omega)
  · intro h6
    refine j_aload_n hJ (j := 0) rfl rfl dX5_compareKeys_9 ?_
    refine j_iload_n hJ (j := 2) rfl rfl dX5_compareKeys_10 ?_
    refine j_callV0 hJ (c_X5_isStreet hfl (n := n) htR x1 x2) m_X5_97 k_X5_isStreet (q0 := 0) (by rw [gw_get (by decide)]; rfl) rfl ⟨(Nat.le_of_ble_eq_true rfl), (Nat.le_of_ble_eq_true rfl)⟩ ⟨(Nat.le_of_ble_eq_true rfl), (Nat.le_of_ble_eq_true rfl)⟩ (Nat.le_of_ble_eq_true rfl) dX5_compareKeys_11 rfl ?_
    intro v10 u11 hv12
    obtain ⟨q9, rfl, rfl, h9⟩ := hv12
    show J (gw 14 MSh cy b ν ++ E) 0 0 14 [(0, .ref (b 0)), (1, .int (zI s)), (2, .int (zI t))] [.int (zI q9), .ref (b 0)]
    refine j_if_eq hJ (tgt := 21) ⟨by omega, by omega⟩ (by decide) dX5_compareKeys_14 ?_ ?_
    · intro h14
      refine j_iconst hJ dX5_compareKeys_21 ?_
      refine j22 0 ?_
      · rcases h3 with ⟨e3, g3⟩ | ⟨e3, g3⟩
        · first
          | (exfalso; omega)
          | (rcases h9 with ⟨e9, g9⟩ | ⟨e9, g9⟩
             · first
               | exact Or.inl ⟨rfl, g3, g9⟩
               | (exfalso; omega)
             · first
               | exact Or.inr ⟨rfl, fun g => g9 g.2⟩
               | (exfalso; omega))
        · first
          | exact Or.inr ⟨rfl, fun g => g3 g.1⟩
          | (exfalso; omega)
    · intro h14
      refine j_iconst hJ dX5_compareKeys_17 ?_
      refine j_goto hJ (tgt := 22) (by decide) dX5_compareKeys_18 ?_
      refine j22 1 ?_
      · rcases h3 with ⟨e3, g3⟩ | ⟨e3, g3⟩
        · first
          | (exfalso; omega)
          | (rcases h9 with ⟨e9, g9⟩ | ⟨e9, g9⟩
             · first
               | exact Or.inl ⟨rfl, g3, g9⟩
               | (exfalso; omega)
             · first
               | exact Or.inr ⟨rfl, fun g => g9 g.2⟩
               | (exfalso; omega))
        · first
          | exact Or.inr ⟨rfl, fun g => g3 g.1⟩
          | (exfalso; omega)
end
