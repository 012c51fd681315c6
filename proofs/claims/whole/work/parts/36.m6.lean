
set_option maxRecDepth 20000 in
theorem m_X5_125 : MF RX5 125 0 yX5_beginsRun 1 := ⟨Or.inl (List.mem_of_getElem? (i := 1041) (by decide +kernel)), (List.mem_of_getElem? (i := 63) (by decide +kernel)), ⟨by decide +kernel, by decide +kernel⟩, by decide +kernel, fun _ => ⟨(List.mem_of_getElem? (i := 1043) (by decide +kernel)), (List.mem_of_getElem? (i := 53) (by decide +kernel))⟩, fun h => by omega, fun h => by omega⟩
set_option maxRecDepth 20000 in
theorem k_X5_beginsRun : Cond.code yX5_beginsRun cX5_beginsRun 2 (some .boolean) ∈ GT := (List.mem_of_getElem? (i := 1044) (by decide +kernel))
set_option maxRecDepth 20000 in
theorem m_X5_101 : MF RX5 101 1 yX5_isSquare 2 := ⟨Or.inl (List.mem_of_getElem? (i := 955) (by decide +kernel)), (List.mem_of_getElem? (i := 63) (by decide +kernel)), ⟨by decide +kernel, by decide +kernel⟩, by decide +kernel, fun h => by omega, fun _ => (List.mem_of_getElem? (i := 956) (by decide +kernel)), fun h => by omega⟩
set_option maxRecDepth 20000 in
theorem k_X5_isSquare : Cond.code yX5_isSquare cX5_isSquare 2 (some .boolean) ∈ GT := (List.mem_of_getElem? (i := 957) (by decide +kernel))
set_option maxRecDepth 20000 in
theorem m_X5_134 : MF RX5 134 0 yX5_isOn 3 := ⟨Or.inl (List.mem_of_getElem? (i := 1073) (by decide +kernel)), (List.mem_of_getElem? (i := 63) (by decide +kernel)), ⟨by decide +kernel, by decide +kernel⟩, by decide +kernel, fun _ => ⟨(List.mem_of_getElem? (i := 1066) (by decide +kernel)), (List.mem_of_getElem? (i := 1067) (by decide +kernel))⟩, fun h => by omega, fun h => by omega⟩
set_option maxRecDepth 20000 in
theorem k_X5_isOn : Cond.code yX5_isOn cX5_isOn 4 (some .boolean) ∈ GT := (List.mem_of_getElem? (i := 1068) (by decide +kernel))
section
variable {l : Launch} {D : va_G} {cy : Nat → ClassId} {n0 : Nat} {ad : Nat → Nat} {b : Nat → Nat} {E : va_W} {ws : va_W}
set_option maxHeartbeats 4000000 in
set_option maxRecDepth 100000 in
theorem c_X5_beginsRun {ν : Nat → Int → Int} {L : List Int} {x : Int} (hfl : l.stackTraces = false) (hT : TrM ν L) (hx : 0 ≤ x ∧ x < 144) : CT l D cy n0 ad yX5_beginsRun (.code yX5_beginsRun cX5_beginsRun 2 (some .boolean)) ({ frames := 0, cells := 0, slots := 0, locals := 0 }) [.ref (b 0), .int (zI x)] (gw 14 MSh cy b ν ++ E) (fun vv uu => ∃ q, vv = some (.int (zI q)) ∧ uu = (gw 14 MSh cy b ν ++ E) ∧ ((q = 1 ∧ x ∈ L ∧ (x % 12 = 0 ∨ ¬ x - 1 ∈ L)) ∨ (q = 0 ∧ ¬ (x ∈ L ∧ (x % 12 = 0 ∨ ¬ x - 1 ∈ L))))) := by
  obtain ⟨t1, t2, t3⟩ := hT
  have tx := t3 x hx.1 hx.2
  have ty : x % 12 ≠ 0 → (ν 9 (x - 1) = 1 ∧ x - 1 ∈ L) ∨ (ν 9 (x - 1) = 0 ∧ ¬ x - 1 ∈ L) := fun g => t3 (x - 1) (by omega) (by omega)
  refine CT.walk hfl (by decide) (Nat.le_of_ble_eq_true rfl) ?_
  intro A J hJ
  show J (gw 14 MSh cy b ν ++ E) 0 0 0 [(0, .ref (b 0)), (1, .int (zI x))] []
  refine j_aload_n hJ (j := 0) rfl rfl dX5_beginsRun_0 ?_
  refine w_getr hJ (by omega) rfl rfl f_X5_35 dX5_beginsRun_1 ?_
  refine j_iload_n hJ (j := 1) rfl rfl dX5_beginsRun_4 ?_
  refine w_zald hJ (by omega) rfl (by first | decide | omega) (by omega) (by omega) dX5_beginsRun_5 ?_
  refine j_if_eq hJ (tgt := 31) ⟨by omega, by omega⟩ (by decide) dX5_beginsRun_6 ?_ ?_
  · intro h6
    refine j_iconst hJ dX5_beginsRun_31 ?_
    refine j_iret hJ rfl rfl (rfl) (Nat.le_of_ble_eq_true rfl) (Nat.le_of_ble_eq_true rfl) dX5_beginsRun_32 ⟨0, rfl, rfl, ?_⟩
    refine Or.inr ⟨rfl, fun g => ?_⟩
    rcases tx with ⟨e, g2⟩ | ⟨e, g2⟩
    · omega
    · exact g2 g.1
  · intro h6
    refine j_iload_n hJ (j := 1) rfl rfl dX5_beginsRun_9 ?_
    refine j_bipush hJ (v := 12) (by decide) dX5_beginsRun_10 ?_
    refine j_irem hJ (by omega) (by omega) (by omega) (by omega) dX5_beginsRun_12 ?_
    refine j_if_eq hJ (tgt := 27) ⟨by omega, by omega⟩ (by decide) dX5_beginsRun_13 ?_ ?_
    · intro h13
      refine j_iconst hJ dX5_beginsRun_27 ?_
      refine j_goto hJ (tgt := 32) (by decide) dX5_beginsRun_28 ?_
      refine j_iret hJ rfl rfl (rfl) (Nat.le_of_ble_eq_true rfl) (Nat.le_of_ble_eq_true rfl) dX5_beginsRun_32 ⟨1, rfl, rfl, ?_⟩
      refine Or.inl ⟨rfl, ?_, Or.inl h13⟩
      rcases tx with ⟨e, g2⟩ | ⟨e, g2⟩
      · exact g2
      · omega
    · intro h13
      have ty2 := ty h13
      refine j_aload_n hJ (j := 0) rfl rfl dX5_beginsRun_16 ?_
      refine w_getr hJ (by omega) rfl rfl f_X5_35 dX5_beginsRun_17 ?_
      refine j_iload_n hJ (j := 1) rfl rfl dX5_beginsRun_20 ?_
      refine j_iconst hJ dX5_beginsRun_21 ?_
      refine j_isub hJ dX5_beginsRun_22 ?_
      refine w_zald hJ (by omega) rfl (by first | decide | omega) (by omega) (by omega) dX5_beginsRun_23 ?_
      refine j_if_ne hJ (tgt := 31) ⟨by omega, by omega⟩ (by decide) dX5_beginsRun_24 ?_ ?_
      · intro h24
        refine j_iconst hJ dX5_beginsRun_31 ?_
        refine j_iret hJ rfl rfl (rfl) (Nat.le_of_ble_eq_true rfl) (Nat.le_of_ble_eq_true rfl) dX5_beginsRun_32 ⟨0, rfl, rfl, ?_⟩
        refine Or.inr ⟨rfl, fun g => ?_⟩
        rcases ty2 with ⟨e, g2⟩ | ⟨e, g2⟩
        · rcases g.2 with g3 | g3
          · exact h13 g3
          · exact g3 g2
        · omega
      · intro h24
        refine j_iconst hJ dX5_beginsRun_27 ?_
        refine j_goto hJ (tgt := 32) (by decide) dX5_beginsRun_28 ?_
        refine j_iret hJ rfl rfl (rfl) (Nat.le_of_ble_eq_true rfl) (Nat.le_of_ble_eq_true rfl) dX5_beginsRun_32 ⟨1, rfl, rfl, ?_⟩
        refine Or.inl ⟨rfl, ?_, Or.inr ?_⟩
        · rcases tx with ⟨e, g2⟩ | ⟨e, g2⟩
          · exact g2
          · omega
        · rcases ty2 with ⟨e, g2⟩ | ⟨e, g2⟩
          · omega
          · exact g2
set_option maxHeartbeats 4000000 in
set_option maxRecDepth 100000 in
theorem c_X5_trackLength {ν : Nat → Int → Int} {kd : Int → Int} {n : Nat} {N : Nat → List Int} {ow : Nat → Int} {m : Nat → Nat} {p : Nat → Nat → Int} {s : Int} (hfl : l.stackTraces = false) (hX : MI ν kd n N ow m p) (hsR : -2147483648 ≤ s ∧ s < 2147483648) : CT l D cy n0 ad yX5_trackLength (.code yX5_trackLength cX5_trackLength 2 (some .int)) ({ frames := 3, cells := 0, slots := 0, locals := 66 }) [.ref (b 0), .int (zI s)] (gw 14 MSh cy b ν ++ E) (fun vv uu => ∃ q μ', vv = some (.int (zI q)) ∧ uu = (gw 14 MSh cy b μ' ++ E) ∧ ((StOK n s ∧ μ' 0 16 = 0 ∧ q = ((trk (p s.toNat) (m s.toNat)).length : Nat) ∧ MI μ' kd n N ow m p) ∨ (μ' 0 16 = 1 ∧ ¬ StOK n s ∧ MI μ' kd n N ow m p))) := by
  obtain ⟨x1, x2, x3, x4, x5, x6, x7, x8⟩ := id hX
  refine CT.walk hfl (by decide) (Nat.le_of_ble_eq_true rfl) ?_
  intro A J hJ
  show J (gw 14 MSh cy b ν ++ E) 0 0 0 [(0, .ref (b 0)), (1, .int (zI s))] []
  refine j_aload_n hJ (j := 0) rfl rfl dX5_trackLength_0 ?_
  refine j_aload_n hJ (j := 0) rfl rfl dX5_trackLength_1 ?_
  refine j_iload_n hJ (j := 1) rfl rfl dX5_trackLength_2 ?_
  refine j_callV0 hJ (c_X5_isStreet hfl (n := n) hsR x1 x2) m_X5_97 k_X5_isStreet (q0 := 0) (by rw [gw_get (by decide)]; rfl) rfl ⟨(Nat.le_of_ble_eq_true rfl), (Nat.le_of_ble_eq_true rfl)⟩ ⟨(Nat.le_of_ble_eq_true rfl), (Nat.le_of_ble_eq_true rfl)⟩ (Nat.le_of_ble_eq_true rfl) dX5_trackLength_3 rfl ?_
  intro v1 u2 hv3
  obtain ⟨q3, rfl, rfl, h3⟩ := hv3
  show J (gw 14 MSh cy b ν ++ E) 0 0 6 [(0, .ref (b 0)), (1, .int (zI s))] [.int (zI q3), .ref (b 0)]
  have hq3 : q3 = 0 ∨ q3 = 1 := by omega
  refine j_iconst hJ dX5_trackLength_6 ?_
  refine j_iconst hJ dX5_trackLength_7 ?_
  refine j_callV0 hJ (c_X5_goes hfl hq3 (Or.inr rfl) (Or.inr rfl)) m_X5_104 k_X5_goes (q0 := 0) (by rw [gw_get (by decide)]; rfl) rfl ⟨(Nat.le_of_ble_eq_true rfl), (Nat.le_of_ble_eq_true rfl)⟩ ⟨(Nat.le_of_ble_eq_true rfl), (Nat.le_of_ble_eq_true rfl)⟩ (Nat.le_of_ble_eq_true rfl) dX5_trackLength_8 rfl ?_
  intro v4 u5 hv6
  obtain ⟨q8, ν1, rfl, rfl, h8⟩ := hv6
  show J (gw 14 MSh cy b ν1 ++ E) 0 0 11 [(0, .ref (b 0)), (1, .int (zI s))] [.int (zI q8)]
  obtain ⟨hM, hq8⟩ := h8
  have hS := hX.scratch (ν' := ν1) (by rw [hM]; exact FrM.last)
  have h11 : (1 : Int) = 0 ∨ (1 : Int) = 1 := Or.inr rfl
  have hq8' : (goC q3 1 1 = 0 ∧ q8 = 1) ∨ (goC q3 1 1 ≠ 0 ∧ q8 = 0) := by
    by_cases e : goC q3 1 1 = 0
    · rw [if_pos e] at hq8; exact Or.inl ⟨e, hq8⟩
    · rw [if_neg e] at hq8; exact Or.inr ⟨e, hq8⟩
  have hg := goC_c hq3 h11 h11
  refine j_if_eq hJ (tgt := 22) ⟨by omega, by omega⟩ (by decide) dX5_trackLength_11 ?_ ?_
  · intro h11
    have hno : ¬ StOK n s := h3.elim (fun g => by exfalso; omega) (fun g => g.2)
    refine j_iconst hJ dX5_trackLength_22 ?_
    refine j_iret hJ rfl rfl (rfl) (Nat.le_of_ble_eq_true rfl) (Nat.le_of_ble_eq_true rfl) dX5_trackLength_23 ⟨0, ν1, rfl, rfl, ?_⟩
    refine Or.inr ⟨?_, hno, hS⟩
    rw [hM, up_self]; omega
  · intro h11
    have hs : StOK n s := h3.elim (fun g => g.2) (fun g => by exfalso; omega)
    obtain ⟨hs1, hs2⟩ := id hs
    have hP := hS.2.2.2.2.2.2.1 s.toNat (by omega)
    refine j_aload_n hJ (j := 0) rfl rfl dX5_trackLength_14 ?_
    refine j_iload_n hJ (j := 1) rfl rfl dX5_trackLength_15 ?_
    refine j_topi (y := zI (s.toNat : Int)) (by rw [Int.toNat_of_nonneg hs1]) ?_
    refine j_callV0 hJ (c_X5_tracked hfl (i := s.toNat) (by omega) hP) m_X5_108 k_X5_tracked (q0 := 0) (by rw [gw_get (by decide)]; rfl) rfl ⟨(Nat.le_of_ble_eq_true rfl), (Nat.le_of_ble_eq_true rfl)⟩ ⟨(Nat.le_of_ble_eq_true rfl), (Nat.le_of_ble_eq_true rfl)⟩ (Nat.le_of_ble_eq_true rfl) dX5_trackLength_16 rfl ?_
    intro v7 u8 hv9
    obtain ⟨q16, ν2, rfl, rfl, h16⟩ := hv9
    show J (gw 14 MSh cy b ν2 ++ E) 0 0 19 [(0, .ref (b 0)), (1, .int (zI s))] [.int (zI q16)]
    refine j_goto hJ (tgt := 23) (by decide) dX5_trackLength_19 ?_
    refine j_iret hJ rfl rfl (rfl) (Nat.le_of_ble_eq_true rfl) (Nat.le_of_ble_eq_true rfl) dX5_trackLength_23 ⟨q16, ν2, rfl, rfl, ?_⟩
    obtain ⟨g1, g2, g3⟩ := h16
    refine Or.inl ⟨hs, ?_, g1, hS.scratch g3.M⟩
    rw [g3.2 16 (by omega), hM, up_self]; omega
set_option maxHeartbeats 4000000 in
set_option maxRecDepth 100000 in
theorem c_X5_squares {ν : Nat → Int → Int} {kd : Int → Int} {n : Nat} {N : Nat → List Int} {ow : Nat → Int} {m : Nat → Nat} {p : Nat → Nat → Int} {s : Int} (hfl : l.stackTraces = false) (hX : MI ν kd n N ow m p) (hsR : -2147483648 ≤ s ∧ s < 2147483648) : CT l D cy n0 ad yX5_squares (.code yX5_squares cX5_squares 4 (some .int)) ({ frames := 2, cells := 0, slots := 0, locals := 45 }) [.ref (b 0), .int (zI s)] (gw 14 MSh cy b ν ++ E) (fun vv uu => ∃ q μ', vv = some (.int (zI q)) ∧ uu = (gw 14 MSh cy b μ' ++ E) ∧ ((StOK n s ∧ μ' 0 16 = 0 ∧ q = (cntN (fun k => decide ((k : Int) ∈ trk (p s.toNat) (m s.toNat))) 144 : Nat) ∧ MI μ' kd n N ow m p) ∨ (μ' 0 16 = 1 ∧ ¬ StOK n s ∧ MI μ' kd n N ow m p))) := by
  obtain ⟨x1, x2, x3, x4, x5, x6, x7, x8⟩ := id hX
  refine CT.walk hfl (by decide) (Nat.le_of_ble_eq_true rfl) ?_
  intro A J hJ
  show J (gw 14 MSh cy b ν ++ E) 0 0 0 [(0, .ref (b 0)), (1, .int (zI s))] []
  refine j_iconst hJ dX5_squares_0 ?_
  refine j_istore_n hJ (lv' := [(2, .int (zI 0)), (0, .ref (b 0)), (1, .int (zI s))]) rfl (by decide) rfl dX5_squares_1 ?_
  refine j_aload_n hJ (j := 1) rfl rfl dX5_squares_2 ?_
  refine j_aload_n hJ (j := 1) rfl rfl dX5_squares_3 ?_
  refine j_iload_n hJ (j := 2) rfl rfl dX5_squares_4 ?_
  refine j_callV0 hJ (c_X5_isStreet hfl (n := n) hsR x1 x2) m_X5_97 k_X5_isStreet (q0 := 0) (by rw [gw_get (by decide)]; rfl) rfl ⟨(Nat.le_of_ble_eq_true rfl), (Nat.le_of_ble_eq_true rfl)⟩ ⟨(Nat.le_of_ble_eq_true rfl), (Nat.le_of_ble_eq_true rfl)⟩ (Nat.le_of_ble_eq_true rfl) dX5_squares_5 rfl ?_
  intro v1 u2 hv3
  obtain ⟨q3, rfl, rfl, h3⟩ := hv3
  show J (gw 14 MSh cy b ν ++ E) 0 0 8 [(2, .int (zI 0)), (0, .ref (b 0)), (1, .int (zI s))] [.int (zI q3), .ref (b 0)]
  have hq3 : q3 = 0 ∨ q3 = 1 := by omega
  refine j_iconst hJ dX5_squares_8 ?_
  refine j_iconst hJ dX5_squares_9 ?_
  refine j_callV0 hJ (c_X5_goes hfl hq3 (Or.inr rfl) (Or.inr rfl)) m_X5_104 k_X5_goes (q0 := 0) (by rw [gw_get (by decide)]; rfl) rfl ⟨(Nat.le_of_ble_eq_true rfl), (Nat.le_of_ble_eq_true rfl)⟩ ⟨(Nat.le_of_ble_eq_true rfl), (Nat.le_of_ble_eq_true rfl)⟩ (Nat.le_of_ble_eq_true rfl) dX5_squares_10 rfl ?_
  intro v4 u5 hv6
  obtain ⟨q8, ν1, rfl, rfl, h8⟩ := hv6
  show J (gw 14 MSh cy b ν1 ++ E) 0 0 13 [(2, .int (zI 0)), (0, .ref (b 0)), (1, .int (zI s))] [.int (zI q8)]
  obtain ⟨hM, hq8⟩ := h8
  have hS := hX.scratch (ν' := ν1) (by rw [hM]; exact FrM.last)
  have h11 : (1 : Int) = 0 ∨ (1 : Int) = 1 := Or.inr rfl
  have hq8' : (goC q3 1 1 = 0 ∧ q8 = 1) ∨ (goC q3 1 1 ≠ 0 ∧ q8 = 0) := by
    by_cases e : goC q3 1 1 = 0
    · rw [if_pos e] at hq8; exact Or.inl ⟨e, hq8⟩
    · rw [if_neg e] at hq8; exact Or.inr ⟨e, hq8⟩
  have hg := goC_c hq3 h11 h11
  refine j_if_eq hJ (tgt := 53) ⟨by omega, by omega⟩ (by decide) dX5_squares_13 ?_ ?_
  · intro h13
    have hno : ¬ StOK n s := h3.elim (fun g => by exfalso; omega) (fun g => g.2)
    refine j_iload_n hJ (j := 0) rfl rfl dX5_squares_53 ?_
    refine j_iret hJ rfl rfl (rfl) (Nat.le_of_ble_eq_true rfl) (Nat.le_of_ble_eq_true rfl) dX5_squares_54 ⟨0, ν1, rfl, rfl, ?_⟩
    refine Or.inr ⟨?_, hno, hS⟩
    rw [hM, up_self]; omega
  · intro h13
    have hs : StOK n s := h3.elim (fun g => g.2) (fun g => by exfalso; omega)
    obtain ⟨hs1, hs2⟩ := id hs
    have hP := hS.2.2.2.2.2.2.1 s.toNat (by omega)
    refine j_aload_n hJ (j := 1) rfl rfl dX5_squares_16 ?_
    refine j_iload_n hJ (j := 2) rfl rfl dX5_squares_17 ?_
    refine j_topi (y := zI (s.toNat : Int)) (by rw [Int.toNat_of_nonneg hs1]) ?_
    refine j_callV0 hJ (c_X5_tracks hfl (i := s.toNat) (by omega) hP) m_X5_86 k_X5_tracks (q0 := 0) (by rw [gw_get (by decide)]; rfl) rfl ⟨(Nat.le_of_ble_eq_true rfl), (Nat.le_of_ble_eq_true rfl)⟩ ⟨(Nat.le_of_ble_eq_true rfl), (Nat.le_of_ble_eq_true rfl)⟩ (Nat.le_of_ble_eq_true rfl) dX5_squares_18 rfl ?_
    intro v7 u8 hv9
    obtain ⟨ν2, rfl, rfl, h16⟩ := hv9
    show J (gw 14 MSh cy b ν2 ++ E) 0 0 21 [(2, .int (zI 0)), (0, .ref (b 0)), (1, .int (zI s))] []
    obtain ⟨g2, g3⟩ := h16
    refine j_iconst hJ dX5_squares_21 ?_
    refine j_istore_n hJ (lv' := [(3, .int (zI 0)), (2, .int (zI 0)), (0, .ref (b 0)), (1, .int (zI s))]) rfl (by decide) rfl dX5_squares_22 ?_
    have lp23 : ∀ (nn23 : Nat) (c : Int) (k : Nat) (hmeas23 : 144 - k < nn23) (hk : k ≤ 144) (hc : c = (cntN (fun k => decide ((k : Int) ∈ trk (p s.toNat) (m s.toNat))) k : Nat)), J (gw 14 MSh cy b ν2 ++ E) 0 0 23 [(0, .ref (b 0)), (1, .int (zI s)), (2, .int (zI c)), (3, .int (zI (k : Int)))] [] := by
      intro nn23
      induction nn23 with
      | zero => intro c k hmeas23 hk hc; omega
      | succ nn23 ih23 =>
        intro c k hmeas23 hk hc
        refine j_iload_n hJ (j := 3) rfl rfl dX5_squares_23 ?_
        refine j_sipush hJ (v := 144) (by decide) dX5_squares_24 ?_
        refine j_icmp_ge hJ (tgt := 53) ⟨by omega, by omega⟩ ⟨by omega, by omega⟩ (by decide) dX5_squares_27 ?_ ?_
        · intro h27
          refine j_iload_n hJ (j := 2) rfl rfl dX5_squares_53 ?_
          refine j_iret hJ rfl rfl (rfl) (Nat.le_of_ble_eq_true rfl) (Nat.le_of_ble_eq_true rfl) dX5_squares_54 ⟨c, ν2, rfl, rfl, ?_⟩
          refine Or.inl ⟨hs, ?_, by rw [hc, show k = 144 by omega], hS.scratch g3.M⟩
          rw [g3.2 16 (by omega), hM, up_self]; omega
        · intro h27
          have g4 := g2.2.2 k (by omega) (by omega)
          have cl := cntN_le (fun k => decide ((k : Int) ∈ trk (p s.toNat) (m s.toNat))) k
          refine j_iload_n hJ (j := 2) rfl rfl dX5_squares_30 ?_
          refine j_aload_n hJ (j := 0) rfl rfl dX5_squares_31 ?_
          refine w_getr hJ (by omega) rfl rfl f_X5_35 dX5_squares_32 ?_
          refine j_iload_n hJ (j := 3) rfl rfl dX5_squares_35 ?_
          refine w_zald hJ (by omega) rfl (by first | decide | omega) (by omega) (by omega) dX5_squares_36 ?_
          refine j_if_eq hJ (tgt := 44) ⟨by omega, by omega⟩ (by decide) dX5_squares_37 ?_ ?_
          · intro h37
            refine j_iconst hJ dX5_squares_44 ?_
            refine j_iadd hJ dX5_squares_45 ?_
            refine j_istore_n hJ (lv' := [(2, .int (zI (c + 0))), (0, .ref (b 0)), (1, .int (zI s)), (3, .int (zI (k : Int)))]) rfl (by decide) rfl dX5_squares_46 ?_
            refine j_iinc hJ (lv' := [(3, .int (zI ((k : Int) + 1))), (2, .int (zI (c + 0))), (0, .ref (b 0)), (1, .int (zI s))]) (j := 3) rfl (by omega) (by decide) rfl dX5_squares_47 ?_
            refine j_goto hJ (tgt := 23) (by decide) dX5_squares_50 ?_
            refine j_locs hJ [2, 3, 1, 0] rfl ?_
            exact ih23 (c + 0) (k + 1) (by omega) (by omega) (by rw [cntN]; rcases g4 with ⟨e, g5⟩ | ⟨e, g5⟩ <;> simp only [g5, decide_true, decide_false, if_true] <;> first | omega | (simp; omega))
          · intro h37
            refine j_iconst hJ dX5_squares_40 ?_
            refine j_goto hJ (tgt := 45) (by decide) dX5_squares_41 ?_
            refine j_iadd hJ dX5_squares_45 ?_
            refine j_istore_n hJ (lv' := [(2, .int (zI (c + 1))), (0, .ref (b 0)), (1, .int (zI s)), (3, .int (zI (k : Int)))]) rfl (by decide) rfl dX5_squares_46 ?_
            refine j_iinc hJ (lv' := [(3, .int (zI ((k : Int) + 1))), (2, .int (zI (c + 1))), (0, .ref (b 0)), (1, .int (zI s))]) (j := 3) rfl (by omega) (by decide) rfl dX5_squares_47 ?_
            refine j_goto hJ (tgt := 23) (by decide) dX5_squares_50 ?_
            refine j_locs hJ [2, 3, 1, 0] rfl ?_
            exact ih23 (c + 1) (k + 1) (by omega) (by omega) (by rw [cntN]; rcases g4 with ⟨e, g5⟩ | ⟨e, g5⟩ <;> simp only [g5, decide_true, decide_false, if_true] <;> first | omega | (simp; omega))
    refine j_locs hJ [2, 3, 1, 0] rfl ?_
    exact lp23 (144 - 0 + 1) 0 0 (by omega) (by omega) (by rfl)
set_option maxHeartbeats 4000000 in
set_option maxRecDepth 100000 in
theorem c_X5_runs {ν : Nat → Int → Int} {kd : Int → Int} {n : Nat} {N : Nat → List Int} {ow : Nat → Int} {m : Nat → Nat} {p : Nat → Nat → Int} {s : Int} (hfl : l.stackTraces = false) (hX : MI ν kd n N ow m p) (hsR : -2147483648 ≤ s ∧ s < 2147483648) : CT l D cy n0 ad yX5_runs (.code yX5_runs cX5_runs 4 (some .int)) ({ frames := 2, cells := 0, slots := 0, locals := 45 }) [.ref (b 0), .int (zI s)] (gw 14 MSh cy b ν ++ E) (fun vv uu => ∃ q μ', vv = some (.int (zI q)) ∧ uu = (gw 14 MSh cy b μ' ++ E) ∧ ((StOK n s ∧ μ' 0 16 = 0 ∧ q = (cntN (fun k => decide ((k : Int) ∈ trk (p s.toNat) (m s.toNat)) && (k % 12 == 0 || !decide ((k : Int) - 1 ∈ trk (p s.toNat) (m s.toNat)))) 144 : Nat) ∧ MI μ' kd n N ow m p) ∨ (μ' 0 16 = 1 ∧ ¬ StOK n s ∧ MI μ' kd n N ow m p))) := by
  obtain ⟨x1, x2, x3, x4, x5, x6, x7, x8⟩ := id hX
  refine CT.walk hfl (by decide) (Nat.le_of_ble_eq_true rfl) ?_
  intro A J hJ
  show J (gw 14 MSh cy b ν ++ E) 0 0 0 [(0, .ref (b 0)), (1, .int (zI s))] []
  refine j_iconst hJ dX5_runs_0 ?_
  refine j_istore_n hJ (lv' := [(2, .int (zI 0)), (0, .ref (b 0)), (1, .int (zI s))]) rfl (by decide) rfl dX5_runs_1 ?_
  refine j_aload_n hJ (j := 1) rfl rfl dX5_runs_2 ?_
  refine j_aload_n hJ (j := 1) rfl rfl dX5_runs_3 ?_
  refine j_iload_n hJ (j := 2) rfl rfl dX5_runs_4 ?_
  refine j_callV0 hJ (c_X5_isStreet hfl (n := n) hsR x1 x2) m_X5_97 k_X5_isStreet (q0 := 0) (by rw [gw_get (by decide)]; rfl) rfl ⟨(Nat.le_of_ble_eq_true rfl), (Nat.le_of_ble_eq_true rfl)⟩ ⟨(Nat.le_of_ble_eq_true rfl), (Nat.le_of_ble_eq_true rfl)⟩ (Nat.le_of_ble_eq_true rfl) dX5_runs_5 rfl ?_
  intro v1 u2 hv3
  obtain ⟨q3, rfl, rfl, h3⟩ := hv3
  show J (gw 14 MSh cy b ν ++ E) 0 0 8 [(2, .int (zI 0)), (0, .ref (b 0)), (1, .int (zI s))] [.int (zI q3), .ref (b 0)]
  have hq3 : q3 = 0 ∨ q3 = 1 := by omega
  refine j_iconst hJ dX5_runs_8 ?_
  refine j_iconst hJ dX5_runs_9 ?_
  refine j_callV0 hJ (c_X5_goes hfl hq3 (Or.inr rfl) (Or.inr rfl)) m_X5_104 k_X5_goes (q0 := 0) (by rw [gw_get (by decide)]; rfl) rfl ⟨(Nat.le_of_ble_eq_true rfl), (Nat.le_of_ble_eq_true rfl)⟩ ⟨(Nat.le_of_ble_eq_true rfl), (Nat.le_of_ble_eq_true rfl)⟩ (Nat.le_of_ble_eq_true rfl) dX5_runs_10 rfl ?_
  intro v4 u5 hv6
  obtain ⟨q8, ν1, rfl, rfl, h8⟩ := hv6
  show J (gw 14 MSh cy b ν1 ++ E) 0 0 13 [(2, .int (zI 0)), (0, .ref (b 0)), (1, .int (zI s))] [.int (zI q8)]
  obtain ⟨hM, hq8⟩ := h8
  have hS := hX.scratch (ν' := ν1) (by rw [hM]; exact FrM.last)
  have h11 : (1 : Int) = 0 ∨ (1 : Int) = 1 := Or.inr rfl
  have hq8' : (goC q3 1 1 = 0 ∧ q8 = 1) ∨ (goC q3 1 1 ≠ 0 ∧ q8 = 0) := by
    by_cases e : goC q3 1 1 = 0
    · rw [if_pos e] at hq8; exact Or.inl ⟨e, hq8⟩
    · rw [if_neg e] at hq8; exact Or.inr ⟨e, hq8⟩
  have hg := goC_c hq3 h11 h11
  refine j_if_eq hJ (tgt := 52) ⟨by omega, by omega⟩ (by decide) dX5_runs_13 ?_ ?_
  · intro h13
    have hno : ¬ StOK n s := h3.elim (fun g => by exfalso; omega) (fun g => g.2)
    refine j_iload_n hJ (j := 0) rfl rfl dX5_runs_52 ?_
    refine j_iret hJ rfl rfl (rfl) (Nat.le_of_ble_eq_true rfl) (Nat.le_of_ble_eq_true rfl) dX5_runs_53 ⟨0, ν1, rfl, rfl, ?_⟩
    refine Or.inr ⟨?_, hno, hS⟩
    rw [hM, up_self]; omega
  · intro h13
    have hs : StOK n s := h3.elim (fun g => g.2) (fun g => by exfalso; omega)
    obtain ⟨hs1, hs2⟩ := id hs
    have hP := hS.2.2.2.2.2.2.1 s.toNat (by omega)
    refine j_aload_n hJ (j := 1) rfl rfl dX5_runs_16 ?_
    refine j_iload_n hJ (j := 2) rfl rfl dX5_runs_17 ?_
    refine j_topi (y := zI (s.toNat : Int)) (by rw [Int.toNat_of_nonneg hs1]) ?_
    refine j_callV0 hJ (c_X5_tracks hfl (i := s.toNat) (by omega) hP) m_X5_86 k_X5_tracks (q0 := 0) (by rw [gw_get (by decide)]; rfl) rfl ⟨(Nat.le_of_ble_eq_true rfl), (Nat.le_of_ble_eq_true rfl)⟩ ⟨(Nat.le_of_ble_eq_true rfl), (Nat.le_of_ble_eq_true rfl)⟩ (Nat.le_of_ble_eq_true rfl) dX5_runs_18 rfl ?_
    intro v7 u8 hv9
    obtain ⟨ν2, rfl, rfl, h16⟩ := hv9
    show J (gw 14 MSh cy b ν2 ++ E) 0 0 21 [(2, .int (zI 0)), (0, .ref (b 0)), (1, .int (zI s))] []
    obtain ⟨g2, g3⟩ := h16
    refine j_iconst hJ dX5_runs_21 ?_
    refine j_istore_n hJ (lv' := [(3, .int (zI 0)), (2, .int (zI 0)), (0, .ref (b 0)), (1, .int (zI s))]) rfl (by decide) rfl dX5_runs_22 ?_
    have lp23 : ∀ (nn23 : Nat) (c : Int) (k : Nat) (hmeas23 : 144 - k < nn23) (hk : k ≤ 144) (hc : c = (cntN (fun k => decide ((k : Int) ∈ trk (p s.toNat) (m s.toNat)) && (k % 12 == 0 || !decide ((k : Int) - 1 ∈ trk (p s.toNat) (m s.toNat)))) k : Nat)), J (gw 14 MSh cy b ν2 ++ E) 0 0 23 [(0, .ref (b 0)), (1, .int (zI s)), (2, .int (zI c)), (3, .int (zI (k : Int)))] [] := by
      intro nn23
      induction nn23 with
      | zero => intro c k hmeas23 hk hc; omega
      | succ nn23 ih23 =>
        intro c k hmeas23 hk hc
        refine j_iload_n hJ (j := 3) rfl rfl dX5_runs_23 ?_
        refine j_sipush hJ (v := 144) (by decide) dX5_runs_24 ?_
        refine j_icmp_ge hJ (tgt := 52) ⟨by omega, by omega⟩ ⟨by omega, by omega⟩ (by decide) dX5_runs_27 ?_ ?_
        · intro h27
          refine j_iload_n hJ (j := 2) rfl rfl dX5_runs_52 ?_
          refine j_iret hJ rfl rfl (rfl) (Nat.le_of_ble_eq_true rfl) (Nat.le_of_ble_eq_true rfl) dX5_runs_53 ⟨c, ν2, rfl, rfl, ?_⟩
          refine Or.inl ⟨hs, ?_, by rw [hc, show k = 144 by omega], hS.scratch g3.M⟩
          rw [g3.2 16 (by omega), hM, up_self]; omega
        · intro h27
          have cl := cntN_le (fun k => decide ((k : Int) ∈ trk (p s.toNat) (m s.toNat)) && (k % 12 == 0 || !decide ((k : Int) - 1 ∈ trk (p s.toNat) (m s.toNat)))) k
          refine j_iload_n hJ (j := 2) rfl rfl dX5_runs_30 ?_
          refine j_aload_n hJ (j := 0) rfl rfl dX5_runs_31 ?_
          refine j_iload_n hJ (j := 3) rfl rfl dX5_runs_32 ?_
          refine j_callV0 hJ (c_X5_beginsRun hfl g2 (x := (k : Int)) ⟨by omega, by omega⟩) m_X5_125 k_X5_beginsRun (q0 := 0) (by rw [gw_get (by decide)]; rfl) rfl ⟨(Nat.le_of_ble_eq_true rfl), (Nat.le_of_ble_eq_true rfl)⟩ ⟨(Nat.le_of_ble_eq_true rfl), (Nat.le_of_ble_eq_true rfl)⟩ (Nat.le_of_ble_eq_true rfl) dX5_runs_33 rfl ?_
          intro v10 u11 hv12
          obtain ⟨q33, rfl, rfl, h33⟩ := hv12
          show J (gw 14 MSh cy b ν2 ++ E) 0 0 36 [(0, .ref (b 0)), (1, .int (zI s)), (2, .int (zI c)), (3, .int (zI (k : Int)))] [.int (zI q33), .int (zI c)]
          refine j_if_eq hJ (tgt := 43) ⟨by omega, by omega⟩ (by decide) dX5_runs_36 ?_ ?_
          · intro h36
            refine j_iconst hJ dX5_runs_43 ?_
            refine j_iadd hJ dX5_runs_44 ?_
            refine j_istore_n hJ (lv' := [(2, .int (zI (c + 0))), (0, .ref (b 0)), (1, .int (zI s)), (3, .int (zI (k : Int)))]) rfl (by decide) rfl dX5_runs_45 ?_
            refine j_iinc hJ (lv' := [(3, .int (zI ((k : Int) + 1))), (2, .int (zI (c + 0))), (0, .ref (b 0)), (1, .int (zI s))]) (j := 3) rfl (by omega) (by decide) rfl dX5_runs_46 ?_
            refine j_goto hJ (tgt := 23) (by decide) dX5_runs_49 ?_
            refine j_locs hJ [2, 3, 1, 0] rfl ?_
            refine ih23 (c + 0) (k + 1) (by omega) (by omega) ?_
            · rw [cntN]
              have e9 : (decide ((k : Int) ∈ trk (p s.toNat) (m s.toNat)) && (k % 12 == 0 || !decide ((k : Int) - 1 ∈ trk (p s.toNat) (m s.toNat)))) = decide (q33 = 1) := by
                have e8 : (k % 12 = 0) ↔ ((k : Int) % 12 = 0) := by omega
                rw [Bool.eq_iff_iff]
                simp only [Bool.and_eq_true, Bool.or_eq_true, decide_eq_true_eq, beq_iff_eq, Bool.not_eq_true', decide_eq_false_iff_not]
                rw [e8]
                rcases h33 with ⟨e, g5⟩ | ⟨e, g5⟩
                · exact ⟨fun _ => e, fun _ => g5⟩
                · exact ⟨fun g => absurd g g5, fun g => by omega⟩
              rw [e9]
              first
              | (rw [show decide (q33 = 1) = true by simp; omega]; simp; omega)
              | (rw [show decide (q33 = 1) = false by simp; omega]; simp; omega)
          · intro h36
            refine j_iconst hJ dX5_runs_39 ?_
            refine j_goto hJ (tgt := 44) (by decide) dX5_runs_40 ?_
            refine j_iadd hJ dX5_runs_44 ?_
            refine j_istore_n hJ (lv' := [(2, .int (zI (c + 1))), (0, .ref (b 0)), (1, .int (zI s)), (3, .int (zI (k : Int)))]) rfl (by decide) rfl dX5_runs_45 ?_
            refine j_iinc hJ (lv' := [(3, .int (zI ((k : Int) + 1))), (2, .int (zI (c + 1))), (0, .ref (b 0)), (1, .int (zI s))]) (j := 3) rfl (by omega) (by decide) rfl dX5_runs_46 ?_
            refine j_goto hJ (tgt := 23) (by decide) dX5_runs_49 ?_
            refine j_locs hJ [2, 3, 1, 0] rfl ?_
            refine ih23 (c + 1) (k + 1) (by omega) (by omega) ?_
            · rw [cntN]
              have e9 : (decide ((k : Int) ∈ trk (p s.toNat) (m s.toNat)) && (k % 12 == 0 || !decide ((k : Int) - 1 ∈ trk (p s.toNat) (m s.toNat)))) = decide (q33 = 1) := by
                have e8 : (k % 12 = 0) ↔ ((k : Int) % 12 = 0) := by omega
                rw [Bool.eq_iff_iff]
                simp only [Bool.and_eq_true, Bool.or_eq_true, decide_eq_true_eq, beq_iff_eq, Bool.not_eq_true', decide_eq_false_iff_not]
                rw [e8]
                rcases h33 with ⟨e, g5⟩ | ⟨e, g5⟩
                · exact ⟨fun _ => e, fun _ => g5⟩
                · exact ⟨fun g => absurd g g5, fun g => by omega⟩
              rw [e9]
              first
              | (rw [show decide (q33 = 1) = true by simp; omega]; simp; omega)
              | (rw [show decide (q33 = 1) = false by simp; omega]; simp; omega)
    refine j_locs hJ [2, 3, 1, 0] rfl ?_
    exact lp23 (144 - 0 + 1) 0 0 (by omega) (by omega) (by rfl)
set_option maxHeartbeats 4000000 in
set_option maxRecDepth 100000 in
theorem c_X5_isOn {ν : Nat → Int → Int} {kd : Int → Int} {n : Nat} {N : Nat → List Int} {ow : Nat → Int} {m : Nat → Nat} {p : Nat → Nat → Int} {s c r : Int} (hfl : l.stackTraces = false) (hX : MI ν kd n N ow m p) (hsR : -2147483648 ≤ s ∧ s < 2147483648) (hcR : -2147483648 ≤ c ∧ c < 2147483648) (hrR : -2147483648 ≤ r ∧ r < 2147483648) : CT l D cy n0 ad yX5_isOn (.code yX5_isOn cX5_isOn 4 (some .boolean)) ({ frames := 2, cells := 0, slots := 0, locals := 45 }) [.ref (b 0), .int (zI s), .int (zI c), .int (zI r)] (gw 14 MSh cy b ν ++ E) (fun vv uu => ∃ q μ', vv = some (.int (zI q)) ∧ uu = (gw 14 MSh cy b μ' ++ E) ∧ (((StOK n s ∧ SqOK c r) ∧ μ' 0 16 = 0 ∧ q = (if 12 * c + r ∈ trk (p s.toNat) (m s.toNat) then 1 else 0) ∧ MI μ' kd n N ow m p) ∨ (μ' 0 16 = 1 ∧ ¬ (StOK n s ∧ SqOK c r) ∧ q = 0 ∧ MI μ' kd n N ow m p))) := by
  obtain ⟨x1, x2, x3, x4, x5, x6, x7, x8⟩ := id hX
  refine CT.walk hfl (by decide) (Nat.le_of_ble_eq_true rfl) ?_
  intro A J hJ
  show J (gw 14 MSh cy b ν ++ E) 0 0 0 [(0, .ref (b 0)), (1, .int (zI s)), (2, .int (zI c)), (3, .int (zI r))] []
  have j22 : ∀ (kn : Int) (hkn : (kn = 1 ∧ StOK n s ∧ SqOK c r) ∨ (kn = 0 ∧ ¬ (StOK n s ∧ SqOK c r))), J (gw 14 MSh cy b ν ++ E) 0 0 22 [(0, .ref (b 0)), (1, .int (zI s)), (2, .int (zI c)), (3, .int (zI r))] [.int (zI kn), .ref (b 0)] := by
    intro kn hkn
    refine j_iconst hJ dX5_isOn_22 ?_
    have hq3 : kn = 0 ∨ kn = 1 := by omega
    refine j_iconst hJ dX5_isOn_23 ?_
    refine j_callV0 hJ (c_X5_goes hfl hq3 (Or.inr rfl) (Or.inr rfl)) m_X5_104 k_X5_goes (q0 := 0) (by rw [gw_get (by decide)]; rfl) rfl ⟨(Nat.le_of_ble_eq_true rfl), (Nat.le_of_ble_eq_true rfl)⟩ ⟨(Nat.le_of_ble_eq_true rfl), (Nat.le_of_ble_eq_true rfl)⟩ (Nat.le_of_ble_eq_true rfl) dX5_isOn_24 rfl ?_
    intro v1 u2 hv3
    obtain ⟨q8, ν1, rfl, rfl, h8⟩ := hv3
    show J (gw 14 MSh cy b ν1 ++ E) 0 0 27 [(0, .ref (b 0)), (1, .int (zI s)), (2, .int (zI c)), (3, .int (zI r))] [.int (zI q8)]
    obtain ⟨hM, hq8⟩ := h8
    have hS := hX.scratch (ν' := ν1) (by rw [hM]; exact FrM.last)
    have h11 : (1 : Int) = 0 ∨ (1 : Int) = 1 := Or.inr rfl
    have hq8' : (goC kn 1 1 = 0 ∧ q8 = 1) ∨ (goC kn 1 1 ≠ 0 ∧ q8 = 0) := by
      by_cases e : goC kn 1 1 = 0
      · rw [if_pos e] at hq8; exact Or.inl ⟨e, hq8⟩
      · rw [if_neg e] at hq8; exact Or.inr ⟨e, hq8⟩
    have hg := goC_c hq3 h11 h11
    refine j_if_ne hJ (tgt := 32) ⟨by omega, by omega⟩ (by decide) dX5_isOn_27 ?_ ?_
    · intro h27
      have hst : StOK n s ∧ SqOK c r := hkn.elim (fun g => g.2) (fun g => by exfalso; omega)
      obtain ⟨⟨hs1, hs2⟩, hc1, hc2⟩ := id hst
      have hP := hS.2.2.2.2.2.2.1 s.toNat (by omega)
      refine j_aload_n hJ (j := 0) rfl rfl dX5_isOn_32 ?_
      refine j_iload_n hJ (j := 1) rfl rfl dX5_isOn_33 ?_
      refine j_topi (y := zI (s.toNat : Int)) (by rw [Int.toNat_of_nonneg hs1]) ?_
      refine j_callV0 hJ (c_X5_tracks hfl (i := s.toNat) (by omega) hP) m_X5_86 k_X5_tracks (q0 := 0) (by rw [gw_get (by decide)]; rfl) rfl ⟨(Nat.le_of_ble_eq_true rfl), (Nat.le_of_ble_eq_true rfl)⟩ ⟨(Nat.le_of_ble_eq_true rfl), (Nat.le_of_ble_eq_true rfl)⟩ (Nat.le_of_ble_eq_true rfl) dX5_isOn_34 rfl ?_
      intro v4 u5 hv6
      obtain ⟨ν2, rfl, rfl, h34⟩ := hv6
      show J (gw 14 MSh cy b ν2 ++ E) 0 0 37 [(0, .ref (b 0)), (1, .int (zI s)), (2, .int (zI c)), (3, .int (zI r))] []
      obtain ⟨g2, g3⟩ := h34
      have g4 := g2.2.2 (12 * c + r) (by omega) (by omega)
      refine j_aload_n hJ (j := 0) rfl rfl dX5_isOn_37 ?_
      refine w_getr hJ (by omega) rfl rfl f_X5_35 dX5_isOn_38 ?_
      refine j_bipush hJ (v := 12) (by decide) dX5_isOn_41 ?_
      refine j_iload_n hJ (j := 2) rfl rfl dX5_isOn_43 ?_
      refine j_imul hJ dX5_isOn_44 ?_
      refine j_iload_n hJ (j := 3) rfl rfl dX5_isOn_45 ?_
      refine j_iadd hJ dX5_isOn_46 ?_
      refine w_zald hJ (by omega) rfl (by first | decide | omega) (by omega) (by omega) dX5_isOn_47 ?_
      refine j_iret hJ rfl rfl (b01n (by omega)) (Nat.le_of_ble_eq_true rfl) (Nat.le_of_ble_eq_true rfl) dX5_isOn_48 ⟨(ν2 9 ((12 * c) + r)), ν2, rfl, rfl, ?_⟩
      refine Or.inl ⟨hst, ?_, ?_, hS.scratch g3.M⟩
      · rw [g3.2 16 (by omega), hM, up_self]; omega
      · rcases g4 with ⟨e, g5⟩ | ⟨e, g5⟩
        · rw [if_pos g5]; exact e
        · rw [if_neg g5]; exact e
    · intro h27
      have hno : ¬ (StOK n s ∧ SqOK c r) := hkn.elim (fun g => by exfalso; omega) (fun g => g.2)
      refine j_iconst hJ dX5_isOn_30 ?_
      refine j_iret hJ rfl rfl (rfl) (Nat.le_of_ble_eq_true rfl) (Nat.le_of_ble_eq_true rfl) dX5_isOn_31 ⟨0, ν1, rfl, rfl, ?_⟩
      refine Or.inr ⟨?_, hno, rfl, hS⟩
      rw [hM, up_self]; omega
  refine j_aload_n hJ (j := 0) rfl rfl dX5_isOn_0 ?_
  refine j_aload_n hJ (j := 0) rfl rfl dX5_isOn_1 ?_
  refine j_iload_n hJ (j := 1) rfl rfl dX5_isOn_2 ?_
  refine j_callV0 hJ (c_X5_isStreet hfl (n := n) hsR x1 x2) m_X5_97 k_X5_isStreet (q0 := 0) (by rw [gw_get (by decide)]; rfl) rfl ⟨(Nat.le_of_ble_eq_true rfl), (Nat.le_of_ble_eq_true rfl)⟩ ⟨(Nat.le_of_ble_eq_true rfl), (Nat.le_of_ble_eq_true rfl)⟩ (Nat.le_of_ble_eq_true rfl) dX5_isOn_3 rfl ?_
  intro v7 u8 hv9
  obtain ⟨q3, rfl, rfl, h3⟩ := hv9
  show J (gw 14 MSh cy b ν ++ E) 0 0 6 [(0, .ref (b 0)), (1, .int (zI s)), (2, .int (zI c)), (3, .int (zI r))] [.int (zI q3), .ref (b 0)]
  refine j_if_eq hJ (tgt := 21) ⟨by omega, by omega⟩ (by decide) dX5_isOn_6 ?_ ?_
  · intro h6
    refine j_iconst hJ dX5_isOn_21 ?_
    refine j22 0 ?_
    · rcases h3 with ⟨e3, g3⟩ | ⟨e3, g3⟩
      · first
        | (exfalso; omega)
        | (rcases h9 with ⟨e9, g9⟩ | ⟨e9, g9⟩
           · first
             | exact Or.inl ⟨rfl, g3, g9⟩
             | (exfalso; omega)
           · first
             | exact Or.inr ⟨rfl, fun g => g9 g.2⟩
             | (exfalso; omega))
      · first
        | exact Or.inr ⟨rfl, fun g => g3 g.1⟩
        | (exfalso; omega)
  · intro h6
    refine j_iload_n hJ (j := 2) rfl rfl dX5_isOn_9 ?_
    refine j_iload_n hJ (j := 3) rfl rfl dX5_isOn_10 ?_
    refine j_callS0 hJ (c_X5_isSquare hfl hcR hrR) m_X5_101 k_X5_isSquare ⟨(Nat.le_of_ble_eq_true rfl), (Nat.le_of_ble_eq_true rfl)⟩ ⟨(Nat.le_of_ble_eq_true rfl), (Nat.le_of_ble_eq_true rfl)⟩ (Nat.le_of_ble_eq_true rfl) dX5_isOn_11 rfl ?_
    intro v10 u11 hv12
    obtain ⟨q9, rfl, rfl, h9⟩ := hv12
    show J (gw 14 MSh cy b ν ++ E) 0 0 14 [(0, .ref (b 0)), (1, .int (zI s)), (2, .int (zI c)), (3, .int (zI r))] [.int (zI q9), .ref (b 0)]
    refine j_if_eq hJ (tgt := 21) ⟨by omega, by omega⟩ (by decide) dX5_isOn_14 ?_ ?_
    · intro h14
      refine j_iconst hJ dX5_isOn_21 ?_
      refine j22 0 ?_
      · rcases h3 with ⟨e3, g3⟩ | ⟨e3, g3⟩
        · first
          | (exfalso; omega)
          | (rcases h9 with ⟨e9, g9⟩ | ⟨e9, g9⟩
             · first
               | exact Or.inl ⟨rfl, g3, g9⟩
               | (exfalso; omega)
             · first
               | exact Or.inr ⟨rfl, fun g => g9 g.2⟩
               | (exfalso; omega))
        · first
          | exact Or.inr ⟨rfl, fun g => g3 g.1⟩
          | (exfalso; omega)
    · intro h14
      refine j_iconst hJ dX5_isOn_17 ?_
      refine j_goto hJ (tgt := 22) (by decide) dX5_isOn_18 ?_
      refine j22 1 ?_
      · rcases h3 with ⟨e3, g3⟩ | ⟨e3, g3⟩
        · first
          | (exfalso; omega)
          | (rcases h9 with ⟨e9, g9⟩ | ⟨e9, g9⟩
             · first
               | exact Or.inl ⟨rfl, g3, g9⟩
               | (exfalso; omega)
             · first
               | exact Or.inr ⟨rfl, fun g => g9 g.2⟩
               | (exfalso; omega))
        · first
          | exact Or.inr ⟨rfl, fun g => g3 g.1⟩
          | (exfalso; omega)
set_option maxHeartbeats 4000000 in
set_option maxRecDepth 100000 in
theorem c_X5_isOnTrack {ν : Nat → Int → Int} {kd : Int → Int} {n : Nat} {N : Nat → List Int} {ow : Nat → Int} {m : Nat → Nat} {p : Nat → Nat → Int} {s c r : Int} (hfl : l.stackTraces = false) (hX : MI ν kd n N ow m p) (hsR : -2147483648 ≤ s ∧ s < 2147483648) (hcR : -2147483648 ≤ c ∧ c < 2147483648) (hrR : -2147483648 ≤ r ∧ r < 2147483648) : CT l D cy n0 ad yX5_isOnTrack (.code yX5_isOnTrack cX5_isOnTrack 4 (some .boolean)) ({ frames := 3, cells := 0, slots := 0, locals := 68 }) [.ref (b 0), .int (zI s), .int (zI c), .int (zI r)] (gw 14 MSh cy b ν ++ E) (fun vv uu => ∃ q μ', vv = some (.int (zI q)) ∧ uu = (gw 14 MSh cy b μ' ++ E) ∧ (((StOK n s ∧ SqOK c r) ∧ μ' 0 16 = 0 ∧ q = (if 12 * c + r ∈ trk (p s.toNat) (m s.toNat) then 1 else 0) ∧ MI μ' kd n N ow m p) ∨ (μ' 0 16 = 1 ∧ ¬ (StOK n s ∧ SqOK c r) ∧ q = 0 ∧ MI μ' kd n N ow m p))) := by
  refine CT.walk hfl (by decide) (Nat.le_of_ble_eq_true rfl) ?_
  intro A J hJ
  show J (gw 14 MSh cy b ν ++ E) 0 0 0 [(0, .ref (b 0)), (1, .int (zI s)), (2, .int (zI c)), (3, .int (zI r))] []
  refine j_aload_n hJ (j := 0) rfl rfl dX5_isOnTrack_0 ?_
  refine j_iload_n hJ (j := 1) rfl rfl dX5_isOnTrack_1 ?_
  refine j_iload_n hJ (j := 2) rfl rfl dX5_isOnTrack_2 ?_
  refine j_iload_n hJ (j := 3) rfl rfl dX5_isOnTrack_3 ?_
  refine j_callV0 hJ (c_X5_isOn hfl hX hsR hcR hrR) m_X5_134 k_X5_isOn (q0 := 0) (by rw [gw_get (by decide)]; rfl) rfl ⟨(Nat.le_of_ble_eq_true rfl), (Nat.le_of_ble_eq_true rfl)⟩ ⟨(Nat.le_of_ble_eq_true rfl), (Nat.le_of_ble_eq_true rfl)⟩ (Nat.le_of_ble_eq_true rfl) dX5_isOnTrack_4 rfl ?_
  intro v1 u2 hv3
  obtain ⟨q4, ν1, rfl, rfl, h4⟩ := hv3
  show J (gw 14 MSh cy b ν1 ++ E) 0 0 7 [(0, .ref (b 0)), (1, .int (zI s)), (2, .int (zI c)), (3, .int (zI r))] [.int (zI q4)]
  have hq4 : q4 = 0 ∨ q4 = 1 := by
    rcases h4 with g | g
    · rw [g.2.2.1]; split <;> simp
    · exact Or.inl g.2.2.1
  refine j_iret hJ rfl rfl (b01n hq4) (Nat.le_of_ble_eq_true rfl) (Nat.le_of_ble_eq_true rfl) dX5_isOnTrack_7 ⟨q4, ν1, rfl, rfl, ?_⟩
  exact h4
set_option maxHeartbeats 4000000 in
set_option maxRecDepth 100000 in
theorem c_X5_addPoint {ν : Nat → Int → Int} {kd : Int → Int} {n : Nat} {N : Nat → List Int} {ow : Nat → Int} {m : Nat → Nat} {p : Nat → Nat → Int} {s c r : Int} (hfl : l.stackTraces = false) (hX : MI ν kd n N ow m p) (hsR : -2147483648 ≤ s ∧ s < 2147483648) (hcR : -2147483648 ≤ c ∧ c < 2147483648) (hrR : -2147483648 ≤ r ∧ r < 2147483648) : CT l D cy n0 ad yX5_addPoint (.code yX5_addPoint cX5_addPoint 10 (some .int)) ({ frames := 3, cells := 0, slots := 0, locals := 66 }) [.ref (b 0), .int (zI s), .int (zI c), .int (zI r)] (gw 14 MSh cy b ν ++ E) (fun vv uu => ∃ q μ', vv = some (.int (zI q)) ∧ uu = (gw 14 MSh cy b μ' ++ E) ∧ (((StOK n s ∧ SqOK c r) ∧ (m s.toNat = 0 ∨ Aln (p s.toNat (m s.toNat - 1)) c r) ∧ m s.toNat < 10 ∧ μ' 0 16 = 0 ∧ q = ((trk (pset (p s.toNat) (m s.toNat) (12 * c + r)) (m s.toNat + 1)).length : Nat) ∧ MI μ' kd n N ow (fset m s.toNat (m s.toNat + 1)) (fset p s.toNat (pset (p s.toNat) (m s.toNat) (12 * c + r)))) ∨ (μ' 0 16 = 1 ∧ ¬ (StOK n s ∧ SqOK c r) ∧ MI μ' kd n N ow m p) ∨ (μ' 0 16 = 2 ∧ (StOK n s ∧ SqOK c r) ∧ ¬ (m s.toNat = 0 ∨ Aln (p s.toNat (m s.toNat - 1)) c r) ∧ MI μ' kd n N ow m p) ∨ (μ' 0 16 = 3 ∧ (StOK n s ∧ SqOK c r) ∧ (m s.toNat = 0 ∨ Aln (p s.toNat (m s.toNat - 1)) c r) ∧ m s.toNat = 10 ∧ MI μ' kd n N ow m p))) := by
  obtain ⟨x1, x2, x3, x4, x5, x6, x7, x8⟩ := id hX
  refine CT.walk hfl (by decide) (Nat.le_of_ble_eq_true rfl) ?_
  intro A J hJ
  show J (gw 14 MSh cy b ν ++ E) 0 0 0 [(0, .ref (b 0)), (1, .int (zI s)), (2, .int (zI c)), (3, .int (zI r))] []
  have j158 : ∀ (kn : Int) (ft : Int) (cn : Int) (hkn : (kn = 1 ∧ StOK n s ∧ SqOK c r) ∨ (kn = 0 ∧ ¬ (StOK n s ∧ SqOK c r))) (hft : kn = 1 → (ft = 1 ∧ (m s.toNat = 0 ∨ Aln (p s.toNat (m s.toNat - 1)) c r)) ∨ (ft = 0 ∧ ¬ (m s.toNat = 0 ∨ Aln (p s.toNat (m s.toNat - 1)) c r))) (hf01 : ft = 0 ∨ ft = 1) (hcn : (cn = 1 ∧ kn = 1 ∧ m s.toNat < 10) ∨ (cn = 0 ∧ ¬ (kn = 1 ∧ m s.toNat < 10))), J (gw 14 MSh cy b ν ++ E) 0 0 158 [(0, .ref (b 0)), (1, .int (zI s)), (2, .int (zI c)), (3, .int (zI r))] [.int (zI cn), .int (zI ft), .int (zI kn), .ref (b 0)] := by
    intro kn ft cn hkn hft hf01 hcn
    have hk01 : kn = 0 ∨ kn = 1 := by omega
    have hc01 : cn = 0 ∨ cn = 1 := by omega
    refine j_callV0 hJ (c_X5_goes hfl hk01 hf01 hc01) m_X5_104 k_X5_goes (q0 := 0) (by rw [gw_get (by decide)]; rfl) rfl ⟨(Nat.le_of_ble_eq_true rfl), (Nat.le_of_ble_eq_true rfl)⟩ ⟨(Nat.le_of_ble_eq_true rfl), (Nat.le_of_ble_eq_true rfl)⟩ (Nat.le_of_ble_eq_true rfl) dX5_addPoint_158 rfl ?_
    intro v1 u2 hv3
    obtain ⟨q8, ν1, rfl, rfl, h8⟩ := hv3
    show J (gw 14 MSh cy b ν1 ++ E) 0 0 161 [(0, .ref (b 0)), (1, .int (zI s)), (2, .int (zI c)), (3, .int (zI r))] [.int (zI q8)]
    obtain ⟨hM, hq8⟩ := h8
    have hS := hX.scratch (ν' := ν1) (by rw [hM]; exact FrM.last)
    have hq8' : (goC kn ft cn = 0 ∧ q8 = 1) ∨ (goC kn ft cn ≠ 0 ∧ q8 = 0) := by
      by_cases e : goC kn ft cn = 0
      · rw [if_pos e] at hq8; exact Or.inl ⟨e, hq8⟩
      · rw [if_neg e] at hq8; exact Or.inr ⟨e, hq8⟩
    have hg := goC_c hk01 hf01 hc01
    refine j_if_ne hJ (tgt := 166) ⟨by omega, by omega⟩ (by decide) dX5_addPoint_161 ?_ ?_
    · intro h161
      have hk1 : kn = 1 := by omega
      obtain ⟨hst, ⟨hs1, hs2⟩, hc1, hc2⟩ : (StOK n s ∧ SqOK c r) ∧ StOK n s ∧ SqOK c r := by
        have := hkn.elim (fun g => g.2) (fun g => by exfalso; omega)
        exact ⟨this, this⟩
      have hp := x7 s.toNat (by omega)
      have hp1 := hp.1
      have hp2 := hp.2.1
      rw [Int.toNat_of_nonneg hs1] at hp1
      have hm10 : m s.toNat < 10 := by omega
      have hcan : (m s.toNat = 0 ∨ Aln (p s.toNat (m s.toNat - 1)) c r) := (hft hk1).elim (fun g => g.2) (fun g => by exfalso; omega)
      refine j_aload_n hJ (j := 0) rfl rfl dX5_addPoint_166 ?_
      refine w_getr hJ (by omega) rfl rfl f_X5_22 dX5_addPoint_167 ?_
      refine j_bipush hJ (v := 10) (by decide) dX5_addPoint_170 ?_
      refine j_iload_n hJ (j := 1) rfl rfl dX5_addPoint_172 ?_
      refine j_imul hJ dX5_addPoint_173 ?_
      refine j_aload_n hJ (j := 0) rfl rfl dX5_addPoint_174 ?_
      refine w_getr hJ (by omega) rfl rfl f_X5_25 dX5_addPoint_175 ?_
      refine j_iload_n hJ (j := 1) rfl rfl dX5_addPoint_178 ?_
      refine w_iald hJ (by omega) rfl (by first | decide | omega) (by omega) (by omega) dX5_addPoint_179 ?_
      refine j_topi (y := zI (m s.toNat : Int)) (by rw [hM, up_rowf (by omega), hp1]) ?_
      refine j_iadd hJ dX5_addPoint_180 ?_
      refine j_bipush hJ (v := 12) (by decide) dX5_addPoint_181 ?_
      refine j_iload_n hJ (j := 2) rfl rfl dX5_addPoint_183 ?_
      refine j_imul hJ dX5_addPoint_184 ?_
      refine j_iload_n hJ (j := 3) rfl rfl dX5_addPoint_185 ?_
      refine j_iadd hJ dX5_addPoint_186 ?_
      refine w_iast hJ (by omega) rfl (by first | decide | omega) (by omega) (by omega) dX5_addPoint_187 ?_
      intro ν2 hν2
      have hM2 := hν2
      refine j_aload_n hJ (j := 0) rfl rfl dX5_addPoint_188 ?_
      refine w_getr hJ (by omega) rfl rfl f_X5_25 dX5_addPoint_189 ?_
      refine j_iload_n hJ (j := 1) rfl rfl dX5_addPoint_192 ?_
      refine j_dup2 hJ rfl rfl dX5_addPoint_193 ?_
      refine w_iald hJ (by omega) rfl (by first | decide | omega) (by omega) (by omega) dX5_addPoint_194 ?_
      refine j_topi (y := zI (m s.toNat : Int)) (by rw [hM2, up_rowf (by omega), hM, up_rowf (by omega), hp1]) ?_
      refine j_iconst hJ dX5_addPoint_195 ?_
      refine j_iadd hJ dX5_addPoint_196 ?_
      refine w_iast hJ (by omega) rfl (by first | decide | omega) (by omega) (by omega) dX5_addPoint_197 ?_
      intro ν3 hν3
      have hM3 := hν3
      have hP2 : PtM ν3 s.toNat (pset (p s.toNat) (m s.toNat) (12 * c + r)) (m s.toNat + 1) := by
        refine ⟨by rw [hM3, Int.toNat_of_nonneg hs1, up_self]; omega, by omega, hp.2.2.1.add hc1 hc2 (fun g => hcan.resolve_left (by omega)), fun k hk => ?_⟩
        rw [hM3, up_rowf (by omega), hM2]
        unfold pset
        by_cases e : k = m s.toNat
        · rw [if_pos e, e, Int.toNat_of_nonneg hs1, up_self]
        · rw [if_neg e, up_at (by omega), hM, up_rowf (by omega)]; exact hp.2.2.2 k (by omega)
      have hS2 := hS.setP (i := s.toNat) (by omega) hP2 (fun a g1 g2 => by rw [hM3, up_rowf g2, hM2, up_rowf g1]) (fun j g => by rw [hM3, up_at (by omega), hM2, up_rowf (by omega)]) (fun j g => by rw [hM3, up_rowf (by omega), hM2, up_at (by omega)])
      refine j_aload_n hJ (j := 0) rfl rfl dX5_addPoint_198 ?_
      refine j_iload_n hJ (j := 1) rfl rfl dX5_addPoint_199 ?_
      refine j_topi (y := zI (s.toNat : Int)) (by rw [Int.toNat_of_nonneg hs1]) ?_
      refine j_callV0 hJ (c_X5_tracked hfl (i := s.toNat) (by omega) hP2) m_X5_108 k_X5_tracked (q0 := 0) (by rw [gw_get (by decide)]; rfl) rfl ⟨(Nat.le_of_ble_eq_true rfl), (Nat.le_of_ble_eq_true rfl)⟩ ⟨(Nat.le_of_ble_eq_true rfl), (Nat.le_of_ble_eq_true rfl)⟩ (Nat.le_of_ble_eq_true rfl) dX5_addPoint_200 rfl ?_
      intro v4 u5 hv6
      obtain ⟨q53, ν4, rfl, rfl, h53⟩ := hv6
      show J (gw 14 MSh cy b ν4 ++ E) 0 0 203 [(0, .ref (b 0)), (1, .int (zI s)), (2, .int (zI c)), (3, .int (zI r))] [.int (zI q53)]
      refine j_iret hJ rfl rfl (rfl) (Nat.le_of_ble_eq_true rfl) (Nat.le_of_ble_eq_true rfl) dX5_addPoint_203 ⟨q53, ν4, rfl, rfl, ?_⟩
      obtain ⟨g1, g2, g3⟩ := h53
      exact Or.inl ⟨hst, hcan, hm10, by rw [g3.2 16 (by omega), hM3, up_rowf (by omega), hM2, up_rowf (by omega), hM, up_self]; omega, g1, hS2.scratch g3.M⟩
    · intro h161
      refine j_iconst hJ dX5_addPoint_164 ?_
      refine j_iret hJ rfl rfl (rfl) (Nat.le_of_ble_eq_true rfl) (Nat.le_of_ble_eq_true rfl) dX5_addPoint_165 ⟨0, ν1, rfl, rfl, ?_⟩
      rcases hg with ⟨e, g⟩ | ⟨e, e2, g⟩ | ⟨e, e2, e3, g⟩ | ⟨e, e2, e3, g⟩
      · exact Or.inr (Or.inl ⟨by rw [hM, up_self, g], hkn.elim (fun g => by exfalso; omega) (fun g => g.2), hS⟩)
      · exact Or.inr (Or.inr (Or.inl ⟨by rw [hM, up_self, g], hkn.elim (fun g => g.2) (fun g => by exfalso; omega), (hft e).elim (fun g => by exfalso; omega) (fun g => g.2), hS⟩))
      · have hst : StOK n s ∧ SqOK c r := hkn.elim (fun g => g.2) (fun g => by exfalso; omega)
        have := (x7 s.toNat (by have := hst.1.1; have := hst.1.2; omega)).2.1
        exact Or.inr (Or.inr (Or.inr ⟨by rw [hM, up_self, g], hst, (hft e).elim (fun g => g.2) (fun g => by exfalso; omega), by omega, hS⟩))
      · exfalso; omega
  have j132 : ∀ (kn : Int) (ft : Int) (hkn : (kn = 1 ∧ StOK n s ∧ SqOK c r) ∨ (kn = 0 ∧ ¬ (StOK n s ∧ SqOK c r))) (hft : kn = 1 → (ft = 1 ∧ (m s.toNat = 0 ∨ Aln (p s.toNat (m s.toNat - 1)) c r)) ∨ (ft = 0 ∧ ¬ (m s.toNat = 0 ∨ Aln (p s.toNat (m s.toNat - 1)) c r))) (hf01 : ft = 0 ∨ ft = 1), J (gw 14 MSh cy b ν ++ E) 0 0 132 [(0, .ref (b 0)), (1, .int (zI s)), (2, .int (zI c)), (3, .int (zI r)), (4, .int (zI kn)), (5, .int (zI ft))] [] := by
    intro kn ft hkn hft hf01
    refine j_aload_n hJ (j := 0) rfl rfl dX5_addPoint_132 ?_
    refine j_iload hJ (j := 4) rfl dX5_addPoint_133 ?_
    refine j_iload hJ (j := 5) rfl dX5_addPoint_135 ?_
    refine j_iload hJ (j := 4) rfl dX5_addPoint_137 ?_
    have hk01 : kn = 0 ∨ kn = 1 := by omega
    refine j_if_eq hJ (tgt := 157) ⟨by omega, by omega⟩ (by decide) dX5_addPoint_139 ?_ ?_
    · intro h139
      refine j_iconst hJ dX5_addPoint_157 ?_
      refine j_locs hJ [0, 1, 2, 3] rfl ?_
      exact j158 kn ft 0 (by exact hkn) (by exact hft) (by exact hf01) (by omega)
    · intro h139
      have hk1 : kn = 1 := by omega
      obtain ⟨hst, ⟨hs1, hs2⟩, hc1, hc2⟩ : (StOK n s ∧ SqOK c r) ∧ StOK n s ∧ SqOK c r := by
        have := hkn.elim (fun g => g.2) (fun g => by exfalso; omega)
        exact ⟨this, this⟩
      have hp := x7 s.toNat (by omega)
      have hp1 := hp.1
      have hp2 := hp.2.1
      rw [Int.toNat_of_nonneg hs1] at hp1
      refine j_aload_n hJ (j := 0) rfl rfl dX5_addPoint_142 ?_
      refine w_getr hJ (by omega) rfl rfl f_X5_25 dX5_addPoint_143 ?_
      refine j_iload_n hJ (j := 1) rfl rfl dX5_addPoint_146 ?_
      refine w_iald hJ (by omega) rfl (by first | decide | omega) (by omega) (by omega) dX5_addPoint_147 ?_
      refine j_topi (y := zI (m s.toNat : Int)) (by rw [hp1]) ?_
      refine j_bipush hJ (v := 10) (by decide) dX5_addPoint_148 ?_
      refine j_icmp_ge hJ (tgt := 157) ⟨by omega, by omega⟩ ⟨by omega, by omega⟩ (by decide) dX5_addPoint_150 ?_ ?_
      · intro h150
        refine j_iconst hJ dX5_addPoint_157 ?_
        refine j_locs hJ [0, 1, 2, 3] rfl ?_
        exact j158 kn ft 0 (by exact hkn) (by exact hft) (by exact hf01) (by omega)
      · intro h150
        refine j_iconst hJ dX5_addPoint_153 ?_
        refine j_goto hJ (tgt := 158) (by decide) dX5_addPoint_154 ?_
        refine j_locs hJ [0, 1, 2, 3] rfl ?_
        exact j158 kn ft 1 (by exact hkn) (by exact hft) (by exact hf01) (by omega)
  have j21 : ∀ (kn : Int) (hkn : (kn = 1 ∧ StOK n s ∧ SqOK c r) ∨ (kn = 0 ∧ ¬ (StOK n s ∧ SqOK c r))), J (gw 14 MSh cy b ν ++ E) 0 0 21 [(0, .ref (b 0)), (1, .int (zI s)), (2, .int (zI c)), (3, .int (zI r))] [.int (zI kn)] := by
    intro kn hkn
    refine j_istore hJ (lv' := [(4, .int (zI kn)), (0, .ref (b 0)), (1, .int (zI s)), (2, .int (zI c)), (3, .int (zI r))]) (by decide) rfl dX5_addPoint_21 ?_
    refine j_iconst hJ dX5_addPoint_23 ?_
    refine j_istore hJ (lv' := [(5, .int (zI 1)), (4, .int (zI kn)), (0, .ref (b 0)), (1, .int (zI s)), (2, .int (zI c)), (3, .int (zI r))]) (by decide) rfl dX5_addPoint_24 ?_
    refine j_iload hJ (j := 1) rfl dX5_addPoint_26 ?_
    have hk01 : kn = 0 ∨ kn = 1 := by omega
    refine j_if_eq hJ (tgt := 132) ⟨by omega, by omega⟩ (by decide) dX5_addPoint_28 ?_ ?_
    · intro h28
      refine j_locs hJ [2, 3, 4, 5, 1, 0] rfl ?_
      refine j132 kn 1 (by exact hkn) ?_ (by omega)
      · intro e9
        first
        | (exfalso; omega)
        | exact Or.inl ⟨rfl, Or.inl (by omega)⟩
        | exact Or.inl ⟨rfl, Or.inr (by unfold Aln; omega)⟩
        | exact Or.inr ⟨rfl, fun g => by
            rcases g with g | g
            · omega
            · unfold Aln at g; omega⟩
    · intro h28
      have hk1 : kn = 1 := by omega
      obtain ⟨hst, ⟨hs1, hs2⟩, hc1, hc2⟩ : (StOK n s ∧ SqOK c r) ∧ StOK n s ∧ SqOK c r := by
        have := hkn.elim (fun g => g.2) (fun g => by exfalso; omega)
        exact ⟨this, this⟩
      have hp := x7 s.toNat (by omega)
      have hp1 := hp.1
      have hp2 := hp.2.1
      rw [Int.toNat_of_nonneg hs1] at hp1
      refine j_aload_n hJ (j := 2) rfl rfl dX5_addPoint_31 ?_
      refine w_getr hJ (by omega) rfl rfl f_X5_25 dX5_addPoint_32 ?_
      refine j_iload_n hJ (j := 3) rfl rfl dX5_addPoint_35 ?_
      refine w_iald hJ (by omega) rfl (by first | decide | omega) (by omega) (by omega) dX5_addPoint_36 ?_
      refine j_topi (y := zI (m s.toNat : Int)) (by rw [hp1]) ?_
      refine j_if_le hJ (tgt := 132) ⟨by omega, by omega⟩ (by decide) dX5_addPoint_37 ?_ ?_
      · intro h37
        refine j_locs hJ [2, 3, 4, 5, 1, 0] rfl ?_
        refine j132 kn 1 (by exact hkn) ?_ (by omega)
        · intro e9
          first
          | (exfalso; omega)
          | exact Or.inl ⟨rfl, Or.inl (by omega)⟩
          | exact Or.inl ⟨rfl, Or.inr (by unfold Aln; omega)⟩
          | exact Or.inr ⟨rfl, fun g => by
              rcases g with g | g
              · omega
              · unfold Aln at g; omega⟩
      · intro h37
        have pr := hp.2.2.1.1 (m s.toNat - 1) (by omega)
        have pe := hp.2.2.2 (m s.toNat - 1) (by omega)
        rw [Int.toNat_of_nonneg hs1, show ((m s.toNat - 1 : Nat) : Int) = (m s.toNat : Int) - 1 by omega] at pe
        refine j_aload_n hJ (j := 2) rfl rfl dX5_addPoint_40 ?_
        refine w_getr hJ (by omega) rfl rfl f_X5_22 dX5_addPoint_41 ?_
        refine j_bipush hJ (v := 10) (by decide) dX5_addPoint_44 ?_
        refine j_iload_n hJ (j := 3) rfl rfl dX5_addPoint_46 ?_
        refine j_imul hJ dX5_addPoint_47 ?_
        refine j_aload_n hJ (j := 2) rfl rfl dX5_addPoint_48 ?_
        refine w_getr hJ (by omega) rfl rfl f_X5_25 dX5_addPoint_49 ?_
        refine j_iload_n hJ (j := 3) rfl rfl dX5_addPoint_52 ?_
        refine w_iald hJ (by omega) rfl (by first | decide | omega) (by omega) (by omega) dX5_addPoint_53 ?_
        refine j_topi (y := zI (m s.toNat : Int)) (by rw [hp1]) ?_
        refine j_iadd hJ dX5_addPoint_54 ?_
        refine j_iconst hJ dX5_addPoint_55 ?_
        refine j_isub hJ dX5_addPoint_56 ?_
        refine w_iald hJ (by omega) rfl (by first | decide | omega) (by omega) (by omega) dX5_addPoint_57 ?_
        refine j_topi (y := zI (p s.toNat (m s.toNat - 1))) (by rw [← pe]; congr 2; omega) ?_
        refine j_istore hJ (lv' := [(6, .int (zI (p s.toNat (m s.toNat - 1)))), (5, .int (zI 1)), (4, .int (zI kn)), (0, .ref (b 0)), (1, .int (zI s)), (2, .int (zI c)), (3, .int (zI r))]) (by decide) rfl dX5_addPoint_58 ?_
        refine j_iload_n hJ (j := 5) rfl rfl dX5_addPoint_60 ?_
        refine j_iload hJ (j := 0) rfl dX5_addPoint_61 ?_
        refine j_bipush hJ (v := 12) (by decide) dX5_addPoint_63 ?_
        refine j_idiv hJ (by omega) (by omega) (by omega) (by omega) dX5_addPoint_65 ?_
        refine j_isub hJ dX5_addPoint_66 ?_
        refine j_istore hJ (lv' := [(7, .int (zI (c - ((p s.toNat (m s.toNat - 1)) / 12)))), (6, .int (zI (p s.toNat (m s.toNat - 1)))), (5, .int (zI 1)), (4, .int (zI kn)), (0, .ref (b 0)), (1, .int (zI s)), (2, .int (zI c)), (3, .int (zI r))]) (by decide) rfl dX5_addPoint_67 ?_
        refine j_iload_n hJ (j := 7) rfl rfl dX5_addPoint_69 ?_
        refine j_iload hJ (j := 1) rfl dX5_addPoint_70 ?_
        refine j_bipush hJ (v := 12) (by decide) dX5_addPoint_72 ?_
        refine j_irem hJ (by omega) (by omega) (by omega) (by omega) dX5_addPoint_74 ?_
        refine j_isub hJ dX5_addPoint_75 ?_
        refine j_istore hJ (lv' := [(8, .int (zI (r - ((p s.toNat (m s.toNat - 1)) % 12)))), (7, .int (zI (c - ((p s.toNat (m s.toNat - 1)) / 12)))), (6, .int (zI (p s.toNat (m s.toNat - 1)))), (5, .int (zI 1)), (4, .int (zI kn)), (0, .ref (b 0)), (1, .int (zI s)), (2, .int (zI c)), (3, .int (zI r))]) (by decide) rfl dX5_addPoint_76 ?_
        have j108 : ∀ (sg9 : Int) (hsg9 : (sg9 = 1 ∧ ((c - (p s.toNat (m s.toNat - 1)) / 12) = 0 ∨ (r - (p s.toNat (m s.toNat - 1)) % 12) = 0 ∨ (c - (p s.toNat (m s.toNat - 1)) / 12) = (r - (p s.toNat (m s.toNat - 1)) % 12) ∨ (c - (p s.toNat (m s.toNat - 1)) / 12) = -(r - (p s.toNat (m s.toNat - 1)) % 12))) ∨ (sg9 = 0 ∧ ¬ ((c - (p s.toNat (m s.toNat - 1)) / 12) = 0 ∨ (r - (p s.toNat (m s.toNat - 1)) % 12) = 0 ∨ (c - (p s.toNat (m s.toNat - 1)) / 12) = (r - (p s.toNat (m s.toNat - 1)) % 12) ∨ (c - (p s.toNat (m s.toNat - 1)) / 12) = -(r - (p s.toNat (m s.toNat - 1)) % 12)))), J (gw 14 MSh cy b ν ++ E) 0 0 108 [(0, .ref (b 0)), (1, .int (zI s)), (2, .int (zI c)), (3, .int (zI r)), (4, .int (zI kn)), (7, .int (zI (c - (p s.toNat (m s.toNat - 1)) / 12))), (8, .int (zI (r - (p s.toNat (m s.toNat - 1)) % 12)))] [.int (zI sg9)] := by
          intro sg9 hsg9
          refine j_istore hJ (lv' := [(9, .int (zI sg9)), (0, .ref (b 0)), (1, .int (zI s)), (2, .int (zI c)), (3, .int (zI r)), (4, .int (zI kn)), (7, .int (zI (c - (p s.toNat (m s.toNat - 1)) / 12))), (8, .int (zI (r - (p s.toNat (m s.toNat - 1)) % 12)))]) (by decide) rfl dX5_addPoint_108 ?_
          refine j_iload hJ (j := 0) rfl dX5_addPoint_110 ?_
          have h901 : sg9 = 0 ∨ sg9 = 1 := by omega
          refine j_if_eq hJ (tgt := 129) ⟨by omega, by omega⟩ (by decide) dX5_addPoint_112 ?_ ?_
          · intro h112
            refine j_iconst hJ dX5_addPoint_129 ?_
            refine j_istore hJ (lv' := [(5, .int (zI 0)), (9, .int (zI sg9)), (0, .ref (b 0)), (1, .int (zI s)), (2, .int (zI c)), (3, .int (zI r)), (4, .int (zI kn)), (7, .int (zI (c - (p s.toNat (m s.toNat - 1)) / 12))), (8, .int (zI (r - (p s.toNat (m s.toNat - 1)) % 12)))]) (by decide) rfl dX5_addPoint_130 ?_
            refine j_locs hJ [2, 3, 4, 5, 6, 0] rfl ?_
            refine j132 kn 0 (by exact hkn) ?_ (by omega)
            · intro e9
              first
              | (exfalso; omega)
              | exact Or.inl ⟨rfl, Or.inl (by omega)⟩
              | exact Or.inl ⟨rfl, Or.inr (by unfold Aln; omega)⟩
              | exact Or.inr ⟨rfl, fun g => by
                  rcases g with g | g
                  · omega
                  · unfold Aln at g; omega⟩
          · intro h112
            refine j_iload hJ (j := 6) rfl dX5_addPoint_115 ?_
            refine j_if_ne hJ (tgt := 125) ⟨by omega, by omega⟩ (by decide) dX5_addPoint_117 ?_ ?_
            · intro h117
              refine j_iconst hJ dX5_addPoint_125 ?_
              refine j_goto hJ (tgt := 130) (by decide) dX5_addPoint_126 ?_
              refine j_istore hJ (lv' := [(5, .int (zI 1)), (9, .int (zI sg9)), (0, .ref (b 0)), (1, .int (zI s)), (2, .int (zI c)), (3, .int (zI r)), (4, .int (zI kn)), (7, .int (zI (c - (p s.toNat (m s.toNat - 1)) / 12))), (8, .int (zI (r - (p s.toNat (m s.toNat - 1)) % 12)))]) (by decide) rfl dX5_addPoint_130 ?_
              refine j_locs hJ [2, 3, 4, 5, 6, 0] rfl ?_
              refine j132 kn 1 (by exact hkn) ?_ (by omega)
              · intro e9
                first
                | (exfalso; omega)
                | exact Or.inl ⟨rfl, Or.inl (by omega)⟩
                | exact Or.inl ⟨rfl, Or.inr (by unfold Aln; omega)⟩
                | exact Or.inr ⟨rfl, fun g => by
                    rcases g with g | g
                    · omega
                    · unfold Aln at g; omega⟩
            · intro h117
              refine j_iload hJ (j := 7) rfl dX5_addPoint_120 ?_
              refine j_if_eq hJ (tgt := 129) ⟨by omega, by omega⟩ (by decide) dX5_addPoint_122 ?_ ?_
              · intro h122
                refine j_iconst hJ dX5_addPoint_129 ?_
                refine j_istore hJ (lv' := [(5, .int (zI 0)), (9, .int (zI sg9)), (0, .ref (b 0)), (1, .int (zI s)), (2, .int (zI c)), (3, .int (zI r)), (4, .int (zI kn)), (7, .int (zI (c - (p s.toNat (m s.toNat - 1)) / 12))), (8, .int (zI (r - (p s.toNat (m s.toNat - 1)) % 12)))]) (by decide) rfl dX5_addPoint_130 ?_
                refine j_locs hJ [2, 3, 4, 5, 6, 0] rfl ?_
                refine j132 kn 0 (by exact hkn) ?_ (by omega)
                · intro e9
                  first
                  | (exfalso; omega)
                  | exact Or.inl ⟨rfl, Or.inl (by omega)⟩
                  | exact Or.inl ⟨rfl, Or.inr (by unfold Aln; omega)⟩
                  | exact Or.inr ⟨rfl, fun g => by
                      rcases g with g | g
                      · omega
                      · unfold Aln at g; omega⟩
              · intro h122
                refine j_iconst hJ dX5_addPoint_125 ?_
                refine j_goto hJ (tgt := 130) (by decide) dX5_addPoint_126 ?_
                refine j_istore hJ (lv' := [(5, .int (zI 1)), (9, .int (zI sg9)), (0, .ref (b 0)), (1, .int (zI s)), (2, .int (zI c)), (3, .int (zI r)), (4, .int (zI kn)), (7, .int (zI (c - (p s.toNat (m s.toNat - 1)) / 12))), (8, .int (zI (r - (p s.toNat (m s.toNat - 1)) % 12)))]) (by decide) rfl dX5_addPoint_130 ?_
                refine j_locs hJ [2, 3, 4, 5, 6, 0] rfl ?_
                refine j132 kn 1 (by exact hkn) ?_ (by omega)
                · intro e9
                  first
                  | (exfalso; omega)
                  | exact Or.inl ⟨rfl, Or.inl (by omega)⟩
                  | exact Or.inl ⟨rfl, Or.inr (by unfold Aln; omega)⟩
                  | exact Or.inr ⟨rfl, fun g => by
                      rcases g with g | g
                      · omega
                      · unfold Aln at g; omega⟩
        refine j_iload hJ (j := 1) rfl dX5_addPoint_78 ?_
        refine j_if_eq hJ (tgt := 103) ⟨by omega, by omega⟩ (by decide) dX5_addPoint_80 ?_ ?_
        · intro h80
          refine j_iconst hJ dX5_addPoint_103 ?_
          refine j_goto hJ (tgt := 108) (by decide) dX5_addPoint_104 ?_
          refine j_locs hJ [5, 6, 7, 8, 4, 1, 0] rfl ?_
          exact j108 1 (by omega)
        · intro h80
          refine j_iload hJ (j := 0) rfl dX5_addPoint_83 ?_
          refine j_if_eq hJ (tgt := 103) ⟨by omega, by omega⟩ (by decide) dX5_addPoint_85 ?_ ?_
          · intro h85
            refine j_iconst hJ dX5_addPoint_103 ?_
            refine j_goto hJ (tgt := 108) (by decide) dX5_addPoint_104 ?_
            refine j_locs hJ [5, 6, 7, 8, 4, 1, 0] rfl ?_
            exact j108 1 (by omega)
          · intro h85
            refine j_iload hJ (j := 1) rfl dX5_addPoint_88 ?_
            refine j_iload hJ (j := 0) rfl dX5_addPoint_90 ?_
            refine j_icmp_eq hJ (tgt := 103) ⟨by omega, by omega⟩ ⟨by omega, by omega⟩ (by decide) dX5_addPoint_92 ?_ ?_
            · intro h92
              refine j_iconst hJ dX5_addPoint_103 ?_
              refine j_goto hJ (tgt := 108) (by decide) dX5_addPoint_104 ?_
              refine j_locs hJ [5, 6, 7, 8, 4, 1, 0] rfl ?_
              exact j108 1 (by omega)
            · intro h92
              refine j_iload hJ (j := 1) rfl dX5_addPoint_95 ?_
              refine j_iload hJ (j := 0) rfl dX5_addPoint_97 ?_
              refine j_ineg hJ dX5_addPoint_99 ?_
              refine j_icmp_ne hJ (tgt := 107) ⟨by omega, by omega⟩ ⟨by omega, by omega⟩ (by decide) dX5_addPoint_100 ?_ ?_
              · intro h100
                refine j_iconst hJ dX5_addPoint_107 ?_
                refine j_locs hJ [5, 6, 7, 8, 4, 1, 0] rfl ?_
                exact j108 0 (by omega)
              · intro h100
                refine j_iconst hJ dX5_addPoint_103 ?_
                refine j_goto hJ (tgt := 108) (by decide) dX5_addPoint_104 ?_
                refine j_locs hJ [5, 6, 7, 8, 4, 1, 0] rfl ?_
                exact j108 1 (by omega)
  refine j_aload_n hJ (j := 0) rfl rfl dX5_addPoint_0 ?_
  refine j_iload_n hJ (j := 1) rfl rfl dX5_addPoint_1 ?_
  refine j_callV0 hJ (c_X5_isStreet hfl (n := n) hsR x1 x2) m_X5_97 k_X5_isStreet (q0 := 0) (by rw [gw_get (by decide)]; rfl) rfl ⟨(Nat.le_of_ble_eq_true rfl), (Nat.le_of_ble_eq_true rfl)⟩ ⟨(Nat.le_of_ble_eq_true rfl), (Nat.le_of_ble_eq_true rfl)⟩ (Nat.le_of_ble_eq_true rfl) dX5_addPoint_2 rfl ?_
  intro v7 u8 hv9
  obtain ⟨q3, rfl, rfl, h3⟩ := hv9
  show J (gw 14 MSh cy b ν ++ E) 0 0 5 [(0, .ref (b 0)), (1, .int (zI s)), (2, .int (zI c)), (3, .int (zI r))] [.int (zI q3)]
  refine j_if_eq hJ (tgt := 20) ⟨by omega, by omega⟩ (by decide) dX5_addPoint_5 ?_ ?_
  · intro h5
    refine j_iconst hJ dX5_addPoint_20 ?_
    refine j21 0 ?_
    · rcases h3 with ⟨e3, g3⟩ | ⟨e3, g3⟩
      · first
        | (exfalso; omega)
        | (rcases h9 with ⟨e9, g9⟩ | ⟨e9, g9⟩
           · first
             | exact Or.inl ⟨rfl, g3, g9⟩
             | (exfalso; omega)
           · first
             | exact Or.inr ⟨rfl, fun g => g9 g.2⟩
             | (exfalso; omega))
      · first
        | exact Or.inr ⟨rfl, fun g => g3 g.1⟩
        | (exfalso; omega)
  · intro h5
    refine j_iload_n hJ (j := 2) rfl rfl dX5_addPoint_8 ?_
    refine j_iload_n hJ (j := 3) rfl rfl dX5_addPoint_9 ?_
    refine j_callS0 hJ (c_X5_isSquare hfl hcR hrR) m_X5_101 k_X5_isSquare ⟨(Nat.le_of_ble_eq_true rfl), (Nat.le_of_ble_eq_true rfl)⟩ ⟨(Nat.le_of_ble_eq_true rfl), (Nat.le_of_ble_eq_true rfl)⟩ (Nat.le_of_ble_eq_true rfl) dX5_addPoint_10 rfl ?_
    intro v10 u11 hv12
    obtain ⟨q9, rfl, rfl, h9⟩ := hv12
    show J (gw 14 MSh cy b ν ++ E) 0 0 13 [(0, .ref (b 0)), (1, .int (zI s)), (2, .int (zI c)), (3, .int (zI r))] [.int (zI q9)]
    refine j_if_eq hJ (tgt := 20) ⟨by omega, by omega⟩ (by decide) dX5_addPoint_13 ?_ ?_
    · intro h13
      refine j_iconst hJ dX5_addPoint_20 ?_
      refine j21 0 ?_
      · rcases h3 with ⟨e3, g3⟩ | ⟨e3, g3⟩
        · first
          | (exfalso; omega)
          | (rcases h9 with ⟨e9, g9⟩ | ⟨e9, g9⟩
             · first
               | exact Or.inl ⟨rfl, g3, g9⟩
               | (exfalso; omega)
             · first
               | exact Or.inr ⟨rfl, fun g => g9 g.2⟩
               | (exfalso; omega))
        · first
          | exact Or.inr ⟨rfl, fun g => g3 g.1⟩
          | (exfalso; omega)
    · intro h13
      refine j_iconst hJ dX5_addPoint_16 ?_
      refine j_goto hJ (tgt := 21) (by decide) dX5_addPoint_17 ?_
      refine j21 1 ?_
      · rcases h3 with ⟨e3, g3⟩ | ⟨e3, g3⟩
        · first
          | (exfalso; omega)
          | (rcases h9 with ⟨e9, g9⟩ | ⟨e9, g9⟩
             · first
               | exact Or.inl ⟨rfl, g3, g9⟩
               | (exfalso; omega)
             · first
               | exact Or.inr ⟨rfl, fun g => g9 g.2⟩
               | (exfalso; omega))
        · first
          | exact Or.inr ⟨rfl, fun g => g3 g.1⟩
          | (exfalso; omega)
end
