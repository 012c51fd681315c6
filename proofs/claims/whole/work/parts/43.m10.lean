
set_option maxRecDepth 20000 in
theorem m_X5_151 : MF RX5 151 0 yX5_walks 1 := ⟨Or.inl (List.mem_of_getElem? (i := 1100) (by decide +kernel)), (List.mem_of_getElem? (i := 63) (by decide +kernel)), ⟨by decide +kernel, by decide +kernel⟩, by decide +kernel, fun _ => ⟨(List.mem_of_getElem? (i := 1102) (by decide +kernel)), (List.mem_of_getElem? (i := 56) (by decide +kernel))⟩, fun h => by omega, fun h => by omega⟩
set_option maxRecDepth 20000 in
theorem k_X5_walks : Cond.code yX5_walks cX5_walks 5 none ∈ GT := (List.mem_of_getElem? (i := 1103) (by decide +kernel))
set_option maxRecDepth 20000 in
theorem m_X5_154 : MF RX5 154 0 yX5_walk 4 := ⟨Or.inl (List.mem_of_getElem? (i := 1113) (by decide +kernel)), (List.mem_of_getElem? (i := 63) (by decide +kernel)), ⟨by decide +kernel, by decide +kernel⟩, by decide +kernel, fun _ => ⟨(List.mem_of_getElem? (i := 1097) (by decide +kernel)), (List.mem_of_getElem? (i := 1098) (by decide +kernel))⟩, fun h => by omega, fun h => by omega⟩
set_option maxRecDepth 20000 in
theorem k_X5_walk : Cond.code yX5_walk cX5_walk 6 (some .int) ∈ GT := (List.mem_of_getElem? (i := 1099) (by decide +kernel))
section
variable {l : Launch} {D : va_G} {cy : Nat → ClassId} {n0 : Nat} {ad : Nat → Nat} {b : Nat → Nat} {E : va_W} {ws : va_W}
set_option maxHeartbeats 4000000 in
set_option maxRecDepth 100000 in
theorem c_X5_walk {ν : Nat → Int → Int} {kd : Int → Int} {n : Nat} {N : Nat → List Int} {ow : Nat → Int} {m : Nat → Nat} {p : Nat → Nat → Int} {c r tc tr : Int} (hfl : l.stackTraces = false) (hX : MI ν kd n N ow m p) (hcR : -2147483648 ≤ c ∧ c < 2147483648) (hrR : -2147483648 ≤ r ∧ r < 2147483648) (htcR : -2147483648 ≤ tc ∧ tc < 2147483648) (htrR : -2147483648 ≤ tr ∧ tr < 2147483648) : CT l D cy n0 ad yX5_walk (.code yX5_walk cX5_walk 6 (some .int)) ({ frames := 3, cells := 0, slots := 0, locals := 69 }) [.ref (b 0), .int (zI c), .int (zI r), .int (zI tc), .int (zI tr)] (gw 14 MSh cy b ν ++ E) (fun vv uu => ∃ q μ', vv = some (.int (zI q)) ∧ uu = (gw 14 MSh cy b μ' ++ E) ∧ (((SqOK c r ∧ SqOK tc tr) ∧ μ' 0 16 = 0 ∧ IsDist (EdS n (fun s => trk (p s) (m s)) ow) (12 * c + r) (12 * tc + tr) q ∧ MI μ' kd n N ow m p) ∨ (μ' 0 16 = 1 ∧ ¬ (SqOK c r ∧ SqOK tc tr) ∧ MI μ' kd n N ow m p))) := by
  obtain ⟨x1, x2, x3, x4, x5, x6, x7, x8⟩ := id hX
  refine CT.walk hfl (by decide) (Nat.le_of_ble_eq_true rfl) ?_
  intro A J hJ
  show J (gw 14 MSh cy b ν ++ E) 0 0 0 [(0, .ref (b 0)), (1, .int (zI c)), (2, .int (zI r)), (3, .int (zI tc)), (4, .int (zI tr))] []
  have j23 : ∀ (kn : Int) (hkn : (kn = 1 ∧ SqOK c r ∧ SqOK tc tr) ∨ (kn = 0 ∧ ¬ (SqOK c r ∧ SqOK tc tr))), J (gw 14 MSh cy b ν ++ E) 0 0 23 [(0, .ref (b 0)), (1, .int (zI c)), (2, .int (zI r)), (3, .int (zI tc)), (4, .int (zI tr))] [.int (zI kn), .ref (b 0)] := by
    intro kn hkn
    refine j_iconst hJ dX5_walk_23 ?_
    have hq3 : kn = 0 ∨ kn = 1 := by omega
    refine j_iconst hJ dX5_walk_24 ?_
    refine j_callV0 hJ (c_X5_goes hfl hq3 (Or.inr rfl) (Or.inr rfl)) m_X5_104 k_X5_goes (q0 := 0) (by rw [gw_get (by decide)]; rfl) rfl ⟨(Nat.le_of_ble_eq_true rfl), (Nat.le_of_ble_eq_true rfl)⟩ ⟨(Nat.le_of_ble_eq_true rfl), (Nat.le_of_ble_eq_true rfl)⟩ (Nat.le_of_ble_eq_true rfl) dX5_walk_25 rfl ?_
    intro v1 u2 hv3
    obtain ⟨q8, ν1, rfl, rfl, h8⟩ := hv3
    show J (gw 14 MSh cy b ν1 ++ E) 0 0 28 [(0, .ref (b 0)), (1, .int (zI c)), (2, .int (zI r)), (3, .int (zI tc)), (4, .int (zI tr))] [.int (zI q8)]
    obtain ⟨hM, hq8⟩ := h8
    have hS := hX.scratch (ν' := ν1) (by rw [hM]; exact FrM.last)
    have h11 : (1 : Int) = 0 ∨ (1 : Int) = 1 := Or.inr rfl
    have hq8' : (goC kn 1 1 = 0 ∧ q8 = 1) ∨ (goC kn 1 1 ≠ 0 ∧ q8 = 0) := by
      by_cases e : goC kn 1 1 = 0
      · rw [if_pos e] at hq8; exact Or.inl ⟨e, hq8⟩
      · rw [if_neg e] at hq8; exact Or.inr ⟨e, hq8⟩
    have hg := goC_c hq3 h11 h11
    refine j_if_ne hJ (tgt := 33) ⟨by omega, by omega⟩ (by decide) dX5_walk_28 ?_ ?_
    · intro h28
      have hst : SqOK c r ∧ SqOK tc tr := hkn.elim (fun g => g.2) (fun g => by exfalso; omega)
      obtain ⟨⟨hc1, hc2⟩, ht1, ht2⟩ := id hst
      refine j_aload_n hJ (j := 0) rfl rfl dX5_walk_33 ?_
      refine j_bipush hJ (v := 12) (by decide) dX5_walk_34 ?_
      refine j_iload_n hJ (j := 1) rfl rfl dX5_walk_36 ?_
      refine j_imul hJ dX5_walk_37 ?_
      refine j_iload_n hJ (j := 2) rfl rfl dX5_walk_38 ?_
      refine j_iadd hJ dX5_walk_39 ?_
      refine j_callV0 hJ (c_X5_walks hfl (a0 := 12 * c + r) hS (by omega)) m_X5_151 k_X5_walks (q0 := 0) (by rw [gw_get (by decide)]; rfl) rfl ⟨(Nat.le_of_ble_eq_true rfl), (Nat.le_of_ble_eq_true rfl)⟩ ⟨(Nat.le_of_ble_eq_true rfl), (Nat.le_of_ble_eq_true rfl)⟩ (Nat.le_of_ble_eq_true rfl) dX5_walk_40 rfl ?_
      intro v4 u5 hv6
      obtain ⟨ν2, rfl, rfl, h40⟩ := hv6
      show J (gw 14 MSh cy b ν2 ++ E) 0 0 43 [(0, .ref (b 0)), (1, .int (zI c)), (2, .int (zI r)), (3, .int (zI tc)), (4, .int (zI tr))] []
      obtain ⟨w1, w2, w3, w4⟩ := h40
      have hd := w1.dist (fun a c ⟨s, hs, he⟩ => EdL_rng (x7 s (by omega)).2.2.1 he) w2 (x := 12 * tc + tr) (by omega) (by omega)
      have hv := (w1.2 (12 * tc + tr) (by omega) (by omega)).1
      have e16 : ν1 0 16 = goC kn 1 1 := by rw [hM, up_self]
      refine j_aload_n hJ (j := 0) rfl rfl dX5_walk_43 ?_
      refine w_getr hJ (by omega) rfl rfl f_X5_47 dX5_walk_44 ?_
      refine j_bipush hJ (v := 12) (by decide) dX5_walk_47 ?_
      refine j_iload_n hJ (j := 3) rfl rfl dX5_walk_49 ?_
      refine j_imul hJ dX5_walk_50 ?_
      refine j_iload hJ (j := 4) rfl dX5_walk_51 ?_
      refine j_iadd hJ dX5_walk_53 ?_
      refine w_iald hJ (by omega) rfl (by first | decide | omega) (by omega) (by omega) dX5_walk_54 ?_
      refine j_istore hJ (lv' := [(5, .int (zI (ν2 13 ((12 * tc) + tr)))), (0, .ref (b 0)), (1, .int (zI c)), (2, .int (zI r)), (3, .int (zI tc)), (4, .int (zI tr))]) (by decide) rfl dX5_walk_55 ?_
      refine j_iload hJ (j := 0) rfl dX5_walk_57 ?_
      refine j_ldc hJ q_X5_147 dX5_walk_59 ?_
      refine j_icmp_ne hJ (tgt := 68) ⟨by omega, by omega⟩ ⟨by omega, by omega⟩ (by decide) dX5_walk_61 ?_ ?_
      · intro h61
        refine j_iload hJ (j := 0) rfl dX5_walk_68 ?_
        refine j_iret hJ rfl rfl (rfl) (Nat.le_of_ble_eq_true rfl) (Nat.le_of_ble_eq_true rfl) dX5_walk_70 ⟨(ν2 13 ((12 * tc) + tr)), ν2, rfl, rfl, ?_⟩
        rw [if_neg (by omega)] at hd
        exact Or.inl ⟨hst, by omega, hd, w3⟩
      · intro h61
        refine j_iconst hJ dX5_walk_64 ?_
        refine j_goto hJ (tgt := 70) (by decide) dX5_walk_65 ?_
        refine j_iret hJ rfl rfl (rfl) (Nat.le_of_ble_eq_true rfl) (Nat.le_of_ble_eq_true rfl) dX5_walk_70 ⟨(-1), ν2, rfl, rfl, ?_⟩
        rw [if_pos (by omega)] at hd
        exact Or.inl ⟨hst, by omega, hd, w3⟩
    · intro h28
      have hno : ¬ (SqOK c r ∧ SqOK tc tr) := hkn.elim (fun g => by exfalso; omega) (fun g => g.2)
      refine j_iconst hJ dX5_walk_31 ?_
      refine j_iret hJ rfl rfl (rfl) (Nat.le_of_ble_eq_true rfl) (Nat.le_of_ble_eq_true rfl) dX5_walk_32 ⟨0, ν1, rfl, rfl, ?_⟩
      refine Or.inr ⟨?_, hno, hS⟩
      rw [hM, up_self]; omega
  refine j_aload_n hJ (j := 0) rfl rfl dX5_walk_0 ?_
  refine j_iload_n hJ (j := 1) rfl rfl dX5_walk_1 ?_
  refine j_iload_n hJ (j := 2) rfl rfl dX5_walk_2 ?_
  refine j_callS0 hJ (c_X5_isSquare hfl hcR hrR) m_X5_101 k_X5_isSquare ⟨(Nat.le_of_ble_eq_true rfl), (Nat.le_of_ble_eq_true rfl)⟩ ⟨(Nat.le_of_ble_eq_true rfl), (Nat.le_of_ble_eq_true rfl)⟩ (Nat.le_of_ble_eq_true rfl) dX5_walk_3 rfl ?_
  intro v7 u8 hv9
  obtain ⟨q3, rfl, rfl, h3⟩ := hv9
  show J (gw 14 MSh cy b ν ++ E) 0 0 6 [(0, .ref (b 0)), (1, .int (zI c)), (2, .int (zI r)), (3, .int (zI tc)), (4, .int (zI tr))] [.int (zI q3), .ref (b 0)]
  refine j_if_eq hJ (tgt := 22) ⟨by omega, by omega⟩ (by decide) dX5_walk_6 ?_ ?_
  · intro h6
    refine j_iconst hJ dX5_walk_22 ?_
    refine j23 0 ?_
    · rcases h3 with ⟨e3, g3⟩ | ⟨e3, g3⟩
      · first
        | (exfalso; omega)
        | (rcases h9 with ⟨e9, g9⟩ | ⟨e9, g9⟩
           · first
             | exact Or.inl ⟨rfl, g3, g9⟩
             | (exfalso; omega)
           · first
             | exact Or.inr ⟨rfl, fun g => g9 g.2⟩
             | (exfalso; omega))
      · first
        | exact Or.inr ⟨rfl, fun g => g3 g.1⟩
        | (exfalso; omega)
  · intro h6
    refine j_iload_n hJ (j := 3) rfl rfl dX5_walk_9 ?_
    refine j_iload hJ (j := 4) rfl dX5_walk_10 ?_
    refine j_callS0 hJ (c_X5_isSquare hfl htcR htrR) m_X5_101 k_X5_isSquare ⟨(Nat.le_of_ble_eq_true rfl), (Nat.le_of_ble_eq_true rfl)⟩ ⟨(Nat.le_of_ble_eq_true rfl), (Nat.le_of_ble_eq_true rfl)⟩ (Nat.le_of_ble_eq_true rfl) dX5_walk_12 rfl ?_
    intro v10 u11 hv12
    obtain ⟨q9, rfl, rfl, h9⟩ := hv12
    show J (gw 14 MSh cy b ν ++ E) 0 0 15 [(0, .ref (b 0)), (1, .int (zI c)), (2, .int (zI r)), (3, .int (zI tc)), (4, .int (zI tr))] [.int (zI q9), .ref (b 0)]
    refine j_if_eq hJ (tgt := 22) ⟨by omega, by omega⟩ (by decide) dX5_walk_15 ?_ ?_
    · intro h15
      refine j_iconst hJ dX5_walk_22 ?_
      refine j23 0 ?_
      · rcases h3 with ⟨e3, g3⟩ | ⟨e3, g3⟩
        · first
          | (exfalso; omega)
          | (rcases h9 with ⟨e9, g9⟩ | ⟨e9, g9⟩
             · first
               | exact Or.inl ⟨rfl, g3, g9⟩
               | (exfalso; omega)
             · first
               | exact Or.inr ⟨rfl, fun g => g9 g.2⟩
               | (exfalso; omega))
        · first
          | exact Or.inr ⟨rfl, fun g => g3 g.1⟩
          | (exfalso; omega)
    · intro h15
      refine j_iconst hJ dX5_walk_18 ?_
      refine j_goto hJ (tgt := 23) (by decide) dX5_walk_19 ?_
      refine j23 1 ?_
      · rcases h3 with ⟨e3, g3⟩ | ⟨e3, g3⟩
        · first
          | (exfalso; omega)
          | (rcases h9 with ⟨e9, g9⟩ | ⟨e9, g9⟩
             · first
               | exact Or.inl ⟨rfl, g3, g9⟩
               | (exfalso; omega)
             · first
               | exact Or.inr ⟨rfl, fun g => g9 g.2⟩
               | (exfalso; omega))
        · first
          | exact Or.inr ⟨rfl, fun g => g3 g.1⟩
          | (exfalso; omega)
set_option maxHeartbeats 4000000 in
set_option maxRecDepth 100000 in
theorem c_X5_walkByRounds {ν : Nat → Int → Int} {kd : Int → Int} {n : Nat} {N : Nat → List Int} {ow : Nat → Int} {m : Nat → Nat} {p : Nat → Nat → Int} {c r tc tr : Int} (hfl : l.stackTraces = false) (hX : MI ν kd n N ow m p) (hcR : -2147483648 ≤ c ∧ c < 2147483648) (hrR : -2147483648 ≤ r ∧ r < 2147483648) (htcR : -2147483648 ≤ tc ∧ tc < 2147483648) (htrR : -2147483648 ≤ tr ∧ tr < 2147483648) : CT l D cy n0 ad yX5_walkByRounds (.code yX5_walkByRounds cX5_walkByRounds 5 (some .int)) ({ frames := 4, cells := 0, slots := 0, locals := 94 }) [.ref (b 0), .int (zI c), .int (zI r), .int (zI tc), .int (zI tr)] (gw 14 MSh cy b ν ++ E) (fun vv uu => ∃ q μ', vv = some (.int (zI q)) ∧ uu = (gw 14 MSh cy b μ' ++ E) ∧ (((SqOK c r ∧ SqOK tc tr) ∧ μ' 0 16 = 0 ∧ IsDist (EdS n (fun s => trk (p s) (m s)) ow) (12 * c + r) (12 * tc + tr) q ∧ MI μ' kd n N ow m p) ∨ (μ' 0 16 = 1 ∧ ¬ (SqOK c r ∧ SqOK tc tr) ∧ MI μ' kd n N ow m p))) := by
  refine CT.walk hfl (by decide) (Nat.le_of_ble_eq_true rfl) ?_
  intro A J hJ
  show J (gw 14 MSh cy b ν ++ E) 0 0 0 [(0, .ref (b 0)), (1, .int (zI c)), (2, .int (zI r)), (3, .int (zI tc)), (4, .int (zI tr))] []
  refine j_aload_n hJ (j := 0) rfl rfl dX5_walkByRounds_0 ?_
  refine j_iload_n hJ (j := 1) rfl rfl dX5_walkByRounds_1 ?_
  refine j_iload_n hJ (j := 2) rfl rfl dX5_walkByRounds_2 ?_
  refine j_iload_n hJ (j := 3) rfl rfl dX5_walkByRounds_3 ?_
  refine j_iload hJ (j := 4) rfl dX5_walkByRounds_4 ?_
  refine j_callV0 hJ (c_X5_walk hfl hX hcR hrR htcR htrR) m_X5_154 k_X5_walk (q0 := 0) (by rw [gw_get (by decide)]; rfl) rfl ⟨(Nat.le_of_ble_eq_true rfl), (Nat.le_of_ble_eq_true rfl)⟩ ⟨(Nat.le_of_ble_eq_true rfl), (Nat.le_of_ble_eq_true rfl)⟩ (Nat.le_of_ble_eq_true rfl) dX5_walkByRounds_6 rfl ?_
  intro v1 u2 hv3
  obtain ⟨q4, ν1, rfl, rfl, h4⟩ := hv3
  show J (gw 14 MSh cy b ν1 ++ E) 0 0 9 [(0, .ref (b 0)), (1, .int (zI c)), (2, .int (zI r)), (3, .int (zI tc)), (4, .int (zI tr))] [.int (zI q4)]
  refine j_iret hJ rfl rfl (rfl) (Nat.le_of_ble_eq_true rfl) (Nat.le_of_ble_eq_true rfl) dX5_walkByRounds_9 ⟨q4, ν1, rfl, rfl, ?_⟩
  exact h4
set_option maxHeartbeats 4000000 in
set_option maxRecDepth 100000 in
theorem c_X5_reachable {ν : Nat → Int → Int} {kd : Int → Int} {n : Nat} {N : Nat → List Int} {ow : Nat → Int} {m : Nat → Nat} {p : Nat → Nat → Int} {c r : Int} (hfl : l.stackTraces = false) (hX : MI ν kd n N ow m p) (hcR : -2147483648 ≤ c ∧ c < 2147483648) (hrR : -2147483648 ≤ r ∧ r < 2147483648) : CT l D cy n0 ad yX5_reachable (.code yX5_reachable cX5_reachable 5 (some .int)) ({ frames := 3, cells := 0, slots := 0, locals := 69 }) [.ref (b 0), .int (zI c), .int (zI r)] (gw 14 MSh cy b ν ++ E) (fun vv uu => ∃ q μ', vv = some (.int (zI q)) ∧ uu = (gw 14 MSh cy b μ' ++ E) ∧ ((SqOK c r ∧ μ' 0 16 = 0 ∧ IsCount (EdS n (fun s => trk (p s) (m s)) ow) (12 * c + r) q ∧ MI μ' kd n N ow m p) ∨ (μ' 0 16 = 1 ∧ ¬ SqOK c r ∧ MI μ' kd n N ow m p))) := by
  obtain ⟨x1, x2, x3, x4, x5, x6, x7, x8⟩ := id hX
  refine CT.walk hfl (by decide) (Nat.le_of_ble_eq_true rfl) ?_
  intro A J hJ
  show J (gw 14 MSh cy b ν ++ E) 0 0 0 [(0, .ref (b 0)), (1, .int (zI c)), (2, .int (zI r))] []
  refine j_iconst hJ dX5_reachable_0 ?_
  refine j_istore_n hJ (lv' := [(3, .int (zI 0)), (0, .ref (b 0)), (1, .int (zI c)), (2, .int (zI r))]) rfl (by decide) rfl dX5_reachable_1 ?_
  refine j_aload_n hJ (j := 1) rfl rfl dX5_reachable_2 ?_
  refine j_iload_n hJ (j := 2) rfl rfl dX5_reachable_3 ?_
  refine j_iload_n hJ (j := 3) rfl rfl dX5_reachable_4 ?_
  refine j_callS0 hJ (c_X5_isSquare hfl hcR hrR) m_X5_101 k_X5_isSquare ⟨(Nat.le_of_ble_eq_true rfl), (Nat.le_of_ble_eq_true rfl)⟩ ⟨(Nat.le_of_ble_eq_true rfl), (Nat.le_of_ble_eq_true rfl)⟩ (Nat.le_of_ble_eq_true rfl) dX5_reachable_5 rfl ?_
  intro v1 u2 hv3
  obtain ⟨q3, rfl, rfl, h3⟩ := hv3
  show J (gw 14 MSh cy b ν ++ E) 0 0 8 [(3, .int (zI 0)), (0, .ref (b 0)), (1, .int (zI c)), (2, .int (zI r))] [.int (zI q3), .ref (b 0)]
  have hq3 : q3 = 0 ∨ q3 = 1 := by omega
  refine j_iconst hJ dX5_reachable_8 ?_
  refine j_iconst hJ dX5_reachable_9 ?_
  refine j_callV0 hJ (c_X5_goes hfl hq3 (Or.inr rfl) (Or.inr rfl)) m_X5_104 k_X5_goes (q0 := 0) (by rw [gw_get (by decide)]; rfl) rfl ⟨(Nat.le_of_ble_eq_true rfl), (Nat.le_of_ble_eq_true rfl)⟩ ⟨(Nat.le_of_ble_eq_true rfl), (Nat.le_of_ble_eq_true rfl)⟩ (Nat.le_of_ble_eq_true rfl) dX5_reachable_10 rfl ?_
  intro v4 u5 hv6
  obtain ⟨q8, ν1, rfl, rfl, h8⟩ := hv6
  show J (gw 14 MSh cy b ν1 ++ E) 0 0 13 [(3, .int (zI 0)), (0, .ref (b 0)), (1, .int (zI c)), (2, .int (zI r))] [.int (zI q8)]
  obtain ⟨hM, hq8⟩ := h8
  have hS := hX.scratch (ν' := ν1) (by rw [hM]; exact FrM.last)
  have h11 : (1 : Int) = 0 ∨ (1 : Int) = 1 := Or.inr rfl
  have hq8' : (goC q3 1 1 = 0 ∧ q8 = 1) ∨ (goC q3 1 1 ≠ 0 ∧ q8 = 0) := by
    by_cases e : goC q3 1 1 = 0
    · rw [if_pos e] at hq8; exact Or.inl ⟨e, hq8⟩
    · rw [if_neg e] at hq8; exact Or.inr ⟨e, hq8⟩
  have hg := goC_c hq3 h11 h11
  refine j_if_eq hJ (tgt := 63) ⟨by omega, by omega⟩ (by decide) dX5_reachable_13 ?_ ?_
  · intro h13
    have hno : ¬ SqOK c r := h3.elim (fun g => by exfalso; omega) (fun g => g.2)
    refine j_iload_n hJ (j := 0) rfl rfl dX5_reachable_63 ?_
    refine j_iret hJ rfl rfl (rfl) (Nat.le_of_ble_eq_true rfl) (Nat.le_of_ble_eq_true rfl) dX5_reachable_64 ⟨0, ν1, rfl, rfl, ?_⟩
    refine Or.inr ⟨?_, hno, hS⟩
    rw [hM, up_self]; omega
  · intro h13
    have hst : SqOK c r := h3.elim (fun g => g.2) (fun g => by exfalso; omega)
    obtain ⟨hc1, hc2⟩ := id hst
    refine j_aload_n hJ (j := 1) rfl rfl dX5_reachable_16 ?_
    refine j_bipush hJ (v := 12) (by decide) dX5_reachable_17 ?_
    refine j_iload_n hJ (j := 2) rfl rfl dX5_reachable_19 ?_
    refine j_imul hJ dX5_reachable_20 ?_
    refine j_iload_n hJ (j := 3) rfl rfl dX5_reachable_21 ?_
    refine j_iadd hJ dX5_reachable_22 ?_
    refine j_callV0 hJ (c_X5_walks hfl (a0 := 12 * c + r) hS (by omega)) m_X5_151 k_X5_walks (q0 := 0) (by rw [gw_get (by decide)]; rfl) rfl ⟨(Nat.le_of_ble_eq_true rfl), (Nat.le_of_ble_eq_true rfl)⟩ ⟨(Nat.le_of_ble_eq_true rfl), (Nat.le_of_ble_eq_true rfl)⟩ (Nat.le_of_ble_eq_true rfl) dX5_reachable_23 rfl ?_
    intro v7 u8 hv9
    obtain ⟨ν2, rfl, rfl, h23⟩ := hv9
    show J (gw 14 MSh cy b ν2 ++ E) 0 0 26 [(3, .int (zI 0)), (0, .ref (b 0)), (1, .int (zI c)), (2, .int (zI r))] []
    obtain ⟨w1, w2, w3, w4⟩ := h23
    have hd := w1.count (fun a c ⟨s, hs, he⟩ => EdL_rng (x7 s (by omega)).2.2.1 he) w2
    have e16 : ν1 0 16 = goC q3 1 1 := by rw [hM, up_self]
    refine j_iconst hJ dX5_reachable_26 ?_
    refine j_istore hJ (lv' := [(4, .int (zI 0)), (3, .int (zI 0)), (0, .ref (b 0)), (1, .int (zI c)), (2, .int (zI r))]) (by decide) rfl dX5_reachable_27 ?_
    have lp29 : ∀ (nn29 : Nat) (y : Int) (k : Nat) (hmeas29 : 144 - k < nn29) (hk : k ≤ 144) (hy : y = (cntN (fun x => decide (ν2 13 (x : Int) < 99999)) k : Nat)), J (gw 14 MSh cy b ν2 ++ E) 0 0 29 [(0, .ref (b 0)), (1, .int (zI c)), (2, .int (zI r)), (3, .int (zI y)), (4, .int (zI (k : Int)))] [] := by
      intro nn29
      induction nn29 with
      | zero => intro y k hmeas29 hk hy; omega
      | succ nn29 ih29 =>
        intro y k hmeas29 hk hy
        refine j_iload hJ (j := 4) rfl dX5_reachable_29 ?_
        refine j_sipush hJ (v := 144) (by decide) dX5_reachable_31 ?_
        refine j_icmp_ge hJ (tgt := 63) ⟨by omega, by omega⟩ ⟨by omega, by omega⟩ (by decide) dX5_reachable_34 ?_ ?_
        · intro h34
          refine j_iload_n hJ (j := 3) rfl rfl dX5_reachable_63 ?_
          refine j_iret hJ rfl rfl (rfl) (Nat.le_of_ble_eq_true rfl) (Nat.le_of_ble_eq_true rfl) dX5_reachable_64 ⟨y, ν2, rfl, rfl, ?_⟩
          rw [show (144 : Nat) = k by omega, ← hy] at hd
          exact Or.inl ⟨hst, by omega, hd, w3⟩
        · intro h34
          have hv := (w1.2 (k : Int) (by omega) (by omega)).1
          have cl := cntN_le (fun x => decide (ν2 13 (x : Int) < 99999)) k
          refine j_iload_n hJ (j := 3) rfl rfl dX5_reachable_37 ?_
          refine j_aload_n hJ (j := 0) rfl rfl dX5_reachable_38 ?_
          refine w_getr hJ (by omega) rfl rfl f_X5_47 dX5_reachable_39 ?_
          refine j_iload hJ (j := 4) rfl dX5_reachable_42 ?_
          refine w_iald hJ (by omega) rfl (by first | decide | omega) (by omega) (by omega) dX5_reachable_44 ?_
          refine j_ldc hJ q_X5_147 dX5_reachable_45 ?_
          refine j_icmp_ge hJ (tgt := 54) ⟨by omega, by omega⟩ ⟨by omega, by omega⟩ (by decide) dX5_reachable_47 ?_ ?_
          · intro h47
            refine j_iconst hJ dX5_reachable_54 ?_
            refine j_iadd hJ dX5_reachable_55 ?_
            refine j_istore_n hJ (lv' := [(3, .int (zI (y + 0))), (0, .ref (b 0)), (1, .int (zI c)), (2, .int (zI r)), (4, .int (zI (k : Int)))]) rfl (by decide) rfl dX5_reachable_56 ?_
            refine j_iinc hJ (lv' := [(4, .int (zI ((k : Int) + 1))), (3, .int (zI (y + 0))), (0, .ref (b 0)), (1, .int (zI c)), (2, .int (zI r))]) (j := 4) rfl (by omega) (by decide) rfl dX5_reachable_57 ?_
            refine j_goto hJ (tgt := 29) (by decide) dX5_reachable_60 ?_
            refine j_locs hJ [2, 3, 4, 1, 0] rfl ?_
            exact ih29 (y + 0) (k + 1) (by omega) (by omega) (by rw [cntN]; first | (rw [if_neg (by simp; omega)]; omega) | (rw [if_pos (by simp; omega)]; omega))
          · intro h47
            refine j_iconst hJ dX5_reachable_50 ?_
            refine j_goto hJ (tgt := 55) (by decide) dX5_reachable_51 ?_
            refine j_iadd hJ dX5_reachable_55 ?_
            refine j_istore_n hJ (lv' := [(3, .int (zI (y + 1))), (0, .ref (b 0)), (1, .int (zI c)), (2, .int (zI r)), (4, .int (zI (k : Int)))]) rfl (by decide) rfl dX5_reachable_56 ?_
            refine j_iinc hJ (lv' := [(4, .int (zI ((k : Int) + 1))), (3, .int (zI (y + 1))), (0, .ref (b 0)), (1, .int (zI c)), (2, .int (zI r))]) (j := 4) rfl (by omega) (by decide) rfl dX5_reachable_57 ?_
            refine j_goto hJ (tgt := 29) (by decide) dX5_reachable_60 ?_
            refine j_locs hJ [2, 3, 4, 1, 0] rfl ?_
            exact ih29 (y + 1) (k + 1) (by omega) (by omega) (by rw [cntN]; first | (rw [if_neg (by simp; omega)]; omega) | (rw [if_pos (by simp; omega)]; omega))
    refine j_locs hJ [2, 3, 4, 1, 0] rfl ?_
    exact lp29 (144 - 0 + 1) 0 0 (by omega) (by omega) (by rfl)
end
