
set_option maxRecDepth 20000 in
theorem m_X5_137 : MF RX5 137 1 yX5_apart 2 := ⟨Or.inl (List.mem_of_getElem? (i := 1089) (by decide +kernel)), (List.mem_of_getElem? (i := 63) (by decide +kernel)), ⟨by decide +kernel, by decide +kernel⟩, by decide +kernel, fun h => by omega, fun _ => (List.mem_of_getElem? (i := 1090) (by decide +kernel)), fun h => by omega⟩
set_option maxRecDepth 20000 in
theorem k_X5_apart : Cond.code yX5_apart cX5_apart 2 (some .int) ∈ GT := (List.mem_of_getElem? (i := 1091) (by decide +kernel))
set_option maxRecDepth 20000 in
theorem m_X5_140 : MF RX5 140 1 yX5_farFrom 3 := ⟨Or.inl (List.mem_of_getElem? (i := 1086) (by decide +kernel)), (List.mem_of_getElem? (i := 63) (by decide +kernel)), ⟨by decide +kernel, by decide +kernel⟩, by decide +kernel, fun h => by omega, fun _ => (List.mem_of_getElem? (i := 1087) (by decide +kernel)), fun h => by omega⟩
set_option maxRecDepth 20000 in
theorem k_X5_farFrom : Cond.code yX5_farFrom cX5_farFrom 5 (some .int) ∈ GT := (List.mem_of_getElem? (i := 1088) (by decide +kernel))
set_option maxRecDepth 20000 in
theorem m_X5_144 : MF RX5 144 0 yX5_nearestOf 3 := ⟨Or.inl (List.mem_of_getElem? (i := 1082) (by decide +kernel)), (List.mem_of_getElem? (i := 63) (by decide +kernel)), ⟨by decide +kernel, by decide +kernel⟩, by decide +kernel, fun _ => ⟨(List.mem_of_getElem? (i := 1084) (by decide +kernel)), (List.mem_of_getElem? (i := 55) (by decide +kernel))⟩, fun h => by omega, fun h => by omega⟩
set_option maxRecDepth 20000 in
theorem k_X5_nearestOf : Cond.code yX5_nearestOf cX5_nearestOf 6 (some .int) ∈ GT := (List.mem_of_getElem? (i := 1085) (by decide +kernel))
section
variable {l : Launch} {D : va_G} {cy : Nat → ClassId} {n0 : Nat} {ad : Nat → Nat} {b : Nat → Nat} {E : va_W} {ws : va_W}
set_option maxHeartbeats 4000000 in
set_option maxRecDepth 100000 in
theorem c_X5_apart {v w : Int} (hfl : l.stackTraces = false) (hv : -1000 ≤ v ∧ v ≤ 1000) (hw : -1000 ≤ w ∧ w ≤ 1000) : CT l D cy n0 ad yX5_apart (.code yX5_apart cX5_apart 2 (some .int)) ({ frames := 0, cells := 0, slots := 0, locals := 0 }) [.int (zI v), .int (zI w)] ws (fun vv uu => ∃ q, vv = some (.int (zI q)) ∧ uu = ws ∧ (q = iabs (v - w))) := by
  refine CT.walk hfl (by decide) (Nat.le_of_ble_eq_true rfl) ?_
  intro A J hJ
  show J ws 0 0 0 [(0, .int (zI v)), (1, .int (zI w))] []
  refine j_iload_n hJ (j := 0) rfl rfl dX5_apart_0 ?_
  refine j_iload_n hJ (j := 1) rfl rfl dX5_apart_1 ?_
  refine j_icmp_le hJ (tgt := 11) ⟨by omega, by omega⟩ ⟨by omega, by omega⟩ (by decide) dX5_apart_2 ?_ ?_
  · intro h2
    refine j_iload_n hJ (j := 1) rfl rfl dX5_apart_11 ?_
    refine j_iload_n hJ (j := 0) rfl rfl dX5_apart_12 ?_
    refine j_isub hJ dX5_apart_13 ?_
    refine j_iret hJ rfl rfl (rfl) (Nat.le_of_ble_eq_true rfl) (Nat.le_of_ble_eq_true rfl) dX5_apart_14 ⟨(w - v), rfl, rfl, ?_⟩
    have := iabs_spec (v - w); omega
  · intro h2
    refine j_iload_n hJ (j := 0) rfl rfl dX5_apart_5 ?_
    refine j_iload_n hJ (j := 1) rfl rfl dX5_apart_6 ?_
    refine j_isub hJ dX5_apart_7 ?_
    refine j_goto hJ (tgt := 14) (by decide) dX5_apart_8 ?_
    refine j_iret hJ rfl rfl (rfl) (Nat.le_of_ble_eq_true rfl) (Nat.le_of_ble_eq_true rfl) dX5_apart_14 ⟨(v - w), rfl, rfl, ?_⟩
    have := iabs_spec (v - w); omega
set_option maxHeartbeats 4000000 in
set_option maxRecDepth 100000 in
theorem c_X5_farFrom {a c r : Int} (hfl : l.stackTraces = false) (ha : 0 ≤ a ∧ a < 144) (hc : 0 ≤ c ∧ c < 12) (hr : 0 ≤ r ∧ r < 12) : CT l D cy n0 ad yX5_farFrom (.code yX5_farFrom cX5_farFrom 5 (some .int)) ({ frames := 1, cells := 0, slots := 0, locals := 21 }) [.int (zI a), .int (zI c), .int (zI r)] ws (fun vv uu => ∃ q, vv = some (.int (zI q)) ∧ uu = ws ∧ (q = far a c r)) := by
  have i1 := iabs_spec (a / 12 - c)
  have i2 := iabs_spec (a % 12 - r)
  refine CT.walk hfl (by decide) (Nat.le_of_ble_eq_true rfl) ?_
  intro A J hJ
  show J ws 0 0 0 [(0, .int (zI a)), (1, .int (zI c)), (2, .int (zI r))] []
  refine j_iload_n hJ (j := 0) rfl rfl dX5_farFrom_0 ?_
  refine j_bipush hJ (v := 12) (by decide) dX5_farFrom_1 ?_
  refine j_idiv hJ (by omega) (by omega) (by omega) (by omega) dX5_farFrom_3 ?_
  refine j_iload_n hJ (j := 1) rfl rfl dX5_farFrom_4 ?_
  refine j_callS0 hJ (c_X5_apart hfl ⟨by omega, by omega⟩ ⟨by omega, by omega⟩) m_X5_137 k_X5_apart ⟨(Nat.le_of_ble_eq_true rfl), (Nat.le_of_ble_eq_true rfl)⟩ ⟨(Nat.le_of_ble_eq_true rfl), (Nat.le_of_ble_eq_true rfl)⟩ (Nat.le_of_ble_eq_true rfl) dX5_farFrom_5 rfl ?_
  intro v1 u2 hv3
  obtain ⟨q4, rfl, hu9, hq9⟩ := hv3
  subst u2
  subst q4
  show J ws 0 0 8 [(0, .int (zI a)), (1, .int (zI c)), (2, .int (zI r))] [.int (zI (iabs (a / 12 - c)))]
  refine j_istore_n hJ (lv' := [(3, .int (zI (iabs (a / 12 - c)))), (0, .int (zI a)), (1, .int (zI c)), (2, .int (zI r))]) rfl (by decide) rfl dX5_farFrom_8 ?_
  refine j_iload_n hJ (j := 1) rfl rfl dX5_farFrom_9 ?_
  refine j_bipush hJ (v := 12) (by decide) dX5_farFrom_10 ?_
  refine j_irem hJ (by omega) (by omega) (by omega) (by omega) dX5_farFrom_12 ?_
  refine j_iload_n hJ (j := 3) rfl rfl dX5_farFrom_13 ?_
  refine j_callS0 hJ (c_X5_apart hfl ⟨by omega, by omega⟩ ⟨by omega, by omega⟩) m_X5_137 k_X5_apart ⟨(Nat.le_of_ble_eq_true rfl), (Nat.le_of_ble_eq_true rfl)⟩ ⟨(Nat.le_of_ble_eq_true rfl), (Nat.le_of_ble_eq_true rfl)⟩ (Nat.le_of_ble_eq_true rfl) dX5_farFrom_14 rfl ?_
  intro v5 u6 hv7
  obtain ⟨q8, rfl, hu9, hq9⟩ := hv7
  subst u6
  subst q8
  show J ws 0 0 17 [(3, .int (zI (iabs (a / 12 - c)))), (0, .int (zI a)), (1, .int (zI c)), (2, .int (zI r))] [.int (zI (iabs (a % 12 - r)))]
  refine j_istore hJ (lv' := [(4, .int (zI (iabs (a % 12 - r)))), (3, .int (zI (iabs (a / 12 - c)))), (0, .int (zI a)), (1, .int (zI c)), (2, .int (zI r))]) (by decide) rfl dX5_farFrom_17 ?_
  refine j_iload_n hJ (j := 1) rfl rfl dX5_farFrom_19 ?_
  refine j_iload hJ (j := 0) rfl dX5_farFrom_20 ?_
  refine j_icmp_le hJ (tgt := 29) ⟨by omega, by omega⟩ ⟨by omega, by omega⟩ (by decide) dX5_farFrom_22 ?_ ?_
  · intro h22
    refine j_iload hJ (j := 0) rfl dX5_farFrom_29 ?_
    refine j_iret hJ rfl rfl (rfl) (Nat.le_of_ble_eq_true rfl) (Nat.le_of_ble_eq_true rfl) dX5_farFrom_31 ⟨(iabs (a % 12 - r)), rfl, rfl, ?_⟩
    unfold far imax; split <;> omega
  · intro h22
    refine j_iload_n hJ (j := 1) rfl rfl dX5_farFrom_25 ?_
    refine j_goto hJ (tgt := 31) (by decide) dX5_farFrom_26 ?_
    refine j_iret hJ rfl rfl (rfl) (Nat.le_of_ble_eq_true rfl) (Nat.le_of_ble_eq_true rfl) dX5_farFrom_31 ⟨(iabs (a / 12 - c)), rfl, rfl, ?_⟩
    unfold far imax; split <;> omega
set_option maxHeartbeats 4000000 in
set_option maxRecDepth 100000 in
theorem c_X5_streetsOf {ν : Nat → Int → Int} {kd : Int → Int} {n : Nat} {N : Nat → List Int} {ow : Nat → Int} {m : Nat → Nat} {p : Nat → Nat → Int} {c r : Int} (hfl : l.stackTraces = false) (hX : MI ν kd n N ow m p) (hcR : -2147483648 ≤ c ∧ c < 2147483648) (hrR : -2147483648 ≤ r ∧ r < 2147483648) : CT l D cy n0 ad yX5_streetsOf (.code yX5_streetsOf cX5_streetsOf 6 (some .int)) ({ frames := 2, cells := 0, slots := 0, locals := 45 }) [.ref (b 0), .int (zI c), .int (zI r)] (gw 14 MSh cy b ν ++ E) (fun vv uu => ∃ q μ', vv = some (.int (zI q)) ∧ uu = (gw 14 MSh cy b μ' ++ E) ∧ ((SqOK c r ∧ μ' 0 16 = 0 ∧ q = bitsOf (fun k => decide (12 * c + r ∈ trk (p k) (m k))) n ∧ MI μ' kd n N ow m p) ∨ (μ' 0 16 = 1 ∧ ¬ SqOK c r ∧ MI μ' kd n N ow m p))) := by
  obtain ⟨x1, x2, x3, x4, x5, x6, x7, x8⟩ := id hX
  refine CT.walk hfl (by decide) (Nat.le_of_ble_eq_true rfl) ?_
  intro A J hJ
  show J (gw 14 MSh cy b ν ++ E) 0 0 0 [(0, .ref (b 0)), (1, .int (zI c)), (2, .int (zI r))] []
  refine j_iconst hJ dX5_streetsOf_0 ?_
  refine j_istore_n hJ (lv' := [(3, .int (zI 0)), (0, .ref (b 0)), (1, .int (zI c)), (2, .int (zI r))]) rfl (by decide) rfl dX5_streetsOf_1 ?_
  refine j_aload_n hJ (j := 1) rfl rfl dX5_streetsOf_2 ?_
  refine j_iload_n hJ (j := 2) rfl rfl dX5_streetsOf_3 ?_
  refine j_iload_n hJ (j := 3) rfl rfl dX5_streetsOf_4 ?_
  refine j_callS0 hJ (c_X5_isSquare hfl hcR hrR) m_X5_101 k_X5_isSquare ⟨(Nat.le_of_ble_eq_true rfl), (Nat.le_of_ble_eq_true rfl)⟩ ⟨(Nat.le_of_ble_eq_true rfl), (Nat.le_of_ble_eq_true rfl)⟩ (Nat.le_of_ble_eq_true rfl) dX5_streetsOf_5 rfl ?_
  intro v1 u2 hv3
  obtain ⟨q3, rfl, rfl, h3⟩ := hv3
  show J (gw 14 MSh cy b ν ++ E) 0 0 8 [(3, .int (zI 0)), (0, .ref (b 0)), (1, .int (zI c)), (2, .int (zI r))] [.int (zI q3), .ref (b 0)]
  have hq3 : q3 = 0 ∨ q3 = 1 := by omega
  refine j_iconst hJ dX5_streetsOf_8 ?_
  refine j_iconst hJ dX5_streetsOf_9 ?_
  refine j_callV0 hJ (c_X5_goes hfl hq3 (Or.inr rfl) (Or.inr rfl)) m_X5_104 k_X5_goes (q0 := 0) (by rw [gw_get (by decide)]; rfl) rfl ⟨(Nat.le_of_ble_eq_true rfl), (Nat.le_of_ble_eq_true rfl)⟩ ⟨(Nat.le_of_ble_eq_true rfl), (Nat.le_of_ble_eq_true rfl)⟩ (Nat.le_of_ble_eq_true rfl) dX5_streetsOf_10 rfl ?_
  intro v4 u5 hv6
  obtain ⟨q8, ν1, rfl, rfl, h8⟩ := hv6
  show J (gw 14 MSh cy b ν1 ++ E) 0 0 13 [(3, .int (zI 0)), (0, .ref (b 0)), (1, .int (zI c)), (2, .int (zI r))] [.int (zI q8)]
  obtain ⟨hM, hq8⟩ := h8
  have hS := hX.scratch (ν' := ν1) (by rw [hM]; exact FrM.last)
  have h11 : (1 : Int) = 0 ∨ (1 : Int) = 1 := Or.inr rfl
  have hq8' : (goC q3 1 1 = 0 ∧ q8 = 1) ∨ (goC q3 1 1 ≠ 0 ∧ q8 = 0) := by
    by_cases e : goC q3 1 1 = 0
    · rw [if_pos e] at hq8; exact Or.inl ⟨e, hq8⟩
    · rw [if_neg e] at hq8; exact Or.inr ⟨e, hq8⟩
  have hg := goC_c hq3 h11 h11
  have e16 : ν1 0 16 = goC q3 1 1 := by rw [hM, up_self]
  have hq801 : q8 = 0 ∨ q8 = 1 := by omega
  refine j_istore hJ (lv' := [(4, .int (zI q8)), (3, .int (zI 0)), (0, .ref (b 0)), (1, .int (zI c)), (2, .int (zI r))]) (by decide) rfl dX5_streetsOf_13 ?_
  refine j_iconst hJ dX5_streetsOf_15 ?_
  refine j_istore hJ (lv' := [(5, .int (zI 0)), (4, .int (zI q8)), (3, .int (zI 0)), (0, .ref (b 0)), (1, .int (zI c)), (2, .int (zI r))]) (by decide) rfl dX5_streetsOf_16 ?_
  have lp18 : ∀ (nn18 : Nat) (νk : Nat → Int → Int) (bt : Int) (k : Nat) (hmeas18 : n - k < nn18) (hk : k ≤ n) (hSk : MI νk kd n N ow m p) (h16 : νk 0 16 = ν1 0 16) (hb : bt = bitsOf (fun k => decide (12 * c + r ∈ trk (p k) (m k))) k), J (gw 14 MSh cy b νk ++ E) 0 0 18 [(0, .ref (b 0)), (1, .int (zI c)), (2, .int (zI r)), (3, .int (zI bt)), (4, .int (zI q8)), (5, .int (zI (k : Int)))] [] := by
    intro nn18
    induction nn18 with
    | zero => intro νk bt k hmeas18 hk hSk h16 hb; omega
    | succ nn18 ih18 =>
      intro νk bt k hmeas18 hk hSk h16 hb
      refine j_iload hJ (j := 5) rfl dX5_streetsOf_18 ?_
      refine j_aload_n hJ (j := 0) rfl rfl dX5_streetsOf_20 ?_
      refine w_geti hJ (fi := 7) rfl (by omega) rfl rfl f_X5_58 dX5_streetsOf_21 ?_
      refine j_topi (y := zI (n : Int)) (by rw [hSk.1]) ?_
      refine j_icmp_ge hJ (tgt := 69) ⟨by omega, by omega⟩ ⟨by omega, by omega⟩ (by decide) dX5_streetsOf_24 ?_ ?_
      · intro h24
        refine j_iload_n hJ (j := 3) rfl rfl dX5_streetsOf_69 ?_
        refine j_iret hJ rfl rfl (rfl) (Nat.le_of_ble_eq_true rfl) (Nat.le_of_ble_eq_true rfl) dX5_streetsOf_70 ⟨bt, νk, rfl, rfl, ?_⟩
        rcases h3 with ⟨e3, g3⟩ | ⟨e3, g3⟩
        · exact Or.inl ⟨g3, by rw [h16, e16]; omega, by rw [hb, show k = n by omega], hSk⟩
        · exact Or.inr ⟨by rw [h16, e16]; omega, g3, hSk⟩
      · intro h24
        refine j_iload hJ (j := 4) rfl dX5_streetsOf_27 ?_
        refine j_if_eq hJ (tgt := 69) ⟨by omega, by omega⟩ (by decide) dX5_streetsOf_29 ?_ ?_
        · intro h29
          refine j_iload_n hJ (j := 3) rfl rfl dX5_streetsOf_69 ?_
          refine j_iret hJ rfl rfl (rfl) (Nat.le_of_ble_eq_true rfl) (Nat.le_of_ble_eq_true rfl) dX5_streetsOf_70 ⟨bt, νk, rfl, rfl, ?_⟩
          rcases h3 with ⟨e3, g3⟩ | ⟨e3, g3⟩
          · exfalso; omega
          · exact Or.inr ⟨by rw [h16, e16]; omega, g3, hSk⟩
        · intro h29
          have hsq : SqOK c r := h3.elim (fun g => g.2) (fun g => by exfalso; omega)
          obtain ⟨hc1, hc2⟩ := id hsq
          refine j_aload_n hJ (j := 0) rfl rfl dX5_streetsOf_32 ?_
          refine j_iload hJ (j := 5) rfl dX5_streetsOf_33 ?_
          refine j_callV0 hJ (c_X5_tracks hfl (i := k) (by omega) (hSk.2.2.2.2.2.2.1 k (by omega))) m_X5_86 k_X5_tracks (q0 := 0) (by rw [gw_get (by decide)]; rfl) rfl ⟨(Nat.le_of_ble_eq_true rfl), (Nat.le_of_ble_eq_true rfl)⟩ ⟨(Nat.le_of_ble_eq_true rfl), (Nat.le_of_ble_eq_true rfl)⟩ (Nat.le_of_ble_eq_true rfl) dX5_streetsOf_35 rfl ?_
          intro v7 u8 hv9
          obtain ⟨ν2, rfl, rfl, h35⟩ := hv9
          show J (gw 14 MSh cy b ν2 ++ E) 0 0 38 [(0, .ref (b 0)), (1, .int (zI c)), (2, .int (zI r)), (3, .int (zI bt)), (4, .int (zI q8)), (5, .int (zI (k : Int)))] []
          obtain ⟨g2, g3⟩ := h35
          have g4 := g2.2.2 (12 * c + r) (by omega) (by omega)
          have hbr := bitsOf_rng (f := fun k => decide (12 * c + r ∈ trk (p k) (m k))) (k := k) (by omega)
          rw [← hb] at hbr
          refine j_iload_n hJ (j := 3) rfl rfl dX5_streetsOf_38 ?_
          refine j_aload_n hJ (j := 0) rfl rfl dX5_streetsOf_39 ?_
          refine w_getr hJ (by omega) rfl rfl f_X5_35 dX5_streetsOf_40 ?_
          refine j_bipush hJ (v := 12) (by decide) dX5_streetsOf_43 ?_
          refine j_iload_n hJ (j := 1) rfl rfl dX5_streetsOf_45 ?_
          refine j_imul hJ dX5_streetsOf_46 ?_
          refine j_iload_n hJ (j := 2) rfl rfl dX5_streetsOf_47 ?_
          refine j_iadd hJ dX5_streetsOf_48 ?_
          refine w_zald hJ (by omega) rfl (by first | decide | omega) (by omega) (by omega) dX5_streetsOf_49 ?_
          refine j_if_eq hJ (tgt := 60) ⟨by omega, by omega⟩ (by decide) dX5_streetsOf_50 ?_ ?_
          · intro h50
            refine j_iconst hJ dX5_streetsOf_60 ?_
            refine j_ior hJ (v := bt) (by rw [zI_0]; simp) dX5_streetsOf_61 ?_
            refine j_istore_n hJ (lv' := [(3, .int (zI bt)), (0, .ref (b 0)), (1, .int (zI c)), (2, .int (zI r)), (4, .int (zI q8)), (5, .int (zI (k : Int)))]) rfl (by decide) rfl dX5_streetsOf_62 ?_
            refine j_iinc hJ (lv' := [(5, .int (zI ((k : Int) + 1))), (3, .int (zI bt)), (0, .ref (b 0)), (1, .int (zI c)), (2, .int (zI r)), (4, .int (zI q8))]) (j := 5) rfl (by omega) (by decide) rfl dX5_streetsOf_63 ?_
            refine j_goto hJ (tgt := 18) (by decide) dX5_streetsOf_66 ?_
            refine j_locs hJ [2, 3, 4, 1, 5, 0] rfl ?_
            refine ih18 ν2 bt (k + 1) (by omega) (by omega) (by exact hSk.scratch g3.M) (by rw [g3.2 16 (by omega), h16]) ?_
            · unfold bitsOf
              rcases g4 with ⟨e, g5⟩ | ⟨e, g5⟩
              · first
                | (rw [if_pos (by simpa using g5), hb]; done)
                | (exfalso; omega)
              · first
                | (rw [if_neg (by simpa using g5), hb]; done)
                | (exfalso; omega)
          · intro h50
            refine j_iconst hJ dX5_streetsOf_53 ?_
            refine j_iload hJ (j := 5) rfl dX5_streetsOf_54 ?_
            refine j_ishl hJ (v := (2 ^ ((k : Int)).toNat)) (zI_shl1 (by omega) (by omega)) dX5_streetsOf_56 ?_
            refine j_goto hJ (tgt := 61) (by decide) dX5_streetsOf_57 ?_
            refine j_ior hJ (v := (orI bt (k : Int))) (zI_or (by omega)) dX5_streetsOf_61 ?_
            refine j_istore_n hJ (lv' := [(3, .int (zI (orI bt (k : Int)))), (0, .ref (b 0)), (1, .int (zI c)), (2, .int (zI r)), (4, .int (zI q8)), (5, .int (zI (k : Int)))]) rfl (by decide) rfl dX5_streetsOf_62 ?_
            refine j_iinc hJ (lv' := [(5, .int (zI ((k : Int) + 1))), (3, .int (zI (orI bt (k : Int)))), (0, .ref (b 0)), (1, .int (zI c)), (2, .int (zI r)), (4, .int (zI q8))]) (j := 5) rfl (by omega) (by decide) rfl dX5_streetsOf_63 ?_
            refine j_goto hJ (tgt := 18) (by decide) dX5_streetsOf_66 ?_
            refine j_locs hJ [2, 3, 4, 1, 5, 0] rfl ?_
            refine ih18 ν2 (orI bt (k : Int)) (k + 1) (by omega) (by omega) (by exact hSk.scratch g3.M) (by rw [g3.2 16 (by omega), h16]) ?_
            · unfold bitsOf
              rcases g4 with ⟨e, g5⟩ | ⟨e, g5⟩
              · first
                | (rw [if_pos (by simpa using g5), hb]; done)
                | (exfalso; omega)
              · first
                | (rw [if_neg (by simpa using g5), hb]; done)
                | (exfalso; omega)
  refine j_locs hJ [3, 4, 5, 2, 1, 0] rfl ?_
  exact lp18 (n - 0 + 1) ν1 0 0 (by omega) (by omega) (by exact hS) (by rfl) (by rfl)
set_option maxHeartbeats 4000000 in
set_option maxRecDepth 100000 in
theorem c_X5_nearestOf {ν : Nat → Int → Int} {i m : Nat} {p : Nat → Int} {c r : Int} (hfl : l.stackTraces = false) (hi : i < 16) (hP : PtM ν i p m) (hc : 0 ≤ c ∧ c < 12) (hr : 0 ≤ r ∧ r < 12) : CT l D cy n0 ad yX5_nearestOf (.code yX5_nearestOf cX5_nearestOf 6 (some .int)) ({ frames := 2, cells := 0, slots := 0, locals := 45 }) [.ref (b 0), .int (zI (i : Int)), .int (zI c), .int (zI r)] (gw 14 MSh cy b ν ++ E) (fun vv uu => ∃ q μ', vv = some (.int (zI q)) ∧ uu = (gw 14 MSh cy b μ' ++ E) ∧ (IsNear (fun x => x ∈ trk p m) c r 144 q ∧ FrD ν μ')) := by
  refine CT.walk hfl (by decide) (Nat.le_of_ble_eq_true rfl) ?_
  intro A J hJ
  show J (gw 14 MSh cy b ν ++ E) 0 0 0 [(0, .ref (b 0)), (1, .int (zI (i : Int))), (2, .int (zI c)), (3, .int (zI r))] []
  refine j_aload_n hJ (j := 0) rfl rfl dX5_nearestOf_0 ?_
  refine j_iload_n hJ (j := 1) rfl rfl dX5_nearestOf_1 ?_
  refine j_callV0 hJ (c_X5_tracks hfl hi hP) m_X5_86 k_X5_tracks (q0 := 0) (by rw [gw_get (by decide)]; rfl) rfl ⟨(Nat.le_of_ble_eq_true rfl), (Nat.le_of_ble_eq_true rfl)⟩ ⟨(Nat.le_of_ble_eq_true rfl), (Nat.le_of_ble_eq_true rfl)⟩ (Nat.le_of_ble_eq_true rfl) dX5_nearestOf_2 rfl ?_
  intro v1 u2 hv3
  obtain ⟨ν1, rfl, rfl, h2⟩ := hv3
  show J (gw 14 MSh cy b ν1 ++ E) 0 0 5 [(0, .ref (b 0)), (1, .int (zI (i : Int))), (2, .int (zI c)), (3, .int (zI r))] []
  obtain ⟨g2, g3⟩ := h2
  refine j_iconst hJ dX5_nearestOf_5 ?_
  refine j_istore hJ (lv' := [(4, .int (zI (-1))), (0, .ref (b 0)), (1, .int (zI (i : Int))), (2, .int (zI c)), (3, .int (zI r))]) (by decide) rfl dX5_nearestOf_6 ?_
  refine j_iconst hJ dX5_nearestOf_8 ?_
  refine j_istore hJ (lv' := [(5, .int (zI 0)), (4, .int (zI (-1))), (0, .ref (b 0)), (1, .int (zI (i : Int))), (2, .int (zI c)), (3, .int (zI r))]) (by decide) rfl dX5_nearestOf_9 ?_
  have lp11 : ∀ (nn11 : Nat) (y : Int) (k : Int) (hmeas11 : (144 - k).toNat < nn11) (hk : 0 ≤ k ∧ k ≤ 144) (hy : IsNear (fun x => x ∈ trk p m) c r k y), J (gw 14 MSh cy b ν1 ++ E) 0 0 11 [(0, .ref (b 0)), (1, .int (zI (i : Int))), (2, .int (zI c)), (3, .int (zI r)), (4, .int (zI y)), (5, .int (zI k))] [] := by
    intro nn11
    induction nn11 with
    | zero => intro y k hmeas11 hk hy; omega
    | succ nn11 ih11 =>
      intro y k hmeas11 hk hy
      refine j_iload hJ (j := 5) rfl dX5_nearestOf_11 ?_
      refine j_sipush hJ (v := 144) (by decide) dX5_nearestOf_13 ?_
      have hyr : -1 ≤ y ∧ y < 144 := by rcases hy with ⟨e, -⟩ | ⟨e1, e2, -⟩ <;> omega
      refine j_icmp_ge hJ (tgt := 66) ⟨by omega, by omega⟩ ⟨by omega, by omega⟩ (by decide) dX5_nearestOf_16 ?_ ?_
      · intro h16
        refine j_iload hJ (j := 4) rfl dX5_nearestOf_66 ?_
        refine j_iret hJ rfl rfl (rfl) (Nat.le_of_ble_eq_true rfl) (Nat.le_of_ble_eq_true rfl) dX5_nearestOf_68 ⟨y, ν1, rfl, rfl, ?_⟩
        rw [show k = 144 by omega] at hy
        exact ⟨hy, g3⟩
      · intro h16
        have hk1 : 0 ≤ k ∧ k < 144 := ⟨hk.1, h16⟩
        have g4 := g2.2.2 k hk1.1 hk1.2
        refine j_aload_n hJ (j := 0) rfl rfl dX5_nearestOf_19 ?_
        refine w_getr hJ (by omega) rfl rfl f_X5_35 dX5_nearestOf_20 ?_
        refine j_iload hJ (j := 5) rfl dX5_nearestOf_23 ?_
        refine w_zald hJ (by omega) rfl (by first | decide | omega) (by omega) (by omega) dX5_nearestOf_25 ?_
        refine j_if_eq hJ (tgt := 56) ⟨by omega, by omega⟩ (by decide) dX5_nearestOf_26 ?_ ?_
        · intro h26
          refine j_iload hJ (j := 4) rfl dX5_nearestOf_56 ?_
          refine j_istore hJ (lv' := [(4, .int (zI y)), (0, .ref (b 0)), (1, .int (zI (i : Int))), (2, .int (zI c)), (3, .int (zI r)), (5, .int (zI k))]) (by decide) rfl dX5_nearestOf_58 ?_
          refine j_iinc hJ (lv' := [(5, .int (zI (k + 1))), (4, .int (zI y)), (0, .ref (b 0)), (1, .int (zI (i : Int))), (2, .int (zI c)), (3, .int (zI r))]) (j := 5) rfl (by omega) (by decide) rfl dX5_nearestOf_60 ?_
          refine j_goto hJ (tgt := 11) (by decide) dX5_nearestOf_63 ?_
          refine j_locs hJ [2, 3, 4, 5, 1, 0] rfl ?_
          refine ih11 y (k + 1) (by omega) (by omega) ?_
          · have fk := far_rng hk1 hc hr
            rcases hy with ⟨e, g⟩ | ⟨e1, e2, e3, g⟩
            · rcases g4 with ⟨e5, g5⟩ | ⟨e5, g5⟩
              · first
                | (exfalso; omega)
                | exact Or.inr ⟨by omega, by omega, g5, fun s s0 s1 hs => by
                    by_cases es : s = k
                    · subst es; exact Or.inr ⟨rfl, by omega⟩
                    · exact absurd hs (g s s0 (by omega))⟩
              · first
                | (exfalso; omega)
                | exact Or.inl ⟨e, fun s s0 s1 hs => by
                    by_cases es : s = k
                    · subst es; exact g5 hs
                    · exact g s s0 (by omega) hs⟩
            · rcases g4 with ⟨e5, g5⟩ | ⟨e5, g5⟩
              · first
                | (exfalso; omega)
                | exact Or.inr ⟨by omega, by omega, g5, fun s s0 s1 hs => by
                    by_cases es : s = k
                    · subst es; exact Or.inr ⟨rfl, by omega⟩
                    · have := g s s0 (by omega) hs; omega⟩
                | exact Or.inr ⟨by omega, by omega, e3, fun s s0 s1 hs => by
                    by_cases es : s = k
                    · subst es; omega
                    · exact g s s0 (by omega) hs⟩
              · first
                | (exfalso; omega)
                | exact Or.inr ⟨by omega, by omega, e3, fun s s0 s1 hs => by
                    by_cases es : s = k
                    · subst es; exact absurd hs g5
                    · exact g s s0 (by omega) hs⟩
        · intro h26
          refine j_iload hJ (j := 4) rfl dX5_nearestOf_29 ?_
          refine j_if_lt hJ (tgt := 51) ⟨by omega, by omega⟩ (by decide) dX5_nearestOf_31 ?_ ?_
          · intro h31
            refine j_iload hJ (j := 5) rfl dX5_nearestOf_51 ?_
            refine j_goto hJ (tgt := 58) (by decide) dX5_nearestOf_53 ?_
            refine j_istore hJ (lv' := [(4, .int (zI k)), (0, .ref (b 0)), (1, .int (zI (i : Int))), (2, .int (zI c)), (3, .int (zI r)), (5, .int (zI k))]) (by decide) rfl dX5_nearestOf_58 ?_
            refine j_iinc hJ (lv' := [(5, .int (zI (k + 1))), (4, .int (zI k)), (0, .ref (b 0)), (1, .int (zI (i : Int))), (2, .int (zI c)), (3, .int (zI r))]) (j := 5) rfl (by omega) (by decide) rfl dX5_nearestOf_60 ?_
            refine j_goto hJ (tgt := 11) (by decide) dX5_nearestOf_63 ?_
            refine j_locs hJ [2, 3, 4, 5, 1, 0] rfl ?_
            refine ih11 k (k + 1) (by omega) (by omega) ?_
            · have fk := far_rng hk1 hc hr
              rcases hy with ⟨e, g⟩ | ⟨e1, e2, e3, g⟩
              · rcases g4 with ⟨e5, g5⟩ | ⟨e5, g5⟩
                · first
                  | (exfalso; omega)
                  | exact Or.inr ⟨by omega, by omega, g5, fun s s0 s1 hs => by
                      by_cases es : s = k
                      · subst es; exact Or.inr ⟨rfl, by omega⟩
                      · exact absurd hs (g s s0 (by omega))⟩
                · first
                  | (exfalso; omega)
                  | exact Or.inl ⟨e, fun s s0 s1 hs => by
                      by_cases es : s = k
                      · subst es; exact g5 hs
                      · exact g s s0 (by omega) hs⟩
              · rcases g4 with ⟨e5, g5⟩ | ⟨e5, g5⟩
                · first
                  | (exfalso; omega)
                  | exact Or.inr ⟨by omega, by omega, g5, fun s s0 s1 hs => by
                      by_cases es : s = k
                      · subst es; exact Or.inr ⟨rfl, by omega⟩
                      · have := g s s0 (by omega) hs; omega⟩
                  | exact Or.inr ⟨by omega, by omega, e3, fun s s0 s1 hs => by
                      by_cases es : s = k
                      · subst es; omega
                      · exact g s s0 (by omega) hs⟩
                · first
                  | (exfalso; omega)
                  | exact Or.inr ⟨by omega, by omega, e3, fun s s0 s1 hs => by
                      by_cases es : s = k
                      · subst es; exact absurd hs g5
                      · exact g s s0 (by omega) hs⟩
          · intro h31
            refine j_iload hJ (j := 5) rfl dX5_nearestOf_34 ?_
            refine j_iload_n hJ (j := 2) rfl rfl dX5_nearestOf_36 ?_
            refine j_iload_n hJ (j := 3) rfl rfl dX5_nearestOf_37 ?_
            refine j_callS0 hJ (c_X5_farFrom hfl hk1 hc hr) m_X5_140 k_X5_farFrom ⟨(Nat.le_of_ble_eq_true rfl), (Nat.le_of_ble_eq_true rfl)⟩ ⟨(Nat.le_of_ble_eq_true rfl), (Nat.le_of_ble_eq_true rfl)⟩ (Nat.le_of_ble_eq_true rfl) dX5_nearestOf_38 rfl ?_
            intro v4 u5 hv6
            obtain ⟨_, rfl, rfl, rfl⟩ := hv6
            show J (gw 14 MSh cy b ν1 ++ E) 0 0 41 [(0, .ref (b 0)), (1, .int (zI (i : Int))), (2, .int (zI c)), (3, .int (zI r)), (4, .int (zI y)), (5, .int (zI k))] [.int (zI (far k c r))]
            refine j_iload hJ (j := 4) rfl dX5_nearestOf_41 ?_
            refine j_iload_n hJ (j := 2) rfl rfl dX5_nearestOf_43 ?_
            refine j_iload_n hJ (j := 3) rfl rfl dX5_nearestOf_44 ?_
            refine j_callS0 hJ (c_X5_farFrom hfl ⟨by omega, by omega⟩ hc hr) m_X5_140 k_X5_farFrom ⟨(Nat.le_of_ble_eq_true rfl), (Nat.le_of_ble_eq_true rfl)⟩ ⟨(Nat.le_of_ble_eq_true rfl), (Nat.le_of_ble_eq_true rfl)⟩ (Nat.le_of_ble_eq_true rfl) dX5_nearestOf_45 rfl ?_
            intro v7 u8 hv9
            obtain ⟨_, rfl, rfl, rfl⟩ := hv9
            show J (gw 14 MSh cy b ν1 ++ E) 0 0 48 [(0, .ref (b 0)), (1, .int (zI (i : Int))), (2, .int (zI c)), (3, .int (zI r)), (4, .int (zI y)), (5, .int (zI k))] [.int (zI (far y c r)), .int (zI (far k c r))]
            have fr1 := far_rng hk1 hc hr
            have fr2 := far_rng (a := y) ⟨by omega, by omega⟩ hc hr
            refine j_icmp_ge hJ (tgt := 56) ⟨by omega, by omega⟩ ⟨by omega, by omega⟩ (by decide) dX5_nearestOf_48 ?_ ?_
            · intro h48
              refine j_iload hJ (j := 4) rfl dX5_nearestOf_56 ?_
              refine j_istore hJ (lv' := [(4, .int (zI y)), (0, .ref (b 0)), (1, .int (zI (i : Int))), (2, .int (zI c)), (3, .int (zI r)), (5, .int (zI k))]) (by decide) rfl dX5_nearestOf_58 ?_
              refine j_iinc hJ (lv' := [(5, .int (zI (k + 1))), (4, .int (zI y)), (0, .ref (b 0)), (1, .int (zI (i : Int))), (2, .int (zI c)), (3, .int (zI r))]) (j := 5) rfl (by omega) (by decide) rfl dX5_nearestOf_60 ?_
              refine j_goto hJ (tgt := 11) (by decide) dX5_nearestOf_63 ?_
              refine j_locs hJ [2, 3, 4, 5, 1, 0] rfl ?_
              refine ih11 y (k + 1) (by omega) (by omega) ?_
              · have fk := far_rng hk1 hc hr
                rcases hy with ⟨e, g⟩ | ⟨e1, e2, e3, g⟩
                · rcases g4 with ⟨e5, g5⟩ | ⟨e5, g5⟩
                  · first
                    | (exfalso; omega)
                    | exact Or.inr ⟨by omega, by omega, g5, fun s s0 s1 hs => by
                        by_cases es : s = k
                        · subst es; exact Or.inr ⟨rfl, by omega⟩
                        · exact absurd hs (g s s0 (by omega))⟩
                  · first
                    | (exfalso; omega)
                    | exact Or.inl ⟨e, fun s s0 s1 hs => by
                        by_cases es : s = k
                        · subst es; exact g5 hs
                        · exact g s s0 (by omega) hs⟩
                · rcases g4 with ⟨e5, g5⟩ | ⟨e5, g5⟩
                  · first
                    | (exfalso; omega)
                    | exact Or.inr ⟨by omega, by omega, g5, fun s s0 s1 hs => by
                        by_cases es : s = k
                        · subst es; exact Or.inr ⟨rfl, by omega⟩
                        · have := g s s0 (by omega) hs; omega⟩
                    | exact Or.inr ⟨by omega, by omega, e3, fun s s0 s1 hs => by
                        by_cases es : s = k
                        · subst es; omega
                        · exact g s s0 (by omega) hs⟩
                  · first
                    | (exfalso; omega)
                    | exact Or.inr ⟨by omega, by omega, e3, fun s s0 s1 hs => by
                        by_cases es : s = k
                        · subst es; exact absurd hs g5
                        · exact g s s0 (by omega) hs⟩
            · intro h48
              refine j_iload hJ (j := 5) rfl dX5_nearestOf_51 ?_
              refine j_goto hJ (tgt := 58) (by decide) dX5_nearestOf_53 ?_
              refine j_istore hJ (lv' := [(4, .int (zI k)), (0, .ref (b 0)), (1, .int (zI (i : Int))), (2, .int (zI c)), (3, .int (zI r)), (5, .int (zI k))]) (by decide) rfl dX5_nearestOf_58 ?_
              refine j_iinc hJ (lv' := [(5, .int (zI (k + 1))), (4, .int (zI k)), (0, .ref (b 0)), (1, .int (zI (i : Int))), (2, .int (zI c)), (3, .int (zI r))]) (j := 5) rfl (by omega) (by decide) rfl dX5_nearestOf_60 ?_
              refine j_goto hJ (tgt := 11) (by decide) dX5_nearestOf_63 ?_
              refine j_locs hJ [2, 3, 4, 5, 1, 0] rfl ?_
              refine ih11 k (k + 1) (by omega) (by omega) ?_
              · have fk := far_rng hk1 hc hr
                rcases hy with ⟨e, g⟩ | ⟨e1, e2, e3, g⟩
                · rcases g4 with ⟨e5, g5⟩ | ⟨e5, g5⟩
                  · first
                    | (exfalso; omega)
                    | exact Or.inr ⟨by omega, by omega, g5, fun s s0 s1 hs => by
                        by_cases es : s = k
                        · subst es; exact Or.inr ⟨rfl, by omega⟩
                        · exact absurd hs (g s s0 (by omega))⟩
                  · first
                    | (exfalso; omega)
                    | exact Or.inl ⟨e, fun s s0 s1 hs => by
                        by_cases es : s = k
                        · subst es; exact g5 hs
                        · exact g s s0 (by omega) hs⟩
                · rcases g4 with ⟨e5, g5⟩ | ⟨e5, g5⟩
                  · first
                    | (exfalso; omega)
                    | exact Or.inr ⟨by omega, by omega, g5, fun s s0 s1 hs => by
                        by_cases es : s = k
                        · subst es; exact Or.inr ⟨rfl, by omega⟩
                        · have := g s s0 (by omega) hs; omega⟩
                    | exact Or.inr ⟨by omega, by omega, e3, fun s s0 s1 hs => by
                        by_cases es : s = k
                        · subst es; omega
                        · exact g s s0 (by omega) hs⟩
                  · first
                    | (exfalso; omega)
                    | exact Or.inr ⟨by omega, by omega, e3, fun s s0 s1 hs => by
                        by_cases es : s = k
                        · subst es; exact absurd hs g5
                        · exact g s s0 (by omega) hs⟩
  refine j_locs hJ [2, 3, 4, 5, 1, 0] rfl ?_
  exact lp11 145 (-1) 0 (by omega) (by omega) (by exact Or.inl ⟨rfl, fun s a c => by omega⟩)
set_option maxHeartbeats 4000000 in
set_option maxRecDepth 100000 in
theorem c_X5_nearest {ν : Nat → Int → Int} {kd : Int → Int} {n : Nat} {N : Nat → List Int} {ow : Nat → Int} {m : Nat → Nat} {p : Nat → Nat → Int} {s c r : Int} (hfl : l.stackTraces = false) (hX : MI ν kd n N ow m p) (hsR : -2147483648 ≤ s ∧ s < 2147483648) (hcR : -2147483648 ≤ c ∧ c < 2147483648) (hrR : -2147483648 ≤ r ∧ r < 2147483648) : CT l D cy n0 ad yX5_nearest (.code yX5_nearest cX5_nearest 4 (some .int)) ({ frames := 3, cells := 0, slots := 0, locals := 70 }) [.ref (b 0), .int (zI s), .int (zI c), .int (zI r)] (gw 14 MSh cy b ν ++ E) (fun vv uu => ∃ q μ', vv = some (.int (zI q)) ∧ uu = (gw 14 MSh cy b μ' ++ E) ∧ (((StOK n s ∧ SqOK c r) ∧ μ' 0 16 = 0 ∧ IsNear (fun x => x ∈ trk (p s.toNat) (m s.toNat)) c r 144 q ∧ MI μ' kd n N ow m p) ∨ (μ' 0 16 = 1 ∧ ¬ (StOK n s ∧ SqOK c r) ∧ MI μ' kd n N ow m p))) := by
  obtain ⟨x1, x2, x3, x4, x5, x6, x7, x8⟩ := id hX
  refine CT.walk hfl (by decide) (Nat.le_of_ble_eq_true rfl) ?_
  intro A J hJ
  show J (gw 14 MSh cy b ν ++ E) 0 0 0 [(0, .ref (b 0)), (1, .int (zI s)), (2, .int (zI c)), (3, .int (zI r))] []
  have j22 : ∀ (kn : Int) (hkn : (kn = 1 ∧ StOK n s ∧ SqOK c r) ∨ (kn = 0 ∧ ¬ (StOK n s ∧ SqOK c r))), J (gw 14 MSh cy b ν ++ E) 0 0 22 [(0, .ref (b 0)), (1, .int (zI s)), (2, .int (zI c)), (3, .int (zI r))] [.int (zI kn), .ref (b 0)] := by
    intro kn hkn
    refine j_iconst hJ dX5_nearest_22 ?_
    have hq3 : kn = 0 ∨ kn = 1 := by omega
    refine j_iconst hJ dX5_nearest_23 ?_
    refine j_callV0 hJ (c_X5_goes hfl hq3 (Or.inr rfl) (Or.inr rfl)) m_X5_104 k_X5_goes (q0 := 0) (by rw [gw_get (by decide)]; rfl) rfl ⟨(Nat.le_of_ble_eq_true rfl), (Nat.le_of_ble_eq_true rfl)⟩ ⟨(Nat.le_of_ble_eq_true rfl), (Nat.le_of_ble_eq_true rfl)⟩ (Nat.le_of_ble_eq_true rfl) dX5_nearest_24 rfl ?_
    intro v1 u2 hv3
    obtain ⟨q8, ν1, rfl, rfl, h8⟩ := hv3
    show J (gw 14 MSh cy b ν1 ++ E) 0 0 27 [(0, .ref (b 0)), (1, .int (zI s)), (2, .int (zI c)), (3, .int (zI r))] [.int (zI q8)]
    obtain ⟨hM, hq8⟩ := h8
    have hS := hX.scratch (ν' := ν1) (by rw [hM]; exact FrM.last)
    have h11 : (1 : Int) = 0 ∨ (1 : Int) = 1 := Or.inr rfl
    have hq8' : (goC kn 1 1 = 0 ∧ q8 = 1) ∨ (goC kn 1 1 ≠ 0 ∧ q8 = 0) := by
      by_cases e : goC kn 1 1 = 0
      · rw [if_pos e] at hq8; exact Or.inl ⟨e, hq8⟩
      · rw [if_neg e] at hq8; exact Or.inr ⟨e, hq8⟩
    have hg := goC_c hq3 h11 h11
    refine j_if_eq hJ (tgt := 40) ⟨by omega, by omega⟩ (by decide) dX5_nearest_27 ?_ ?_
    · intro h27
      have hno : ¬ (StOK n s ∧ SqOK c r) := hkn.elim (fun g => by exfalso; omega) (fun g => g.2)
      refine j_iconst hJ dX5_nearest_40 ?_
      refine j_iret hJ rfl rfl (rfl) (Nat.le_of_ble_eq_true rfl) (Nat.le_of_ble_eq_true rfl) dX5_nearest_41 ⟨0, ν1, rfl, rfl, ?_⟩
      refine Or.inr ⟨?_, hno, hS⟩
      rw [hM, up_self]; omega
    · intro h27
      have hst : StOK n s ∧ SqOK c r := hkn.elim (fun g => g.2) (fun g => by exfalso; omega)
      obtain ⟨⟨hs1, hs2⟩, hc1, hc2⟩ := id hst
      have hP := hS.2.2.2.2.2.2.1 s.toNat (by omega)
      refine j_aload_n hJ (j := 0) rfl rfl dX5_nearest_30 ?_
      refine j_iload_n hJ (j := 1) rfl rfl dX5_nearest_31 ?_
      refine j_topi (y := zI (s.toNat : Int)) (by rw [Int.toNat_of_nonneg hs1]) ?_
      refine j_iload_n hJ (j := 2) rfl rfl dX5_nearest_32 ?_
      refine j_iload_n hJ (j := 3) rfl rfl dX5_nearest_33 ?_
      refine j_callV0 hJ (c_X5_nearestOf hfl (i := s.toNat) (by omega) hP hc1 hc2) m_X5_144 k_X5_nearestOf (q0 := 0) (by rw [gw_get (by decide)]; rfl) rfl ⟨(Nat.le_of_ble_eq_true rfl), (Nat.le_of_ble_eq_true rfl)⟩ ⟨(Nat.le_of_ble_eq_true rfl), (Nat.le_of_ble_eq_true rfl)⟩ (Nat.le_of_ble_eq_true rfl) dX5_nearest_34 rfl ?_
      intro v4 u5 hv6
      obtain ⟨q34, ν2, rfl, rfl, h34⟩ := hv6
      show J (gw 14 MSh cy b ν2 ++ E) 0 0 37 [(0, .ref (b 0)), (1, .int (zI s)), (2, .int (zI c)), (3, .int (zI r))] [.int (zI q34)]
      refine j_goto hJ (tgt := 41) (by decide) dX5_nearest_37 ?_
      refine j_iret hJ rfl rfl (rfl) (Nat.le_of_ble_eq_true rfl) (Nat.le_of_ble_eq_true rfl) dX5_nearest_41 ⟨q34, ν2, rfl, rfl, ?_⟩
      refine Or.inl ⟨hst, ?_, h34.1, hS.scratch h34.2.M⟩
      rw [h34.2.2 16 (by omega), hM, up_self]; omega
  refine j_aload_n hJ (j := 0) rfl rfl dX5_nearest_0 ?_
  refine j_aload_n hJ (j := 0) rfl rfl dX5_nearest_1 ?_
  refine j_iload_n hJ (j := 1) rfl rfl dX5_nearest_2 ?_
  refine j_callV0 hJ (c_X5_isStreet hfl (n := n) hsR x1 x2) m_X5_97 k_X5_isStreet (q0 := 0) (by rw [gw_get (by decide)]; rfl) rfl ⟨(Nat.le_of_ble_eq_true rfl), (Nat.le_of_ble_eq_true rfl)⟩ ⟨(Nat.le_of_ble_eq_true rfl), (Nat.le_of_ble_eq_true rfl)⟩ (Nat.le_of_ble_eq_true rfl) dX5_nearest_3 rfl ?_
  intro v7 u8 hv9
  obtain ⟨q3, rfl, rfl, h3⟩ := hv9
  show J (gw 14 MSh cy b ν ++ E) 0 0 6 [(0, .ref (b 0)), (1, .int (zI s)), (2, .int (zI c)), (3, .int (zI r))] [.int (zI q3), .ref (b 0)]
  refine j_if_eq hJ (tgt := 21) ⟨by omega, by omega⟩ (by decide) dX5_nearest_6 ?_ ?_
  · intro h6
    refine j_iconst hJ dX5_nearest_21 ?_
    refine j22 0 ?_
    · rcases h3 with ⟨e3, g3⟩ | ⟨e3, g3⟩
      · first
        | (exfalso; omega)
        | (rcases h9 with ⟨e9, g9⟩ | ⟨e9, g9⟩
           · first
             | exact Or.inl ⟨rfl, g3, g9⟩
             | (exfalso; omega)
           · first
             | exact Or.inr ⟨rfl, fun g => g9 g.2⟩
             | (exfalso; omega))
      · first
        | exact Or.inr ⟨rfl, fun g => g3 g.1⟩
        | (exfalso; omega)
  · intro h6
    refine j_iload_n hJ (j := 2) rfl rfl dX5_nearest_9 ?_
    refine j_iload_n hJ (j := 3) rfl rfl dX5_nearest_10 ?_
    refine j_callS0 hJ (c_X5_isSquare hfl hcR hrR) m_X5_101 k_X5_isSquare ⟨(Nat.le_of_ble_eq_true rfl), (Nat.le_of_ble_eq_true rfl)⟩ ⟨(Nat.le_of_ble_eq_true rfl), (Nat.le_of_ble_eq_true rfl)⟩ (Nat.le_of_ble_eq_true rfl) dX5_nearest_11 rfl ?_
    intro v10 u11 hv12
    obtain ⟨q9, rfl, rfl, h9⟩ := hv12
    show J (gw 14 MSh cy b ν ++ E) 0 0 14 [(0, .ref (b 0)), (1, .int (zI s)), (2, .int (zI c)), (3, .int (zI r))] [.int (zI q9), .ref (b 0)]
    refine j_if_eq hJ (tgt := 21) ⟨by omega, by omega⟩ (by decide) dX5_nearest_14 ?_ ?_
    · intro h14
      refine j_iconst hJ dX5_nearest_21 ?_
      refine j22 0 ?_
      · rcases h3 with ⟨e3, g3⟩ | ⟨e3, g3⟩
        · first
          | (exfalso; omega)
          | (rcases h9 with ⟨e9, g9⟩ | ⟨e9, g9⟩
             · first
               | exact Or.inl ⟨rfl, g3, g9⟩
               | (exfalso; omega)
             · first
               | exact Or.inr ⟨rfl, fun g => g9 g.2⟩
               | (exfalso; omega))
        · first
          | exact Or.inr ⟨rfl, fun g => g3 g.1⟩
          | (exfalso; omega)
    · intro h14
      refine j_iconst hJ dX5_nearest_17 ?_
      refine j_goto hJ (tgt := 22) (by decide) dX5_nearest_18 ?_
      refine j22 1 ?_
      · rcases h3 with ⟨e3, g3⟩ | ⟨e3, g3⟩
        · first
          | (exfalso; omega)
          | (rcases h9 with ⟨e9, g9⟩ | ⟨e9, g9⟩
             · first
               | exact Or.inl ⟨rfl, g3, g9⟩
               | (exfalso; omega)
             · first
               | exact Or.inr ⟨rfl, fun g => g9 g.2⟩
               | (exfalso; omega))
        · first
          | exact Or.inr ⟨rfl, fun g => g3 g.1⟩
          | (exfalso; omega)
set_option maxHeartbeats 4000000 in
set_option maxRecDepth 100000 in
theorem c_X5_distance {ν : Nat → Int → Int} {kd : Int → Int} {n : Nat} {N : Nat → List Int} {ow : Nat → Int} {m : Nat → Nat} {p : Nat → Nat → Int} {s c r : Int} (hfl : l.stackTraces = false) (hX : MI ν kd n N ow m p) (hsR : -2147483648 ≤ s ∧ s < 2147483648) (hcR : -2147483648 ≤ c ∧ c < 2147483648) (hrR : -2147483648 ≤ r ∧ r < 2147483648) : CT l D cy n0 ad yX5_distance (.code yX5_distance cX5_distance 5 (some .int)) ({ frames := 3, cells := 0, slots := 0, locals := 70 }) [.ref (b 0), .int (zI s), .int (zI c), .int (zI r)] (gw 14 MSh cy b ν ++ E) (fun vv uu => ∃ q μ', vv = some (.int (zI q)) ∧ uu = (gw 14 MSh cy b μ' ++ E) ∧ (((StOK n s ∧ SqOK c r) ∧ μ' 0 16 = 0 ∧ (∃ sq, IsNear (fun x => x ∈ trk (p s.toNat) (m s.toNat)) c r 144 sq ∧ q = (if sq = -1 then -1 else far sq c r)) ∧ MI μ' kd n N ow m p) ∨ (μ' 0 16 = 1 ∧ ¬ (StOK n s ∧ SqOK c r) ∧ MI μ' kd n N ow m p))) := by
  obtain ⟨x1, x2, x3, x4, x5, x6, x7, x8⟩ := id hX
  refine CT.walk hfl (by decide) (Nat.le_of_ble_eq_true rfl) ?_
  intro A J hJ
  show J (gw 14 MSh cy b ν ++ E) 0 0 0 [(0, .ref (b 0)), (1, .int (zI s)), (2, .int (zI c)), (3, .int (zI r))] []
  have j22 : ∀ (kn : Int) (hkn : (kn = 1 ∧ StOK n s ∧ SqOK c r) ∨ (kn = 0 ∧ ¬ (StOK n s ∧ SqOK c r))), J (gw 14 MSh cy b ν ++ E) 0 0 22 [(0, .ref (b 0)), (1, .int (zI s)), (2, .int (zI c)), (3, .int (zI r))] [.int (zI kn), .ref (b 0)] := by
    intro kn hkn
    refine j_iconst hJ dX5_distance_22 ?_
    have hq3 : kn = 0 ∨ kn = 1 := by omega
    refine j_iconst hJ dX5_distance_23 ?_
    refine j_callV0 hJ (c_X5_goes hfl hq3 (Or.inr rfl) (Or.inr rfl)) m_X5_104 k_X5_goes (q0 := 0) (by rw [gw_get (by decide)]; rfl) rfl ⟨(Nat.le_of_ble_eq_true rfl), (Nat.le_of_ble_eq_true rfl)⟩ ⟨(Nat.le_of_ble_eq_true rfl), (Nat.le_of_ble_eq_true rfl)⟩ (Nat.le_of_ble_eq_true rfl) dX5_distance_24 rfl ?_
    intro v1 u2 hv3
    obtain ⟨q8, ν1, rfl, rfl, h8⟩ := hv3
    show J (gw 14 MSh cy b ν1 ++ E) 0 0 27 [(0, .ref (b 0)), (1, .int (zI s)), (2, .int (zI c)), (3, .int (zI r))] [.int (zI q8)]
    obtain ⟨hM, hq8⟩ := h8
    have hS := hX.scratch (ν' := ν1) (by rw [hM]; exact FrM.last)
    have h11 : (1 : Int) = 0 ∨ (1 : Int) = 1 := Or.inr rfl
    have hq8' : (goC kn 1 1 = 0 ∧ q8 = 1) ∨ (goC kn 1 1 ≠ 0 ∧ q8 = 0) := by
      by_cases e : goC kn 1 1 = 0
      · rw [if_pos e] at hq8; exact Or.inl ⟨e, hq8⟩
      · rw [if_neg e] at hq8; exact Or.inr ⟨e, hq8⟩
    have hg := goC_c hq3 h11 h11
    refine j_if_ne hJ (tgt := 32) ⟨by omega, by omega⟩ (by decide) dX5_distance_27 ?_ ?_
    · intro h27
      have hst : StOK n s ∧ SqOK c r := hkn.elim (fun g => g.2) (fun g => by exfalso; omega)
      obtain ⟨⟨hs1, hs2⟩, hc1, hc2⟩ := id hst
      have hP := hS.2.2.2.2.2.2.1 s.toNat (by omega)
      refine j_aload_n hJ (j := 0) rfl rfl dX5_distance_32 ?_
      refine j_iload_n hJ (j := 1) rfl rfl dX5_distance_33 ?_
      refine j_topi (y := zI (s.toNat : Int)) (by rw [Int.toNat_of_nonneg hs1]) ?_
      refine j_iload_n hJ (j := 2) rfl rfl dX5_distance_34 ?_
      refine j_iload_n hJ (j := 3) rfl rfl dX5_distance_35 ?_
      refine j_callV0 hJ (c_X5_nearestOf hfl (i := s.toNat) (by omega) hP hc1 hc2) m_X5_144 k_X5_nearestOf (q0 := 0) (by rw [gw_get (by decide)]; rfl) rfl ⟨(Nat.le_of_ble_eq_true rfl), (Nat.le_of_ble_eq_true rfl)⟩ ⟨(Nat.le_of_ble_eq_true rfl), (Nat.le_of_ble_eq_true rfl)⟩ (Nat.le_of_ble_eq_true rfl) dX5_distance_36 rfl ?_
      intro v4 u5 hv6
      obtain ⟨q34, ν2, rfl, rfl, h34⟩ := hv6
      show J (gw 14 MSh cy b ν2 ++ E) 0 0 39 [(0, .ref (b 0)), (1, .int (zI s)), (2, .int (zI c)), (3, .int (zI r))] [.int (zI q34)]
      have hrg : -1 ≤ q34 ∧ q34 < 144 := by rcases h34.1 with ⟨e, -⟩ | ⟨e1, e2, -⟩ <;> omega
      refine j_istore hJ (lv' := [(4, .int (zI q34)), (0, .ref (b 0)), (1, .int (zI s)), (2, .int (zI c)), (3, .int (zI r))]) (by decide) rfl dX5_distance_39 ?_
      refine j_iload hJ (j := 0) rfl dX5_distance_41 ?_
      refine j_if_ge hJ (tgt := 50) ⟨by omega, by omega⟩ (by decide) dX5_distance_43 ?_ ?_
      · intro h43
        refine j_iload hJ (j := 0) rfl dX5_distance_50 ?_
        refine j_iload_n hJ (j := 3) rfl rfl dX5_distance_52 ?_
        refine j_iload_n hJ (j := 4) rfl rfl dX5_distance_53 ?_
        refine j_callS0 hJ (c_X5_farFrom hfl ⟨by omega, by omega⟩ hc1 hc2) m_X5_140 k_X5_farFrom ⟨(Nat.le_of_ble_eq_true rfl), (Nat.le_of_ble_eq_true rfl)⟩ ⟨(Nat.le_of_ble_eq_true rfl), (Nat.le_of_ble_eq_true rfl)⟩ (Nat.le_of_ble_eq_true rfl) dX5_distance_54 rfl ?_
        intro v7 u8 hv9
        obtain ⟨_, rfl, rfl, rfl⟩ := hv9
        show J (gw 14 MSh cy b ν2 ++ E) 0 0 57 [(4, .int (zI q34)), (0, .ref (b 0)), (1, .int (zI s)), (2, .int (zI c)), (3, .int (zI r))] [.int (zI (far q34 c r))]
        refine j_iret hJ rfl rfl (rfl) (Nat.le_of_ble_eq_true rfl) (Nat.le_of_ble_eq_true rfl) dX5_distance_57 ⟨(far q34 c r), ν2, rfl, rfl, ?_⟩
        refine Or.inl ⟨hst, ?_, ⟨q34, h34.1, by rw [if_neg (by omega)]⟩, hS.scratch h34.2.M⟩
        rw [h34.2.2 16 (by omega), hM, up_self]; omega
      · intro h43
        refine j_iconst hJ dX5_distance_46 ?_
        refine j_goto hJ (tgt := 57) (by decide) dX5_distance_47 ?_
        refine j_iret hJ rfl rfl (rfl) (Nat.le_of_ble_eq_true rfl) (Nat.le_of_ble_eq_true rfl) dX5_distance_57 ⟨(-1), ν2, rfl, rfl, ?_⟩
        refine Or.inl ⟨hst, ?_, ⟨q34, h34.1, by rw [if_pos (by omega)]⟩, hS.scratch h34.2.M⟩
        rw [h34.2.2 16 (by omega), hM, up_self]; omega
    · intro h27
      have hno : ¬ (StOK n s ∧ SqOK c r) := hkn.elim (fun g => by exfalso; omega) (fun g => g.2)
      refine j_iconst hJ dX5_distance_30 ?_
      refine j_iret hJ rfl rfl (rfl) (Nat.le_of_ble_eq_true rfl) (Nat.le_of_ble_eq_true rfl) dX5_distance_31 ⟨0, ν1, rfl, rfl, ?_⟩
      refine Or.inr ⟨?_, hno, hS⟩
      rw [hM, up_self]; omega
  refine j_aload_n hJ (j := 0) rfl rfl dX5_distance_0 ?_
  refine j_aload_n hJ (j := 0) rfl rfl dX5_distance_1 ?_
  refine j_iload_n hJ (j := 1) rfl rfl dX5_distance_2 ?_
  refine j_callV0 hJ (c_X5_isStreet hfl (n := n) hsR x1 x2) m_X5_97 k_X5_isStreet (q0 := 0) (by rw [gw_get (by decide)]; rfl) rfl ⟨(Nat.le_of_ble_eq_true rfl), (Nat.le_of_ble_eq_true rfl)⟩ ⟨(Nat.le_of_ble_eq_true rfl), (Nat.le_of_ble_eq_true rfl)⟩ (Nat.le_of_ble_eq_true rfl) dX5_distance_3 rfl ?_
  intro v10 u11 hv12
  obtain ⟨q3, rfl, rfl, h3⟩ := hv12
  show J (gw 14 MSh cy b ν ++ E) 0 0 6 [(0, .ref (b 0)), (1, .int (zI s)), (2, .int (zI c)), (3, .int (zI r))] [.int (zI q3), .ref (b 0)]
  refine j_if_eq hJ (tgt := 21) ⟨by omega, by omega⟩ (by decide) dX5_distance_6 ?_ ?_
  · intro h6
    refine j_iconst hJ dX5_distance_21 ?_
    refine j22 0 ?_
    · rcases h3 with ⟨e3, g3⟩ | ⟨e3, g3⟩
      · first
        | (exfalso; omega)
        | (rcases h9 with ⟨e9, g9⟩ | ⟨e9, g9⟩
           · first
             | exact Or.inl ⟨rfl, g3, g9⟩
             | (exfalso; omega)
           · first
             | exact Or.inr ⟨rfl, fun g => g9 g.2⟩
             | (exfalso; omega))
      · first
        | exact Or.inr ⟨rfl, fun g => g3 g.1⟩
        | (exfalso; omega)
  · intro h6
    refine j_iload_n hJ (j := 2) rfl rfl dX5_distance_9 ?_
    refine j_iload_n hJ (j := 3) rfl rfl dX5_distance_10 ?_
    refine j_callS0 hJ (c_X5_isSquare hfl hcR hrR) m_X5_101 k_X5_isSquare ⟨(Nat.le_of_ble_eq_true rfl), (Nat.le_of_ble_eq_true rfl)⟩ ⟨(Nat.le_of_ble_eq_true rfl), (Nat.le_of_ble_eq_true rfl)⟩ (Nat.le_of_ble_eq_true rfl) dX5_distance_11 rfl ?_
    intro v13 u14 hv15
    obtain ⟨q9, rfl, rfl, h9⟩ := hv15
    show J (gw 14 MSh cy b ν ++ E) 0 0 14 [(0, .ref (b 0)), (1, .int (zI s)), (2, .int (zI c)), (3, .int (zI r))] [.int (zI q9), .ref (b 0)]
    refine j_if_eq hJ (tgt := 21) ⟨by omega, by omega⟩ (by decide) dX5_distance_14 ?_ ?_
    · intro h14
      refine j_iconst hJ dX5_distance_21 ?_
      refine j22 0 ?_
      · rcases h3 with ⟨e3, g3⟩ | ⟨e3, g3⟩
        · first
          | (exfalso; omega)
          | (rcases h9 with ⟨e9, g9⟩ | ⟨e9, g9⟩
             · first
               | exact Or.inl ⟨rfl, g3, g9⟩
               | (exfalso; omega)
             · first
               | exact Or.inr ⟨rfl, fun g => g9 g.2⟩
               | (exfalso; omega))
        · first
          | exact Or.inr ⟨rfl, fun g => g3 g.1⟩
          | (exfalso; omega)
    · intro h14
      refine j_iconst hJ dX5_distance_17 ?_
      refine j_goto hJ (tgt := 22) (by decide) dX5_distance_18 ?_
      refine j22 1 ?_
      · rcases h3 with ⟨e3, g3⟩ | ⟨e3, g3⟩
        · first
          | (exfalso; omega)
          | (rcases h9 with ⟨e9, g9⟩ | ⟨e9, g9⟩
             · first
               | exact Or.inl ⟨rfl, g3, g9⟩
               | (exfalso; omega)
             · first
               | exact Or.inr ⟨rfl, fun g => g9 g.2⟩
               | (exfalso; omega))
        · first
          | exact Or.inr ⟨rfl, fun g => g3 g.1⟩
          | (exfalso; omega)
end
