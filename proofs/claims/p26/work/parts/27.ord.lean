
set_option maxRecDepth 20000 in
theorem g_X4_203 : Cond.fieldLink RX4 203 "StreetIndex$Word" "ALL" "[LStreetIndex$Word;" ∈ GT ∨ Cond.fieldLinkNest RX4 203 "StreetIndex$Word" "ALL" "[LStreetIndex$Word;" RX4 ∈ GT := Or.inr (List.mem_of_getElem? (i := 421) (by decide +kernel))
set_option maxRecDepth 20000 in
theorem g_X4_209 : Cond.fieldLink RX4 209 "StreetIndex$Word" "letters" "Ljava/lang/String;" ∈ GT ∨ Cond.fieldLinkNest RX4 209 "StreetIndex$Word" "letters" "Ljava/lang/String;" RX4 ∈ GT := Or.inr (List.mem_of_getElem? (i := 865) (by decide +kernel))
set_option maxRecDepth 20000 in
theorem m_X4_213 : MF RX4 213 1 yX4_lettersOrder 2 := ⟨Or.inl (List.mem_of_getElem? (i := 423) (by decide +kernel)), (List.mem_of_getElem? (i := 40) (by decide +kernel)), ⟨by decide +kernel, by decide +kernel⟩, by decide +kernel, fun h => by omega, fun _ => (List.mem_of_getElem? (i := 424) (by decide +kernel)), fun h => by omega⟩
set_option maxRecDepth 20000 in
theorem k_X4_lettersOrder : Cond.code yX4_lettersOrder cX4_lettersOrder 4 (some .int) ∈ GT := (List.mem_of_getElem? (i := 425) (by decide +kernel))
set_option maxRecDepth 20000 in
theorem f_X4_19 : FF RX4 19 4 3 (.array .int) true := ⟨RX4, TX4, 6, tyX4, rfl, by decide, lays_X4, tyX4_ok, rfl, rfl, nmX4, Or.inl (List.mem_of_getElem? (i := 152) (by decide +kernel))⟩
set_option maxRecDepth 20000 in
theorem m_X4_186 : MF RX4 186 0 yX0_putKey 2 := ⟨Or.inr (List.mem_of_getElem? (i := 407) (by decide +kernel)), (List.mem_of_getElem? (i := 42) (by decide +kernel)), ⟨by decide +kernel, by decide +kernel⟩, by decide +kernel, fun _ => ⟨(List.mem_of_getElem? (i := 409) (by decide +kernel)), (List.mem_of_getElem? (i := 15) (by decide +kernel))⟩, fun h => by omega, fun h => by omega⟩
set_option maxRecDepth 20000 in
theorem k_X0_putKey : Cond.code yX0_putKey cX0_putKey 5 (some .int) ∈ GT := (List.mem_of_getElem? (i := 410) (by decide +kernel))
set_option maxRecDepth 20000 in
theorem f_X4_22 : FF RX4 22 4 4 (.array .int) true := ⟨RX4, TX4, 6, tyX4, rfl, by decide, lays_X4, tyX4_ok, rfl, rfl, nmX4, Or.inl (List.mem_of_getElem? (i := 153) (by decide +kernel))⟩
set_option maxRecDepth 20000 in
theorem m_X4_190 : MF RX4 190 1 yX4_wordsOrder 4 := ⟨Or.inl (List.mem_of_getElem? (i := 415) (by decide +kernel)), (List.mem_of_getElem? (i := 40) (by decide +kernel)), ⟨by decide +kernel, by decide +kernel⟩, by decide +kernel, fun h => by omega, fun _ => (List.mem_of_getElem? (i := 416) (by decide +kernel)), fun h => by omega⟩
set_option maxRecDepth 20000 in
theorem k_X4_wordsOrder : Cond.code yX4_wordsOrder cX4_wordsOrder 7 (some .int) ∈ GT := (List.mem_of_getElem? (i := 417) (by decide +kernel))
set_option maxRecDepth 20000 in
theorem f_X4_194 : FF RX4 194 1 0 (.array .int) true := ⟨RX0, TX0, 4, tyX0, rfl, by decide, lays_X0, tyX0_ok, rfl, rfl, nmX0, Or.inr (List.mem_of_getElem? (i := 132) (by decide +kernel))⟩
set_option maxRecDepth 20000 in
theorem f_X4_197 : FF RX4 197 1 1 .int false := ⟨RX0, TX0, 4, tyX0, rfl, by decide, lays_X0, tyX0_ok, rfl, rfl, nmX0, Or.inr (List.mem_of_getElem? (i := 134) (by decide +kernel))⟩
set_option maxRecDepth 20000 in
theorem m_X4_106 : MF RX4 106 0 yX4_keyOrder 2 := ⟨Or.inl (List.mem_of_getElem? (i := 403) (by decide +kernel)), (List.mem_of_getElem? (i := 40) (by decide +kernel)), ⟨by decide +kernel, by decide +kernel⟩, by decide +kernel, fun _ => ⟨(List.mem_of_getElem? (i := 405) (by decide +kernel)), (List.mem_of_getElem? (i := 14) (by decide +kernel))⟩, fun h => by omega, fun h => by omega⟩
set_option maxRecDepth 20000 in
theorem k_X4_keyOrder : Cond.code yX4_keyOrder cX4_keyOrder 5 (some .int) ∈ GT := (List.mem_of_getElem? (i := 406) (by decide +kernel))
set_option maxRecDepth 20000 in
theorem m_X4_179 : MF RX4 179 1 yX4_nameOrder 2 := ⟨Or.inl (List.mem_of_getElem? (i := 487) (by decide +kernel)), (List.mem_of_getElem? (i := 40) (by decide +kernel)), ⟨by decide +kernel, by decide +kernel⟩, by decide +kernel, fun h => by omega, fun _ => (List.mem_of_getElem? (i := 488) (by decide +kernel)), fun h => by omega⟩
set_option maxRecDepth 20000 in
theorem k_X4_nameOrder : Cond.code yX4_nameOrder cX4_nameOrder 2 (some .int) ∈ GT := (List.mem_of_getElem? (i := 489) (by decide +kernel))
set_option maxRecDepth 20000 in
theorem m_X4_176 : MF RX4 176 0 yX4_indexOrder 2 := ⟨Or.inl (List.mem_of_getElem? (i := 483) (by decide +kernel)), (List.mem_of_getElem? (i := 40) (by decide +kernel)), ⟨by decide +kernel, by decide +kernel⟩, by decide +kernel, fun _ => ⟨(List.mem_of_getElem? (i := 485) (by decide +kernel)), (List.mem_of_getElem? (i := 18) (by decide +kernel))⟩, fun h => by omega, fun h => by omega⟩
set_option maxRecDepth 20000 in
theorem k_X4_indexOrder : Cond.code yX4_indexOrder cX4_indexOrder 4 (some .int) ∈ GT := (List.mem_of_getElem? (i := 486) (by decide +kernel))
set_option maxRecDepth 20000 in
theorem m_X4_102 : MF RX4 102 0 yX4_countAhead 1 := ⟨Or.inl (List.mem_of_getElem? (i := 479) (by decide +kernel)), (List.mem_of_getElem? (i := 40) (by decide +kernel)), ⟨by decide +kernel, by decide +kernel⟩, by decide +kernel, fun _ => ⟨(List.mem_of_getElem? (i := 481) (by decide +kernel)), (List.mem_of_getElem? (i := 17) (by decide +kernel))⟩, fun h => by omega, fun h => by omega⟩
set_option maxRecDepth 20000 in
theorem k_X4_countAhead : Cond.code yX4_countAhead cX4_countAhead 4 (some .int) ∈ GT := (List.mem_of_getElem? (i := 482) (by decide +kernel))
section
variable {l : Launch} {D : va_G} {cy : Nat → ClassId} {n0 : Nat} {ad : Nat → Nat} {b : Nat → Nat} {E : va_W} {ws : va_W}
set_option maxHeartbeats 4000000 in
set_option maxRecDepth 100000 in
theorem c_X4_wordsOrder {μ : Nat → Int → Int} {o1 o2 : Nat} {L1 L2 : List Int} (hfl : l.stackTraces = false) (ho1 : o1 < 105) (hs1 : XSh o1 = .inr (.inl (0, 4))) (ho2 : o2 < 105) (hs2 : XSh o2 = .inr (.inl (0, 4))) (hA : ArrL (μ o1) L1) (hB : ArrL (μ o2) L2) (hA4 : L1.length ≤ 4) (hB4 : L2.length ≤ 4) (hAw : ∀ w ∈ L1, 0 ≤ w ∧ w < 24) (hBw : ∀ w ∈ L2, 0 ≤ w ∧ w < 24) : CT l D cy n0 ad yX4_wordsOrder (.code yX4_wordsOrder cX4_wordsOrder 7 (some .int)) ({ frames := 5, cells := 0, slots := 0, locals := 108 }) [.ref (b o1), .int (zI (L1.length : Int)), .ref (b o2), .int (zI (L2.length : Int))] (gw 105 XSh cy b μ ++ E) (fun vv uu => ∃ q, vv = some (.int (zI q)) ∧ uu = (gw 105 XSh cy b μ ++ E) ∧ (q = wo L1 L2)) := by
  refine CT.walk hfl (by decide) (Nat.le_of_ble_eq_true rfl) ?_
  intro A J hJ
  show J (gw 105 XSh cy b μ ++ E) 0 0 0 [(0, .ref (b o1)), (1, .int (zI (L1.length : Int))), (2, .ref (b o2)), (3, .int (zI (L2.length : Int)))] []
  refine j_iload_n hJ (j := 1) rfl rfl dX4_wordsOrder_0 ?_
  refine j_iload_n hJ (j := 3) rfl rfl dX4_wordsOrder_1 ?_
  refine j_mmin hJ mm_X4_200 ⟨by omega, by omega⟩ ⟨by omega, by omega⟩ (Nat.le_of_ble_eq_true rfl) (Nat.le_of_ble_eq_true rfl) (Nat.le_of_ble_eq_true rfl) (Nat.le_of_ble_eq_true rfl) dX4_wordsOrder_2 ?_
  refine j_topi (y := zI (min L1.length L2.length : Nat)) (by unfold imin; congr 1; split <;> omega) ?_
  refine j_istore hJ (lv' := [(4, .int (zI (min L1.length L2.length : Nat))), (0, .ref (b o1)), (1, .int (zI (L1.length : Int))), (2, .ref (b o2)), (3, .int (zI (L2.length : Int)))]) (by decide) rfl dX4_wordsOrder_5 ?_
  refine j_iconst hJ dX4_wordsOrder_7 ?_
  refine j_istore hJ (lv' := [(5, .int (zI 0)), (4, .int (zI (min L1.length L2.length : Nat))), (0, .ref (b o1)), (1, .int (zI (L1.length : Int))), (2, .ref (b o2)), (3, .int (zI (L2.length : Int)))]) (by decide) rfl dX4_wordsOrder_8 ?_
  have lp10 : ∀ (nn10 : Nat) (k : Nat) (hmeas10 : min L1.length L2.length - k < nn10) (hk : k ≤ min L1.length L2.length) (he : wo L1 L2 = wo (L1.drop k) (L2.drop k)), J (gw 105 XSh cy b μ ++ E) 0 0 10 [(0, .ref (b o1)), (1, .int (zI (L1.length : Int))), (2, .ref (b o2)), (3, .int (zI (L2.length : Int))), (4, .int (zI (min L1.length L2.length : Nat))), (5, .int (zI (k : Int)))] [] := by
    intro nn10
    induction nn10 with
    | zero => intro k hmeas10 hk he; omega
    | succ nn10 ih10 =>
      intro k hmeas10 hk he
      refine j_iload hJ (j := 5) rfl dX4_wordsOrder_10 ?_
      refine j_iload hJ (j := 4) rfl dX4_wordsOrder_12 ?_
      refine j_icmp_ge hJ (tgt := 58) ⟨by omega, by omega⟩ ⟨by omega, by omega⟩ (by decide) dX4_wordsOrder_14 ?_ ?_
      · intro h14
        refine j_iload_n hJ (j := 1) rfl rfl dX4_wordsOrder_58 ?_
        refine j_iload_n hJ (j := 3) rfl rfl dX4_wordsOrder_59 ?_
        refine j_isub hJ dX4_wordsOrder_60 ?_
        refine j_callS0 hJ (c_X4_sign hfl ⟨by omega, by omega⟩) m_X4_183 k_X4_sign ⟨(Nat.le_of_ble_eq_true rfl), (Nat.le_of_ble_eq_true rfl)⟩ ⟨(Nat.le_of_ble_eq_true rfl), (Nat.le_of_ble_eq_true rfl)⟩ (Nat.le_of_ble_eq_true rfl) dX4_wordsOrder_61 rfl ?_
        intro v1 u2 hv3
        obtain ⟨_, rfl, rfl, rfl⟩ := hv3
        show J (gw 105 XSh cy b μ ++ E) 0 0 64 [(0, .ref (b o1)), (1, .int (zI (L1.length : Int))), (2, .ref (b o2)), (3, .int (zI (L2.length : Int))), (4, .int (zI (min L1.length L2.length : Nat))), (5, .int (zI (k : Int)))] [.int (zI (sg ((L1.length : Int) - L2.length)))]
        refine j_iret hJ rfl rfl (rfl) (Nat.le_of_ble_eq_true rfl) (Nat.le_of_ble_eq_true rfl) dX4_wordsOrder_64 ⟨(sg ((L1.length : Int) - L2.length)), rfl, rfl, ?_⟩
        rw [he, wo_end (by omega)]
      · intro h14
        obtain ⟨wa, hwa⟩ : ∃ x, L1[k]? = some x := ⟨_, List.getElem?_eq_getElem (by omega)⟩
        obtain ⟨wb, hwb⟩ : ∃ x, L2[k]? = some x := ⟨_, List.getElem?_eq_getElem (by omega)⟩
        have ea := hA k wa hwa
        have eb := hB k wb hwb
        have ra := hAw wa (List.mem_of_getElem? hwa)
        have rb := hBw wb (List.mem_of_getElem? hwb)
        have hsg := sg_cases (wRk wa.toNat - wRk wb.toNat)
        refine j_gets (v := .ref (ad 0)) hJ (fun _ h => h.2.2.1) g_X4_203 dX4_wordsOrder_17 ?_
        refine j_aload_n hJ (j := 0) rfl rfl dX4_wordsOrder_20 ?_
        refine j_iload hJ (j := 5) rfl dX4_wordsOrder_21 ?_
        refine w_iald hJ (by omega) hs1 (by first | decide | omega) (by omega) (by omega) dX4_wordsOrder_23 ?_
        refine j_topi (y := zI wa) (by rw [ea]) ?_
        refine j_aaldK (N := 24) (v := .ref (ad (1 + ((wa).toNat)))) hJ (fun _ h => h.2.2.2.1) (by omega) (by omega) (by decide) rfl dX4_wordsOrder_24 ?_
        refine j_getK (v := .ref (ad (30 + ((wa).toNat)))) hJ (fun _ h => h.2.2.2.2.1 _ (by omega)) g_X4_209 dX4_wordsOrder_25 ?_
        refine j_gets (v := .ref (ad 0)) hJ (fun _ h => h.2.2.1) g_X4_203 dX4_wordsOrder_28 ?_
        refine j_aload_n hJ (j := 2) rfl rfl dX4_wordsOrder_31 ?_
        refine j_iload hJ (j := 5) rfl dX4_wordsOrder_32 ?_
        refine w_iald hJ (by omega) hs2 (by first | decide | omega) (by omega) (by omega) dX4_wordsOrder_34 ?_
        refine j_topi (y := zI wb) (by rw [eb]) ?_
        refine j_aaldK (N := 24) (v := .ref (ad (1 + ((wb).toNat)))) hJ (fun _ h => h.2.2.2.1) (by omega) (by omega) (by decide) rfl dX4_wordsOrder_35 ?_
        refine j_getK (v := .ref (ad (30 + ((wb).toNat)))) hJ (fun _ h => h.2.2.2.2.1 _ (by omega)) g_X4_209 dX4_wordsOrder_36 ?_
        refine j_callS0 hJ (c_X4_lettersOrder hfl (i := wa.toNat) (j := wb.toNat) (by omega) (by omega)) m_X4_213 k_X4_lettersOrder ⟨(Nat.le_of_ble_eq_true rfl), (Nat.le_of_ble_eq_true rfl)⟩ ⟨(Nat.le_of_ble_eq_true rfl), (Nat.le_of_ble_eq_true rfl)⟩ (Nat.le_of_ble_eq_true rfl) dX4_wordsOrder_39 rfl ?_
        intro v4 u5 hv6
        obtain ⟨_, rfl, rfl, rfl⟩ := hv6
        show J (gw 105 XSh cy b μ ++ E) 0 0 42 [(0, .ref (b o1)), (1, .int (zI (L1.length : Int))), (2, .ref (b o2)), (3, .int (zI (L2.length : Int))), (4, .int (zI (min L1.length L2.length : Nat))), (5, .int (zI (k : Int)))] [.int (zI (sg (wRk wa.toNat - wRk wb.toNat)))]
        refine j_istore hJ (lv' := [(6, .int (zI (sg (wRk wa.toNat - wRk wb.toNat)))), (0, .ref (b o1)), (1, .int (zI (L1.length : Int))), (2, .ref (b o2)), (3, .int (zI (L2.length : Int))), (4, .int (zI (min L1.length L2.length : Nat))), (5, .int (zI (k : Int)))]) (by decide) rfl dX4_wordsOrder_42 ?_
        refine j_iload hJ (j := 0) rfl dX4_wordsOrder_44 ?_
        refine j_if_eq hJ (tgt := 52) ⟨by omega, by omega⟩ (by decide) dX4_wordsOrder_46 ?_ ?_
        · intro h46
          refine j_iinc hJ (lv' := [(5, .int (zI ((k : Int) + 1))), (6, .int (zI (sg (wRk wa.toNat - wRk wb.toNat)))), (0, .ref (b o1)), (1, .int (zI (L1.length : Int))), (2, .ref (b o2)), (3, .int (zI (L2.length : Int))), (4, .int (zI (min L1.length L2.length : Nat)))]) (j := 6) rfl (by omega) (by decide) rfl dX4_wordsOrder_52 ?_
          refine j_goto hJ (tgt := 10) (by decide) dX4_wordsOrder_55 ?_
          refine j_locs hJ [2, 3, 4, 5, 6, 0] rfl ?_
          exact ih10 (k + 1) (by omega) (by omega) (by rw [he, wo_drop hwa hwb, if_pos (by unfold rk; omega)])
        · intro h46
          refine j_iload hJ (j := 0) rfl dX4_wordsOrder_49 ?_
          refine j_iret hJ rfl rfl (rfl) (Nat.le_of_ble_eq_true rfl) (Nat.le_of_ble_eq_true rfl) dX4_wordsOrder_51 ⟨(sg (wRk wa.toNat - wRk wb.toNat)), rfl, rfl, ?_⟩
          rw [he, wo_drop hwa hwb, if_neg (by unfold rk; omega)]
          rfl
  refine j_locs hJ [2, 3, 4, 5, 1, 0] rfl ?_
  exact lp10 (min L1.length L2.length - 0 + 1) 0 (by omega) (by omega) (by simp)
set_option maxHeartbeats 4000000 in
set_option maxRecDepth 100000 in
theorem c_X4_keyOrder {μ : Nat → Int → Int} {n : Nat} {N : Nat → List Int} {ow : Nat → Int} {m : Nat → Nat} {p : Nat → Nat → Int} {s t : Nat} (hfl : l.stackTraces = false) (hX : XI μ n N ow m p) (hs : s < n) (ht : t < n) : CT l D cy n0 ad yX4_keyOrder (.code yX4_keyOrder cX4_keyOrder 5 (some .int)) ({ frames := 6, cells := 0, slots := 0, locals := 134 }) [.ref (b 0), .int (zI (s : Int)), .int (zI (t : Int))] (gw 105 XSh cy b μ ++ E) (fun vv uu => ∃ q μ', vv = some (.int (zI q)) ∧ uu = (gw 105 XSh cy b μ' ++ E) ∧ (q = ko (μ 1) N s t ∧ FrS μ μ')) := by
  obtain ⟨x1, x2, x3, x4, x5, x6, x7⟩ := id hX
  have ns := x4 s hs
  have nt := x4 t ht
  have kls := keyL_len (kd := μ 1) (N := N s) ⟨ns.2.1, ns.2.2.1⟩
  have klt := keyL_len (kd := μ 1) (N := N t) ⟨nt.2.1, nt.2.2.1⟩
  refine CT.walk hfl (by decide) (Nat.le_of_ble_eq_true rfl) ?_
  intro A J hJ
  show J (gw 105 XSh cy b μ ++ E) 0 0 0 [(0, .ref (b 0)), (1, .int (zI (s : Int))), (2, .int (zI (t : Int)))] []
  refine j_aload_n hJ (j := 0) rfl rfl dX4_keyOrder_0 ?_
  refine w_getr hJ (by omega) rfl rfl f_X4_15 dX4_keyOrder_1 ?_
  refine j_iload_n hJ (j := 1) rfl rfl dX4_keyOrder_4 ?_
  refine w_aald hJ (by omega) rfl (by decide) (by omega) (by omega) dX4_keyOrder_5 ?_
  rw [Int.toNat_natCast]
  refine j_aload_n hJ (j := 0) rfl rfl dX4_keyOrder_6 ?_
  refine w_getr hJ (by omega) rfl rfl f_X4_9 dX4_keyOrder_7 ?_
  refine j_aload_n hJ (j := 0) rfl rfl dX4_keyOrder_10 ?_
  refine w_getr hJ (by omega) rfl rfl f_X4_19 dX4_keyOrder_11 ?_
  refine j_callV0 hJ (c_X0_putKey hfl (i := s) (kc := 3) (N := N s) (by omega) (by decide) rfl ⟨by omega, by omega, by omega⟩ ns x3) m_X4_186 k_X0_putKey (q0 := 9 + 6 * s) (by rw [gw_get (by omega), XS0]; rfl) rfl ⟨(Nat.le_of_ble_eq_true rfl), (Nat.le_of_ble_eq_true rfl)⟩ ⟨(Nat.le_of_ble_eq_true rfl), (Nat.le_of_ble_eq_true rfl)⟩ (Nat.le_of_ble_eq_true rfl) dX4_keyOrder_14 rfl ?_
  intro v1 u2 hv3
  obtain ⟨q14, μ1, rfl, rfl, h14⟩ := hv3
  show J (gw 105 XSh cy b μ1 ++ E) 0 0 17 [(0, .ref (b 0)), (1, .int (zI (s : Int))), (2, .int (zI (t : Int)))] [.int (zI q14)]
  obtain ⟨e14, a14, f14⟩ := h14
  have F1 : FrS μ μ1 := fun a g1 _ _ _ _ => f14 a g1
  have X1 := hX.scratch F1
  refine j_topi (y := zI ((keyL (μ 1) (N s)).length : Nat)) (by rw [e14]) ?_
  refine j_istore_n hJ (lv' := [(3, .int (zI ((keyL (μ 1) (N s)).length : Nat))), (0, .ref (b 0)), (1, .int (zI (s : Int))), (2, .int (zI (t : Int)))]) rfl (by decide) rfl dX4_keyOrder_17 ?_
  refine j_aload_n hJ (j := 1) rfl rfl dX4_keyOrder_18 ?_
  refine w_getr hJ (by omega) rfl rfl f_X4_15 dX4_keyOrder_19 ?_
  refine j_iload_n hJ (j := 3) rfl rfl dX4_keyOrder_22 ?_
  refine w_aald hJ (by omega) rfl (by decide) (by omega) (by omega) dX4_keyOrder_23 ?_
  rw [Int.toNat_natCast]
  refine j_aload_n hJ (j := 1) rfl rfl dX4_keyOrder_24 ?_
  refine w_getr hJ (by omega) rfl rfl f_X4_9 dX4_keyOrder_25 ?_
  refine j_aload_n hJ (j := 1) rfl rfl dX4_keyOrder_28 ?_
  refine w_getr hJ (by omega) rfl rfl f_X4_22 dX4_keyOrder_29 ?_
  refine j_callV0 hJ (c_X0_putKey hfl (i := t) (kc := 4) (N := N t) (by omega) (by decide) rfl ⟨by omega, by omega, by omega⟩ (X1.2.2.2.1 t ht) X1.2.2.1) m_X4_186 k_X0_putKey (q0 := 9 + 6 * t) (by rw [gw_get (by omega), XS0]; rfl) rfl ⟨(Nat.le_of_ble_eq_true rfl), (Nat.le_of_ble_eq_true rfl)⟩ ⟨(Nat.le_of_ble_eq_true rfl), (Nat.le_of_ble_eq_true rfl)⟩ (Nat.le_of_ble_eq_true rfl) dX4_keyOrder_32 rfl ?_
  intro v4 u5 hv6
  obtain ⟨q32, μ2, rfl, rfl, h32⟩ := hv6
  show J (gw 105 XSh cy b μ2 ++ E) 0 0 35 [(3, .int (zI ((keyL (μ 1) (N s)).length : Nat))), (0, .ref (b 0)), (1, .int (zI (s : Int))), (2, .int (zI (t : Int)))] [.int (zI q32)]
  obtain ⟨e32, a32, f32⟩ := h32
  rw [f14 1 (by decide)] at e32 a32
  have F2 : FrS μ μ2 := fun a g1 g2 _ _ _ => (f32 a g2).trans (f14 a g1)
  refine j_topi (y := zI ((keyL (μ 1) (N t)).length : Nat)) (by rw [e32]) ?_
  refine j_istore hJ (lv' := [(4, .int (zI ((keyL (μ 1) (N t)).length : Nat))), (3, .int (zI ((keyL (μ 1) (N s)).length : Nat))), (0, .ref (b 0)), (1, .int (zI (s : Int))), (2, .int (zI (t : Int)))]) (by decide) rfl dX4_keyOrder_35 ?_
  refine j_aload_n hJ (j := 2) rfl rfl dX4_keyOrder_37 ?_
  refine w_getr hJ (by omega) rfl rfl f_X4_19 dX4_keyOrder_38 ?_
  refine j_iload_n hJ (j := 1) rfl rfl dX4_keyOrder_41 ?_
  refine j_aload_n hJ (j := 2) rfl rfl dX4_keyOrder_42 ?_
  refine w_getr hJ (by omega) rfl rfl f_X4_22 dX4_keyOrder_43 ?_
  refine j_iload hJ (j := 0) rfl dX4_keyOrder_46 ?_
  refine j_callS0 hJ (c_X4_wordsOrder hfl (o1 := 3) (o2 := 4) (L1 := keyL (μ 1) (N s)) (L2 := keyL (μ 1) (N t)) (by decide) rfl (by decide) rfl (by rw [f32 3 (by decide)]; exact a14) a32 kls.2 klt.2 (fun w hw => ns.2.2.2.2 w (keyL_mem hw)) (fun w hw => nt.2.2.2.2 w (keyL_mem hw))) m_X4_190 k_X4_wordsOrder ⟨(Nat.le_of_ble_eq_true rfl), (Nat.le_of_ble_eq_true rfl)⟩ ⟨(Nat.le_of_ble_eq_true rfl), (Nat.le_of_ble_eq_true rfl)⟩ (Nat.le_of_ble_eq_true rfl) dX4_keyOrder_48 rfl ?_
  intro v7 u8 hv9
  obtain ⟨_, rfl, rfl, rfl⟩ := hv9
  show J (gw 105 XSh cy b μ2 ++ E) 0 0 51 [(4, .int (zI ((keyL (μ 1) (N t)).length : Nat))), (3, .int (zI ((keyL (μ 1) (N s)).length : Nat))), (0, .ref (b 0)), (1, .int (zI (s : Int))), (2, .int (zI (t : Int)))] [.int (zI (wo (keyL (μ 1) (N s)) (keyL (μ 1) (N t))))]
  refine j_iret hJ rfl rfl (rfl) (Nat.le_of_ble_eq_true rfl) (Nat.le_of_ble_eq_true rfl) dX4_keyOrder_51 ⟨(wo (keyL (μ 1) (N s)) (keyL (μ 1) (N t))), μ2, rfl, rfl, ?_⟩
  exact ⟨rfl, F2⟩
set_option maxHeartbeats 4000000 in
set_option maxRecDepth 100000 in
theorem c_X4_nameOrder {μ : Nat → Int → Int} {s t : Nat} {L1 L2 : List Int} (hfl : l.stackTraces = false) (hs : s < 16) (ht : t < 16) (hA : NmI μ s L1) (hB : NmI μ t L2) : CT l D cy n0 ad yX4_nameOrder (.code yX4_nameOrder cX4_nameOrder 2 (some .int)) ({ frames := 6, cells := 0, slots := 0, locals := 134 }) [.ref (b (9 + 6 * s)), .ref (b (9 + 6 * t))] (gw 105 XSh cy b μ ++ E) (fun vv uu => ∃ q, vv = some (.int (zI q)) ∧ uu = (gw 105 XSh cy b μ ++ E) ∧ (q = wo L1 L2)) := by
  refine CT.walk hfl (by decide) (Nat.le_of_ble_eq_true rfl) ?_
  intro A J hJ
  show J (gw 105 XSh cy b μ ++ E) 0 0 0 [(0, .ref (b (9 + 6 * s))), (1, .ref (b (9 + 6 * t)))] []
  refine j_aload_n hJ (j := 0) rfl rfl dX4_nameOrder_0 ?_
  refine w_getr hJ (by omega) (XS0 _) rfl f_X4_194 dX4_nameOrder_1 ?_
  refine j_aload_n hJ (j := 0) rfl rfl dX4_nameOrder_4 ?_
  refine w_geti hJ (fi := 1) rfl (by omega) (XS0 _) rfl f_X4_197 dX4_nameOrder_5 ?_
  refine j_topi (y := zI (L1.length : Nat)) (by rw [hA.1]) ?_
  refine j_aload_n hJ (j := 1) rfl rfl dX4_nameOrder_8 ?_
  refine w_getr hJ (by omega) (XS0 _) rfl f_X4_194 dX4_nameOrder_9 ?_
  refine j_aload_n hJ (j := 1) rfl rfl dX4_nameOrder_12 ?_
  refine w_geti hJ (fi := 1) rfl (by omega) (XS0 _) rfl f_X4_197 dX4_nameOrder_13 ?_
  refine j_topi (y := zI (L2.length : Nat)) (by rw [hB.1]) ?_
  refine j_callS0 hJ (c_X4_wordsOrder hfl (o1 := 9 + 6 * s + 1) (o2 := 9 + 6 * t + 1) (L1 := L1) (L2 := L2) (by omega) (XS1 _) (by omega) (XS1 _) hA.2.2.2.1 hB.2.2.2.1 hA.2.2.1 hB.2.2.1 hA.2.2.2.2 hB.2.2.2.2) m_X4_190 k_X4_wordsOrder ⟨(Nat.le_of_ble_eq_true rfl), (Nat.le_of_ble_eq_true rfl)⟩ ⟨(Nat.le_of_ble_eq_true rfl), (Nat.le_of_ble_eq_true rfl)⟩ (Nat.le_of_ble_eq_true rfl) dX4_nameOrder_16 rfl ?_
  intro v1 u2 hv3
  obtain ⟨_, rfl, rfl, rfl⟩ := hv3
  show J (gw 105 XSh cy b μ ++ E) 0 0 19 [(0, .ref (b (9 + 6 * s))), (1, .ref (b (9 + 6 * t)))] [.int (zI (wo L1 L2))]
  refine j_iret hJ rfl rfl (rfl) (Nat.le_of_ble_eq_true rfl) (Nat.le_of_ble_eq_true rfl) dX4_nameOrder_19 ⟨(wo L1 L2), rfl, rfl, ?_⟩
  rfl
set_option maxHeartbeats 4000000 in
set_option maxRecDepth 100000 in
theorem c_X4_indexOrder {μ : Nat → Int → Int} {n : Nat} {N : Nat → List Int} {ow : Nat → Int} {m : Nat → Nat} {p : Nat → Nat → Int} {s t : Nat} (hfl : l.stackTraces = false) (hX : XI μ n N ow m p) (hs : s < n) (ht : t < n) : CT l D cy n0 ad yX4_indexOrder (.code yX4_indexOrder cX4_indexOrder 4 (some .int)) ({ frames := 7, cells := 0, slots := 0, locals := 158 }) [.ref (b 0), .int (zI (s : Int)), .int (zI (t : Int))] (gw 105 XSh cy b μ ++ E) (fun vv uu => ∃ q μ', vv = some (.int (zI q)) ∧ uu = (gw 105 XSh cy b μ' ++ E) ∧ (q = io (μ 1) N s t ∧ FrS μ μ')) := by
  obtain ⟨x1, x2, x3, x4, x5, x6, x7⟩ := id hX
  have kr := wo_rng (keyL (μ 1) (N s)) (keyL (μ 1) (N t))
  have nr := wo_rng (N s) (N t)
  have ekr : ko (μ 1) N s t = wo (keyL (μ 1) (N s)) (keyL (μ 1) (N t)) := rfl
  refine CT.walk hfl (by decide) (Nat.le_of_ble_eq_true rfl) ?_
  intro A J hJ
  show J (gw 105 XSh cy b μ ++ E) 0 0 0 [(0, .ref (b 0)), (1, .int (zI (s : Int))), (2, .int (zI (t : Int)))] []
  refine j_aload_n hJ (j := 0) rfl rfl dX4_indexOrder_0 ?_
  refine j_iload_n hJ (j := 1) rfl rfl dX4_indexOrder_1 ?_
  refine j_iload_n hJ (j := 2) rfl rfl dX4_indexOrder_2 ?_
  refine j_callV0 hJ (c_X4_keyOrder hfl hX hs ht) m_X4_106 k_X4_keyOrder (q0 := 0) (by rw [gw_get (by decide)]; rfl) rfl ⟨(Nat.le_of_ble_eq_true rfl), (Nat.le_of_ble_eq_true rfl)⟩ ⟨(Nat.le_of_ble_eq_true rfl), (Nat.le_of_ble_eq_true rfl)⟩ (Nat.le_of_ble_eq_true rfl) dX4_indexOrder_3 rfl ?_
  intro v1 u2 hv3
  obtain ⟨q3, μ1, rfl, rfl, h3⟩ := hv3
  show J (gw 105 XSh cy b μ1 ++ E) 0 0 6 [(0, .ref (b 0)), (1, .int (zI (s : Int))), (2, .int (zI (t : Int)))] [.int (zI q3)]
  obtain ⟨e3, F3⟩ := h3
  have X3 := hX.scratch F3
  refine j_topi (y := zI (ko (μ 1) N s t)) (by rw [e3]) ?_
  refine j_istore_n hJ (lv' := [(3, .int (zI (ko (μ 1) N s t))), (0, .ref (b 0)), (1, .int (zI (s : Int))), (2, .int (zI (t : Int)))]) rfl (by decide) rfl dX4_indexOrder_6 ?_
  refine j_iload_n hJ (j := 0) rfl rfl dX4_indexOrder_7 ?_
  refine j_if_ne hJ (tgt := 27) ⟨by omega, by omega⟩ (by decide) dX4_indexOrder_8 ?_ ?_
  · intro h8
    refine j_iload_n hJ (j := 0) rfl rfl dX4_indexOrder_27 ?_
    refine j_if_ne hJ (tgt := 40) ⟨by omega, by omega⟩ (by decide) dX4_indexOrder_28 ?_ ?_
    · intro h28
      refine j_iload_n hJ (j := 0) rfl rfl dX4_indexOrder_40 ?_
      refine j_iret hJ rfl rfl (rfl) (Nat.le_of_ble_eq_true rfl) (Nat.le_of_ble_eq_true rfl) dX4_indexOrder_41 ⟨(ko (μ 1) N s t), μ1, rfl, rfl, ?_⟩
      refine ⟨?_, F3⟩
      unfold io
      rw [if_neg (by omega)]
    · intro h28
      refine j_iload_n hJ (j := 2) rfl rfl dX4_indexOrder_31 ?_
      refine j_iload_n hJ (j := 3) rfl rfl dX4_indexOrder_32 ?_
      refine j_isub hJ dX4_indexOrder_33 ?_
      refine j_callS0 hJ (c_X4_sign hfl ⟨by omega, by omega⟩) m_X4_183 k_X4_sign ⟨(Nat.le_of_ble_eq_true rfl), (Nat.le_of_ble_eq_true rfl)⟩ ⟨(Nat.le_of_ble_eq_true rfl), (Nat.le_of_ble_eq_true rfl)⟩ (Nat.le_of_ble_eq_true rfl) dX4_indexOrder_34 rfl ?_
      intro v4 u5 hv6
      obtain ⟨_, rfl, rfl, rfl⟩ := hv6
      show J (gw 105 XSh cy b μ1 ++ E) 0 0 37 [(3, .int (zI (ko (μ 1) N s t))), (0, .ref (b 0)), (1, .int (zI (s : Int))), (2, .int (zI (t : Int)))] [.int (zI (sg ((s : Int) - t)))]
      refine j_goto hJ (tgt := 41) (by decide) dX4_indexOrder_37 ?_
      refine j_iret hJ rfl rfl (rfl) (Nat.le_of_ble_eq_true rfl) (Nat.le_of_ble_eq_true rfl) dX4_indexOrder_41 ⟨(sg ((s : Int) - t)), μ1, rfl, rfl, ?_⟩
      exfalso; omega
  · intro h8
    refine j_aload_n hJ (j := 1) rfl rfl dX4_indexOrder_11 ?_
    refine w_getr hJ (by omega) rfl rfl f_X4_15 dX4_indexOrder_12 ?_
    refine j_iload_n hJ (j := 2) rfl rfl dX4_indexOrder_15 ?_
    refine w_aald hJ (by omega) rfl (by decide) (by omega) (by omega) dX4_indexOrder_16 ?_
    rw [Int.toNat_natCast]
    refine j_aload_n hJ (j := 1) rfl rfl dX4_indexOrder_17 ?_
    refine w_getr hJ (by omega) rfl rfl f_X4_15 dX4_indexOrder_18 ?_
    refine j_iload_n hJ (j := 3) rfl rfl dX4_indexOrder_21 ?_
    refine w_aald hJ (by omega) rfl (by decide) (by omega) (by omega) dX4_indexOrder_22 ?_
    rw [Int.toNat_natCast]
    refine j_callS0 hJ (c_X4_nameOrder hfl (s := s) (t := t) (L1 := N s) (L2 := N t) (by omega) (by omega) (X3.2.2.2.1 s hs) (X3.2.2.2.1 t ht)) m_X4_179 k_X4_nameOrder ⟨(Nat.le_of_ble_eq_true rfl), (Nat.le_of_ble_eq_true rfl)⟩ ⟨(Nat.le_of_ble_eq_true rfl), (Nat.le_of_ble_eq_true rfl)⟩ (Nat.le_of_ble_eq_true rfl) dX4_indexOrder_23 rfl ?_
    intro v7 u8 hv9
    obtain ⟨_, rfl, rfl, rfl⟩ := hv9
    show J (gw 105 XSh cy b μ1 ++ E) 0 0 26 [(3, .int (zI (ko (μ 1) N s t))), (0, .ref (b 0)), (1, .int (zI (s : Int))), (2, .int (zI (t : Int)))] [.int (zI (wo (N s) (N t)))]
    refine j_istore_n hJ (lv' := [(3, .int (zI (wo (N s) (N t)))), (0, .ref (b 0)), (1, .int (zI (s : Int))), (2, .int (zI (t : Int)))]) rfl (by decide) rfl dX4_indexOrder_26 ?_
    refine j_iload_n hJ (j := 0) rfl rfl dX4_indexOrder_27 ?_
    refine j_if_ne hJ (tgt := 40) ⟨by omega, by omega⟩ (by decide) dX4_indexOrder_28 ?_ ?_
    · intro h28
      refine j_iload_n hJ (j := 0) rfl rfl dX4_indexOrder_40 ?_
      refine j_iret hJ rfl rfl (rfl) (Nat.le_of_ble_eq_true rfl) (Nat.le_of_ble_eq_true rfl) dX4_indexOrder_41 ⟨(wo (N s) (N t)), μ1, rfl, rfl, ?_⟩
      refine ⟨?_, F3⟩
      unfold io
      rw [if_pos (by omega), if_neg (by omega)]
    · intro h28
      refine j_iload_n hJ (j := 2) rfl rfl dX4_indexOrder_31 ?_
      refine j_iload_n hJ (j := 3) rfl rfl dX4_indexOrder_32 ?_
      refine j_isub hJ dX4_indexOrder_33 ?_
      refine j_callS0 hJ (c_X4_sign hfl ⟨by omega, by omega⟩) m_X4_183 k_X4_sign ⟨(Nat.le_of_ble_eq_true rfl), (Nat.le_of_ble_eq_true rfl)⟩ ⟨(Nat.le_of_ble_eq_true rfl), (Nat.le_of_ble_eq_true rfl)⟩ (Nat.le_of_ble_eq_true rfl) dX4_indexOrder_34 rfl ?_
      intro v10 u11 hv12
      obtain ⟨_, rfl, rfl, rfl⟩ := hv12
      show J (gw 105 XSh cy b μ1 ++ E) 0 0 37 [(3, .int (zI (wo (N s) (N t)))), (0, .ref (b 0)), (1, .int (zI (s : Int))), (2, .int (zI (t : Int)))] [.int (zI (sg ((s : Int) - t)))]
      refine j_goto hJ (tgt := 41) (by decide) dX4_indexOrder_37 ?_
      refine j_iret hJ rfl rfl (rfl) (Nat.le_of_ble_eq_true rfl) (Nat.le_of_ble_eq_true rfl) dX4_indexOrder_41 ⟨(sg ((s : Int) - t)), μ1, rfl, rfl, ?_⟩
      refine ⟨?_, F3⟩
      unfold io
      rw [if_pos (by omega), if_pos (by omega)]
set_option maxHeartbeats 4000000 in
set_option maxRecDepth 100000 in
theorem c_X4_countAhead {μ : Nat → Int → Int} {n : Nat} {N : Nat → List Int} {ow : Nat → Int} {m : Nat → Nat} {p : Nat → Nat → Int} {t : Nat} (hfl : l.stackTraces = false) (hX : XI μ n N ow m p) (ht : t < n) : CT l D cy n0 ad yX4_countAhead (.code yX4_countAhead cX4_countAhead 4 (some .int)) ({ frames := 8, cells := 0, slots := 0, locals := 181 }) [.ref (b 0), .int (zI (t : Int))] (gw 105 XSh cy b μ ++ E) (fun vv uu => ∃ q μ', vv = some (.int (zI q)) ∧ uu = (gw 105 XSh cy b μ' ++ E) ∧ (q = (cnt (μ 1) N n t : Nat) ∧ FrS μ μ')) := by
  obtain ⟨x1, x2, x3, x4, x5, x6, x7⟩ := id hX
  refine CT.walk hfl (by decide) (Nat.le_of_ble_eq_true rfl) ?_
  intro A J hJ
  show J (gw 105 XSh cy b μ ++ E) 0 0 0 [(0, .ref (b 0)), (1, .int (zI (t : Int)))] []
  refine j_iconst hJ dX4_countAhead_0 ?_
  refine j_istore_n hJ (lv' := [(2, .int (zI 0)), (0, .ref (b 0)), (1, .int (zI (t : Int)))]) rfl (by decide) rfl dX4_countAhead_1 ?_
  refine j_iconst hJ dX4_countAhead_2 ?_
  refine j_istore_n hJ (lv' := [(3, .int (zI 0)), (2, .int (zI 0)), (0, .ref (b 0)), (1, .int (zI (t : Int)))]) rfl (by decide) rfl dX4_countAhead_3 ?_
  have lp4 : ∀ (nn4 : Nat) (μk : Nat → Int → Int) (c : Int) (k : Nat) (hmeas4 : n - k < nn4) (hk : k ≤ n) (hF : FrS μ μk) (hc : c = (cnt (μ 1) N k t : Nat)), J (gw 105 XSh cy b μk ++ E) 0 0 4 [(0, .ref (b 0)), (1, .int (zI (t : Int))), (2, .int (zI c)), (3, .int (zI (k : Int)))] [] := by
    intro nn4
    induction nn4 with
    | zero => intro μk c k hmeas4 hk hF hc; omega
    | succ nn4 ih4 =>
      intro μk c k hmeas4 hk hF hc
      refine j_iload_n hJ (j := 3) rfl rfl dX4_countAhead_4 ?_
      refine j_aload_n hJ (j := 0) rfl rfl dX4_countAhead_5 ?_
      have X4 := hX.scratch hF
      have e1k : μk 1 = μ 1 := hF 1 (by decide) (by decide) (by decide) (by decide) (by decide)
      refine w_geti hJ (fi := 2) rfl (by omega) rfl rfl f_X4_37 dX4_countAhead_6 ?_
      refine j_topi (y := zI (n : Int)) (by rw [X4.1]) ?_
      refine j_icmp_ge hJ (tgt := 30) ⟨by omega, by omega⟩ ⟨by omega, by omega⟩ (by decide) dX4_countAhead_9 ?_ ?_
      · intro h9
        refine j_iload_n hJ (j := 2) rfl rfl dX4_countAhead_30 ?_
        refine j_iret hJ rfl rfl (rfl) (Nat.le_of_ble_eq_true rfl) (Nat.le_of_ble_eq_true rfl) dX4_countAhead_31 ⟨c, μk, rfl, rfl, ?_⟩
        exact ⟨by rw [hc, show k = n by omega], hF⟩
      · intro h9
        refine j_aload_n hJ (j := 0) rfl rfl dX4_countAhead_12 ?_
        refine j_iload_n hJ (j := 3) rfl rfl dX4_countAhead_13 ?_
        refine j_iload_n hJ (j := 1) rfl rfl dX4_countAhead_14 ?_
        refine j_callV0 hJ (c_X4_indexOrder hfl (n := n) (N := N) (s := k) (t := t) X4 (by omega) ht) m_X4_176 k_X4_indexOrder (q0 := 0) (by rw [gw_get (by decide)]; rfl) rfl ⟨(Nat.le_of_ble_eq_true rfl), (Nat.le_of_ble_eq_true rfl)⟩ ⟨(Nat.le_of_ble_eq_true rfl), (Nat.le_of_ble_eq_true rfl)⟩ (Nat.le_of_ble_eq_true rfl) dX4_countAhead_15 rfl ?_
        intro v1 u2 hv3
        obtain ⟨q15, μ1, rfl, rfl, h15⟩ := hv3
        show J (gw 105 XSh cy b μ1 ++ E) 0 0 18 [(0, .ref (b 0)), (1, .int (zI (t : Int))), (2, .int (zI c)), (3, .int (zI (k : Int)))] [.int (zI q15)]
        obtain ⟨e15, F15⟩ := h15
        rw [e1k] at e15
        have r15 := io_rng (μ 1) N k t
        refine j_topi (y := zI (io (μ 1) N k t)) (by rw [e15]) ?_
        refine j_if_ge hJ (tgt := 24) ⟨by omega, by omega⟩ (by decide) dX4_countAhead_18 ?_ ?_
        · intro h18
          refine j_iinc hJ (lv' := [(3, .int (zI ((k : Int) + 1))), (0, .ref (b 0)), (1, .int (zI (t : Int))), (2, .int (zI c))]) (j := 3) rfl (by omega) (by decide) rfl dX4_countAhead_24 ?_
          refine j_goto hJ (tgt := 4) (by decide) dX4_countAhead_27 ?_
          refine j_locs hJ [1, 2, 3, 0] rfl ?_
          refine ih4 μ1 c (k + 1) (by omega) (by omega) (by exact hF.tr F15) ?_
          · rw [cnt_succ]
            by_cases g : io (μ 1) N k t < 0
            · rw [if_pos g]; omega
            · rw [if_neg g]; omega
        · intro h18
          refine j_iinc hJ (lv' := [(2, .int (zI (c + 1))), (0, .ref (b 0)), (1, .int (zI (t : Int))), (3, .int (zI (k : Int)))]) (j := 2) rfl (by omega) (by decide) rfl dX4_countAhead_21 ?_
          refine j_iinc hJ (lv' := [(3, .int (zI ((k : Int) + 1))), (2, .int (zI (c + 1))), (0, .ref (b 0)), (1, .int (zI (t : Int)))]) (j := 3) rfl (by omega) (by decide) rfl dX4_countAhead_24 ?_
          refine j_goto hJ (tgt := 4) (by decide) dX4_countAhead_27 ?_
          refine j_locs hJ [2, 3, 1, 0] rfl ?_
          refine ih4 μ1 (c + 1) (k + 1) (by omega) (by omega) (by exact hF.tr F15) ?_
          · rw [cnt_succ]
            by_cases g : io (μ 1) N k t < 0
            · rw [if_pos g]; omega
            · rw [if_neg g]; omega
  refine j_locs hJ [2, 3, 1, 0] rfl ?_
  exact lp4 (n - 0 + 1) μ 0 0 (by omega) (by omega) (by exact FrS.rf) (by rfl)
set_option maxHeartbeats 4000000 in
set_option maxRecDepth 100000 in
theorem c_X4_placeOf {μ : Nat → Int → Int} {n : Nat} {N : Nat → List Int} {ow : Nat → Int} {m : Nat → Nat} {p : Nat → Nat → Int} {s : Int} (hfl : l.stackTraces = false) (hX : XI μ n N ow m p) (hsR : -2147483648 ≤ s ∧ s < 2147483648) : CV l D cy n0 ad yX4_placeOf (.code yX4_placeOf cX4_placeOf 2 (some .int)) ({ frames := 9, cells := 1, slots := 6, locals := 204 }) [.ref (b 0), .int (zI s)] (gw 105 XSh cy b μ ++ E) (fun vv uu => ∃ q μ', vv = some (.int (zI q)) ∧ uu = (gw 105 XSh cy b μ' ++ E) ∧ (StOK n s ∧ q = (cnt (μ 1) N n s.toNat : Nat) ∧ FrS μ μ')) (fun q uu => ∃ μ', uu = (gw 105 XSh cy b μ' ++ E) ∧ ((q = xIO ∧ ¬ StOK n s) ∧ μ' = μ)) := by
  obtain ⟨x1, x2, x3, x4, x5, x6, x7⟩ := id hX
  refine CV.walk hfl (by decide) (Nat.le_of_ble_eq_true rfl) ?_
  intro A J hJ
  show J (gw 105 XSh cy b μ ++ E) 0 0 0 [(0, .ref (b 0)), (1, .int (zI s))] []
  refine j_aload_n hJ (j := 0) rfl rfl dX4_placeOf_0 ?_
  refine j_iload_n hJ (j := 1) rfl rfl dX4_placeOf_1 ?_
  refine j_callVX0 hJ (c_X4_checkStreet hfl (n := n) hsR x1 x2) mx_X4_51 k_X4_checkStreet (q0 := 0) (by rw [gw_get (by decide)]; rfl) rfl ⟨(Nat.le_of_ble_eq_true rfl), (Nat.le_of_ble_eq_true rfl)⟩ ⟨(Nat.le_of_ble_eq_true rfl), (Nat.le_of_ble_eq_true rfl)⟩ (Nat.le_of_ble_eq_true rfl) dX4_placeOf_2 (by rintro q u ⟨_, rfl, ⟨rfl, h⟩, rfl⟩; exact ⟨_, rfl, ⟨rfl, h⟩, rfl⟩) rfl ?_
  intro v1 u2 hv3
  obtain ⟨rfl, rfl, hs⟩ := hv3
  show J (gw 105 XSh cy b μ ++ E) 1 6 5 [(0, .ref (b 0)), (1, .int (zI s))] []
  have hs1 := hs.1
  have hs2 := hs.2
  have hs16 : s.toNat < 16 := by omega
  refine j_aload_n hJ (j := 0) rfl rfl dX4_placeOf_5 ?_
  refine j_iload_n hJ (j := 1) rfl rfl dX4_placeOf_6 ?_
  refine j_topi (y := zI (s.toNat : Int)) (by rw [Int.toNat_of_nonneg hs1]) ?_
  refine j_callV0 hJ (c_X4_countAhead hfl hX (t := s.toNat) (by omega)) m_X4_102 k_X4_countAhead (q0 := 0) (by rw [gw_get (by decide)]; rfl) rfl ⟨(Nat.le_of_ble_eq_true rfl), (Nat.le_of_ble_eq_true rfl)⟩ ⟨(Nat.le_of_ble_eq_true rfl), (Nat.le_of_ble_eq_true rfl)⟩ (Nat.le_of_ble_eq_true rfl) dX4_placeOf_7 rfl ?_
  intro v4 u5 hv6
  obtain ⟨q7, μ1, rfl, rfl, h7⟩ := hv6
  show J (gw 105 XSh cy b μ1 ++ E) 1 6 10 [(0, .ref (b 0)), (1, .int (zI s))] [.int (zI q7)]
  refine j_iret hJ rfl rfl (rfl) (Nat.le_of_ble_eq_true rfl) (Nat.le_of_ble_eq_true rfl) dX4_placeOf_10 ⟨q7, μ1, rfl, rfl, ?_⟩
  exact ⟨hs, h7.1, h7.2⟩
set_option maxHeartbeats 4000000 in
set_option maxRecDepth 100000 in
theorem c_X4_compareKeys {μ : Nat → Int → Int} {n : Nat} {N : Nat → List Int} {ow : Nat → Int} {m : Nat → Nat} {p : Nat → Nat → Int} {s t : Int} (hfl : l.stackTraces = false) (hX : XI μ n N ow m p) (hsR : -2147483648 ≤ s ∧ s < 2147483648) (htR : -2147483648 ≤ t ∧ t < 2147483648) : CV l D cy n0 ad yX4_compareKeys (.code yX4_compareKeys cX4_compareKeys 3 (some .int)) ({ frames := 7, cells := 2, slots := 12, locals := 158 }) [.ref (b 0), .int (zI s), .int (zI t)] (gw 105 XSh cy b μ ++ E) (fun vv uu => ∃ q μ', vv = some (.int (zI q)) ∧ uu = (gw 105 XSh cy b μ' ++ E) ∧ ((StOK n s ∧ StOK n t) ∧ q = ko (μ 1) N s.toNat t.toNat ∧ FrS μ μ')) (fun q uu => ∃ μ', uu = (gw 105 XSh cy b μ' ++ E) ∧ ((q = xIO ∧ ¬ (StOK n s ∧ StOK n t)) ∧ μ' = μ)) := by
  obtain ⟨x1, x2, x3, x4, x5, x6, x7⟩ := id hX
  refine CV.walk hfl (by decide) (Nat.le_of_ble_eq_true rfl) ?_
  intro A J hJ
  show J (gw 105 XSh cy b μ ++ E) 0 0 0 [(0, .ref (b 0)), (1, .int (zI s)), (2, .int (zI t))] []
  refine j_aload_n hJ (j := 0) rfl rfl dX4_compareKeys_0 ?_
  refine j_iload_n hJ (j := 1) rfl rfl dX4_compareKeys_1 ?_
  refine j_callVX0 hJ (c_X4_checkStreet hfl (n := n) hsR x1 x2) mx_X4_51 k_X4_checkStreet (q0 := 0) (by rw [gw_get (by decide)]; rfl) rfl ⟨(Nat.le_of_ble_eq_true rfl), (Nat.le_of_ble_eq_true rfl)⟩ ⟨(Nat.le_of_ble_eq_true rfl), (Nat.le_of_ble_eq_true rfl)⟩ (Nat.le_of_ble_eq_true rfl) dX4_compareKeys_2 (by rintro q u ⟨_, rfl, ⟨rfl, h⟩, rfl⟩; exact ⟨_, rfl, ⟨rfl, fun g => h g.1⟩, rfl⟩) rfl ?_
  intro v1 u2 hv3
  obtain ⟨rfl, rfl, hs⟩ := hv3
  show J (gw 105 XSh cy b μ ++ E) 1 6 5 [(0, .ref (b 0)), (1, .int (zI s)), (2, .int (zI t))] []
  have hs1 := hs.1
  have hs2 := hs.2
  have hs16 : s.toNat < 16 := by omega
  refine j_aload_n hJ (j := 0) rfl rfl dX4_compareKeys_5 ?_
  refine j_iload_n hJ (j := 2) rfl rfl dX4_compareKeys_6 ?_
  refine j_callVX0 hJ (c_X4_checkStreet hfl (n := n) htR x1 x2) mx_X4_51 k_X4_checkStreet (q0 := 0) (by rw [gw_get (by decide)]; rfl) rfl ⟨(Nat.le_of_ble_eq_true rfl), (Nat.le_of_ble_eq_true rfl)⟩ ⟨(Nat.le_of_ble_eq_true rfl), (Nat.le_of_ble_eq_true rfl)⟩ (Nat.le_of_ble_eq_true rfl) dX4_compareKeys_7 (by rintro q u ⟨_, rfl, ⟨rfl, h⟩, rfl⟩; exact ⟨_, rfl, ⟨rfl, fun g => h g.2⟩, rfl⟩) rfl ?_
  intro v4 u5 hv6
  obtain ⟨rfl, rfl, ht⟩ := hv6
  show J (gw 105 XSh cy b μ ++ E) 2 12 10 [(0, .ref (b 0)), (1, .int (zI s)), (2, .int (zI t))] []
  have ht1 := ht.1
  have ht2 := ht.2
  refine j_aload_n hJ (j := 0) rfl rfl dX4_compareKeys_10 ?_
  refine j_iload_n hJ (j := 1) rfl rfl dX4_compareKeys_11 ?_
  refine j_topi (y := zI (s.toNat : Int)) (by rw [Int.toNat_of_nonneg hs1]) ?_
  refine j_iload_n hJ (j := 2) rfl rfl dX4_compareKeys_12 ?_
  refine j_topi (y := zI (t.toNat : Int)) (by rw [Int.toNat_of_nonneg ht1]) ?_
  refine j_callV0 hJ (c_X4_keyOrder hfl hX (s := s.toNat) (t := t.toNat) (by omega) (by omega)) m_X4_106 k_X4_keyOrder (q0 := 0) (by rw [gw_get (by decide)]; rfl) rfl ⟨(Nat.le_of_ble_eq_true rfl), (Nat.le_of_ble_eq_true rfl)⟩ ⟨(Nat.le_of_ble_eq_true rfl), (Nat.le_of_ble_eq_true rfl)⟩ (Nat.le_of_ble_eq_true rfl) dX4_compareKeys_13 rfl ?_
  intro v7 u8 hv9
  obtain ⟨q13, μ1, rfl, rfl, h13⟩ := hv9
  show J (gw 105 XSh cy b μ1 ++ E) 2 12 16 [(0, .ref (b 0)), (1, .int (zI s)), (2, .int (zI t))] [.int (zI q13)]
  refine j_iret hJ rfl rfl (rfl) (Nat.le_of_ble_eq_true rfl) (Nat.le_of_ble_eq_true rfl) dX4_compareKeys_16 ⟨q13, μ1, rfl, rfl, ?_⟩
  exact ⟨⟨hs, ht⟩, h13.1, h13.2⟩
set_option maxHeartbeats 4000000 in
set_option maxRecDepth 100000 in
theorem c_X4_streetAt {μ : Nat → Int → Int} {n : Nat} {N : Nat → List Int} {ow : Nat → Int} {m : Nat → Nat} {p : Nat → Nat → Int} {v : Int} (hfl : l.stackTraces = false) (hX : XI μ n N ow m p) (hvR : -2147483648 ≤ v ∧ v < 2147483648) : CV l D cy n0 ad yX4_streetAt (.code yX4_streetAt cX4_streetAt 3 (some .int)) ({ frames := 9, cells := 1, slots := 6, locals := 204 }) [.ref (b 0), .int (zI v)] (gw 105 XSh cy b μ ++ E) (fun vv uu => ∃ q μ', vv = some (.int (zI q)) ∧ uu = (gw 105 XSh cy b μ' ++ E) ∧ (StOK n v ∧ (∃ s : Nat, s < n ∧ q = s ∧ (cnt (μ 1) N n s : Int) = v) ∧ FrS μ μ')) (fun q uu => ∃ μ', uu = (gw 105 XSh cy b μ' ++ E) ∧ ((q = xIO ∧ ¬ StOK n v) ∧ μ' = μ)) := by
  obtain ⟨x1, x2, x3, x4, x5, x6, x7⟩ := id hX
  refine CV.walk hfl (by decide) (Nat.le_of_ble_eq_true rfl) ?_
  intro A J hJ
  show J (gw 105 XSh cy b μ ++ E) 0 0 0 [(0, .ref (b 0)), (1, .int (zI v))] []
  refine j_iload_n hJ (j := 1) rfl rfl dX4_streetAt_0 ?_
  refine j_if_lt hJ (tgt := 12) ⟨by omega, by omega⟩ (by decide) dX4_streetAt_1 ?_ ?_
  · intro h1
    refine j_throw hJ tf_ioobe (is := 100) (tx := "not so many streets") (by decide) (Nat.le_of_ble_eq_true rfl) (Nat.le_of_ble_eq_true rfl) ⟨(Nat.le_of_ble_eq_true rfl), (Nat.le_of_ble_eq_true rfl)⟩ dX4_streetAt_12 dX4_streetAt_15 dX4_streetAt_16 dX4_streetAt_18 dX4_streetAt_21 ⟨μ, rfl, ?_⟩
    exact ⟨⟨rfl, fun g => by have := g.1; have := g.2; omega⟩, rfl⟩
  · intro h1
    refine j_iload_n hJ (j := 1) rfl rfl dX4_streetAt_4 ?_
    refine j_aload_n hJ (j := 0) rfl rfl dX4_streetAt_5 ?_
    refine w_geti hJ (fi := 2) rfl (by omega) rfl rfl f_X4_37 dX4_streetAt_6 ?_
    refine j_topi (y := zI (n : Int)) (by rw [x1]) ?_
    refine j_icmp_lt hJ (tgt := 22) ⟨by omega, by omega⟩ ⟨by omega, by omega⟩ (by decide) dX4_streetAt_9 ?_ ?_
    · intro h9
      refine j_iconst hJ dX4_streetAt_22 ?_
      refine j_istore_n hJ (lv' := [(2, .int (zI 0)), (0, .ref (b 0)), (1, .int (zI v))]) rfl (by decide) rfl dX4_streetAt_23 ?_
      have lp24 : ∀ (nn24 : Nat) (μk : Nat → Int → Int) (s : Nat) (hmeas24 : n - s < nn24) (hk : s < n) (hF : FrS μ μk) (hc : ∀ u, u < s → (cnt (μ 1) N n u : Int) ≠ v), J (gw 105 XSh cy b μk ++ E) 0 0 24 [(0, .ref (b 0)), (1, .int (zI v)), (2, .int (zI (s : Int)))] [] := by
        intro nn24
        induction nn24 with
        | zero => intro μk s hmeas24 hk hF hc; omega
        | succ nn24 ih24 =>
          intro μk s hmeas24 hk hF hc
          refine j_iload_n hJ (j := 2) rfl rfl dX4_streetAt_24 ?_
          refine j_aload_n hJ (j := 0) rfl rfl dX4_streetAt_25 ?_
          have X4 := hX.scratch hF
          have e1k : μk 1 = μ 1 := hF 1 (by decide) (by decide) (by decide) (by decide) (by decide)
          refine w_geti hJ (fi := 2) rfl (by omega) rfl rfl f_X4_37 dX4_streetAt_26 ?_
          refine j_topi (y := zI (n : Int)) (by rw [X4.1]) ?_
          refine j_iconst hJ dX4_streetAt_29 ?_
          refine j_isub hJ dX4_streetAt_30 ?_
          refine j_icmp_ge hJ (tgt := 49) ⟨by omega, by omega⟩ ⟨by omega, by omega⟩ (by decide) dX4_streetAt_31 ?_ ?_
          · intro h31
            refine j_iload_n hJ (j := 2) rfl rfl dX4_streetAt_49 ?_
            refine j_iret hJ rfl rfl (rfl) (Nat.le_of_ble_eq_true rfl) (Nat.le_of_ble_eq_true rfl) dX4_streetAt_50 ⟨(s : Int), μk, rfl, rfl, ?_⟩
            refine ⟨⟨by omega, by omega⟩, ⟨s, hk, rfl, ?_⟩, hF⟩
            obtain ⟨u, hu, eu⟩ := cnt_ex (kd := μ 1) (N := N) (n := n) (v := v.toNat) (by omega)
            by_cases e : u = s
            · subst e; omega
            · exact absurd (by omega) (hc u (by omega))
          · intro h31
            refine j_aload_n hJ (j := 0) rfl rfl dX4_streetAt_34 ?_
            refine j_iload_n hJ (j := 2) rfl rfl dX4_streetAt_35 ?_
            refine j_callV0 hJ (c_X4_countAhead hfl X4 (t := s) hk) m_X4_102 k_X4_countAhead (q0 := 0) (by rw [gw_get (by decide)]; rfl) rfl ⟨(Nat.le_of_ble_eq_true rfl), (Nat.le_of_ble_eq_true rfl)⟩ ⟨(Nat.le_of_ble_eq_true rfl), (Nat.le_of_ble_eq_true rfl)⟩ (Nat.le_of_ble_eq_true rfl) dX4_streetAt_36 rfl ?_
            intro v1 u2 hv3
            obtain ⟨q36, μ1, rfl, rfl, h36⟩ := hv3
            show J (gw 105 XSh cy b μ1 ++ E) 0 0 39 [(0, .ref (b 0)), (1, .int (zI v)), (2, .int (zI (s : Int)))] [.int (zI q36)]
            obtain ⟨e36, F36⟩ := h36
            rw [e1k] at e36
            have c36 := cnt_lt (kd := μ 1) (N := N) hk
            refine j_topi (y := zI (cnt (μ 1) N n s : Nat)) (by rw [e36]) ?_
            refine j_iload_n hJ (j := 1) rfl rfl dX4_streetAt_39 ?_
            refine j_icmp_eq hJ (tgt := 49) ⟨by omega, by omega⟩ ⟨by omega, by omega⟩ (by decide) dX4_streetAt_40 ?_ ?_
            · intro h40
              refine j_iload_n hJ (j := 2) rfl rfl dX4_streetAt_49 ?_
              refine j_iret hJ rfl rfl (rfl) (Nat.le_of_ble_eq_true rfl) (Nat.le_of_ble_eq_true rfl) dX4_streetAt_50 ⟨(s : Int), μ1, rfl, rfl, ?_⟩
              exact ⟨⟨by omega, by omega⟩, ⟨s, hk, rfl, by omega⟩, hF.tr F36⟩
            · intro h40
              refine j_iinc hJ (lv' := [(2, .int (zI ((s : Int) + 1))), (0, .ref (b 0)), (1, .int (zI v))]) (j := 2) rfl (by omega) (by decide) rfl dX4_streetAt_43 ?_
              refine j_goto hJ (tgt := 24) (by decide) dX4_streetAt_46 ?_
              refine j_locs hJ [1, 2, 0] rfl ?_
              refine ih24 μ1 (s + 1) (by omega) (by omega) (by exact hF.tr F36) ?_
              · intro u hu
                by_cases e : u = s
                · subst e; exact h40
                · exact hc u (by omega)
      refine j_locs hJ [1, 2, 0] rfl ?_
      exact lp24 (n - 0 + 1) μ 0 (by omega) (by omega) (by exact FrS.rf) (by intro u hu; omega)
    · intro h9
      refine j_throw hJ tf_ioobe (is := 100) (tx := "not so many streets") (by decide) (Nat.le_of_ble_eq_true rfl) (Nat.le_of_ble_eq_true rfl) ⟨(Nat.le_of_ble_eq_true rfl), (Nat.le_of_ble_eq_true rfl)⟩ dX4_streetAt_12 dX4_streetAt_15 dX4_streetAt_16 dX4_streetAt_18 dX4_streetAt_21 ⟨μ, rfl, ?_⟩
      exact ⟨⟨rfl, fun g => by have := g.1; have := g.2; omega⟩, rfl⟩
end
