/-! the law: its start, its loop -/
set_option maxRecDepth 20000 in
theorem m_L_89 : MF RL 89 2 yX4_init 0 := ⟨Or.inl (List.mem_of_getElem? (i := 86) (by decide +kernel)), (List.mem_of_getElem? (i := 59) (by decide +kernel)), ⟨by decide +kernel, by decide +kernel⟩, by decide +kernel, fun h => by omega, fun h => by omega, fun _ => ⟨(List.mem_of_getElem? (i := 87) (by decide +kernel)), rfl⟩⟩
set_option maxRecDepth 20000 in
theorem m_L_92 : MF RL 92 2 yX5_init 0 := ⟨Or.inl (List.mem_of_getElem? (i := 868) (by decide +kernel)), (List.mem_of_getElem? (i := 63) (by decide +kernel)), ⟨by decide +kernel, by decide +kernel⟩, by decide +kernel, fun h => by omega, fun h => by omega, fun _ => ⟨(List.mem_of_getElem? (i := 869) (by decide +kernel)), rfl⟩⟩
set_option maxRecDepth 20000 in
theorem k_X4_init : Cond.code yX4_init cX4_init 2 none ∈ GT := (List.mem_of_getElem? (i := 88) (by decide +kernel))
set_option maxRecDepth 20000 in
theorem k_X5_init : Cond.code yX5_init cX5_init 2 none ∈ GT := (List.mem_of_getElem? (i := 870) (by decide +kernel))
section LAWB
variable {l : Launch} {D : va_G} {cy : Nat → ClassId} {n0 : Nat} {ad : Nat → Nat} {own : String} {cc : ByteArray} {nL : Nat} {ret : Option FieldType} {R : Room} {A : Nat → Prop} {PR : Option Value → va_W → Prop} {PX : String → va_W → Prop} {XS : State → Prop} {fin : Bool} {ET : List ExceptionTableEntry} {J : JT} {ws : va_W} {ce sl pc : Nat} {lv : List (Nat × Value)} {st : List Value} {sb L : Nat} {xs : Nat → Int32}
theorem j_newl (hJ : Cx l D cy n0 ad own cc nL ret R A PR PX XS fin ET J) (hc : ce + 1 ≤ R.cells) (hs : sl + 1 ≤ R.slots) (hd : decode cc pc = .ok (.newarray .long, 2))
    (kk : ∀ q, J (ws ++ [(q, .inl (cy 4, 1, .inr (.inl (fun _ => 0))))]) (ce + 1) (sl + 1) (pc + 2) lv (.ref q :: st)) : J ws ce sl pc lv (.int (zI 1) :: st) := by
  obtain ⟨p, e, s, m, args, below, meth, c, Q, ⟨hx, hb, hml, hown⟩, hK, hA, hAn, hM, hXS, hQ, rfl⟩ := hJ
  intro H locs ls hP hD hS hl
  refine va_newa (atype := .long) (N' := 1) (a0 := (1, .inr (.inl (fun _ => 0)))) hx hb (hK.2.1.good arr_l rfl) rfl hK.1 hP hD hS hA (fun cA => rfl) (by decide) (by decide) (by decide) hc hs hd (fun q cA H1 hK1 hP1 hD1 hS1 => ?_)
  have e1 : cA = cy 4 := va_RA_inj (hK1.2 5 (cA, .long) rfl).2 (hK.1.2 4 (cy 4, .long) rfl).2
  subst e1
  exact kk q H1 locs ls hP1 hD1 hS1 hl
set_option maxHeartbeats 4000000 in
set_option maxRecDepth 100000 in
theorem law_loop {b bm : Nat → Nat} {o : Nat} (hfl : l.stackTraces = false) (hJ : Cx l D cy n0 ad RL cL_law 7 (some .boolean) room_1 (AN n0) PR PX (XSL sb L xs n0) fin ET J) (hL : L ≤ 2560) (hend : ∀ ws ce sl lv, ce ≤ 601024 → sl ≤ 7293034 → J ws ce sl 1713 lv [.int (zI 1)]) (k : Nat) : ∀ (i : Int) (μ ν : Nat → Int → Int) (g : Nat → Int64) (n : Nat) (N : Nat → List Int) (ow : Nat → Int) (m : Nat → Nat) (p : Nat → Nat → Int) (ce sl : Nat), XI μ n N ow m p → MI ν (μ 1) n N ow m p → 0 ≤ i → i ≤ L → (L : Int) - i < 5 * k + 5 → (ce : Int) ≤ 200 + 2 * i → (sl : Int) ≤ 5000 + 460 * i → J (gw 105 XSh cy b μ ++ ((o, .inl (cy 4, 1, .inr (.inl g))) :: gw 14 MSh cy bm ν)) ce sl 23 [(0, .ref sb), (1, .ref (b 0)), (2, .ref (bm 0)), (3, .ref o), (4, .int (zI i))] [] := by
  induction k with
  | zero =>
    intro i μ ν g n N ow m p ce sl hX hM hi0 hiL hk hce hsl
    refine j_iload hJ (j := 4) rfl dL_law_23 ?_
    refine j_aload_n hJ (j := 0) rfl rfl dL_law_25 ?_
    refine j_slen hJ dL_law_26 ?_
    refine j_iconst hJ dL_law_27 ?_
    refine j_isub hJ dL_law_28 ?_
    refine j_icmp_gt hJ (tgt := 1712) ⟨by omega, by omega⟩ ⟨by omega, by omega⟩ (by decide) dL_law_29 ?_ ?_
    · intro h29
      refine j_iconst hJ dL_law_1712 ?_
      exact hend _ _ _ _ (by omega) (by omega)
    · intro h29; exfalso; omega
  | succ k ih =>
    intro i μ ν g n N ow m p ce sl hX hM hi0 hiL hk hce hsl
    refine j_iload hJ (j := 4) rfl dL_law_23 ?_
    refine j_aload_n hJ (j := 0) rfl rfl dL_law_25 ?_
    refine j_slen hJ dL_law_26 ?_
    refine j_iconst hJ dL_law_27 ?_
    refine j_isub hJ dL_law_28 ?_
    refine j_icmp_gt hJ (tgt := 1712) ⟨by omega, by omega⟩ ⟨by omega, by omega⟩ (by decide) dL_law_29 ?_ ?_
    · intro h29
      refine j_iconst hJ dL_law_1712 ?_
      exact hend _ _ _ _ (by omega) (by omega)
    · intro h29
      refine j_aload_n hJ (j := 0) rfl rfl dL_law_32 ?_
      refine j_iload hJ (j := 4) rfl dL_law_33 ?_
      refine j_sld hJ hi0 (by omega) hL dL_law_35 ?_
      refine j_bipush hJ (v := 31) (by decide) dL_law_36 ?_
      obtain ⟨t, ht⟩ : ∃ t : Int, zI (xs i.toNat).toInt &&& zI 31 = zI t ∧ inR t := ⟨(zI (xs i.toNat).toInt &&& zI 31).toInt, (zI_of _).symm, inR_toInt _⟩
      obtain ⟨ht, htR⟩ := ht
      refine j_iand hJ ht dL_law_38 ?_
      have hn : LNx cy b bm o sb (ce + 10) (sl + 2300) i J := by
        intro μ' ν' g' n' N' ow' m' p' hX' hM'
        refine j_iinc hJ (lv' := [(4, .int (zI (i + 5))), (0, .ref sb), (1, .ref (b 0)), (2, .ref (bm 0)), (3, .ref o)]) (j := 4) rfl rfl (by decide) rfl dL_law_1706 ?_
        refine j_goto hJ (tgt := 23) (by decide) dL_law_1709 ?_
        refine j_locs hJ [1, 2, 3, 4, 0] rfl ?_
        exact ih (i + 5) μ' ν' g' n' N' ow' m' p' (ce + 10) (sl + 2300) hX' hM' (by omega) (by omega) (by omega) (by omega) (by omega)
      have hc0 : ce + 10 ≤ 601024 := by omega
      have hs0 : sl + 2300 ≤ 7293034 := by omega
      have hi5 : i + 5 ≤ L := by omega
      by_cases h0 : t < 0
      · refine j_tabOut (tgt := 1706) hJ dL_law_39 (Or.inl (by rw [zI_toInt htR]; exact h0)) (by decide) ?_
        exact j_widen hJ (by omega) (by omega) (hn _ _ _ _ _ _ _ _ hX hM)
      by_cases h1 : 22 < t
      · refine j_tabOut (tgt := 1706) hJ dL_law_39 (Or.inr (by rw [zI_toInt htR]; exact h1)) (by decide) ?_
        exact j_widen hJ (by omega) (by omega) (hn _ _ _ _ _ _ _ _ hX hM)
      rcases (show t = 0 ∨ t = 1 ∨ t = 2 ∨ t = 3 ∨ t = 4 ∨ t = 5 ∨ t = 6 ∨ t = 7 ∨ t = 8 ∨ t = 9 ∨ t = 10 ∨ t = 11 ∨ t = 12 ∨ t = 13 ∨ t = 14 ∨ t = 15 ∨ t = 16 ∨ t = 17 ∨ t = 18 ∨ t = 19 ∨ t = 20 ∨ t = 21 ∨ t = 22 by omega) with rfl | rfl | rfl | rfl | rfl | rfl | rfl | rfl | rfl | rfl | rfl | rfl | rfl | rfl | rfl | rfl | rfl | rfl | rfl | rfl | rfl | rfl | rfl
      · exact j_tabIn (off := 105) (tgt := 144) hJ dL_law_39 (by decide) (by decide) (by decide +kernel) (by decide) (cs_addStreet hfl hJ hL hi0 hi5 hc0 hs0 hX hM hn)
      · exact j_tabIn (off := 173) (tgt := 212) hJ dL_law_39 (by decide) (by decide) (by decide +kernel) (by decide) (cs_addPoint hfl hJ hL hi0 hi5 hc0 hs0 hX hM hn)
      · exact j_tabIn (off := 253) (tgt := 292) hJ dL_law_39 (by decide) (by decide) (by decide +kernel) (by decide) (cs_dropPoint hfl hJ hL hi0 hi5 hc0 hs0 hX hM hn)
      · exact j_tabIn (off := 309) (tgt := 348) hJ dL_law_39 (by decide) (by decide) (by decide +kernel) (by decide) (cs_setOneWay hfl hJ hL hi0 hi5 hc0 hs0 hX hM hn)
      · exact j_tabIn (off := 400) (tgt := 439) hJ dL_law_39 (by decide) (by decide) (by decide +kernel) (by decide) (cs_rename hfl hJ hL hi0 hi5 hc0 hs0 hX hM hn)
      · exact j_tabIn (off := 460) (tgt := 499) hJ dL_law_39 (by decide) (by decide) (by decide +kernel) (by decide) (cs_setKind hfl hJ hL hi0 hi5 hc0 hs0 hX hM hn)
      · exact j_tabIn (off := 528) (tgt := 567) hJ dL_law_39 (by decide) (by decide) (by decide +kernel) (by decide) (cs_streets hfl hJ hL hi0 hi5 hc0 hs0 hX hM hn)
      · exact j_tabIn (off := 541) (tgt := 580) hJ dL_law_39 (by decide) (by decide) (by decide +kernel) (by decide) (cs_streetAt hfl hJ hL hi0 hi5 hc0 hs0 hX hM hn)
      · exact j_tabIn (off := 597) (tgt := 636) hJ dL_law_39 (by decide) (by decide) (by decide +kernel) (by decide) (cs_placeOf hfl hJ hL hi0 hi5 hc0 hs0 hX hM hn)
      · exact j_tabIn (off := 653) (tgt := 692) hJ dL_law_39 (by decide) (by decide) (by decide +kernel) (by decide) (cs_compareKeys hfl hJ hL hi0 hi5 hc0 hs0 hX hM hn)
      · exact j_tabIn (off := 721) (tgt := 760) hJ dL_law_39 (by decide) (by decide) (by decide +kernel) (by decide) (cs_lineLength hfl hJ hL hi0 hi5 hc0 hs0 hX hM hn)
      · exact j_tabIn (off := 777) (tgt := 816) hJ dL_law_39 (by decide) (by decide) (by decide +kernel) (by decide) (cs_lineChar hfl hJ hL hi0 hi5 hc0 hs0 hX hM hn)
      · exact j_tabIn (off := 845) (tgt := 884) hJ dL_law_39 (by decide) (by decide) (by decide +kernel) (by decide) (cs_trackLength hfl hJ hL hi0 hi5 hc0 hs0 hX hM hn)
      · exact j_tabIn (off := 901) (tgt := 940) hJ dL_law_39 (by decide) (by decide) (by decide +kernel) (by decide) (cs_squares hfl hJ hL hi0 hi5 hc0 hs0 hX hM hn)
      · exact j_tabIn (off := 957) (tgt := 996) hJ dL_law_39 (by decide) (by decide) (by decide +kernel) (by decide) (cs_runs hfl hJ hL hi0 hi5 hc0 hs0 hX hM hn)
      · exact j_tabIn (off := 1013) (tgt := 1052) hJ dL_law_39 (by decide) (by decide) (by decide +kernel) (by decide) (cs_isOn hfl hJ hL hi0 hi5 hc0 hs0 hX hM hn)
      · exact j_tabIn (off := 1100) (tgt := 1139) hJ dL_law_39 (by decide) (by decide) (by decide +kernel) (by decide) (cs_isOnTrack hfl hJ hL hi0 hi5 hc0 hs0 hX hM hn)
      · exact j_tabIn (off := 1187) (tgt := 1226) hJ dL_law_39 (by decide) (by decide) (by decide +kernel) (by decide) (cs_streetsOf hfl hJ hL hi0 hi5 hc0 hs0 hX hM hn)
      · exact j_tabIn (off := 1255) (tgt := 1294) hJ dL_law_39 (by decide) (by decide) (by decide +kernel) (by decide) (cs_distance hfl hJ hL hi0 hi5 hc0 hs0 hX hM hn)
      · exact j_tabIn (off := 1335) (tgt := 1374) hJ dL_law_39 (by decide) (by decide) (by decide +kernel) (by decide) (cs_nearest hfl hJ hL hi0 hi5 hc0 hs0 hX hM hn)
      · exact j_tabIn (off := 1415) (tgt := 1454) hJ dL_law_39 (by decide) (by decide) (by decide +kernel) (by decide) (cs_walk hfl hJ hL hi0 hi5 hc0 hs0 hX hM hn)
      · exact j_tabIn (off := 1507) (tgt := 1546) hJ dL_law_39 (by decide) (by decide) (by decide +kernel) (by decide) (cs_walkByRounds hfl hJ hL hi0 hi5 hc0 hs0 hX hM hn)
      · exact j_tabIn (off := 1599) (tgt := 1638) hJ dL_law_39 (by decide) (by decide) (by decide +kernel) (by decide) (cs_reachable hfl hJ hL hi0 hi5 hc0 hs0 hX hM hn)
set_option maxHeartbeats 4000000 in
set_option maxRecDepth 100000 in
theorem law_body (hfl : l.stackTraces = false) (hJ : Cx l D cy n0 ad RL cL_law 7 (some .boolean) room_1 (AN n0) PR PX (XSL sb L xs n0) fin ET J) (hL : L ≤ 2560) (hend : ∀ ws ce sl lv, ce ≤ 601024 → sl ≤ 7293034 → J ws ce sl 1713 lv [.int (zI 1)]) : J [] 0 0 0 [(0, .ref sb)] [] := by
  refine j_new tyX4 hJ (ci := 4) (fs := [.null, .null, .int (zI 0), .null, .null, .null]) rfl lays_X4 tyX4_ok (List.mem_of_getElem? (i := 84) (by decide +kernel)) (List.mem_of_getElem? (i := 85) (by decide +kernel)) (List.mem_of_getElem? (i := 59) (by decide +kernel)) (fun j hj => by rcases (show j = 0 ∨ j = 1 ∨ j = 2 ∨ j = 3 ∨ j = 4 ∨ j = 5 by omega) with rfl | rfl | rfl | rfl | rfl | rfl <;> rfl) (Nat.le_of_ble_eq_true rfl) (Nat.le_of_ble_eq_true rfl) dL_law_0 (fun q1 => ?_)
  show J ([(q1, .inr (4, [.null, .null, .int (zI 0), .null, .null, .null]))] ++ []) 1 6 3 [(0, .ref sb)] [.ref q1]
  refine j_dup hJ rfl dL_law_3 ?_
  refine j_callI0 (ce := 1) (sl := 6) hJ (c_X4_init (a := q1) (E := []) hfl) m_L_89 k_X4_init ⟨(Nat.le_of_ble_eq_true rfl), (Nat.le_of_ble_eq_true rfl)⟩ ⟨(Nat.le_of_ble_eq_true rfl), (Nat.le_of_ble_eq_true rfl)⟩ (rest := [.ref q1]) (Nat.le_of_ble_eq_true rfl) dL_law_4 rfl ?_
  intro v u hv
  obtain ⟨b, rfl, rfl, rfl⟩ := hv
  show J (gw 105 XSh cy b mu0 ++ []) 105 2649 7 [(0, .ref sb)] [.ref (b 0)]
  refine j_astore_n hJ (lv' := [(1, .ref (b 0)), (0, .ref sb)]) rfl (by decide) rfl dL_law_7 ?_
  refine j_new tyX5 hJ (ci := 5) (fs := [.null, .null, .null, .null, .null, .null, .null, .int (zI 0), .null, .int (zI 0), .null, .null, .null, .null, .int (zI 0), .null, .int (zI 0)]) rfl lays_X5 tyX5_ok (List.mem_of_getElem? (i := 866) (by decide +kernel)) (List.mem_of_getElem? (i := 867) (by decide +kernel)) (List.mem_of_getElem? (i := 63) (by decide +kernel)) (fun j hj => by rcases (show j = 0 ∨ j = 1 ∨ j = 2 ∨ j = 3 ∨ j = 4 ∨ j = 5 ∨ j = 6 ∨ j = 7 ∨ j = 8 ∨ j = 9 ∨ j = 10 ∨ j = 11 ∨ j = 12 ∨ j = 13 ∨ j = 14 ∨ j = 15 ∨ j = 16 by omega) with rfl | rfl | rfl | rfl | rfl | rfl | rfl | rfl | rfl | rfl | rfl | rfl | rfl | rfl | rfl | rfl | rfl <;> rfl) (Nat.le_of_ble_eq_true rfl) (Nat.le_of_ble_eq_true rfl) dL_law_8 (fun q2 => ?_)
  refine j_dup hJ rfl dL_law_11 ?_
  refine j_perm hJ (ws' := [(q2, .inr (5, [.null, .null, .null, .null, .null, .null, .null, .int (zI 0), .null, .int (zI 0), .null, .null, .null, .null, .int (zI 0), .null, .int (zI 0)]))] ++ gw 105 XSh cy b mu0) (by rw [List.append_nil]; exact List.perm_append_comm) ?_
  show J ([(q2, .inr (5, [.null, .null, .null, .null, .null, .null, .null, .int (zI 0), .null, .int (zI 0), .null, .null, .null, .null, .int (zI 0), .null, .int (zI 0)]))] ++ gw 105 XSh cy b mu0) 106 2666 12 [(1, .ref (b 0)), (0, .ref sb)] [.ref q2, .ref q2]
  refine j_callI0 (ce := 106) (sl := 2666) hJ (c_X5_init (a := q2) (E := gw 105 XSh cy b mu0) hfl) m_L_92 k_X5_init ⟨(Nat.le_of_ble_eq_true rfl), (Nat.le_of_ble_eq_true rfl)⟩ ⟨(Nat.le_of_ble_eq_true rfl), (Nat.le_of_ble_eq_true rfl)⟩ (rest := [.ref q2]) (Nat.le_of_ble_eq_true rfl) dL_law_12 rfl ?_
  intro v u hv
  obtain ⟨bm, ν, rfl, rfl, rfl, hM⟩ := hv
  show J (gw 14 MSh cy bm ν ++ gw 105 XSh cy b mu0) 119 4350 15 [(1, .ref (b 0)), (0, .ref sb)] [.ref (bm 0)]
  refine j_astore_n hJ (lv' := [(2, .ref (bm 0)), (1, .ref (b 0)), (0, .ref sb)]) rfl (by decide) rfl dL_law_15 ?_
  refine j_iconst hJ dL_law_16 ?_
  refine j_newl hJ (Nat.le_of_ble_eq_true rfl) (Nat.le_of_ble_eq_true rfl) dL_law_17 (fun o => ?_)
  refine j_astore_n hJ (lv' := [(3, .ref o), (2, .ref (bm 0)), (1, .ref (b 0)), (0, .ref sb)]) rfl (by decide) rfl dL_law_19 ?_
  refine j_iconst hJ dL_law_20 ?_
  refine j_istore hJ (lv' := [(4, .int (zI 0)), (3, .ref o), (2, .ref (bm 0)), (1, .ref (b 0)), (0, .ref sb)]) (by decide) rfl dL_law_21 ?_
  refine j_locs hJ [4, 3, 2, 1, 0] rfl ?_
  refine j_perm hJ (ws' := gw 105 XSh cy b mu0 ++ ((o, .inl (cy 4, 1, .inr (.inl (fun _ => 0)))) :: gw 14 MSh cy bm ν)) (by rw [List.append_assoc]; exact (perm_law _ _ _).symm) ?_
  show J (gw 105 XSh cy b mu0 ++ ((o, .inl (cy 4, 1, .inr (.inl (fun _ => 0)))) :: gw 14 MSh cy bm ν)) 120 4351 23 [(0, .ref sb), (1, .ref (b 0)), (2, .ref (bm 0)), (3, .ref o), (4, .int (zI 0))] []
  have hM' : MI ν (mu0 1) 0 (fun _ => []) (fun _ => 0) (fun _ => 0) (fun _ _ => 0) := by rw [show mu0 1 = kd0 from rfl]; exact hM
  exact law_loop hfl hJ hL hend 512 0 mu0 ν _ 0 _ _ _ _ 120 4351 XI_new hM' (by omega) (by omega) (by omega) (by omega) (by omega)
end LAWB
