set_option maxRecDepth 20000 in
theorem m_L_122 : MF RL 122 0 yX4_streets 0 := ⟨Or.inl (List.mem_of_getElem? (i := 179) (by decide +kernel)), (List.mem_of_getElem? (i := 59) (by decide +kernel)), ⟨by decide +kernel, by decide +kernel⟩, by decide +kernel, fun _ => ⟨(List.mem_of_getElem? (i := 180) (by decide +kernel)), (List.mem_of_getElem? (i := 181) (by decide +kernel))⟩, fun h => by omega, fun h => by omega⟩
set_option maxRecDepth 20000 in
theorem k_X4_streets : Cond.code yX4_streets cX4_streets 1 (some .int) ∈ GT := (List.mem_of_getElem? (i := 182) (by decide +kernel))
set_option maxRecDepth 20000 in
theorem m_L_125 : MF RL 125 0 yX5_streets 0 := ⟨Or.inl (List.mem_of_getElem? (i := 989) (by decide +kernel)), (List.mem_of_getElem? (i := 63) (by decide +kernel)), ⟨by decide +kernel, by decide +kernel⟩, by decide +kernel, fun _ => ⟨(List.mem_of_getElem? (i := 990) (by decide +kernel)), (List.mem_of_getElem? (i := 991) (by decide +kernel))⟩, fun h => by omega, fun h => by omega⟩
set_option maxRecDepth 20000 in
theorem k_X5_streets : Cond.code yX5_streets cX5_streets 1 (some .int) ∈ GT := (List.mem_of_getElem? (i := 992) (by decide +kernel))
set_option maxRecDepth 20000 in
theorem mx_L_126 : MX RL 126 1 yL_streetAt 3 := ⟨(List.mem_of_getElem? (i := 391) (by decide +kernel)), (List.mem_of_getElem? (i := 58) (by decide +kernel)), ⟨by decide +kernel, by decide +kernel⟩, by decide +kernel, fun h => by omega, fun _ => (List.mem_of_getElem? (i := 392) (by decide +kernel))⟩
set_option maxRecDepth 20000 in
theorem kw_L_streetAt : Cond.codeWith yL_streetAt cL_streetAt 4 (some .int) [(0, 9, 12, 21)] ∈ GT := (List.mem_of_getElem? (i := 393) (by decide +kernel))
set_option maxRecDepth 20000 in
theorem m_L_128 : MF RL 128 0 yX5_streetAt 1 := ⟨Or.inl (List.mem_of_getElem? (i := 993) (by decide +kernel)), (List.mem_of_getElem? (i := 63) (by decide +kernel)), ⟨by decide +kernel, by decide +kernel⟩, by decide +kernel, fun _ => ⟨(List.mem_of_getElem? (i := 994) (by decide +kernel)), (List.mem_of_getElem? (i := 995) (by decide +kernel))⟩, fun h => by omega, fun h => by omega⟩
set_option maxRecDepth 20000 in
theorem k_X5_streetAt : Cond.code yX5_streetAt cX5_streetAt 3 (some .int) ∈ GT := (List.mem_of_getElem? (i := 996) (by decide +kernel))
set_option maxRecDepth 20000 in
theorem mx_L_129 : MX RL 129 1 yL_placeOf 3 := ⟨(List.mem_of_getElem? (i := 482) (by decide +kernel)), (List.mem_of_getElem? (i := 58) (by decide +kernel)), ⟨by decide +kernel, by decide +kernel⟩, by decide +kernel, fun h => by omega, fun _ => (List.mem_of_getElem? (i := 483) (by decide +kernel))⟩
set_option maxRecDepth 20000 in
theorem kw_L_placeOf : Cond.codeWith yL_placeOf cL_placeOf 4 (some .int) [(0, 9, 12, 21)] ∈ GT := (List.mem_of_getElem? (i := 484) (by decide +kernel))
set_option maxRecDepth 20000 in
theorem m_L_131 : MF RL 131 0 yX5_placeOf 1 := ⟨Or.inl (List.mem_of_getElem? (i := 1017) (by decide +kernel)), (List.mem_of_getElem? (i := 63) (by decide +kernel)), ⟨by decide +kernel, by decide +kernel⟩, by decide +kernel, fun _ => ⟨(List.mem_of_getElem? (i := 1018) (by decide +kernel)), (List.mem_of_getElem? (i := 1019) (by decide +kernel))⟩, fun h => by omega, fun h => by omega⟩
set_option maxRecDepth 20000 in
theorem k_X5_placeOf : Cond.code yX5_placeOf cX5_placeOf 2 (some .int) ∈ GT := (List.mem_of_getElem? (i := 1020) (by decide +kernel))
set_option maxRecDepth 20000 in
theorem mx_L_132 : MX RL 132 1 yL_compareKeys 4 := ⟨(List.mem_of_getElem? (i := 489) (by decide +kernel)), (List.mem_of_getElem? (i := 58) (by decide +kernel)), ⟨by decide +kernel, by decide +kernel⟩, by decide +kernel, fun h => by omega, fun _ => (List.mem_of_getElem? (i := 490) (by decide +kernel))⟩
set_option maxRecDepth 20000 in
theorem kw_L_compareKeys : Cond.codeWith yL_compareKeys cL_compareKeys 5 (some .int) [(0, 10, 13, 21)] ∈ GT := (List.mem_of_getElem? (i := 491) (by decide +kernel))
set_option maxRecDepth 20000 in
theorem m_L_134 : MF RL 134 0 yX5_compareKeys 2 := ⟨Or.inl (List.mem_of_getElem? (i := 1021) (by decide +kernel)), (List.mem_of_getElem? (i := 63) (by decide +kernel)), ⟨by decide +kernel, by decide +kernel⟩, by decide +kernel, fun _ => ⟨(List.mem_of_getElem? (i := 1022) (by decide +kernel)), (List.mem_of_getElem? (i := 1023) (by decide +kernel))⟩, fun h => by omega, fun h => by omega⟩
set_option maxRecDepth 20000 in
theorem k_X5_compareKeys : Cond.code yX5_compareKeys cX5_compareKeys 3 (some .int) ∈ GT := (List.mem_of_getElem? (i := 1024) (by decide +kernel))
set_option maxRecDepth 20000 in
theorem mx_L_135 : MX RL 135 1 yL_lineLength 3 := ⟨(List.mem_of_getElem? (i := 496) (by decide +kernel)), (List.mem_of_getElem? (i := 58) (by decide +kernel)), ⟨by decide +kernel, by decide +kernel⟩, by decide +kernel, fun h => by omega, fun _ => (List.mem_of_getElem? (i := 497) (by decide +kernel))⟩
set_option maxRecDepth 20000 in
theorem kw_L_lineLength : Cond.codeWith yL_lineLength cL_lineLength 4 (some .int) [(0, 9, 12, 21)] ∈ GT := (List.mem_of_getElem? (i := 498) (by decide +kernel))
set_option maxRecDepth 20000 in
theorem m_L_137 : MF RL 137 0 yX5_lineLength 1 := ⟨Or.inl (List.mem_of_getElem? (i := 1025) (by decide +kernel)), (List.mem_of_getElem? (i := 63) (by decide +kernel)), ⟨by decide +kernel, by decide +kernel⟩, by decide +kernel, fun _ => ⟨(List.mem_of_getElem? (i := 1026) (by decide +kernel)), (List.mem_of_getElem? (i := 1027) (by decide +kernel))⟩, fun h => by omega, fun h => by omega⟩
set_option maxRecDepth 20000 in
theorem k_X5_lineLength : Cond.code yX5_lineLength cX5_lineLength 2 (some .int) ∈ GT := (List.mem_of_getElem? (i := 1028) (by decide +kernel))
set_option maxRecDepth 20000 in
theorem mx_L_138 : MX RL 138 1 yL_lineChar 4 := ⟨(List.mem_of_getElem? (i := 709) (by decide +kernel)), (List.mem_of_getElem? (i := 58) (by decide +kernel)), ⟨by decide +kernel, by decide +kernel⟩, by decide +kernel, fun h => by omega, fun _ => (List.mem_of_getElem? (i := 710) (by decide +kernel))⟩
set_option maxRecDepth 20000 in
theorem kw_L_lineChar : Cond.codeWith yL_lineChar cL_lineChar 5 (some .int) [(0, 10, 13, 21)] ∈ GT := (List.mem_of_getElem? (i := 711) (by decide +kernel))
set_option maxRecDepth 20000 in
theorem m_L_140 : MF RL 140 0 yX5_lineChar 2 := ⟨Or.inl (List.mem_of_getElem? (i := 1049) (by decide +kernel)), (List.mem_of_getElem? (i := 63) (by decide +kernel)), ⟨by decide +kernel, by decide +kernel⟩, by decide +kernel, fun _ => ⟨(List.mem_of_getElem? (i := 1050) (by decide +kernel)), (List.mem_of_getElem? (i := 1051) (by decide +kernel))⟩, fun h => by omega, fun h => by omega⟩
set_option maxRecDepth 20000 in
theorem k_X5_lineChar : Cond.code yX5_lineChar cX5_lineChar 3 (some .char) ∈ GT := (List.mem_of_getElem? (i := 1052) (by decide +kernel))
set_option maxRecDepth 20000 in
theorem mx_L_141 : MX RL 141 1 yL_trackLength 3 := ⟨(List.mem_of_getElem? (i := 727) (by decide +kernel)), (List.mem_of_getElem? (i := 58) (by decide +kernel)), ⟨by decide +kernel, by decide +kernel⟩, by decide +kernel, fun h => by omega, fun _ => (List.mem_of_getElem? (i := 728) (by decide +kernel))⟩
set_option maxRecDepth 20000 in
theorem kw_L_trackLength : Cond.codeWith yL_trackLength cL_trackLength 4 (some .int) [(0, 9, 12, 21)] ∈ GT := (List.mem_of_getElem? (i := 729) (by decide +kernel))
set_option maxRecDepth 20000 in
theorem m_L_143 : MF RL 143 0 yX5_trackLength 1 := ⟨Or.inl (List.mem_of_getElem? (i := 1053) (by decide +kernel)), (List.mem_of_getElem? (i := 63) (by decide +kernel)), ⟨by decide +kernel, by decide +kernel⟩, by decide +kernel, fun _ => ⟨(List.mem_of_getElem? (i := 1054) (by decide +kernel)), (List.mem_of_getElem? (i := 1055) (by decide +kernel))⟩, fun h => by omega, fun h => by omega⟩
set_option maxRecDepth 20000 in
theorem k_X5_trackLength : Cond.code yX5_trackLength cX5_trackLength 2 (some .int) ∈ GT := (List.mem_of_getElem? (i := 1056) (by decide +kernel))
set_option maxRecDepth 20000 in
theorem mx_L_144 : MX RL 144 1 yL_squares 3 := ⟨(List.mem_of_getElem? (i := 734) (by decide +kernel)), (List.mem_of_getElem? (i := 58) (by decide +kernel)), ⟨by decide +kernel, by decide +kernel⟩, by decide +kernel, fun h => by omega, fun _ => (List.mem_of_getElem? (i := 735) (by decide +kernel))⟩
set_option maxRecDepth 20000 in
theorem kw_L_squares : Cond.codeWith yL_squares cL_squares 4 (some .int) [(0, 9, 12, 21)] ∈ GT := (List.mem_of_getElem? (i := 736) (by decide +kernel))
set_option maxRecDepth 20000 in
theorem m_L_146 : MF RL 146 0 yX5_squares 1 := ⟨Or.inl (List.mem_of_getElem? (i := 1057) (by decide +kernel)), (List.mem_of_getElem? (i := 63) (by decide +kernel)), ⟨by decide +kernel, by decide +kernel⟩, by decide +kernel, fun _ => ⟨(List.mem_of_getElem? (i := 1058) (by decide +kernel)), (List.mem_of_getElem? (i := 1059) (by decide +kernel))⟩, fun h => by omega, fun h => by omega⟩
set_option maxRecDepth 20000 in
theorem k_X5_squares : Cond.code yX5_squares cX5_squares 4 (some .int) ∈ GT := (List.mem_of_getElem? (i := 1060) (by decide +kernel))
section LCS
variable {l : Launch} {D : va_G} {cy : Nat → ClassId} {n0 : Nat} {ad : Nat → Nat} {PR : Option Value → va_W → Prop} {PX : String → va_W → Prop} {fin : Bool} {ET : List ExceptionTableEntry} {J : JT} {b bm : Nat → Nat} {o sb L : Nat} {xs : Nat → Int32}
set_option maxHeartbeats 4000000 in
set_option maxRecDepth 100000 in
theorem cs_streets {μ ν : Nat → Int → Int} {n : Nat} {N : Nat → List Int} {ow : Nat → Int} {m : Nat → Nat} {p : Nat → Nat → Int} {g9 : Nat → Int64} {i : Int} {ce sl : Nat} (hfl : l.stackTraces = false) (hJ : Cx l D cy n0 ad RL cL_law 7 (some .boolean) room_1 (AN n0) PR PX (XSL sb L xs n0) fin ET J) (hL : L ≤ 2560) (hi0 : 0 ≤ i) (hi5 : i + 5 ≤ L) (hc0 : ce + 10 ≤ 601024) (hs0 : sl + 2300 ≤ 7293034) (hX : XI μ n N ow m p) (hM : MI ν (μ 1) n N ow m p) (hn : LNx cy b bm o sb (ce + 10) (sl + 2300) i J) : J (gw 105 XSh cy b μ ++ ((o, .inl (cy 4, 1, .inr (.inl g9))) :: gw 14 MSh cy bm ν)) ce sl 567 [(0, .ref sb), (1, .ref (b 0)), (2, .ref (bm 0)), (3, .ref o), (4, .int (zI i))] [] := by
  obtain ⟨x1, x2, -⟩ := id hX
  refine j_aload_n hJ (j := 1) rfl rfl dL_law_567 ?_
  refine j_callV0 hJ (c_X4_streets (E := (o, .inl (cy 4, 1, .inr (.inl g9))) :: gw 14 MSh cy bm ν) hfl hX) m_L_122 k_X4_streets (q0 := 0) (by rw [gw_get (by decide)]; rfl) rfl ⟨(Nat.le_of_ble_eq_true rfl), (Nat.le_of_ble_eq_true rfl)⟩ ⟨by show ce + 0 ≤ 601024; omega, by show sl + 0 ≤ 7293034; omega⟩ (Nat.le_of_ble_eq_true rfl) dL_law_568 rfl ?_
  intro v u hv0
  obtain ⟨z4, rfl, rfl, e4⟩ := hv0
  show J (gw 105 XSh cy b μ ++ ((o, .inl (cy 4, 1, .inr (.inl g9))) :: gw 14 MSh cy bm ν)) ce sl 571 [(0, .ref sb), (1, .ref (b 0)), (2, .ref (bm 0)), (3, .ref o), (4, .int (zI i))] [.int (zI z4)]
  refine j_aload_n hJ (j := 2) rfl rfl dL_law_571 ?_
  refine j_perm hJ (perm_law _ _ _) ?_
  show J (gw 14 MSh cy bm ν ++ (gw 105 XSh cy b μ ++ [(o, .inl (cy 4, 1, .inr (.inl g9)))])) ce sl 572 [(0, .ref sb), (1, .ref (b 0)), (2, .ref (bm 0)), (3, .ref o), (4, .int (zI i))] [.ref (bm 0), .int (zI z4)]
  refine j_callV0 hJ (c_X5_streets (b := bm) (E := gw 105 XSh cy b μ ++ [(o, .inl (cy 4, 1, .inr (.inl g9)))]) hfl hM) m_L_125 k_X5_streets (rest := [.int (zI z4)]) (q0 := 0) (by rw [gw_get (by decide)]; rfl) rfl ⟨(Nat.le_of_ble_eq_true rfl), (Nat.le_of_ble_eq_true rfl)⟩ ⟨by show ce + 0 ≤ 601024; omega, by show sl + 0 ≤ 7293034; omega⟩ (Nat.le_of_ble_eq_true rfl) dL_law_572 rfl ?_
  intro v u hv0
  obtain ⟨z5, ν1, rfl, rfl, e5, e6, hM2⟩ := hv0
  show J (gw 14 MSh cy bm ν1 ++ (gw 105 XSh cy b μ ++ [(o, .inl (cy 4, 1, .inr (.inl g9)))])) ce sl 575 [(0, .ref sb), (1, .ref (b 0)), (2, .ref (bm 0)), (3, .ref o), (4, .int (zI i))] [.int (zI z5), .int (zI z4)]
  refine j_perm hJ (perm_law _ _ _).symm ?_
  show J (gw 105 XSh cy b μ ++ ((o, .inl (cy 4, 1, .inr (.inl g9))) :: gw 14 MSh cy bm ν1)) ce sl 575 [(0, .ref sb), (1, .ref (b 0)), (2, .ref (bm 0)), (3, .ref o), (4, .int (zI i))] [.int (zI z5), .int (zI z4)]
  refine j_icmp_eq hJ (tgt := 1706) ⟨by omega, by omega⟩ ⟨by omega, by omega⟩ (by decide) dL_law_575 ?_ ?_
  · intro h575
    refine j_widen hJ (ce' := ce + 10) (sl' := sl + 2300) (by omega) (by omega) ?_
    exact hn _ _ _ _ _ _ _ _ hX hM2
  · intro h575; exfalso; omega
set_option maxHeartbeats 4000000 in
set_option maxRecDepth 100000 in
theorem cs_streetAt {μ ν : Nat → Int → Int} {n : Nat} {N : Nat → List Int} {ow : Nat → Int} {m : Nat → Nat} {p : Nat → Nat → Int} {g9 : Nat → Int64} {i : Int} {ce sl : Nat} (hfl : l.stackTraces = false) (hJ : Cx l D cy n0 ad RL cL_law 7 (some .boolean) room_1 (AN n0) PR PX (XSL sb L xs n0) fin ET J) (hL : L ≤ 2560) (hi0 : 0 ≤ i) (hi5 : i + 5 ≤ L) (hc0 : ce + 10 ≤ 601024) (hs0 : sl + 2300 ≤ 7293034) (hX : XI μ n N ow m p) (hM : MI ν (μ 1) n N ow m p) (hn : LNx cy b bm o sb (ce + 10) (sl + 2300) i J) : J (gw 105 XSh cy b μ ++ ((o, .inl (cy 4, 1, .inr (.inl g9))) :: gw 14 MSh cy bm ν)) ce sl 580 [(0, .ref sb), (1, .ref (b 0)), (2, .ref (bm 0)), (3, .ref o), (4, .int (zI i))] [] := by
  obtain ⟨s1, e1⟩ : ∃ z, (xs (i + 1).toNat).toInt = z := ⟨_, rfl⟩
  have r1 := inR_s e1
  obtain ⟨x1, x2, -⟩ := id hX
  refine j_aload_n hJ (j := 1) rfl rfl dL_law_580 ?_
  refine j_aload_n hJ (j := 0) rfl rfl dL_law_581 ?_
  refine j_iload hJ (j := 4) rfl dL_law_582 ?_
  refine j_iconst hJ dL_law_584 ?_
  refine j_iadd hJ dL_law_585 ?_
  refine j_sldv hJ e1 (by omega) (by omega) hL dL_law_586 ?_
  refine j_aload_n hJ (j := 3) rfl rfl dL_law_587 ?_
  refine j_callSH hJ (fun _ h => h.1) (c_L_streetAt (E := gw 14 MSh cy bm ν) hfl hX r1) mx_L_126 kw_L_streetAt ⟨(Nat.le_of_ble_eq_true rfl), (Nat.le_of_ble_eq_true rfl)⟩ ⟨by show ce + 1 ≤ 601024; omega, by show sl + 6 ≤ 7293034; omega⟩ (Nat.le_of_ble_eq_true rfl) dL_law_588 rfl ?_
  intro v u hv0
  obtain ⟨zz, μ1, f1, rfl, rfl, h1⟩ := hv0
  show J (gw 105 XSh cy b μ1 ++ ((o, .inl (cy 4, 1, .inr (.inl f1))) :: gw 14 MSh cy bm ν)) (ce + 1) (sl + 6) 591 [(0, .ref sb), (1, .ref (b 0)), (2, .ref (bm 0)), (3, .ref o), (4, .int (zI i))] [.int (zI zz)]
  refine j_istore hJ (lv' := [(5, .int (zI zz)), (0, .ref sb), (1, .ref (b 0)), (2, .ref (bm 0)), (3, .ref o), (4, .int (zI i))]) (by decide) rfl dL_law_591 ?_
  refine j_aload_n hJ (j := 3) rfl rfl dL_law_593 ?_
  refine j_aload_n hJ (j := 1) rfl rfl dL_law_594 ?_
  refine j_iload hJ (j := 5) rfl dL_law_595 ?_
  refine j_iconst hJ dL_law_597 ?_
  refine j_iadd hJ dL_law_598 ?_
  refine j_sldv hJ e1 (by omega) (by omega) hL dL_law_599 ?_
  refine j_perm hJ (perm_law _ _ _) ?_
  show J (gw 14 MSh cy bm ν ++ (gw 105 XSh cy b μ1 ++ [(o, .inl (cy 4, 1, .inr (.inl f1)))])) (ce + 1) (sl + 6) 600 [(5, .int (zI zz)), (0, .ref sb), (1, .ref (b 0)), (2, .ref (bm 0)), (3, .ref o), (4, .int (zI i))] [.int (zI s1), .ref (bm 0)]
  refine j_callV0 hJ (c_X5_streetAt (b := bm) (E := gw 105 XSh cy b μ1 ++ [(o, .inl (cy 4, 1, .inr (.inl f1)))]) hfl hM r1) m_L_128 k_X5_streetAt (rest := []) (q0 := 0) (by rw [gw_get (by decide)]; rfl) rfl ⟨(Nat.le_of_ble_eq_true rfl), (Nat.le_of_ble_eq_true rfl)⟩ ⟨by show (ce + 1) + 0 ≤ 601024; omega, by show (sl + 6) + 0 ≤ 7293034; omega⟩ (Nat.le_of_ble_eq_true rfl) dL_law_600 rfl ?_
  intro v u hv0
  obtain ⟨q, ν1, rfl, rfl, h2⟩ := hv0
  obtain ⟨ez, z0, z3, hv, n', N', ow', m', p', hX9, hM9⟩ := cb_streetAt (ν := ν) hX r1 h1 h2
  show J (gw 14 MSh cy bm ν1 ++ (gw 105 XSh cy b μ1 ++ [(o, .inl (cy 4, 1, .inr (.inl f1)))])) (ce + 1) (sl + 6) 603 [(5, .int (zI zz)), (0, .ref sb), (1, .ref (b 0)), (2, .ref (bm 0)), (3, .ref o), (4, .int (zI i))] [.int (zI q)]
  refine j_istore hJ (lv' := [(6, .int (zI q)), (5, .int (zI zz)), (0, .ref sb), (1, .ref (b 0)), (2, .ref (bm 0)), (3, .ref o), (4, .int (zI i))]) (by decide) rfl dL_law_603 ?_
  refine j_aload_n hJ (j := 4) rfl rfl dL_law_605 ?_
  refine j_callV0 hJ (c_X5_thrown (b := bm) (ν := ν1) (E := gw 105 XSh cy b μ1 ++ [(o, .inl (cy 4, 1, .inr (.inl f1)))]) hfl) m_L_99 k_X5_thrown (rest := []) (q0 := 0) (by rw [gw_get (by decide)]; rfl) rfl ⟨(Nat.le_of_ble_eq_true rfl), (Nat.le_of_ble_eq_true rfl)⟩ ⟨by show (ce + 1) + 0 ≤ 601024; omega, by show (sl + 6) + 0 ≤ 7293034; omega⟩ (Nat.le_of_ble_eq_true rfl) dL_law_606 rfl ?_
  intro v u hv0
  obtain ⟨q7, rfl, rfl, e7⟩ := hv0
  show J (gw 14 MSh cy bm ν1 ++ (gw 105 XSh cy b μ1 ++ [(o, .inl (cy 4, 1, .inr (.inl f1)))])) (ce + 1) (sl + 6) 609 [(6, .int (zI q)), (5, .int (zI zz)), (0, .ref sb), (1, .ref (b 0)), (2, .ref (bm 0)), (3, .ref o), (4, .int (zI i))] [.int (zI q7)]
  refine j_perm hJ (perm_law _ _ _).symm ?_
  show J (gw 105 XSh cy b μ1 ++ ((o, .inl (cy 4, 1, .inr (.inl f1))) :: gw 14 MSh cy bm ν1)) (ce + 1) (sl + 6) 609 [(6, .int (zI q)), (5, .int (zI zz)), (0, .ref sb), (1, .ref (b 0)), (2, .ref (bm 0)), (3, .ref o), (4, .int (zI i))] [.int (zI q7)]
  refine j_iload hJ (j := 1) rfl dL_law_609 ?_
  refine j_icmp_eq hJ (tgt := 616) ⟨by omega, by omega⟩ ⟨by omega, by omega⟩ (by decide) dL_law_611 ?_ ?_
  · intro h611
    refine j_iload hJ (j := 1) rfl dL_law_616 ?_
    refine j_if_ne hJ (tgt := 633) ⟨by omega, by omega⟩ (by decide) dL_law_618 ?_ ?_
    · intro h618
      refine j_goto hJ (tgt := 1706) (by decide) dL_law_633 ?_
      refine j_locs hJ [2, 3, 4, 5, 6] rfl ?_
      refine j_widen hJ (ce' := ce + 10) (sl' := sl + 2300) (by omega) (by omega) ?_
      exact hn _ _ _ _ _ _ _ _ hX9 hM9
    · intro hz0
      refine j_aload_n hJ (j := 5) rfl rfl dL_law_621 ?_
      refine j_iconst hJ dL_law_622 ?_
      refine j_laload hJ (q0 := 105) out_at dL_law_623 ?_
      refine j_iload hJ (j := 0) rfl dL_law_624 ?_
      refine j_i2l hJ dL_law_626 ?_
      refine j_lcmp hJ (hv hz0) dL_law_627 ?_
      refine j_if_eq hJ (tgt := 633) ⟨by omega, by omega⟩ (by decide) dL_law_628 ?_ ?_
      · intro h628
        refine j_goto hJ (tgt := 1706) (by decide) dL_law_633 ?_
        refine j_locs hJ [2, 3, 4, 5, 6] rfl ?_
        refine j_widen hJ (ce' := ce + 10) (sl' := sl + 2300) (by omega) (by omega) ?_
        exact hn _ _ _ _ _ _ _ _ hX9 hM9
      · intro h628; exact absurd rfl h628
  · intro h611; exfalso; omega
set_option maxHeartbeats 4000000 in
set_option maxRecDepth 100000 in
theorem cs_placeOf {μ ν : Nat → Int → Int} {n : Nat} {N : Nat → List Int} {ow : Nat → Int} {m : Nat → Nat} {p : Nat → Nat → Int} {g9 : Nat → Int64} {i : Int} {ce sl : Nat} (hfl : l.stackTraces = false) (hJ : Cx l D cy n0 ad RL cL_law 7 (some .boolean) room_1 (AN n0) PR PX (XSL sb L xs n0) fin ET J) (hL : L ≤ 2560) (hi0 : 0 ≤ i) (hi5 : i + 5 ≤ L) (hc0 : ce + 10 ≤ 601024) (hs0 : sl + 2300 ≤ 7293034) (hX : XI μ n N ow m p) (hM : MI ν (μ 1) n N ow m p) (hn : LNx cy b bm o sb (ce + 10) (sl + 2300) i J) : J (gw 105 XSh cy b μ ++ ((o, .inl (cy 4, 1, .inr (.inl g9))) :: gw 14 MSh cy bm ν)) ce sl 636 [(0, .ref sb), (1, .ref (b 0)), (2, .ref (bm 0)), (3, .ref o), (4, .int (zI i))] [] := by
  obtain ⟨s1, e1⟩ : ∃ z, (xs (i + 1).toNat).toInt = z := ⟨_, rfl⟩
  have r1 := inR_s e1
  obtain ⟨x1, x2, -⟩ := id hX
  refine j_aload_n hJ (j := 1) rfl rfl dL_law_636 ?_
  refine j_aload_n hJ (j := 0) rfl rfl dL_law_637 ?_
  refine j_iload hJ (j := 4) rfl dL_law_638 ?_
  refine j_iconst hJ dL_law_640 ?_
  refine j_iadd hJ dL_law_641 ?_
  refine j_sldv hJ e1 (by omega) (by omega) hL dL_law_642 ?_
  refine j_aload_n hJ (j := 3) rfl rfl dL_law_643 ?_
  refine j_callSH hJ (fun _ h => h.1) (c_L_placeOf (E := gw 14 MSh cy bm ν) hfl hX r1) mx_L_129 kw_L_placeOf ⟨(Nat.le_of_ble_eq_true rfl), (Nat.le_of_ble_eq_true rfl)⟩ ⟨by show ce + 1 ≤ 601024; omega, by show sl + 6 ≤ 7293034; omega⟩ (Nat.le_of_ble_eq_true rfl) dL_law_644 rfl ?_
  intro v u hv0
  obtain ⟨zz, μ1, f1, rfl, rfl, h1⟩ := hv0
  show J (gw 105 XSh cy b μ1 ++ ((o, .inl (cy 4, 1, .inr (.inl f1))) :: gw 14 MSh cy bm ν)) (ce + 1) (sl + 6) 647 [(0, .ref sb), (1, .ref (b 0)), (2, .ref (bm 0)), (3, .ref o), (4, .int (zI i))] [.int (zI zz)]
  refine j_istore hJ (lv' := [(5, .int (zI zz)), (0, .ref sb), (1, .ref (b 0)), (2, .ref (bm 0)), (3, .ref o), (4, .int (zI i))]) (by decide) rfl dL_law_647 ?_
  refine j_aload_n hJ (j := 3) rfl rfl dL_law_649 ?_
  refine j_aload_n hJ (j := 1) rfl rfl dL_law_650 ?_
  refine j_iload hJ (j := 5) rfl dL_law_651 ?_
  refine j_iconst hJ dL_law_653 ?_
  refine j_iadd hJ dL_law_654 ?_
  refine j_sldv hJ e1 (by omega) (by omega) hL dL_law_655 ?_
  refine j_perm hJ (perm_law _ _ _) ?_
  show J (gw 14 MSh cy bm ν ++ (gw 105 XSh cy b μ1 ++ [(o, .inl (cy 4, 1, .inr (.inl f1)))])) (ce + 1) (sl + 6) 656 [(5, .int (zI zz)), (0, .ref sb), (1, .ref (b 0)), (2, .ref (bm 0)), (3, .ref o), (4, .int (zI i))] [.int (zI s1), .ref (bm 0)]
  refine j_callV0 hJ (c_X5_placeOf (b := bm) (E := gw 105 XSh cy b μ1 ++ [(o, .inl (cy 4, 1, .inr (.inl f1)))]) hfl hM r1) m_L_131 k_X5_placeOf (rest := []) (q0 := 0) (by rw [gw_get (by decide)]; rfl) rfl ⟨(Nat.le_of_ble_eq_true rfl), (Nat.le_of_ble_eq_true rfl)⟩ ⟨by show (ce + 1) + 0 ≤ 601024; omega, by show (sl + 6) + 0 ≤ 7293034; omega⟩ (Nat.le_of_ble_eq_true rfl) dL_law_656 rfl ?_
  intro v u hv0
  obtain ⟨q, ν1, rfl, rfl, h2⟩ := hv0
  obtain ⟨ez, z0, z3, hv, n', N', ow', m', p', hX9, hM9⟩ := cb_placeOf (ν := ν) hX r1 h1 h2
  show J (gw 14 MSh cy bm ν1 ++ (gw 105 XSh cy b μ1 ++ [(o, .inl (cy 4, 1, .inr (.inl f1)))])) (ce + 1) (sl + 6) 659 [(5, .int (zI zz)), (0, .ref sb), (1, .ref (b 0)), (2, .ref (bm 0)), (3, .ref o), (4, .int (zI i))] [.int (zI q)]
  refine j_istore hJ (lv' := [(6, .int (zI q)), (5, .int (zI zz)), (0, .ref sb), (1, .ref (b 0)), (2, .ref (bm 0)), (3, .ref o), (4, .int (zI i))]) (by decide) rfl dL_law_659 ?_
  refine j_aload_n hJ (j := 4) rfl rfl dL_law_661 ?_
  refine j_callV0 hJ (c_X5_thrown (b := bm) (ν := ν1) (E := gw 105 XSh cy b μ1 ++ [(o, .inl (cy 4, 1, .inr (.inl f1)))]) hfl) m_L_99 k_X5_thrown (rest := []) (q0 := 0) (by rw [gw_get (by decide)]; rfl) rfl ⟨(Nat.le_of_ble_eq_true rfl), (Nat.le_of_ble_eq_true rfl)⟩ ⟨by show (ce + 1) + 0 ≤ 601024; omega, by show (sl + 6) + 0 ≤ 7293034; omega⟩ (Nat.le_of_ble_eq_true rfl) dL_law_662 rfl ?_
  intro v u hv0
  obtain ⟨q7, rfl, rfl, e7⟩ := hv0
  show J (gw 14 MSh cy bm ν1 ++ (gw 105 XSh cy b μ1 ++ [(o, .inl (cy 4, 1, .inr (.inl f1)))])) (ce + 1) (sl + 6) 665 [(6, .int (zI q)), (5, .int (zI zz)), (0, .ref sb), (1, .ref (b 0)), (2, .ref (bm 0)), (3, .ref o), (4, .int (zI i))] [.int (zI q7)]
  refine j_perm hJ (perm_law _ _ _).symm ?_
  show J (gw 105 XSh cy b μ1 ++ ((o, .inl (cy 4, 1, .inr (.inl f1))) :: gw 14 MSh cy bm ν1)) (ce + 1) (sl + 6) 665 [(6, .int (zI q)), (5, .int (zI zz)), (0, .ref sb), (1, .ref (b 0)), (2, .ref (bm 0)), (3, .ref o), (4, .int (zI i))] [.int (zI q7)]
  refine j_iload hJ (j := 1) rfl dL_law_665 ?_
  refine j_icmp_eq hJ (tgt := 672) ⟨by omega, by omega⟩ ⟨by omega, by omega⟩ (by decide) dL_law_667 ?_ ?_
  · intro h667
    refine j_iload hJ (j := 1) rfl dL_law_672 ?_
    refine j_if_ne hJ (tgt := 689) ⟨by omega, by omega⟩ (by decide) dL_law_674 ?_ ?_
    · intro h674
      refine j_goto hJ (tgt := 1706) (by decide) dL_law_689 ?_
      refine j_locs hJ [2, 3, 4, 5, 6] rfl ?_
      refine j_widen hJ (ce' := ce + 10) (sl' := sl + 2300) (by omega) (by omega) ?_
      exact hn _ _ _ _ _ _ _ _ hX9 hM9
    · intro hz0
      refine j_aload_n hJ (j := 5) rfl rfl dL_law_677 ?_
      refine j_iconst hJ dL_law_678 ?_
      refine j_laload hJ (q0 := 105) out_at dL_law_679 ?_
      refine j_iload hJ (j := 0) rfl dL_law_680 ?_
      refine j_i2l hJ dL_law_682 ?_
      refine j_lcmp hJ (hv hz0) dL_law_683 ?_
      refine j_if_eq hJ (tgt := 689) ⟨by omega, by omega⟩ (by decide) dL_law_684 ?_ ?_
      · intro h684
        refine j_goto hJ (tgt := 1706) (by decide) dL_law_689 ?_
        refine j_locs hJ [2, 3, 4, 5, 6] rfl ?_
        refine j_widen hJ (ce' := ce + 10) (sl' := sl + 2300) (by omega) (by omega) ?_
        exact hn _ _ _ _ _ _ _ _ hX9 hM9
      · intro h684; exact absurd rfl h684
  · intro h667; exfalso; omega
set_option maxHeartbeats 4000000 in
set_option maxRecDepth 100000 in
theorem cs_compareKeys {μ ν : Nat → Int → Int} {n : Nat} {N : Nat → List Int} {ow : Nat → Int} {m : Nat → Nat} {p : Nat → Nat → Int} {g9 : Nat → Int64} {i : Int} {ce sl : Nat} (hfl : l.stackTraces = false) (hJ : Cx l D cy n0 ad RL cL_law 7 (some .boolean) room_1 (AN n0) PR PX (XSL sb L xs n0) fin ET J) (hL : L ≤ 2560) (hi0 : 0 ≤ i) (hi5 : i + 5 ≤ L) (hc0 : ce + 10 ≤ 601024) (hs0 : sl + 2300 ≤ 7293034) (hX : XI μ n N ow m p) (hM : MI ν (μ 1) n N ow m p) (hn : LNx cy b bm o sb (ce + 10) (sl + 2300) i J) : J (gw 105 XSh cy b μ ++ ((o, .inl (cy 4, 1, .inr (.inl g9))) :: gw 14 MSh cy bm ν)) ce sl 692 [(0, .ref sb), (1, .ref (b 0)), (2, .ref (bm 0)), (3, .ref o), (4, .int (zI i))] [] := by
  obtain ⟨s1, e1⟩ : ∃ z, (xs (i + 1).toNat).toInt = z := ⟨_, rfl⟩
  have r1 := inR_s e1
  obtain ⟨s2, e2⟩ : ∃ z, (xs (i + 2).toNat).toInt = z := ⟨_, rfl⟩
  have r2 := inR_s e2
  obtain ⟨x1, x2, -⟩ := id hX
  refine j_aload_n hJ (j := 1) rfl rfl dL_law_692 ?_
  refine j_aload_n hJ (j := 0) rfl rfl dL_law_693 ?_
  refine j_iload hJ (j := 4) rfl dL_law_694 ?_
  refine j_iconst hJ dL_law_696 ?_
  refine j_iadd hJ dL_law_697 ?_
  refine j_sldv hJ e1 (by omega) (by omega) hL dL_law_698 ?_
  refine j_aload_n hJ (j := 0) rfl rfl dL_law_699 ?_
  refine j_iload hJ (j := 4) rfl dL_law_700 ?_
  refine j_iconst hJ dL_law_702 ?_
  refine j_iadd hJ dL_law_703 ?_
  refine j_sldv hJ e2 (by omega) (by omega) hL dL_law_704 ?_
  refine j_aload_n hJ (j := 3) rfl rfl dL_law_705 ?_
  refine j_callSH hJ (fun _ h => h.1) (c_L_compareKeys (E := gw 14 MSh cy bm ν) hfl hX r1 r2) mx_L_132 kw_L_compareKeys ⟨(Nat.le_of_ble_eq_true rfl), (Nat.le_of_ble_eq_true rfl)⟩ ⟨by show ce + 2 ≤ 601024; omega, by show sl + 12 ≤ 7293034; omega⟩ (Nat.le_of_ble_eq_true rfl) dL_law_706 rfl ?_
  intro v u hv0
  obtain ⟨zz, μ1, f1, rfl, rfl, h1⟩ := hv0
  show J (gw 105 XSh cy b μ1 ++ ((o, .inl (cy 4, 1, .inr (.inl f1))) :: gw 14 MSh cy bm ν)) (ce + 2) (sl + 12) 709 [(0, .ref sb), (1, .ref (b 0)), (2, .ref (bm 0)), (3, .ref o), (4, .int (zI i))] [.int (zI zz)]
  refine j_istore hJ (lv' := [(5, .int (zI zz)), (0, .ref sb), (1, .ref (b 0)), (2, .ref (bm 0)), (3, .ref o), (4, .int (zI i))]) (by decide) rfl dL_law_709 ?_
  refine j_aload_n hJ (j := 3) rfl rfl dL_law_711 ?_
  refine j_aload_n hJ (j := 1) rfl rfl dL_law_712 ?_
  refine j_iload hJ (j := 5) rfl dL_law_713 ?_
  refine j_iconst hJ dL_law_715 ?_
  refine j_iadd hJ dL_law_716 ?_
  refine j_sldv hJ e1 (by omega) (by omega) hL dL_law_717 ?_
  refine j_aload_n hJ (j := 1) rfl rfl dL_law_718 ?_
  refine j_iload hJ (j := 5) rfl dL_law_719 ?_
  refine j_iconst hJ dL_law_721 ?_
  refine j_iadd hJ dL_law_722 ?_
  refine j_sldv hJ e2 (by omega) (by omega) hL dL_law_723 ?_
  refine j_perm hJ (perm_law _ _ _) ?_
  show J (gw 14 MSh cy bm ν ++ (gw 105 XSh cy b μ1 ++ [(o, .inl (cy 4, 1, .inr (.inl f1)))])) (ce + 2) (sl + 12) 724 [(5, .int (zI zz)), (0, .ref sb), (1, .ref (b 0)), (2, .ref (bm 0)), (3, .ref o), (4, .int (zI i))] [.int (zI s2), .int (zI s1), .ref (bm 0)]
  refine j_callV0 hJ (c_X5_compareKeys (b := bm) (E := gw 105 XSh cy b μ1 ++ [(o, .inl (cy 4, 1, .inr (.inl f1)))]) hfl hM r1 r2) m_L_134 k_X5_compareKeys (rest := []) (q0 := 0) (by rw [gw_get (by decide)]; rfl) rfl ⟨(Nat.le_of_ble_eq_true rfl), (Nat.le_of_ble_eq_true rfl)⟩ ⟨by show (ce + 2) + 0 ≤ 601024; omega, by show (sl + 12) + 0 ≤ 7293034; omega⟩ (Nat.le_of_ble_eq_true rfl) dL_law_724 rfl ?_
  intro v u hv0
  obtain ⟨q, ν1, rfl, rfl, h2⟩ := hv0
  obtain ⟨ez, z0, z3, hv, n', N', ow', m', p', hX9, hM9⟩ := cb_compareKeys (ν := ν) hX r1 r2 h1 h2
  show J (gw 14 MSh cy bm ν1 ++ (gw 105 XSh cy b μ1 ++ [(o, .inl (cy 4, 1, .inr (.inl f1)))])) (ce + 2) (sl + 12) 727 [(5, .int (zI zz)), (0, .ref sb), (1, .ref (b 0)), (2, .ref (bm 0)), (3, .ref o), (4, .int (zI i))] [.int (zI q)]
  refine j_istore hJ (lv' := [(6, .int (zI q)), (5, .int (zI zz)), (0, .ref sb), (1, .ref (b 0)), (2, .ref (bm 0)), (3, .ref o), (4, .int (zI i))]) (by decide) rfl dL_law_727 ?_
  refine j_aload_n hJ (j := 4) rfl rfl dL_law_729 ?_
  refine j_callV0 hJ (c_X5_thrown (b := bm) (ν := ν1) (E := gw 105 XSh cy b μ1 ++ [(o, .inl (cy 4, 1, .inr (.inl f1)))]) hfl) m_L_99 k_X5_thrown (rest := []) (q0 := 0) (by rw [gw_get (by decide)]; rfl) rfl ⟨(Nat.le_of_ble_eq_true rfl), (Nat.le_of_ble_eq_true rfl)⟩ ⟨by show (ce + 2) + 0 ≤ 601024; omega, by show (sl + 12) + 0 ≤ 7293034; omega⟩ (Nat.le_of_ble_eq_true rfl) dL_law_730 rfl ?_
  intro v u hv0
  obtain ⟨q7, rfl, rfl, e7⟩ := hv0
  show J (gw 14 MSh cy bm ν1 ++ (gw 105 XSh cy b μ1 ++ [(o, .inl (cy 4, 1, .inr (.inl f1)))])) (ce + 2) (sl + 12) 733 [(6, .int (zI q)), (5, .int (zI zz)), (0, .ref sb), (1, .ref (b 0)), (2, .ref (bm 0)), (3, .ref o), (4, .int (zI i))] [.int (zI q7)]
  refine j_perm hJ (perm_law _ _ _).symm ?_
  show J (gw 105 XSh cy b μ1 ++ ((o, .inl (cy 4, 1, .inr (.inl f1))) :: gw 14 MSh cy bm ν1)) (ce + 2) (sl + 12) 733 [(6, .int (zI q)), (5, .int (zI zz)), (0, .ref sb), (1, .ref (b 0)), (2, .ref (bm 0)), (3, .ref o), (4, .int (zI i))] [.int (zI q7)]
  refine j_iload hJ (j := 1) rfl dL_law_733 ?_
  refine j_icmp_eq hJ (tgt := 740) ⟨by omega, by omega⟩ ⟨by omega, by omega⟩ (by decide) dL_law_735 ?_ ?_
  · intro h735
    refine j_iload hJ (j := 1) rfl dL_law_740 ?_
    refine j_if_ne hJ (tgt := 757) ⟨by omega, by omega⟩ (by decide) dL_law_742 ?_ ?_
    · intro h742
      refine j_goto hJ (tgt := 1706) (by decide) dL_law_757 ?_
      refine j_locs hJ [2, 3, 4, 5, 6] rfl ?_
      refine j_widen hJ (ce' := ce + 10) (sl' := sl + 2300) (by omega) (by omega) ?_
      exact hn _ _ _ _ _ _ _ _ hX9 hM9
    · intro hz0
      refine j_aload_n hJ (j := 5) rfl rfl dL_law_745 ?_
      refine j_iconst hJ dL_law_746 ?_
      refine j_laload hJ (q0 := 105) out_at dL_law_747 ?_
      refine j_iload hJ (j := 0) rfl dL_law_748 ?_
      refine j_i2l hJ dL_law_750 ?_
      refine j_lcmp hJ (hv hz0) dL_law_751 ?_
      refine j_if_eq hJ (tgt := 757) ⟨by omega, by omega⟩ (by decide) dL_law_752 ?_ ?_
      · intro h752
        refine j_goto hJ (tgt := 1706) (by decide) dL_law_757 ?_
        refine j_locs hJ [2, 3, 4, 5, 6] rfl ?_
        refine j_widen hJ (ce' := ce + 10) (sl' := sl + 2300) (by omega) (by omega) ?_
        exact hn _ _ _ _ _ _ _ _ hX9 hM9
      · intro h752; exact absurd rfl h752
  · intro h735; exfalso; omega
set_option maxHeartbeats 4000000 in
set_option maxRecDepth 100000 in
theorem cs_lineLength {μ ν : Nat → Int → Int} {n : Nat} {N : Nat → List Int} {ow : Nat → Int} {m : Nat → Nat} {p : Nat → Nat → Int} {g9 : Nat → Int64} {i : Int} {ce sl : Nat} (hfl : l.stackTraces = false) (hJ : Cx l D cy n0 ad RL cL_law 7 (some .boolean) room_1 (AN n0) PR PX (XSL sb L xs n0) fin ET J) (hL : L ≤ 2560) (hi0 : 0 ≤ i) (hi5 : i + 5 ≤ L) (hc0 : ce + 10 ≤ 601024) (hs0 : sl + 2300 ≤ 7293034) (hX : XI μ n N ow m p) (hM : MI ν (μ 1) n N ow m p) (hn : LNx cy b bm o sb (ce + 10) (sl + 2300) i J) : J (gw 105 XSh cy b μ ++ ((o, .inl (cy 4, 1, .inr (.inl g9))) :: gw 14 MSh cy bm ν)) ce sl 760 [(0, .ref sb), (1, .ref (b 0)), (2, .ref (bm 0)), (3, .ref o), (4, .int (zI i))] [] := by
  obtain ⟨s1, e1⟩ : ∃ z, (xs (i + 1).toNat).toInt = z := ⟨_, rfl⟩
  have r1 := inR_s e1
  obtain ⟨x1, x2, -⟩ := id hX
  refine j_aload_n hJ (j := 1) rfl rfl dL_law_760 ?_
  refine j_aload_n hJ (j := 0) rfl rfl dL_law_761 ?_
  refine j_iload hJ (j := 4) rfl dL_law_762 ?_
  refine j_iconst hJ dL_law_764 ?_
  refine j_iadd hJ dL_law_765 ?_
  refine j_sldv hJ e1 (by omega) (by omega) hL dL_law_766 ?_
  refine j_aload_n hJ (j := 3) rfl rfl dL_law_767 ?_
  refine j_callSH hJ (fun _ h => h.1) (c_L_lineLength (E := gw 14 MSh cy bm ν) hfl hX r1) mx_L_135 kw_L_lineLength ⟨(Nat.le_of_ble_eq_true rfl), (Nat.le_of_ble_eq_true rfl)⟩ ⟨by show ce + 9 ≤ 601024; omega, by show sl + 2282 ≤ 7293034; omega⟩ (Nat.le_of_ble_eq_true rfl) dL_law_768 rfl ?_
  intro v u hv0
  obtain ⟨zz, μ1, f1, rfl, rfl, h1⟩ := hv0
  show J (gw 105 XSh cy b μ1 ++ ((o, .inl (cy 4, 1, .inr (.inl f1))) :: gw 14 MSh cy bm ν)) (ce + 9) (sl + 2282) 771 [(0, .ref sb), (1, .ref (b 0)), (2, .ref (bm 0)), (3, .ref o), (4, .int (zI i))] [.int (zI zz)]
  refine j_istore hJ (lv' := [(5, .int (zI zz)), (0, .ref sb), (1, .ref (b 0)), (2, .ref (bm 0)), (3, .ref o), (4, .int (zI i))]) (by decide) rfl dL_law_771 ?_
  refine j_aload_n hJ (j := 3) rfl rfl dL_law_773 ?_
  refine j_aload_n hJ (j := 1) rfl rfl dL_law_774 ?_
  refine j_iload hJ (j := 5) rfl dL_law_775 ?_
  refine j_iconst hJ dL_law_777 ?_
  refine j_iadd hJ dL_law_778 ?_
  refine j_sldv hJ e1 (by omega) (by omega) hL dL_law_779 ?_
  refine j_perm hJ (perm_law _ _ _) ?_
  show J (gw 14 MSh cy bm ν ++ (gw 105 XSh cy b μ1 ++ [(o, .inl (cy 4, 1, .inr (.inl f1)))])) (ce + 9) (sl + 2282) 780 [(5, .int (zI zz)), (0, .ref sb), (1, .ref (b 0)), (2, .ref (bm 0)), (3, .ref o), (4, .int (zI i))] [.int (zI s1), .ref (bm 0)]
  refine j_callV0 hJ (c_X5_lineLength (b := bm) (E := gw 105 XSh cy b μ1 ++ [(o, .inl (cy 4, 1, .inr (.inl f1)))]) hfl hM r1) m_L_137 k_X5_lineLength (rest := []) (q0 := 0) (by rw [gw_get (by decide)]; rfl) rfl ⟨(Nat.le_of_ble_eq_true rfl), (Nat.le_of_ble_eq_true rfl)⟩ ⟨by show (ce + 9) + 0 ≤ 601024; omega, by show (sl + 2282) + 0 ≤ 7293034; omega⟩ (Nat.le_of_ble_eq_true rfl) dL_law_780 rfl ?_
  intro v u hv0
  obtain ⟨q, ν1, rfl, rfl, h2⟩ := hv0
  obtain ⟨ez, z0, z3, hv, n', N', ow', m', p', hX9, hM9⟩ := cb_lineLength (ν := ν) hX r1 h1 h2
  show J (gw 14 MSh cy bm ν1 ++ (gw 105 XSh cy b μ1 ++ [(o, .inl (cy 4, 1, .inr (.inl f1)))])) (ce + 9) (sl + 2282) 783 [(5, .int (zI zz)), (0, .ref sb), (1, .ref (b 0)), (2, .ref (bm 0)), (3, .ref o), (4, .int (zI i))] [.int (zI q)]
  refine j_istore hJ (lv' := [(6, .int (zI q)), (5, .int (zI zz)), (0, .ref sb), (1, .ref (b 0)), (2, .ref (bm 0)), (3, .ref o), (4, .int (zI i))]) (by decide) rfl dL_law_783 ?_
  refine j_aload_n hJ (j := 4) rfl rfl dL_law_785 ?_
  refine j_callV0 hJ (c_X5_thrown (b := bm) (ν := ν1) (E := gw 105 XSh cy b μ1 ++ [(o, .inl (cy 4, 1, .inr (.inl f1)))]) hfl) m_L_99 k_X5_thrown (rest := []) (q0 := 0) (by rw [gw_get (by decide)]; rfl) rfl ⟨(Nat.le_of_ble_eq_true rfl), (Nat.le_of_ble_eq_true rfl)⟩ ⟨by show (ce + 9) + 0 ≤ 601024; omega, by show (sl + 2282) + 0 ≤ 7293034; omega⟩ (Nat.le_of_ble_eq_true rfl) dL_law_786 rfl ?_
  intro v u hv0
  obtain ⟨q7, rfl, rfl, e7⟩ := hv0
  show J (gw 14 MSh cy bm ν1 ++ (gw 105 XSh cy b μ1 ++ [(o, .inl (cy 4, 1, .inr (.inl f1)))])) (ce + 9) (sl + 2282) 789 [(6, .int (zI q)), (5, .int (zI zz)), (0, .ref sb), (1, .ref (b 0)), (2, .ref (bm 0)), (3, .ref o), (4, .int (zI i))] [.int (zI q7)]
  refine j_perm hJ (perm_law _ _ _).symm ?_
  show J (gw 105 XSh cy b μ1 ++ ((o, .inl (cy 4, 1, .inr (.inl f1))) :: gw 14 MSh cy bm ν1)) (ce + 9) (sl + 2282) 789 [(6, .int (zI q)), (5, .int (zI zz)), (0, .ref sb), (1, .ref (b 0)), (2, .ref (bm 0)), (3, .ref o), (4, .int (zI i))] [.int (zI q7)]
  refine j_iload hJ (j := 1) rfl dL_law_789 ?_
  refine j_icmp_eq hJ (tgt := 796) ⟨by omega, by omega⟩ ⟨by omega, by omega⟩ (by decide) dL_law_791 ?_ ?_
  · intro h791
    refine j_iload hJ (j := 1) rfl dL_law_796 ?_
    refine j_if_ne hJ (tgt := 813) ⟨by omega, by omega⟩ (by decide) dL_law_798 ?_ ?_
    · intro h798
      refine j_goto hJ (tgt := 1706) (by decide) dL_law_813 ?_
      refine j_locs hJ [2, 3, 4, 5, 6] rfl ?_
      refine j_widen hJ (ce' := ce + 10) (sl' := sl + 2300) (by omega) (by omega) ?_
      exact hn _ _ _ _ _ _ _ _ hX9 hM9
    · intro hz0
      refine j_aload_n hJ (j := 5) rfl rfl dL_law_801 ?_
      refine j_iconst hJ dL_law_802 ?_
      refine j_laload hJ (q0 := 105) out_at dL_law_803 ?_
      refine j_iload hJ (j := 0) rfl dL_law_804 ?_
      refine j_i2l hJ dL_law_806 ?_
      refine j_lcmp hJ (hv hz0) dL_law_807 ?_
      refine j_if_eq hJ (tgt := 813) ⟨by omega, by omega⟩ (by decide) dL_law_808 ?_ ?_
      · intro h808
        refine j_goto hJ (tgt := 1706) (by decide) dL_law_813 ?_
        refine j_locs hJ [2, 3, 4, 5, 6] rfl ?_
        refine j_widen hJ (ce' := ce + 10) (sl' := sl + 2300) (by omega) (by omega) ?_
        exact hn _ _ _ _ _ _ _ _ hX9 hM9
      · intro h808; exact absurd rfl h808
  · intro h791; exfalso; omega
set_option maxHeartbeats 4000000 in
set_option maxRecDepth 100000 in
theorem cs_lineChar {μ ν : Nat → Int → Int} {n : Nat} {N : Nat → List Int} {ow : Nat → Int} {m : Nat → Nat} {p : Nat → Nat → Int} {g9 : Nat → Int64} {i : Int} {ce sl : Nat} (hfl : l.stackTraces = false) (hJ : Cx l D cy n0 ad RL cL_law 7 (some .boolean) room_1 (AN n0) PR PX (XSL sb L xs n0) fin ET J) (hL : L ≤ 2560) (hi0 : 0 ≤ i) (hi5 : i + 5 ≤ L) (hc0 : ce + 10 ≤ 601024) (hs0 : sl + 2300 ≤ 7293034) (hX : XI μ n N ow m p) (hM : MI ν (μ 1) n N ow m p) (hn : LNx cy b bm o sb (ce + 10) (sl + 2300) i J) : J (gw 105 XSh cy b μ ++ ((o, .inl (cy 4, 1, .inr (.inl g9))) :: gw 14 MSh cy bm ν)) ce sl 816 [(0, .ref sb), (1, .ref (b 0)), (2, .ref (bm 0)), (3, .ref o), (4, .int (zI i))] [] := by
  obtain ⟨s1, e1⟩ : ∃ z, (xs (i + 1).toNat).toInt = z := ⟨_, rfl⟩
  have r1 := inR_s e1
  obtain ⟨s2, e2⟩ : ∃ z, (xs (i + 2).toNat).toInt = z := ⟨_, rfl⟩
  have r2 := inR_s e2
  obtain ⟨x1, x2, -⟩ := id hX
  refine j_aload_n hJ (j := 1) rfl rfl dL_law_816 ?_
  refine j_aload_n hJ (j := 0) rfl rfl dL_law_817 ?_
  refine j_iload hJ (j := 4) rfl dL_law_818 ?_
  refine j_iconst hJ dL_law_820 ?_
  refine j_iadd hJ dL_law_821 ?_
  refine j_sldv hJ e1 (by omega) (by omega) hL dL_law_822 ?_
  refine j_aload_n hJ (j := 0) rfl rfl dL_law_823 ?_
  refine j_iload hJ (j := 4) rfl dL_law_824 ?_
  refine j_iconst hJ dL_law_826 ?_
  refine j_iadd hJ dL_law_827 ?_
  refine j_sldv hJ e2 (by omega) (by omega) hL dL_law_828 ?_
  refine j_aload_n hJ (j := 3) rfl rfl dL_law_829 ?_
  refine j_callSH hJ (fun _ h => h.1) (c_L_lineChar (E := gw 14 MSh cy bm ν) hfl hX r1 r2) mx_L_138 kw_L_lineChar ⟨(Nat.le_of_ble_eq_true rfl), (Nat.le_of_ble_eq_true rfl)⟩ ⟨by show ce + 10 ≤ 601024; omega, by show sl + 2288 ≤ 7293034; omega⟩ (Nat.le_of_ble_eq_true rfl) dL_law_830 rfl ?_
  intro v u hv0
  obtain ⟨zz, μ1, f1, rfl, rfl, h1⟩ := hv0
  show J (gw 105 XSh cy b μ1 ++ ((o, .inl (cy 4, 1, .inr (.inl f1))) :: gw 14 MSh cy bm ν)) (ce + 10) (sl + 2288) 833 [(0, .ref sb), (1, .ref (b 0)), (2, .ref (bm 0)), (3, .ref o), (4, .int (zI i))] [.int (zI zz)]
  refine j_istore hJ (lv' := [(5, .int (zI zz)), (0, .ref sb), (1, .ref (b 0)), (2, .ref (bm 0)), (3, .ref o), (4, .int (zI i))]) (by decide) rfl dL_law_833 ?_
  refine j_aload_n hJ (j := 3) rfl rfl dL_law_835 ?_
  refine j_aload_n hJ (j := 1) rfl rfl dL_law_836 ?_
  refine j_iload hJ (j := 5) rfl dL_law_837 ?_
  refine j_iconst hJ dL_law_839 ?_
  refine j_iadd hJ dL_law_840 ?_
  refine j_sldv hJ e1 (by omega) (by omega) hL dL_law_841 ?_
  refine j_aload_n hJ (j := 1) rfl rfl dL_law_842 ?_
  refine j_iload hJ (j := 5) rfl dL_law_843 ?_
  refine j_iconst hJ dL_law_845 ?_
  refine j_iadd hJ dL_law_846 ?_
  refine j_sldv hJ e2 (by omega) (by omega) hL dL_law_847 ?_
  refine j_perm hJ (perm_law _ _ _) ?_
  show J (gw 14 MSh cy bm ν ++ (gw 105 XSh cy b μ1 ++ [(o, .inl (cy 4, 1, .inr (.inl f1)))])) (ce + 10) (sl + 2288) 848 [(5, .int (zI zz)), (0, .ref sb), (1, .ref (b 0)), (2, .ref (bm 0)), (3, .ref o), (4, .int (zI i))] [.int (zI s2), .int (zI s1), .ref (bm 0)]
  refine j_callV0 hJ (c_X5_lineChar (b := bm) (E := gw 105 XSh cy b μ1 ++ [(o, .inl (cy 4, 1, .inr (.inl f1)))]) hfl hM r1 r2) m_L_140 k_X5_lineChar (rest := []) (q0 := 0) (by rw [gw_get (by decide)]; rfl) rfl ⟨(Nat.le_of_ble_eq_true rfl), (Nat.le_of_ble_eq_true rfl)⟩ ⟨by show (ce + 10) + 0 ≤ 601024; omega, by show (sl + 2288) + 0 ≤ 7293034; omega⟩ (Nat.le_of_ble_eq_true rfl) dL_law_848 rfl ?_
  intro v u hv0
  obtain ⟨q, ν1, rfl, rfl, h2⟩ := hv0
  obtain ⟨ez, z0, z3, hv, n', N', ow', m', p', hX9, hM9⟩ := cb_lineChar (ν := ν) hX r1 r2 h1 h2
  show J (gw 14 MSh cy bm ν1 ++ (gw 105 XSh cy b μ1 ++ [(o, .inl (cy 4, 1, .inr (.inl f1)))])) (ce + 10) (sl + 2288) 851 [(5, .int (zI zz)), (0, .ref sb), (1, .ref (b 0)), (2, .ref (bm 0)), (3, .ref o), (4, .int (zI i))] [.int (zI q)]
  refine j_istore hJ (lv' := [(6, .int (zI q)), (5, .int (zI zz)), (0, .ref sb), (1, .ref (b 0)), (2, .ref (bm 0)), (3, .ref o), (4, .int (zI i))]) (by decide) rfl dL_law_851 ?_
  refine j_aload_n hJ (j := 4) rfl rfl dL_law_853 ?_
  refine j_callV0 hJ (c_X5_thrown (b := bm) (ν := ν1) (E := gw 105 XSh cy b μ1 ++ [(o, .inl (cy 4, 1, .inr (.inl f1)))]) hfl) m_L_99 k_X5_thrown (rest := []) (q0 := 0) (by rw [gw_get (by decide)]; rfl) rfl ⟨(Nat.le_of_ble_eq_true rfl), (Nat.le_of_ble_eq_true rfl)⟩ ⟨by show (ce + 10) + 0 ≤ 601024; omega, by show (sl + 2288) + 0 ≤ 7293034; omega⟩ (Nat.le_of_ble_eq_true rfl) dL_law_854 rfl ?_
  intro v u hv0
  obtain ⟨q7, rfl, rfl, e7⟩ := hv0
  show J (gw 14 MSh cy bm ν1 ++ (gw 105 XSh cy b μ1 ++ [(o, .inl (cy 4, 1, .inr (.inl f1)))])) (ce + 10) (sl + 2288) 857 [(6, .int (zI q)), (5, .int (zI zz)), (0, .ref sb), (1, .ref (b 0)), (2, .ref (bm 0)), (3, .ref o), (4, .int (zI i))] [.int (zI q7)]
  refine j_perm hJ (perm_law _ _ _).symm ?_
  show J (gw 105 XSh cy b μ1 ++ ((o, .inl (cy 4, 1, .inr (.inl f1))) :: gw 14 MSh cy bm ν1)) (ce + 10) (sl + 2288) 857 [(6, .int (zI q)), (5, .int (zI zz)), (0, .ref sb), (1, .ref (b 0)), (2, .ref (bm 0)), (3, .ref o), (4, .int (zI i))] [.int (zI q7)]
  refine j_iload hJ (j := 1) rfl dL_law_857 ?_
  refine j_icmp_eq hJ (tgt := 864) ⟨by omega, by omega⟩ ⟨by omega, by omega⟩ (by decide) dL_law_859 ?_ ?_
  · intro h859
    refine j_iload hJ (j := 1) rfl dL_law_864 ?_
    refine j_if_ne hJ (tgt := 881) ⟨by omega, by omega⟩ (by decide) dL_law_866 ?_ ?_
    · intro h866
      refine j_goto hJ (tgt := 1706) (by decide) dL_law_881 ?_
      refine j_locs hJ [2, 3, 4, 5, 6] rfl ?_
      refine j_widen hJ (ce' := ce + 10) (sl' := sl + 2300) (by omega) (by omega) ?_
      exact hn _ _ _ _ _ _ _ _ hX9 hM9
    · intro hz0
      refine j_aload_n hJ (j := 5) rfl rfl dL_law_869 ?_
      refine j_iconst hJ dL_law_870 ?_
      refine j_laload hJ (q0 := 105) out_at dL_law_871 ?_
      refine j_iload hJ (j := 0) rfl dL_law_872 ?_
      refine j_i2l hJ dL_law_874 ?_
      refine j_lcmp hJ (hv hz0) dL_law_875 ?_
      refine j_if_eq hJ (tgt := 881) ⟨by omega, by omega⟩ (by decide) dL_law_876 ?_ ?_
      · intro h876
        refine j_goto hJ (tgt := 1706) (by decide) dL_law_881 ?_
        refine j_locs hJ [2, 3, 4, 5, 6] rfl ?_
        refine j_widen hJ (ce' := ce + 10) (sl' := sl + 2300) (by omega) (by omega) ?_
        exact hn _ _ _ _ _ _ _ _ hX9 hM9
      · intro h876; exact absurd rfl h876
  · intro h859; exfalso; omega
set_option maxHeartbeats 4000000 in
set_option maxRecDepth 100000 in
theorem cs_trackLength {μ ν : Nat → Int → Int} {n : Nat} {N : Nat → List Int} {ow : Nat → Int} {m : Nat → Nat} {p : Nat → Nat → Int} {g9 : Nat → Int64} {i : Int} {ce sl : Nat} (hfl : l.stackTraces = false) (hJ : Cx l D cy n0 ad RL cL_law 7 (some .boolean) room_1 (AN n0) PR PX (XSL sb L xs n0) fin ET J) (hL : L ≤ 2560) (hi0 : 0 ≤ i) (hi5 : i + 5 ≤ L) (hc0 : ce + 10 ≤ 601024) (hs0 : sl + 2300 ≤ 7293034) (hX : XI μ n N ow m p) (hM : MI ν (μ 1) n N ow m p) (hn : LNx cy b bm o sb (ce + 10) (sl + 2300) i J) : J (gw 105 XSh cy b μ ++ ((o, .inl (cy 4, 1, .inr (.inl g9))) :: gw 14 MSh cy bm ν)) ce sl 884 [(0, .ref sb), (1, .ref (b 0)), (2, .ref (bm 0)), (3, .ref o), (4, .int (zI i))] [] := by
  obtain ⟨s1, e1⟩ : ∃ z, (xs (i + 1).toNat).toInt = z := ⟨_, rfl⟩
  have r1 := inR_s e1
  obtain ⟨x1, x2, -⟩ := id hX
  refine j_aload_n hJ (j := 1) rfl rfl dL_law_884 ?_
  refine j_aload_n hJ (j := 0) rfl rfl dL_law_885 ?_
  refine j_iload hJ (j := 4) rfl dL_law_886 ?_
  refine j_iconst hJ dL_law_888 ?_
  refine j_iadd hJ dL_law_889 ?_
  refine j_sldv hJ e1 (by omega) (by omega) hL dL_law_890 ?_
  refine j_aload_n hJ (j := 3) rfl rfl dL_law_891 ?_
  refine j_callSH hJ (fun _ h => h.1) (c_L_trackLength (E := gw 14 MSh cy bm ν) hfl hX r1) mx_L_141 kw_L_trackLength ⟨(Nat.le_of_ble_eq_true rfl), (Nat.le_of_ble_eq_true rfl)⟩ ⟨by show ce + 1 ≤ 601024; omega, by show sl + 6 ≤ 7293034; omega⟩ (Nat.le_of_ble_eq_true rfl) dL_law_892 rfl ?_
  intro v u hv0
  obtain ⟨zz, μ1, f1, rfl, rfl, h1⟩ := hv0
  show J (gw 105 XSh cy b μ1 ++ ((o, .inl (cy 4, 1, .inr (.inl f1))) :: gw 14 MSh cy bm ν)) (ce + 1) (sl + 6) 895 [(0, .ref sb), (1, .ref (b 0)), (2, .ref (bm 0)), (3, .ref o), (4, .int (zI i))] [.int (zI zz)]
  refine j_istore hJ (lv' := [(5, .int (zI zz)), (0, .ref sb), (1, .ref (b 0)), (2, .ref (bm 0)), (3, .ref o), (4, .int (zI i))]) (by decide) rfl dL_law_895 ?_
  refine j_aload_n hJ (j := 3) rfl rfl dL_law_897 ?_
  refine j_aload_n hJ (j := 1) rfl rfl dL_law_898 ?_
  refine j_iload hJ (j := 5) rfl dL_law_899 ?_
  refine j_iconst hJ dL_law_901 ?_
  refine j_iadd hJ dL_law_902 ?_
  refine j_sldv hJ e1 (by omega) (by omega) hL dL_law_903 ?_
  refine j_perm hJ (perm_law _ _ _) ?_
  show J (gw 14 MSh cy bm ν ++ (gw 105 XSh cy b μ1 ++ [(o, .inl (cy 4, 1, .inr (.inl f1)))])) (ce + 1) (sl + 6) 904 [(5, .int (zI zz)), (0, .ref sb), (1, .ref (b 0)), (2, .ref (bm 0)), (3, .ref o), (4, .int (zI i))] [.int (zI s1), .ref (bm 0)]
  refine j_callV0 hJ (c_X5_trackLength (b := bm) (E := gw 105 XSh cy b μ1 ++ [(o, .inl (cy 4, 1, .inr (.inl f1)))]) hfl hM r1) m_L_143 k_X5_trackLength (rest := []) (q0 := 0) (by rw [gw_get (by decide)]; rfl) rfl ⟨(Nat.le_of_ble_eq_true rfl), (Nat.le_of_ble_eq_true rfl)⟩ ⟨by show (ce + 1) + 0 ≤ 601024; omega, by show (sl + 6) + 0 ≤ 7293034; omega⟩ (Nat.le_of_ble_eq_true rfl) dL_law_904 rfl ?_
  intro v u hv0
  obtain ⟨q, ν1, rfl, rfl, h2⟩ := hv0
  obtain ⟨ez, z0, z3, hv, n', N', ow', m', p', hX9, hM9⟩ := cb_trackLength (ν := ν) hX r1 h1 h2
  show J (gw 14 MSh cy bm ν1 ++ (gw 105 XSh cy b μ1 ++ [(o, .inl (cy 4, 1, .inr (.inl f1)))])) (ce + 1) (sl + 6) 907 [(5, .int (zI zz)), (0, .ref sb), (1, .ref (b 0)), (2, .ref (bm 0)), (3, .ref o), (4, .int (zI i))] [.int (zI q)]
  refine j_istore hJ (lv' := [(6, .int (zI q)), (5, .int (zI zz)), (0, .ref sb), (1, .ref (b 0)), (2, .ref (bm 0)), (3, .ref o), (4, .int (zI i))]) (by decide) rfl dL_law_907 ?_
  refine j_aload_n hJ (j := 4) rfl rfl dL_law_909 ?_
  refine j_callV0 hJ (c_X5_thrown (b := bm) (ν := ν1) (E := gw 105 XSh cy b μ1 ++ [(o, .inl (cy 4, 1, .inr (.inl f1)))]) hfl) m_L_99 k_X5_thrown (rest := []) (q0 := 0) (by rw [gw_get (by decide)]; rfl) rfl ⟨(Nat.le_of_ble_eq_true rfl), (Nat.le_of_ble_eq_true rfl)⟩ ⟨by show (ce + 1) + 0 ≤ 601024; omega, by show (sl + 6) + 0 ≤ 7293034; omega⟩ (Nat.le_of_ble_eq_true rfl) dL_law_910 rfl ?_
  intro v u hv0
  obtain ⟨q7, rfl, rfl, e7⟩ := hv0
  show J (gw 14 MSh cy bm ν1 ++ (gw 105 XSh cy b μ1 ++ [(o, .inl (cy 4, 1, .inr (.inl f1)))])) (ce + 1) (sl + 6) 913 [(6, .int (zI q)), (5, .int (zI zz)), (0, .ref sb), (1, .ref (b 0)), (2, .ref (bm 0)), (3, .ref o), (4, .int (zI i))] [.int (zI q7)]
  refine j_perm hJ (perm_law _ _ _).symm ?_
  show J (gw 105 XSh cy b μ1 ++ ((o, .inl (cy 4, 1, .inr (.inl f1))) :: gw 14 MSh cy bm ν1)) (ce + 1) (sl + 6) 913 [(6, .int (zI q)), (5, .int (zI zz)), (0, .ref sb), (1, .ref (b 0)), (2, .ref (bm 0)), (3, .ref o), (4, .int (zI i))] [.int (zI q7)]
  refine j_iload hJ (j := 1) rfl dL_law_913 ?_
  refine j_icmp_eq hJ (tgt := 920) ⟨by omega, by omega⟩ ⟨by omega, by omega⟩ (by decide) dL_law_915 ?_ ?_
  · intro h915
    refine j_iload hJ (j := 1) rfl dL_law_920 ?_
    refine j_if_ne hJ (tgt := 937) ⟨by omega, by omega⟩ (by decide) dL_law_922 ?_ ?_
    · intro h922
      refine j_goto hJ (tgt := 1706) (by decide) dL_law_937 ?_
      refine j_locs hJ [2, 3, 4, 5, 6] rfl ?_
      refine j_widen hJ (ce' := ce + 10) (sl' := sl + 2300) (by omega) (by omega) ?_
      exact hn _ _ _ _ _ _ _ _ hX9 hM9
    · intro hz0
      refine j_aload_n hJ (j := 5) rfl rfl dL_law_925 ?_
      refine j_iconst hJ dL_law_926 ?_
      refine j_laload hJ (q0 := 105) out_at dL_law_927 ?_
      refine j_iload hJ (j := 0) rfl dL_law_928 ?_
      refine j_i2l hJ dL_law_930 ?_
      refine j_lcmp hJ (hv hz0) dL_law_931 ?_
      refine j_if_eq hJ (tgt := 937) ⟨by omega, by omega⟩ (by decide) dL_law_932 ?_ ?_
      · intro h932
        refine j_goto hJ (tgt := 1706) (by decide) dL_law_937 ?_
        refine j_locs hJ [2, 3, 4, 5, 6] rfl ?_
        refine j_widen hJ (ce' := ce + 10) (sl' := sl + 2300) (by omega) (by omega) ?_
        exact hn _ _ _ _ _ _ _ _ hX9 hM9
      · intro h932; exact absurd rfl h932
  · intro h915; exfalso; omega
set_option maxHeartbeats 4000000 in
set_option maxRecDepth 100000 in
theorem cs_squares {μ ν : Nat → Int → Int} {n : Nat} {N : Nat → List Int} {ow : Nat → Int} {m : Nat → Nat} {p : Nat → Nat → Int} {g9 : Nat → Int64} {i : Int} {ce sl : Nat} (hfl : l.stackTraces = false) (hJ : Cx l D cy n0 ad RL cL_law 7 (some .boolean) room_1 (AN n0) PR PX (XSL sb L xs n0) fin ET J) (hL : L ≤ 2560) (hi0 : 0 ≤ i) (hi5 : i + 5 ≤ L) (hc0 : ce + 10 ≤ 601024) (hs0 : sl + 2300 ≤ 7293034) (hX : XI μ n N ow m p) (hM : MI ν (μ 1) n N ow m p) (hn : LNx cy b bm o sb (ce + 10) (sl + 2300) i J) : J (gw 105 XSh cy b μ ++ ((o, .inl (cy 4, 1, .inr (.inl g9))) :: gw 14 MSh cy bm ν)) ce sl 940 [(0, .ref sb), (1, .ref (b 0)), (2, .ref (bm 0)), (3, .ref o), (4, .int (zI i))] [] := by
  obtain ⟨s1, e1⟩ : ∃ z, (xs (i + 1).toNat).toInt = z := ⟨_, rfl⟩
  have r1 := inR_s e1
  obtain ⟨x1, x2, -⟩ := id hX
  refine j_aload_n hJ (j := 1) rfl rfl dL_law_940 ?_
  refine j_aload_n hJ (j := 0) rfl rfl dL_law_941 ?_
  refine j_iload hJ (j := 4) rfl dL_law_942 ?_
  refine j_iconst hJ dL_law_944 ?_
  refine j_iadd hJ dL_law_945 ?_
  refine j_sldv hJ e1 (by omega) (by omega) hL dL_law_946 ?_
  refine j_aload_n hJ (j := 3) rfl rfl dL_law_947 ?_
  refine j_callSH hJ (fun _ h => h.1) (c_L_squares (E := gw 14 MSh cy bm ν) hfl hX r1) mx_L_144 kw_L_squares ⟨(Nat.le_of_ble_eq_true rfl), (Nat.le_of_ble_eq_true rfl)⟩ ⟨by show ce + 1 ≤ 601024; omega, by show sl + 6 ≤ 7293034; omega⟩ (Nat.le_of_ble_eq_true rfl) dL_law_948 rfl ?_
  intro v u hv0
  obtain ⟨zz, μ1, f1, rfl, rfl, h1⟩ := hv0
  show J (gw 105 XSh cy b μ1 ++ ((o, .inl (cy 4, 1, .inr (.inl f1))) :: gw 14 MSh cy bm ν)) (ce + 1) (sl + 6) 951 [(0, .ref sb), (1, .ref (b 0)), (2, .ref (bm 0)), (3, .ref o), (4, .int (zI i))] [.int (zI zz)]
  refine j_istore hJ (lv' := [(5, .int (zI zz)), (0, .ref sb), (1, .ref (b 0)), (2, .ref (bm 0)), (3, .ref o), (4, .int (zI i))]) (by decide) rfl dL_law_951 ?_
  refine j_aload_n hJ (j := 3) rfl rfl dL_law_953 ?_
  refine j_aload_n hJ (j := 1) rfl rfl dL_law_954 ?_
  refine j_iload hJ (j := 5) rfl dL_law_955 ?_
  refine j_iconst hJ dL_law_957 ?_
  refine j_iadd hJ dL_law_958 ?_
  refine j_sldv hJ e1 (by omega) (by omega) hL dL_law_959 ?_
  refine j_perm hJ (perm_law _ _ _) ?_
  show J (gw 14 MSh cy bm ν ++ (gw 105 XSh cy b μ1 ++ [(o, .inl (cy 4, 1, .inr (.inl f1)))])) (ce + 1) (sl + 6) 960 [(5, .int (zI zz)), (0, .ref sb), (1, .ref (b 0)), (2, .ref (bm 0)), (3, .ref o), (4, .int (zI i))] [.int (zI s1), .ref (bm 0)]
  refine j_callV0 hJ (c_X5_squares (b := bm) (E := gw 105 XSh cy b μ1 ++ [(o, .inl (cy 4, 1, .inr (.inl f1)))]) hfl hM r1) m_L_146 k_X5_squares (rest := []) (q0 := 0) (by rw [gw_get (by decide)]; rfl) rfl ⟨(Nat.le_of_ble_eq_true rfl), (Nat.le_of_ble_eq_true rfl)⟩ ⟨by show (ce + 1) + 0 ≤ 601024; omega, by show (sl + 6) + 0 ≤ 7293034; omega⟩ (Nat.le_of_ble_eq_true rfl) dL_law_960 rfl ?_
  intro v u hv0
  obtain ⟨q, ν1, rfl, rfl, h2⟩ := hv0
  obtain ⟨ez, z0, z3, hv, n', N', ow', m', p', hX9, hM9⟩ := cb_squares (ν := ν) hX r1 h1 h2
  show J (gw 14 MSh cy bm ν1 ++ (gw 105 XSh cy b μ1 ++ [(o, .inl (cy 4, 1, .inr (.inl f1)))])) (ce + 1) (sl + 6) 963 [(5, .int (zI zz)), (0, .ref sb), (1, .ref (b 0)), (2, .ref (bm 0)), (3, .ref o), (4, .int (zI i))] [.int (zI q)]
  refine j_istore hJ (lv' := [(6, .int (zI q)), (5, .int (zI zz)), (0, .ref sb), (1, .ref (b 0)), (2, .ref (bm 0)), (3, .ref o), (4, .int (zI i))]) (by decide) rfl dL_law_963 ?_
  refine j_aload_n hJ (j := 4) rfl rfl dL_law_965 ?_
  refine j_callV0 hJ (c_X5_thrown (b := bm) (ν := ν1) (E := gw 105 XSh cy b μ1 ++ [(o, .inl (cy 4, 1, .inr (.inl f1)))]) hfl) m_L_99 k_X5_thrown (rest := []) (q0 := 0) (by rw [gw_get (by decide)]; rfl) rfl ⟨(Nat.le_of_ble_eq_true rfl), (Nat.le_of_ble_eq_true rfl)⟩ ⟨by show (ce + 1) + 0 ≤ 601024; omega, by show (sl + 6) + 0 ≤ 7293034; omega⟩ (Nat.le_of_ble_eq_true rfl) dL_law_966 rfl ?_
  intro v u hv0
  obtain ⟨q7, rfl, rfl, e7⟩ := hv0
  show J (gw 14 MSh cy bm ν1 ++ (gw 105 XSh cy b μ1 ++ [(o, .inl (cy 4, 1, .inr (.inl f1)))])) (ce + 1) (sl + 6) 969 [(6, .int (zI q)), (5, .int (zI zz)), (0, .ref sb), (1, .ref (b 0)), (2, .ref (bm 0)), (3, .ref o), (4, .int (zI i))] [.int (zI q7)]
  refine j_perm hJ (perm_law _ _ _).symm ?_
  show J (gw 105 XSh cy b μ1 ++ ((o, .inl (cy 4, 1, .inr (.inl f1))) :: gw 14 MSh cy bm ν1)) (ce + 1) (sl + 6) 969 [(6, .int (zI q)), (5, .int (zI zz)), (0, .ref sb), (1, .ref (b 0)), (2, .ref (bm 0)), (3, .ref o), (4, .int (zI i))] [.int (zI q7)]
  refine j_iload hJ (j := 1) rfl dL_law_969 ?_
  refine j_icmp_eq hJ (tgt := 976) ⟨by omega, by omega⟩ ⟨by omega, by omega⟩ (by decide) dL_law_971 ?_ ?_
  · intro h971
    refine j_iload hJ (j := 1) rfl dL_law_976 ?_
    refine j_if_ne hJ (tgt := 993) ⟨by omega, by omega⟩ (by decide) dL_law_978 ?_ ?_
    · intro h978
      refine j_goto hJ (tgt := 1706) (by decide) dL_law_993 ?_
      refine j_locs hJ [2, 3, 4, 5, 6] rfl ?_
      refine j_widen hJ (ce' := ce + 10) (sl' := sl + 2300) (by omega) (by omega) ?_
      exact hn _ _ _ _ _ _ _ _ hX9 hM9
    · intro hz0
      refine j_aload_n hJ (j := 5) rfl rfl dL_law_981 ?_
      refine j_iconst hJ dL_law_982 ?_
      refine j_laload hJ (q0 := 105) out_at dL_law_983 ?_
      refine j_iload hJ (j := 0) rfl dL_law_984 ?_
      refine j_i2l hJ dL_law_986 ?_
      refine j_lcmp hJ (hv hz0) dL_law_987 ?_
      refine j_if_eq hJ (tgt := 993) ⟨by omega, by omega⟩ (by decide) dL_law_988 ?_ ?_
      · intro h988
        refine j_goto hJ (tgt := 1706) (by decide) dL_law_993 ?_
        refine j_locs hJ [2, 3, 4, 5, 6] rfl ?_
        refine j_widen hJ (ce' := ce + 10) (sl' := sl + 2300) (by omega) (by omega) ?_
        exact hn _ _ _ _ _ _ _ _ hX9 hM9
      · intro h988; exact absurd rfl h988
  · intro h971; exfalso; omega
end LCS
