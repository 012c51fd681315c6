set_option maxRecDepth 20000 in
theorem mx_L_147 : MX RL 147 1 yL_runs 3 := ⟨(List.mem_of_getElem? (i := 751) (by decide +kernel)), (List.mem_of_getElem? (i := 58) (by decide +kernel)), ⟨by decide +kernel, by decide +kernel⟩, by decide +kernel, fun h => by omega, fun _ => (List.mem_of_getElem? (i := 752) (by decide +kernel))⟩
set_option maxRecDepth 20000 in
theorem kw_L_runs : Cond.codeWith yL_runs cL_runs 4 (some .int) [(0, 9, 12, 21)] ∈ GT := (List.mem_of_getElem? (i := 753) (by decide +kernel))
set_option maxRecDepth 20000 in
theorem m_L_149 : MF RL 149 0 yX5_runs 1 := ⟨Or.inl (List.mem_of_getElem? (i := 1061) (by decide +kernel)), (List.mem_of_getElem? (i := 63) (by decide +kernel)), ⟨by decide +kernel, by decide +kernel⟩, by decide +kernel, fun _ => ⟨(List.mem_of_getElem? (i := 1062) (by decide +kernel)), (List.mem_of_getElem? (i := 1063) (by decide +kernel))⟩, fun h => by omega, fun h => by omega⟩
set_option maxRecDepth 20000 in
theorem k_X5_runs : Cond.code yX5_runs cX5_runs 4 (some .int) ∈ GT := (List.mem_of_getElem? (i := 1064) (by decide +kernel))
set_option maxRecDepth 20000 in
theorem mx_L_150 : MX RL 150 1 yL_isOn 5 := ⟨(List.mem_of_getElem? (i := 762) (by decide +kernel)), (List.mem_of_getElem? (i := 58) (by decide +kernel)), ⟨by decide +kernel, by decide +kernel⟩, by decide +kernel, fun h => by omega, fun _ => (List.mem_of_getElem? (i := 763) (by decide +kernel))⟩
set_option maxRecDepth 20000 in
theorem kw_L_isOn : Cond.codeWith yL_isOn cL_isOn 6 (some .int) [(0, 19, 22, 21)] ∈ GT := (List.mem_of_getElem? (i := 764) (by decide +kernel))
set_option maxRecDepth 20000 in
theorem m_L_152 : MF RL 152 0 yX5_isOn 3 := ⟨Or.inl (List.mem_of_getElem? (i := 1065) (by decide +kernel)), (List.mem_of_getElem? (i := 63) (by decide +kernel)), ⟨by decide +kernel, by decide +kernel⟩, by decide +kernel, fun _ => ⟨(List.mem_of_getElem? (i := 1066) (by decide +kernel)), (List.mem_of_getElem? (i := 1067) (by decide +kernel))⟩, fun h => by omega, fun h => by omega⟩
set_option maxRecDepth 20000 in
theorem mx_L_153 : MX RL 153 1 yL_isOnTrack 5 := ⟨(List.mem_of_getElem? (i := 770) (by decide +kernel)), (List.mem_of_getElem? (i := 58) (by decide +kernel)), ⟨by decide +kernel, by decide +kernel⟩, by decide +kernel, fun h => by omega, fun _ => (List.mem_of_getElem? (i := 771) (by decide +kernel))⟩
set_option maxRecDepth 20000 in
theorem kw_L_isOnTrack : Cond.codeWith yL_isOnTrack cL_isOnTrack 6 (some .int) [(0, 19, 22, 21)] ∈ GT := (List.mem_of_getElem? (i := 772) (by decide +kernel))
set_option maxRecDepth 20000 in
theorem m_L_155 : MF RL 155 0 yX5_isOnTrack 3 := ⟨Or.inl (List.mem_of_getElem? (i := 1069) (by decide +kernel)), (List.mem_of_getElem? (i := 63) (by decide +kernel)), ⟨by decide +kernel, by decide +kernel⟩, by decide +kernel, fun _ => ⟨(List.mem_of_getElem? (i := 1070) (by decide +kernel)), (List.mem_of_getElem? (i := 1071) (by decide +kernel))⟩, fun h => by omega, fun h => by omega⟩
set_option maxRecDepth 20000 in
theorem k_X5_isOnTrack : Cond.code yX5_isOnTrack cX5_isOnTrack 4 (some .boolean) ∈ GT := (List.mem_of_getElem? (i := 1072) (by decide +kernel))
set_option maxRecDepth 20000 in
theorem mx_L_156 : MX RL 156 1 yL_streetsOf 4 := ⟨(List.mem_of_getElem? (i := 782) (by decide +kernel)), (List.mem_of_getElem? (i := 58) (by decide +kernel)), ⟨by decide +kernel, by decide +kernel⟩, by decide +kernel, fun h => by omega, fun _ => (List.mem_of_getElem? (i := 783) (by decide +kernel))⟩
set_option maxRecDepth 20000 in
theorem kw_L_streetsOf : Cond.codeWith yL_streetsOf cL_streetsOf 5 (some .int) [(0, 10, 13, 21)] ∈ GT := (List.mem_of_getElem? (i := 784) (by decide +kernel))
set_option maxRecDepth 20000 in
theorem m_L_158 : MF RL 158 0 yX5_streetsOf 2 := ⟨Or.inl (List.mem_of_getElem? (i := 1074) (by decide +kernel)), (List.mem_of_getElem? (i := 63) (by decide +kernel)), ⟨by decide +kernel, by decide +kernel⟩, by decide +kernel, fun _ => ⟨(List.mem_of_getElem? (i := 1075) (by decide +kernel)), (List.mem_of_getElem? (i := 1076) (by decide +kernel))⟩, fun h => by omega, fun h => by omega⟩
set_option maxRecDepth 20000 in
theorem k_X5_streetsOf : Cond.code yX5_streetsOf cX5_streetsOf 6 (some .int) ∈ GT := (List.mem_of_getElem? (i := 1077) (by decide +kernel))
set_option maxRecDepth 20000 in
theorem mx_L_159 : MX RL 159 1 yL_distance 5 := ⟨(List.mem_of_getElem? (i := 789) (by decide +kernel)), (List.mem_of_getElem? (i := 58) (by decide +kernel)), ⟨by decide +kernel, by decide +kernel⟩, by decide +kernel, fun h => by omega, fun _ => (List.mem_of_getElem? (i := 790) (by decide +kernel))⟩
set_option maxRecDepth 20000 in
theorem kw_L_distance : Cond.codeWith yL_distance cL_distance 6 (some .int) [(0, 12, 15, 21)] ∈ GT := (List.mem_of_getElem? (i := 791) (by decide +kernel))
set_option maxRecDepth 20000 in
theorem m_L_161 : MF RL 161 0 yX5_distance 3 := ⟨Or.inl (List.mem_of_getElem? (i := 1078) (by decide +kernel)), (List.mem_of_getElem? (i := 63) (by decide +kernel)), ⟨by decide +kernel, by decide +kernel⟩, by decide +kernel, fun _ => ⟨(List.mem_of_getElem? (i := 1079) (by decide +kernel)), (List.mem_of_getElem? (i := 1080) (by decide +kernel))⟩, fun h => by omega, fun h => by omega⟩
set_option maxRecDepth 20000 in
theorem k_X5_distance : Cond.code yX5_distance cX5_distance 5 (some .int) ∈ GT := (List.mem_of_getElem? (i := 1081) (by decide +kernel))
set_option maxRecDepth 20000 in
theorem mx_L_162 : MX RL 162 1 yL_nearest 5 := ⟨(List.mem_of_getElem? (i := 801) (by decide +kernel)), (List.mem_of_getElem? (i := 58) (by decide +kernel)), ⟨by decide +kernel, by decide +kernel⟩, by decide +kernel, fun h => by omega, fun _ => (List.mem_of_getElem? (i := 802) (by decide +kernel))⟩
set_option maxRecDepth 20000 in
theorem kw_L_nearest : Cond.codeWith yL_nearest cL_nearest 6 (some .int) [(0, 12, 15, 21)] ∈ GT := (List.mem_of_getElem? (i := 803) (by decide +kernel))
set_option maxRecDepth 20000 in
theorem m_L_164 : MF RL 164 0 yX5_nearest 3 := ⟨Or.inl (List.mem_of_getElem? (i := 1092) (by decide +kernel)), (List.mem_of_getElem? (i := 63) (by decide +kernel)), ⟨by decide +kernel, by decide +kernel⟩, by decide +kernel, fun _ => ⟨(List.mem_of_getElem? (i := 1093) (by decide +kernel)), (List.mem_of_getElem? (i := 1094) (by decide +kernel))⟩, fun h => by omega, fun h => by omega⟩
set_option maxRecDepth 20000 in
theorem k_X5_nearest : Cond.code yX5_nearest cX5_nearest 4 (some .int) ∈ GT := (List.mem_of_getElem? (i := 1095) (by decide +kernel))
set_option maxRecDepth 20000 in
theorem mx_L_165 : MX RL 165 1 yL_walk 6 := ⟨(List.mem_of_getElem? (i := 808) (by decide +kernel)), (List.mem_of_getElem? (i := 58) (by decide +kernel)), ⟨by decide +kernel, by decide +kernel⟩, by decide +kernel, fun h => by omega, fun _ => (List.mem_of_getElem? (i := 809) (by decide +kernel))⟩
set_option maxRecDepth 20000 in
theorem kw_L_walk : Cond.codeWith yL_walk cL_walk 7 (some .int) [(0, 14, 17, 21)] ∈ GT := (List.mem_of_getElem? (i := 810) (by decide +kernel))
set_option maxRecDepth 20000 in
theorem m_L_168 : MF RL 168 0 yX5_walk 4 := ⟨Or.inl (List.mem_of_getElem? (i := 1096) (by decide +kernel)), (List.mem_of_getElem? (i := 63) (by decide +kernel)), ⟨by decide +kernel, by decide +kernel⟩, by decide +kernel, fun _ => ⟨(List.mem_of_getElem? (i := 1097) (by decide +kernel)), (List.mem_of_getElem? (i := 1098) (by decide +kernel))⟩, fun h => by omega, fun h => by omega⟩
set_option maxRecDepth 20000 in
theorem mx_L_169 : MX RL 169 1 yL_walkByRounds 6 := ⟨(List.mem_of_getElem? (i := 840) (by decide +kernel)), (List.mem_of_getElem? (i := 58) (by decide +kernel)), ⟨by decide +kernel, by decide +kernel⟩, by decide +kernel, fun h => by omega, fun _ => (List.mem_of_getElem? (i := 841) (by decide +kernel))⟩
set_option maxRecDepth 20000 in
theorem kw_L_walkByRounds : Cond.codeWith yL_walkByRounds cL_walkByRounds 7 (some .int) [(0, 14, 17, 21)] ∈ GT := (List.mem_of_getElem? (i := 842) (by decide +kernel))
set_option maxRecDepth 20000 in
theorem m_L_171 : MF RL 171 0 yX5_walkByRounds 4 := ⟨Or.inl (List.mem_of_getElem? (i := 1109) (by decide +kernel)), (List.mem_of_getElem? (i := 63) (by decide +kernel)), ⟨by decide +kernel, by decide +kernel⟩, by decide +kernel, fun _ => ⟨(List.mem_of_getElem? (i := 1110) (by decide +kernel)), (List.mem_of_getElem? (i := 1111) (by decide +kernel))⟩, fun h => by omega, fun h => by omega⟩
set_option maxRecDepth 20000 in
theorem k_X5_walkByRounds : Cond.code yX5_walkByRounds cX5_walkByRounds 5 (some .int) ∈ GT := (List.mem_of_getElem? (i := 1112) (by decide +kernel))
set_option maxRecDepth 20000 in
theorem mx_L_172 : MX RL 172 1 yL_reachable 4 := ⟨(List.mem_of_getElem? (i := 859) (by decide +kernel)), (List.mem_of_getElem? (i := 58) (by decide +kernel)), ⟨by decide +kernel, by decide +kernel⟩, by decide +kernel, fun h => by omega, fun _ => (List.mem_of_getElem? (i := 860) (by decide +kernel))⟩
set_option maxRecDepth 20000 in
theorem kw_L_reachable : Cond.codeWith yL_reachable cL_reachable 5 (some .int) [(0, 10, 13, 21)] ∈ GT := (List.mem_of_getElem? (i := 861) (by decide +kernel))
set_option maxRecDepth 20000 in
theorem m_L_174 : MF RL 174 0 yX5_reachable 2 := ⟨Or.inl (List.mem_of_getElem? (i := 1114) (by decide +kernel)), (List.mem_of_getElem? (i := 63) (by decide +kernel)), ⟨by decide +kernel, by decide +kernel⟩, by decide +kernel, fun _ => ⟨(List.mem_of_getElem? (i := 1115) (by decide +kernel)), (List.mem_of_getElem? (i := 1116) (by decide +kernel))⟩, fun h => by omega, fun h => by omega⟩
set_option maxRecDepth 20000 in
theorem k_X5_reachable : Cond.code yX5_reachable cX5_reachable 5 (some .int) ∈ GT := (List.mem_of_getElem? (i := 1117) (by decide +kernel))
section LCS
variable {l : Launch} {D : va_G} {cy : Nat → ClassId} {n0 : Nat} {ad : Nat → Nat} {PR : Option Value → va_W → Prop} {PX : String → va_W → Prop} {fin : Bool} {ET : List ExceptionTableEntry} {J : JT} {b bm : Nat → Nat} {o sb L : Nat} {xs : Nat → Int32}
set_option maxHeartbeats 4000000 in
set_option maxRecDepth 100000 in
theorem cs_runs {μ ν : Nat → Int → Int} {n : Nat} {N : Nat → List Int} {ow : Nat → Int} {m : Nat → Nat} {p : Nat → Nat → Int} {g9 : Nat → Int64} {i : Int} {ce sl : Nat} (hfl : l.stackTraces = false) (hJ : Cx l D cy n0 ad RL cL_law 7 (some .boolean) room_1 (AN n0) PR PX (XSL sb L xs n0) fin ET J) (hL : L ≤ 2560) (hi0 : 0 ≤ i) (hi5 : i + 5 ≤ L) (hc0 : ce + 10 ≤ 601024) (hs0 : sl + 2300 ≤ 7293034) (hX : XI μ n N ow m p) (hM : MI ν (μ 1) n N ow m p) (hn : LNx cy b bm o sb (ce + 10) (sl + 2300) i J) : J (gw 105 XSh cy b μ ++ ((o, .inl (cy 4, 1, .inr (.inl g9))) :: gw 14 MSh cy bm ν)) ce sl 996 [(0, .ref sb), (1, .ref (b 0)), (2, .ref (bm 0)), (3, .ref o), (4, .int (zI i))] [] := by
  obtain ⟨s1, e1⟩ : ∃ z, (xs (i + 1).toNat).toInt = z := ⟨_, rfl⟩
  have r1 := inR_s e1
  obtain ⟨x1, x2, -⟩ := id hX
  refine j_aload_n hJ (j := 1) rfl rfl dL_law_996 ?_
  refine j_aload_n hJ (j := 0) rfl rfl dL_law_997 ?_
  refine j_iload hJ (j := 4) rfl dL_law_998 ?_
  refine j_iconst hJ dL_law_1000 ?_
  refine j_iadd hJ dL_law_1001 ?_
  refine j_sldv hJ e1 (by omega) (by omega) hL dL_law_1002 ?_
  refine j_aload_n hJ (j := 3) rfl rfl dL_law_1003 ?_
  refine j_callSH hJ (fun _ h => h.1) (c_L_runs (E := gw 14 MSh cy bm ν) hfl hX r1) mx_L_147 kw_L_runs ⟨(Nat.le_of_ble_eq_true rfl), (Nat.le_of_ble_eq_true rfl)⟩ ⟨by show ce + 1 ≤ 601024; omega, by show sl + 6 ≤ 7293034; omega⟩ (Nat.le_of_ble_eq_true rfl) dL_law_1004 rfl ?_
  intro v u hv0
  obtain ⟨zz, μ1, f1, rfl, rfl, h1⟩ := hv0
  show J (gw 105 XSh cy b μ1 ++ ((o, .inl (cy 4, 1, .inr (.inl f1))) :: gw 14 MSh cy bm ν)) (ce + 1) (sl + 6) 1007 [(0, .ref sb), (1, .ref (b 0)), (2, .ref (bm 0)), (3, .ref o), (4, .int (zI i))] [.int (zI zz)]
  refine j_istore hJ (lv' := [(5, .int (zI zz)), (0, .ref sb), (1, .ref (b 0)), (2, .ref (bm 0)), (3, .ref o), (4, .int (zI i))]) (by decide) rfl dL_law_1007 ?_
  refine j_aload_n hJ (j := 3) rfl rfl dL_law_1009 ?_
  refine j_aload_n hJ (j := 1) rfl rfl dL_law_1010 ?_
  refine j_iload hJ (j := 5) rfl dL_law_1011 ?_
  refine j_iconst hJ dL_law_1013 ?_
  refine j_iadd hJ dL_law_1014 ?_
  refine j_sldv hJ e1 (by omega) (by omega) hL dL_law_1015 ?_
  refine j_perm hJ (perm_law _ _ _) ?_
  show J (gw 14 MSh cy bm ν ++ (gw 105 XSh cy b μ1 ++ [(o, .inl (cy 4, 1, .inr (.inl f1)))])) (ce + 1) (sl + 6) 1016 [(5, .int (zI zz)), (0, .ref sb), (1, .ref (b 0)), (2, .ref (bm 0)), (3, .ref o), (4, .int (zI i))] [.int (zI s1), .ref (bm 0)]
  refine j_callV0 hJ (c_X5_runs (b := bm) (E := gw 105 XSh cy b μ1 ++ [(o, .inl (cy 4, 1, .inr (.inl f1)))]) hfl hM r1) m_L_149 k_X5_runs (rest := []) (q0 := 0) (by rw [gw_get (by decide)]; rfl) rfl ⟨(Nat.le_of_ble_eq_true rfl), (Nat.le_of_ble_eq_true rfl)⟩ ⟨by show (ce + 1) + 0 ≤ 601024; omega, by show (sl + 6) + 0 ≤ 7293034; omega⟩ (Nat.le_of_ble_eq_true rfl) dL_law_1016 rfl ?_
  intro v u hv0
  obtain ⟨q, ν1, rfl, rfl, h2⟩ := hv0
  obtain ⟨ez, z0, z3, hv, n', N', ow', m', p', hX9, hM9⟩ := cb_runs (ν := ν) hX r1 h1 h2
  show J (gw 14 MSh cy bm ν1 ++ (gw 105 XSh cy b μ1 ++ [(o, .inl (cy 4, 1, .inr (.inl f1)))])) (ce + 1) (sl + 6) 1019 [(5, .int (zI zz)), (0, .ref sb), (1, .ref (b 0)), (2, .ref (bm 0)), (3, .ref o), (4, .int (zI i))] [.int (zI q)]
  refine j_istore hJ (lv' := [(6, .int (zI q)), (5, .int (zI zz)), (0, .ref sb), (1, .ref (b 0)), (2, .ref (bm 0)), (3, .ref o), (4, .int (zI i))]) (by decide) rfl dL_law_1019 ?_
  refine j_aload_n hJ (j := 4) rfl rfl dL_law_1021 ?_
  refine j_callV0 hJ (c_X5_thrown (b := bm) (ν := ν1) (E := gw 105 XSh cy b μ1 ++ [(o, .inl (cy 4, 1, .inr (.inl f1)))]) hfl) m_L_99 k_X5_thrown (rest := []) (q0 := 0) (by rw [gw_get (by decide)]; rfl) rfl ⟨(Nat.le_of_ble_eq_true rfl), (Nat.le_of_ble_eq_true rfl)⟩ ⟨by show (ce + 1) + 0 ≤ 601024; omega, by show (sl + 6) + 0 ≤ 7293034; omega⟩ (Nat.le_of_ble_eq_true rfl) dL_law_1022 rfl ?_
  intro v u hv0
  obtain ⟨q7, rfl, rfl, e7⟩ := hv0
  show J (gw 14 MSh cy bm ν1 ++ (gw 105 XSh cy b μ1 ++ [(o, .inl (cy 4, 1, .inr (.inl f1)))])) (ce + 1) (sl + 6) 1025 [(6, .int (zI q)), (5, .int (zI zz)), (0, .ref sb), (1, .ref (b 0)), (2, .ref (bm 0)), (3, .ref o), (4, .int (zI i))] [.int (zI q7)]
  refine j_perm hJ (perm_law _ _ _).symm ?_
  show J (gw 105 XSh cy b μ1 ++ ((o, .inl (cy 4, 1, .inr (.inl f1))) :: gw 14 MSh cy bm ν1)) (ce + 1) (sl + 6) 1025 [(6, .int (zI q)), (5, .int (zI zz)), (0, .ref sb), (1, .ref (b 0)), (2, .ref (bm 0)), (3, .ref o), (4, .int (zI i))] [.int (zI q7)]
  refine j_iload hJ (j := 1) rfl dL_law_1025 ?_
  refine j_icmp_eq hJ (tgt := 1032) ⟨by omega, by omega⟩ ⟨by omega, by omega⟩ (by decide) dL_law_1027 ?_ ?_
  · intro h1027
    refine j_iload hJ (j := 1) rfl dL_law_1032 ?_
    refine j_if_ne hJ (tgt := 1049) ⟨by omega, by omega⟩ (by decide) dL_law_1034 ?_ ?_
    · intro h1034
      refine j_goto hJ (tgt := 1706) (by decide) dL_law_1049 ?_
      refine j_locs hJ [2, 3, 4, 5, 6] rfl ?_
      refine j_widen hJ (ce' := ce + 10) (sl' := sl + 2300) (by omega) (by omega) ?_
      exact hn _ _ _ _ _ _ _ _ hX9 hM9
    · intro hz0
      refine j_aload_n hJ (j := 5) rfl rfl dL_law_1037 ?_
      refine j_iconst hJ dL_law_1038 ?_
      refine j_laload hJ (q0 := 105) out_at dL_law_1039 ?_
      refine j_iload hJ (j := 0) rfl dL_law_1040 ?_
      refine j_i2l hJ dL_law_1042 ?_
      refine j_lcmp hJ (hv hz0) dL_law_1043 ?_
      refine j_if_eq hJ (tgt := 1049) ⟨by omega, by omega⟩ (by decide) dL_law_1044 ?_ ?_
      · intro h1044
        refine j_goto hJ (tgt := 1706) (by decide) dL_law_1049 ?_
        refine j_locs hJ [2, 3, 4, 5, 6] rfl ?_
        refine j_widen hJ (ce' := ce + 10) (sl' := sl + 2300) (by omega) (by omega) ?_
        exact hn _ _ _ _ _ _ _ _ hX9 hM9
      · intro h1044; exact absurd rfl h1044
  · intro h1027; exfalso; omega
set_option maxHeartbeats 4000000 in
set_option maxRecDepth 100000 in
theorem cs_isOn {μ ν : Nat → Int → Int} {n : Nat} {N : Nat → List Int} {ow : Nat → Int} {m : Nat → Nat} {p : Nat → Nat → Int} {g9 : Nat → Int64} {i : Int} {ce sl : Nat} (hfl : l.stackTraces = false) (hJ : Cx l D cy n0 ad RL cL_law 7 (some .boolean) room_1 (AN n0) PR PX (XSL sb L xs n0) fin ET J) (hL : L ≤ 2560) (hi0 : 0 ≤ i) (hi5 : i + 5 ≤ L) (hc0 : ce + 10 ≤ 601024) (hs0 : sl + 2300 ≤ 7293034) (hX : XI μ n N ow m p) (hM : MI ν (μ 1) n N ow m p) (hn : LNx cy b bm o sb (ce + 10) (sl + 2300) i J) : J (gw 105 XSh cy b μ ++ ((o, .inl (cy 4, 1, .inr (.inl g9))) :: gw 14 MSh cy bm ν)) ce sl 1052 [(0, .ref sb), (1, .ref (b 0)), (2, .ref (bm 0)), (3, .ref o), (4, .int (zI i))] [] := by
  obtain ⟨s1, e1⟩ : ∃ z, (xs (i + 1).toNat).toInt = z := ⟨_, rfl⟩
  have r1 := inR_s e1
  obtain ⟨s2, e2⟩ : ∃ z, (xs (i + 2).toNat).toInt = z := ⟨_, rfl⟩
  have r2 := inR_s e2
  obtain ⟨s3, e3⟩ : ∃ z, (xs (i + 3).toNat).toInt = z := ⟨_, rfl⟩
  have r3 := inR_s e3
  obtain ⟨x1, x2, -⟩ := id hX
  refine j_aload_n hJ (j := 1) rfl rfl dL_law_1052 ?_
  refine j_aload_n hJ (j := 0) rfl rfl dL_law_1053 ?_
  refine j_iload hJ (j := 4) rfl dL_law_1054 ?_
  refine j_iconst hJ dL_law_1056 ?_
  refine j_iadd hJ dL_law_1057 ?_
  refine j_sldv hJ e1 (by omega) (by omega) hL dL_law_1058 ?_
  refine j_aload_n hJ (j := 0) rfl rfl dL_law_1059 ?_
  refine j_iload hJ (j := 4) rfl dL_law_1060 ?_
  refine j_iconst hJ dL_law_1062 ?_
  refine j_iadd hJ dL_law_1063 ?_
  refine j_sldv hJ e2 (by omega) (by omega) hL dL_law_1064 ?_
  refine j_aload_n hJ (j := 0) rfl rfl dL_law_1065 ?_
  refine j_iload hJ (j := 4) rfl dL_law_1066 ?_
  refine j_iconst hJ dL_law_1068 ?_
  refine j_iadd hJ dL_law_1069 ?_
  refine j_sldv hJ e3 (by omega) (by omega) hL dL_law_1070 ?_
  refine j_aload_n hJ (j := 3) rfl rfl dL_law_1071 ?_
  refine j_callSH hJ (fun _ h => h.1) (c_L_isOn (E := gw 14 MSh cy bm ν) hfl hX r1 r2 r3) mx_L_150 kw_L_isOn ⟨(Nat.le_of_ble_eq_true rfl), (Nat.le_of_ble_eq_true rfl)⟩ ⟨by show ce + 2 ≤ 601024; omega, by show sl + 12 ≤ 7293034; omega⟩ (Nat.le_of_ble_eq_true rfl) dL_law_1072 rfl ?_
  intro v u hv0
  obtain ⟨zz, μ1, f1, rfl, rfl, h1⟩ := hv0
  show J (gw 105 XSh cy b μ1 ++ ((o, .inl (cy 4, 1, .inr (.inl f1))) :: gw 14 MSh cy bm ν)) (ce + 2) (sl + 12) 1075 [(0, .ref sb), (1, .ref (b 0)), (2, .ref (bm 0)), (3, .ref o), (4, .int (zI i))] [.int (zI zz)]
  refine j_istore hJ (lv' := [(5, .int (zI zz)), (0, .ref sb), (1, .ref (b 0)), (2, .ref (bm 0)), (3, .ref o), (4, .int (zI i))]) (by decide) rfl dL_law_1075 ?_
  refine j_aload_n hJ (j := 3) rfl rfl dL_law_1077 ?_
  refine j_aload_n hJ (j := 1) rfl rfl dL_law_1078 ?_
  refine j_iload hJ (j := 5) rfl dL_law_1079 ?_
  refine j_iconst hJ dL_law_1081 ?_
  refine j_iadd hJ dL_law_1082 ?_
  refine j_sldv hJ e1 (by omega) (by omega) hL dL_law_1083 ?_
  refine j_aload_n hJ (j := 1) rfl rfl dL_law_1084 ?_
  refine j_iload hJ (j := 5) rfl dL_law_1085 ?_
  refine j_iconst hJ dL_law_1087 ?_
  refine j_iadd hJ dL_law_1088 ?_
  refine j_sldv hJ e2 (by omega) (by omega) hL dL_law_1089 ?_
  refine j_aload_n hJ (j := 1) rfl rfl dL_law_1090 ?_
  refine j_iload hJ (j := 5) rfl dL_law_1091 ?_
  refine j_iconst hJ dL_law_1093 ?_
  refine j_iadd hJ dL_law_1094 ?_
  refine j_sldv hJ e3 (by omega) (by omega) hL dL_law_1095 ?_
  refine j_perm hJ (perm_law _ _ _) ?_
  show J (gw 14 MSh cy bm ν ++ (gw 105 XSh cy b μ1 ++ [(o, .inl (cy 4, 1, .inr (.inl f1)))])) (ce + 2) (sl + 12) 1096 [(5, .int (zI zz)), (0, .ref sb), (1, .ref (b 0)), (2, .ref (bm 0)), (3, .ref o), (4, .int (zI i))] [.int (zI s3), .int (zI s2), .int (zI s1), .ref (bm 0)]
  refine j_callV0 hJ (c_X5_isOn (b := bm) (E := gw 105 XSh cy b μ1 ++ [(o, .inl (cy 4, 1, .inr (.inl f1)))]) hfl hM r1 r2 r3) m_L_152 k_X5_isOn (rest := []) (q0 := 0) (by rw [gw_get (by decide)]; rfl) rfl ⟨(Nat.le_of_ble_eq_true rfl), (Nat.le_of_ble_eq_true rfl)⟩ ⟨by show (ce + 2) + 0 ≤ 601024; omega, by show (sl + 12) + 0 ≤ 7293034; omega⟩ (Nat.le_of_ble_eq_true rfl) dL_law_1096 rfl ?_
  intro v u hv0
  obtain ⟨q, ν1, rfl, rfl, h2⟩ := hv0
  obtain ⟨ez, z0, z3, hv, n', N', ow', m', p', hX9, hM9⟩ := cb_isOn (ν := ν) hX r1 r2 r3 h1 h2
  show J (gw 14 MSh cy bm ν1 ++ (gw 105 XSh cy b μ1 ++ [(o, .inl (cy 4, 1, .inr (.inl f1)))])) (ce + 2) (sl + 12) 1099 [(5, .int (zI zz)), (0, .ref sb), (1, .ref (b 0)), (2, .ref (bm 0)), (3, .ref o), (4, .int (zI i))] [.int (zI q)]
  refine j_istore hJ (lv' := [(6, .int (zI q)), (5, .int (zI zz)), (0, .ref sb), (1, .ref (b 0)), (2, .ref (bm 0)), (3, .ref o), (4, .int (zI i))]) (by decide) rfl dL_law_1099 ?_
  refine j_aload_n hJ (j := 4) rfl rfl dL_law_1101 ?_
  refine j_callV0 hJ (c_X5_thrown (b := bm) (ν := ν1) (E := gw 105 XSh cy b μ1 ++ [(o, .inl (cy 4, 1, .inr (.inl f1)))]) hfl) m_L_99 k_X5_thrown (rest := []) (q0 := 0) (by rw [gw_get (by decide)]; rfl) rfl ⟨(Nat.le_of_ble_eq_true rfl), (Nat.le_of_ble_eq_true rfl)⟩ ⟨by show (ce + 2) + 0 ≤ 601024; omega, by show (sl + 12) + 0 ≤ 7293034; omega⟩ (Nat.le_of_ble_eq_true rfl) dL_law_1102 rfl ?_
  intro v u hv0
  obtain ⟨q7, rfl, rfl, e7⟩ := hv0
  show J (gw 14 MSh cy bm ν1 ++ (gw 105 XSh cy b μ1 ++ [(o, .inl (cy 4, 1, .inr (.inl f1)))])) (ce + 2) (sl + 12) 1105 [(6, .int (zI q)), (5, .int (zI zz)), (0, .ref sb), (1, .ref (b 0)), (2, .ref (bm 0)), (3, .ref o), (4, .int (zI i))] [.int (zI q7)]
  refine j_perm hJ (perm_law _ _ _).symm ?_
  show J (gw 105 XSh cy b μ1 ++ ((o, .inl (cy 4, 1, .inr (.inl f1))) :: gw 14 MSh cy bm ν1)) (ce + 2) (sl + 12) 1105 [(6, .int (zI q)), (5, .int (zI zz)), (0, .ref sb), (1, .ref (b 0)), (2, .ref (bm 0)), (3, .ref o), (4, .int (zI i))] [.int (zI q7)]
  refine j_iload hJ (j := 1) rfl dL_law_1105 ?_
  refine j_icmp_eq hJ (tgt := 1112) ⟨by omega, by omega⟩ ⟨by omega, by omega⟩ (by decide) dL_law_1107 ?_ ?_
  · intro h1107
    refine j_iload hJ (j := 1) rfl dL_law_1112 ?_
    refine j_if_ne hJ (tgt := 1136) ⟨by omega, by omega⟩ (by decide) dL_law_1114 ?_ ?_
    · intro h1114
      refine j_goto hJ (tgt := 1706) (by decide) dL_law_1136 ?_
      refine j_locs hJ [2, 3, 4, 5, 6] rfl ?_
      refine j_widen hJ (ce' := ce + 10) (sl' := sl + 2300) (by omega) (by omega) ?_
      exact hn _ _ _ _ _ _ _ _ hX9 hM9
    · intro hz0
      refine j_aload_n hJ (j := 5) rfl rfl dL_law_1117 ?_
      refine j_iconst hJ dL_law_1118 ?_
      refine j_laload hJ (q0 := 105) out_at dL_law_1119 ?_
      refine j_iload hJ (j := 0) rfl dL_law_1120 ?_
      refine j_if_eq hJ (tgt := 1129) ⟨by omega, by omega⟩ (by decide) dL_law_1122 ?_ ?_
      · intro hqv
        refine j_lconst (n := 0) (v := (zI q).toInt64) hJ (by rw [hqv]; rfl) dL_law_1129 ?_
        refine j_lcmp hJ (hv hz0).1 dL_law_1130 ?_
        refine j_if_eq hJ (tgt := 1136) ⟨by omega, by omega⟩ (by decide) dL_law_1131 ?_ ?_
        · intro h1131
          refine j_goto hJ (tgt := 1706) (by decide) dL_law_1136 ?_
          refine j_locs hJ [2, 3, 4, 5, 6] rfl ?_
          refine j_widen hJ (ce' := ce + 10) (sl' := sl + 2300) (by omega) (by omega) ?_
          exact hn _ _ _ _ _ _ _ _ hX9 hM9
        · intro h1131; exact absurd rfl h1131
      · intro h1122
        have hqv : q = 1 := by have := (hv hz0).2; omega
        refine j_lconst (n := 1) (v := (zI q).toInt64) hJ (by rw [hqv]; rfl) dL_law_1125 ?_
        refine j_goto hJ (tgt := 1130) (by decide) dL_law_1126 ?_
        refine j_lcmp hJ (hv hz0).1 dL_law_1130 ?_
        refine j_if_eq hJ (tgt := 1136) ⟨by omega, by omega⟩ (by decide) dL_law_1131 ?_ ?_
        · intro h1131
          refine j_goto hJ (tgt := 1706) (by decide) dL_law_1136 ?_
          refine j_locs hJ [2, 3, 4, 5, 6] rfl ?_
          refine j_widen hJ (ce' := ce + 10) (sl' := sl + 2300) (by omega) (by omega) ?_
          exact hn _ _ _ _ _ _ _ _ hX9 hM9
        · intro h1131; exact absurd rfl h1131
  · intro h1107; exfalso; omega
set_option maxHeartbeats 4000000 in
set_option maxRecDepth 100000 in
theorem cs_isOnTrack {μ ν : Nat → Int → Int} {n : Nat} {N : Nat → List Int} {ow : Nat → Int} {m : Nat → Nat} {p : Nat → Nat → Int} {g9 : Nat → Int64} {i : Int} {ce sl : Nat} (hfl : l.stackTraces = false) (hJ : Cx l D cy n0 ad RL cL_law 7 (some .boolean) room_1 (AN n0) PR PX (XSL sb L xs n0) fin ET J) (hL : L ≤ 2560) (hi0 : 0 ≤ i) (hi5 : i + 5 ≤ L) (hc0 : ce + 10 ≤ 601024) (hs0 : sl + 2300 ≤ 7293034) (hX : XI μ n N ow m p) (hM : MI ν (μ 1) n N ow m p) (hn : LNx cy b bm o sb (ce + 10) (sl + 2300) i J) : J (gw 105 XSh cy b μ ++ ((o, .inl (cy 4, 1, .inr (.inl g9))) :: gw 14 MSh cy bm ν)) ce sl 1139 [(0, .ref sb), (1, .ref (b 0)), (2, .ref (bm 0)), (3, .ref o), (4, .int (zI i))] [] := by
  obtain ⟨s1, e1⟩ : ∃ z, (xs (i + 1).toNat).toInt = z := ⟨_, rfl⟩
  have r1 := inR_s e1
  obtain ⟨s2, e2⟩ : ∃ z, (xs (i + 2).toNat).toInt = z := ⟨_, rfl⟩
  have r2 := inR_s e2
  obtain ⟨s3, e3⟩ : ∃ z, (xs (i + 3).toNat).toInt = z := ⟨_, rfl⟩
  have r3 := inR_s e3
  obtain ⟨x1, x2, -⟩ := id hX
  refine j_aload_n hJ (j := 1) rfl rfl dL_law_1139 ?_
  refine j_aload_n hJ (j := 0) rfl rfl dL_law_1140 ?_
  refine j_iload hJ (j := 4) rfl dL_law_1141 ?_
  refine j_iconst hJ dL_law_1143 ?_
  refine j_iadd hJ dL_law_1144 ?_
  refine j_sldv hJ e1 (by omega) (by omega) hL dL_law_1145 ?_
  refine j_aload_n hJ (j := 0) rfl rfl dL_law_1146 ?_
  refine j_iload hJ (j := 4) rfl dL_law_1147 ?_
  refine j_iconst hJ dL_law_1149 ?_
  refine j_iadd hJ dL_law_1150 ?_
  refine j_sldv hJ e2 (by omega) (by omega) hL dL_law_1151 ?_
  refine j_aload_n hJ (j := 0) rfl rfl dL_law_1152 ?_
  refine j_iload hJ (j := 4) rfl dL_law_1153 ?_
  refine j_iconst hJ dL_law_1155 ?_
  refine j_iadd hJ dL_law_1156 ?_
  refine j_sldv hJ e3 (by omega) (by omega) hL dL_law_1157 ?_
  refine j_aload_n hJ (j := 3) rfl rfl dL_law_1158 ?_
  refine j_callSH hJ (fun _ h => h.1) (c_L_isOnTrack (E := gw 14 MSh cy bm ν) hfl hX r1 r2 r3) mx_L_153 kw_L_isOnTrack ⟨(Nat.le_of_ble_eq_true rfl), (Nat.le_of_ble_eq_true rfl)⟩ ⟨by show ce + 2 ≤ 601024; omega, by show sl + 12 ≤ 7293034; omega⟩ (Nat.le_of_ble_eq_true rfl) dL_law_1159 rfl ?_
  intro v u hv0
  obtain ⟨zz, μ1, f1, rfl, rfl, h1⟩ := hv0
  show J (gw 105 XSh cy b μ1 ++ ((o, .inl (cy 4, 1, .inr (.inl f1))) :: gw 14 MSh cy bm ν)) (ce + 2) (sl + 12) 1162 [(0, .ref sb), (1, .ref (b 0)), (2, .ref (bm 0)), (3, .ref o), (4, .int (zI i))] [.int (zI zz)]
  refine j_istore hJ (lv' := [(5, .int (zI zz)), (0, .ref sb), (1, .ref (b 0)), (2, .ref (bm 0)), (3, .ref o), (4, .int (zI i))]) (by decide) rfl dL_law_1162 ?_
  refine j_aload_n hJ (j := 3) rfl rfl dL_law_1164 ?_
  refine j_aload_n hJ (j := 1) rfl rfl dL_law_1165 ?_
  refine j_iload hJ (j := 5) rfl dL_law_1166 ?_
  refine j_iconst hJ dL_law_1168 ?_
  refine j_iadd hJ dL_law_1169 ?_
  refine j_sldv hJ e1 (by omega) (by omega) hL dL_law_1170 ?_
  refine j_aload_n hJ (j := 1) rfl rfl dL_law_1171 ?_
  refine j_iload hJ (j := 5) rfl dL_law_1172 ?_
  refine j_iconst hJ dL_law_1174 ?_
  refine j_iadd hJ dL_law_1175 ?_
  refine j_sldv hJ e2 (by omega) (by omega) hL dL_law_1176 ?_
  refine j_aload_n hJ (j := 1) rfl rfl dL_law_1177 ?_
  refine j_iload hJ (j := 5) rfl dL_law_1178 ?_
  refine j_iconst hJ dL_law_1180 ?_
  refine j_iadd hJ dL_law_1181 ?_
  refine j_sldv hJ e3 (by omega) (by omega) hL dL_law_1182 ?_
  refine j_perm hJ (perm_law _ _ _) ?_
  show J (gw 14 MSh cy bm ν ++ (gw 105 XSh cy b μ1 ++ [(o, .inl (cy 4, 1, .inr (.inl f1)))])) (ce + 2) (sl + 12) 1183 [(5, .int (zI zz)), (0, .ref sb), (1, .ref (b 0)), (2, .ref (bm 0)), (3, .ref o), (4, .int (zI i))] [.int (zI s3), .int (zI s2), .int (zI s1), .ref (bm 0)]
  refine j_callV0 hJ (c_X5_isOnTrack (b := bm) (E := gw 105 XSh cy b μ1 ++ [(o, .inl (cy 4, 1, .inr (.inl f1)))]) hfl hM r1 r2 r3) m_L_155 k_X5_isOnTrack (rest := []) (q0 := 0) (by rw [gw_get (by decide)]; rfl) rfl ⟨(Nat.le_of_ble_eq_true rfl), (Nat.le_of_ble_eq_true rfl)⟩ ⟨by show (ce + 2) + 0 ≤ 601024; omega, by show (sl + 12) + 0 ≤ 7293034; omega⟩ (Nat.le_of_ble_eq_true rfl) dL_law_1183 rfl ?_
  intro v u hv0
  obtain ⟨q, ν1, rfl, rfl, h2⟩ := hv0
  obtain ⟨ez, z0, z3, hv, n', N', ow', m', p', hX9, hM9⟩ := cb_isOnTrack (ν := ν) hX r1 r2 r3 h1 h2
  show J (gw 14 MSh cy bm ν1 ++ (gw 105 XSh cy b μ1 ++ [(o, .inl (cy 4, 1, .inr (.inl f1)))])) (ce + 2) (sl + 12) 1186 [(5, .int (zI zz)), (0, .ref sb), (1, .ref (b 0)), (2, .ref (bm 0)), (3, .ref o), (4, .int (zI i))] [.int (zI q)]
  refine j_istore hJ (lv' := [(6, .int (zI q)), (5, .int (zI zz)), (0, .ref sb), (1, .ref (b 0)), (2, .ref (bm 0)), (3, .ref o), (4, .int (zI i))]) (by decide) rfl dL_law_1186 ?_
  refine j_aload_n hJ (j := 4) rfl rfl dL_law_1188 ?_
  refine j_callV0 hJ (c_X5_thrown (b := bm) (ν := ν1) (E := gw 105 XSh cy b μ1 ++ [(o, .inl (cy 4, 1, .inr (.inl f1)))]) hfl) m_L_99 k_X5_thrown (rest := []) (q0 := 0) (by rw [gw_get (by decide)]; rfl) rfl ⟨(Nat.le_of_ble_eq_true rfl), (Nat.le_of_ble_eq_true rfl)⟩ ⟨by show (ce + 2) + 0 ≤ 601024; omega, by show (sl + 12) + 0 ≤ 7293034; omega⟩ (Nat.le_of_ble_eq_true rfl) dL_law_1189 rfl ?_
  intro v u hv0
  obtain ⟨q7, rfl, rfl, e7⟩ := hv0
  show J (gw 14 MSh cy bm ν1 ++ (gw 105 XSh cy b μ1 ++ [(o, .inl (cy 4, 1, .inr (.inl f1)))])) (ce + 2) (sl + 12) 1192 [(6, .int (zI q)), (5, .int (zI zz)), (0, .ref sb), (1, .ref (b 0)), (2, .ref (bm 0)), (3, .ref o), (4, .int (zI i))] [.int (zI q7)]
  refine j_perm hJ (perm_law _ _ _).symm ?_
  show J (gw 105 XSh cy b μ1 ++ ((o, .inl (cy 4, 1, .inr (.inl f1))) :: gw 14 MSh cy bm ν1)) (ce + 2) (sl + 12) 1192 [(6, .int (zI q)), (5, .int (zI zz)), (0, .ref sb), (1, .ref (b 0)), (2, .ref (bm 0)), (3, .ref o), (4, .int (zI i))] [.int (zI q7)]
  refine j_iload hJ (j := 1) rfl dL_law_1192 ?_
  refine j_icmp_eq hJ (tgt := 1199) ⟨by omega, by omega⟩ ⟨by omega, by omega⟩ (by decide) dL_law_1194 ?_ ?_
  · intro h1194
    refine j_iload hJ (j := 1) rfl dL_law_1199 ?_
    refine j_if_ne hJ (tgt := 1223) ⟨by omega, by omega⟩ (by decide) dL_law_1201 ?_ ?_
    · intro h1201
      refine j_goto hJ (tgt := 1706) (by decide) dL_law_1223 ?_
      refine j_locs hJ [2, 3, 4, 5, 6] rfl ?_
      refine j_widen hJ (ce' := ce + 10) (sl' := sl + 2300) (by omega) (by omega) ?_
      exact hn _ _ _ _ _ _ _ _ hX9 hM9
    · intro hz0
      refine j_aload_n hJ (j := 5) rfl rfl dL_law_1204 ?_
      refine j_iconst hJ dL_law_1205 ?_
      refine j_laload hJ (q0 := 105) out_at dL_law_1206 ?_
      refine j_iload hJ (j := 0) rfl dL_law_1207 ?_
      refine j_if_eq hJ (tgt := 1216) ⟨by omega, by omega⟩ (by decide) dL_law_1209 ?_ ?_
      · intro hqv
        refine j_lconst (n := 0) (v := (zI q).toInt64) hJ (by rw [hqv]; rfl) dL_law_1216 ?_
        refine j_lcmp hJ (hv hz0).1 dL_law_1217 ?_
        refine j_if_eq hJ (tgt := 1223) ⟨by omega, by omega⟩ (by decide) dL_law_1218 ?_ ?_
        · intro h1218
          refine j_goto hJ (tgt := 1706) (by decide) dL_law_1223 ?_
          refine j_locs hJ [2, 3, 4, 5, 6] rfl ?_
          refine j_widen hJ (ce' := ce + 10) (sl' := sl + 2300) (by omega) (by omega) ?_
          exact hn _ _ _ _ _ _ _ _ hX9 hM9
        · intro h1218; exact absurd rfl h1218
      · intro h1209
        have hqv : q = 1 := by have := (hv hz0).2; omega
        refine j_lconst (n := 1) (v := (zI q).toInt64) hJ (by rw [hqv]; rfl) dL_law_1212 ?_
        refine j_goto hJ (tgt := 1217) (by decide) dL_law_1213 ?_
        refine j_lcmp hJ (hv hz0).1 dL_law_1217 ?_
        refine j_if_eq hJ (tgt := 1223) ⟨by omega, by omega⟩ (by decide) dL_law_1218 ?_ ?_
        · intro h1218
          refine j_goto hJ (tgt := 1706) (by decide) dL_law_1223 ?_
          refine j_locs hJ [2, 3, 4, 5, 6] rfl ?_
          refine j_widen hJ (ce' := ce + 10) (sl' := sl + 2300) (by omega) (by omega) ?_
          exact hn _ _ _ _ _ _ _ _ hX9 hM9
        · intro h1218; exact absurd rfl h1218
  · intro h1194; exfalso; omega
set_option maxHeartbeats 4000000 in
set_option maxRecDepth 100000 in
theorem cs_streetsOf {μ ν : Nat → Int → Int} {n : Nat} {N : Nat → List Int} {ow : Nat → Int} {m : Nat → Nat} {p : Nat → Nat → Int} {g9 : Nat → Int64} {i : Int} {ce sl : Nat} (hfl : l.stackTraces = false) (hJ : Cx l D cy n0 ad RL cL_law 7 (some .boolean) room_1 (AN n0) PR PX (XSL sb L xs n0) fin ET J) (hL : L ≤ 2560) (hi0 : 0 ≤ i) (hi5 : i + 5 ≤ L) (hc0 : ce + 10 ≤ 601024) (hs0 : sl + 2300 ≤ 7293034) (hX : XI μ n N ow m p) (hM : MI ν (μ 1) n N ow m p) (hn : LNx cy b bm o sb (ce + 10) (sl + 2300) i J) : J (gw 105 XSh cy b μ ++ ((o, .inl (cy 4, 1, .inr (.inl g9))) :: gw 14 MSh cy bm ν)) ce sl 1226 [(0, .ref sb), (1, .ref (b 0)), (2, .ref (bm 0)), (3, .ref o), (4, .int (zI i))] [] := by
  obtain ⟨s1, e1⟩ : ∃ z, (xs (i + 1).toNat).toInt = z := ⟨_, rfl⟩
  have r1 := inR_s e1
  obtain ⟨s2, e2⟩ : ∃ z, (xs (i + 2).toNat).toInt = z := ⟨_, rfl⟩
  have r2 := inR_s e2
  obtain ⟨x1, x2, -⟩ := id hX
  refine j_aload_n hJ (j := 1) rfl rfl dL_law_1226 ?_
  refine j_aload_n hJ (j := 0) rfl rfl dL_law_1227 ?_
  refine j_iload hJ (j := 4) rfl dL_law_1228 ?_
  refine j_iconst hJ dL_law_1230 ?_
  refine j_iadd hJ dL_law_1231 ?_
  refine j_sldv hJ e1 (by omega) (by omega) hL dL_law_1232 ?_
  refine j_aload_n hJ (j := 0) rfl rfl dL_law_1233 ?_
  refine j_iload hJ (j := 4) rfl dL_law_1234 ?_
  refine j_iconst hJ dL_law_1236 ?_
  refine j_iadd hJ dL_law_1237 ?_
  refine j_sldv hJ e2 (by omega) (by omega) hL dL_law_1238 ?_
  refine j_aload_n hJ (j := 3) rfl rfl dL_law_1239 ?_
  refine j_callSH hJ (fun _ h => h.1) (c_L_streetsOf (E := gw 14 MSh cy bm ν) hfl hX r1 r2) mx_L_156 kw_L_streetsOf ⟨(Nat.le_of_ble_eq_true rfl), (Nat.le_of_ble_eq_true rfl)⟩ ⟨by show ce + 1 ≤ 601024; omega, by show sl + 6 ≤ 7293034; omega⟩ (Nat.le_of_ble_eq_true rfl) dL_law_1240 rfl ?_
  intro v u hv0
  obtain ⟨zz, μ1, f1, rfl, rfl, h1⟩ := hv0
  show J (gw 105 XSh cy b μ1 ++ ((o, .inl (cy 4, 1, .inr (.inl f1))) :: gw 14 MSh cy bm ν)) (ce + 1) (sl + 6) 1243 [(0, .ref sb), (1, .ref (b 0)), (2, .ref (bm 0)), (3, .ref o), (4, .int (zI i))] [.int (zI zz)]
  refine j_istore hJ (lv' := [(5, .int (zI zz)), (0, .ref sb), (1, .ref (b 0)), (2, .ref (bm 0)), (3, .ref o), (4, .int (zI i))]) (by decide) rfl dL_law_1243 ?_
  refine j_aload_n hJ (j := 3) rfl rfl dL_law_1245 ?_
  refine j_aload_n hJ (j := 1) rfl rfl dL_law_1246 ?_
  refine j_iload hJ (j := 5) rfl dL_law_1247 ?_
  refine j_iconst hJ dL_law_1249 ?_
  refine j_iadd hJ dL_law_1250 ?_
  refine j_sldv hJ e1 (by omega) (by omega) hL dL_law_1251 ?_
  refine j_aload_n hJ (j := 1) rfl rfl dL_law_1252 ?_
  refine j_iload hJ (j := 5) rfl dL_law_1253 ?_
  refine j_iconst hJ dL_law_1255 ?_
  refine j_iadd hJ dL_law_1256 ?_
  refine j_sldv hJ e2 (by omega) (by omega) hL dL_law_1257 ?_
  refine j_perm hJ (perm_law _ _ _) ?_
  show J (gw 14 MSh cy bm ν ++ (gw 105 XSh cy b μ1 ++ [(o, .inl (cy 4, 1, .inr (.inl f1)))])) (ce + 1) (sl + 6) 1258 [(5, .int (zI zz)), (0, .ref sb), (1, .ref (b 0)), (2, .ref (bm 0)), (3, .ref o), (4, .int (zI i))] [.int (zI s2), .int (zI s1), .ref (bm 0)]
  refine j_callV0 hJ (c_X5_streetsOf (b := bm) (E := gw 105 XSh cy b μ1 ++ [(o, .inl (cy 4, 1, .inr (.inl f1)))]) hfl hM r1 r2) m_L_158 k_X5_streetsOf (rest := []) (q0 := 0) (by rw [gw_get (by decide)]; rfl) rfl ⟨(Nat.le_of_ble_eq_true rfl), (Nat.le_of_ble_eq_true rfl)⟩ ⟨by show (ce + 1) + 0 ≤ 601024; omega, by show (sl + 6) + 0 ≤ 7293034; omega⟩ (Nat.le_of_ble_eq_true rfl) dL_law_1258 rfl ?_
  intro v u hv0
  obtain ⟨q, ν1, rfl, rfl, h2⟩ := hv0
  obtain ⟨ez, z0, z3, hv, n', N', ow', m', p', hX9, hM9⟩ := cb_streetsOf (ν := ν) hX r1 r2 h1 h2
  show J (gw 14 MSh cy bm ν1 ++ (gw 105 XSh cy b μ1 ++ [(o, .inl (cy 4, 1, .inr (.inl f1)))])) (ce + 1) (sl + 6) 1261 [(5, .int (zI zz)), (0, .ref sb), (1, .ref (b 0)), (2, .ref (bm 0)), (3, .ref o), (4, .int (zI i))] [.int (zI q)]
  refine j_istore hJ (lv' := [(6, .int (zI q)), (5, .int (zI zz)), (0, .ref sb), (1, .ref (b 0)), (2, .ref (bm 0)), (3, .ref o), (4, .int (zI i))]) (by decide) rfl dL_law_1261 ?_
  refine j_aload_n hJ (j := 4) rfl rfl dL_law_1263 ?_
  refine j_callV0 hJ (c_X5_thrown (b := bm) (ν := ν1) (E := gw 105 XSh cy b μ1 ++ [(o, .inl (cy 4, 1, .inr (.inl f1)))]) hfl) m_L_99 k_X5_thrown (rest := []) (q0 := 0) (by rw [gw_get (by decide)]; rfl) rfl ⟨(Nat.le_of_ble_eq_true rfl), (Nat.le_of_ble_eq_true rfl)⟩ ⟨by show (ce + 1) + 0 ≤ 601024; omega, by show (sl + 6) + 0 ≤ 7293034; omega⟩ (Nat.le_of_ble_eq_true rfl) dL_law_1264 rfl ?_
  intro v u hv0
  obtain ⟨q7, rfl, rfl, e7⟩ := hv0
  show J (gw 14 MSh cy bm ν1 ++ (gw 105 XSh cy b μ1 ++ [(o, .inl (cy 4, 1, .inr (.inl f1)))])) (ce + 1) (sl + 6) 1267 [(6, .int (zI q)), (5, .int (zI zz)), (0, .ref sb), (1, .ref (b 0)), (2, .ref (bm 0)), (3, .ref o), (4, .int (zI i))] [.int (zI q7)]
  refine j_perm hJ (perm_law _ _ _).symm ?_
  show J (gw 105 XSh cy b μ1 ++ ((o, .inl (cy 4, 1, .inr (.inl f1))) :: gw 14 MSh cy bm ν1)) (ce + 1) (sl + 6) 1267 [(6, .int (zI q)), (5, .int (zI zz)), (0, .ref sb), (1, .ref (b 0)), (2, .ref (bm 0)), (3, .ref o), (4, .int (zI i))] [.int (zI q7)]
  refine j_iload hJ (j := 1) rfl dL_law_1267 ?_
  refine j_icmp_eq hJ (tgt := 1274) ⟨by omega, by omega⟩ ⟨by omega, by omega⟩ (by decide) dL_law_1269 ?_ ?_
  · intro h1269
    refine j_iload hJ (j := 1) rfl dL_law_1274 ?_
    refine j_if_ne hJ (tgt := 1291) ⟨by omega, by omega⟩ (by decide) dL_law_1276 ?_ ?_
    · intro h1276
      refine j_goto hJ (tgt := 1706) (by decide) dL_law_1291 ?_
      refine j_locs hJ [2, 3, 4, 5, 6] rfl ?_
      refine j_widen hJ (ce' := ce + 10) (sl' := sl + 2300) (by omega) (by omega) ?_
      exact hn _ _ _ _ _ _ _ _ hX9 hM9
    · intro hz0
      refine j_aload_n hJ (j := 5) rfl rfl dL_law_1279 ?_
      refine j_iconst hJ dL_law_1280 ?_
      refine j_laload hJ (q0 := 105) out_at dL_law_1281 ?_
      refine j_iload hJ (j := 0) rfl dL_law_1282 ?_
      refine j_i2l hJ dL_law_1284 ?_
      refine j_lcmp hJ (hv hz0) dL_law_1285 ?_
      refine j_if_eq hJ (tgt := 1291) ⟨by omega, by omega⟩ (by decide) dL_law_1286 ?_ ?_
      · intro h1286
        refine j_goto hJ (tgt := 1706) (by decide) dL_law_1291 ?_
        refine j_locs hJ [2, 3, 4, 5, 6] rfl ?_
        refine j_widen hJ (ce' := ce + 10) (sl' := sl + 2300) (by omega) (by omega) ?_
        exact hn _ _ _ _ _ _ _ _ hX9 hM9
      · intro h1286; exact absurd rfl h1286
  · intro h1269; exfalso; omega
set_option maxHeartbeats 4000000 in
set_option maxRecDepth 100000 in
theorem cs_distance {μ ν : Nat → Int → Int} {n : Nat} {N : Nat → List Int} {ow : Nat → Int} {m : Nat → Nat} {p : Nat → Nat → Int} {g9 : Nat → Int64} {i : Int} {ce sl : Nat} (hfl : l.stackTraces = false) (hJ : Cx l D cy n0 ad RL cL_law 7 (some .boolean) room_1 (AN n0) PR PX (XSL sb L xs n0) fin ET J) (hL : L ≤ 2560) (hi0 : 0 ≤ i) (hi5 : i + 5 ≤ L) (hc0 : ce + 10 ≤ 601024) (hs0 : sl + 2300 ≤ 7293034) (hX : XI μ n N ow m p) (hM : MI ν (μ 1) n N ow m p) (hn : LNx cy b bm o sb (ce + 10) (sl + 2300) i J) : J (gw 105 XSh cy b μ ++ ((o, .inl (cy 4, 1, .inr (.inl g9))) :: gw 14 MSh cy bm ν)) ce sl 1294 [(0, .ref sb), (1, .ref (b 0)), (2, .ref (bm 0)), (3, .ref o), (4, .int (zI i))] [] := by
  obtain ⟨s1, e1⟩ : ∃ z, (xs (i + 1).toNat).toInt = z := ⟨_, rfl⟩
  have r1 := inR_s e1
  obtain ⟨s2, e2⟩ : ∃ z, (xs (i + 2).toNat).toInt = z := ⟨_, rfl⟩
  have r2 := inR_s e2
  obtain ⟨s3, e3⟩ : ∃ z, (xs (i + 3).toNat).toInt = z := ⟨_, rfl⟩
  have r3 := inR_s e3
  obtain ⟨x1, x2, -⟩ := id hX
  refine j_aload_n hJ (j := 1) rfl rfl dL_law_1294 ?_
  refine j_aload_n hJ (j := 0) rfl rfl dL_law_1295 ?_
  refine j_iload hJ (j := 4) rfl dL_law_1296 ?_
  refine j_iconst hJ dL_law_1298 ?_
  refine j_iadd hJ dL_law_1299 ?_
  refine j_sldv hJ e1 (by omega) (by omega) hL dL_law_1300 ?_
  refine j_aload_n hJ (j := 0) rfl rfl dL_law_1301 ?_
  refine j_iload hJ (j := 4) rfl dL_law_1302 ?_
  refine j_iconst hJ dL_law_1304 ?_
  refine j_iadd hJ dL_law_1305 ?_
  refine j_sldv hJ e2 (by omega) (by omega) hL dL_law_1306 ?_
  refine j_aload_n hJ (j := 0) rfl rfl dL_law_1307 ?_
  refine j_iload hJ (j := 4) rfl dL_law_1308 ?_
  refine j_iconst hJ dL_law_1310 ?_
  refine j_iadd hJ dL_law_1311 ?_
  refine j_sldv hJ e3 (by omega) (by omega) hL dL_law_1312 ?_
  refine j_aload_n hJ (j := 3) rfl rfl dL_law_1313 ?_
  refine j_callSH hJ (fun _ h => h.1) (c_L_distance (E := gw 14 MSh cy bm ν) hfl hX r1 r2 r3) mx_L_159 kw_L_distance ⟨(Nat.le_of_ble_eq_true rfl), (Nat.le_of_ble_eq_true rfl)⟩ ⟨by show ce + 2 ≤ 601024; omega, by show sl + 12 ≤ 7293034; omega⟩ (Nat.le_of_ble_eq_true rfl) dL_law_1314 rfl ?_
  intro v u hv0
  obtain ⟨zz, μ1, f1, rfl, rfl, h1⟩ := hv0
  show J (gw 105 XSh cy b μ1 ++ ((o, .inl (cy 4, 1, .inr (.inl f1))) :: gw 14 MSh cy bm ν)) (ce + 2) (sl + 12) 1317 [(0, .ref sb), (1, .ref (b 0)), (2, .ref (bm 0)), (3, .ref o), (4, .int (zI i))] [.int (zI zz)]
  refine j_istore hJ (lv' := [(5, .int (zI zz)), (0, .ref sb), (1, .ref (b 0)), (2, .ref (bm 0)), (3, .ref o), (4, .int (zI i))]) (by decide) rfl dL_law_1317 ?_
  refine j_aload_n hJ (j := 3) rfl rfl dL_law_1319 ?_
  refine j_aload_n hJ (j := 1) rfl rfl dL_law_1320 ?_
  refine j_iload hJ (j := 5) rfl dL_law_1321 ?_
  refine j_iconst hJ dL_law_1323 ?_
  refine j_iadd hJ dL_law_1324 ?_
  refine j_sldv hJ e1 (by omega) (by omega) hL dL_law_1325 ?_
  refine j_aload_n hJ (j := 1) rfl rfl dL_law_1326 ?_
  refine j_iload hJ (j := 5) rfl dL_law_1327 ?_
  refine j_iconst hJ dL_law_1329 ?_
  refine j_iadd hJ dL_law_1330 ?_
  refine j_sldv hJ e2 (by omega) (by omega) hL dL_law_1331 ?_
  refine j_aload_n hJ (j := 1) rfl rfl dL_law_1332 ?_
  refine j_iload hJ (j := 5) rfl dL_law_1333 ?_
  refine j_iconst hJ dL_law_1335 ?_
  refine j_iadd hJ dL_law_1336 ?_
  refine j_sldv hJ e3 (by omega) (by omega) hL dL_law_1337 ?_
  refine j_perm hJ (perm_law _ _ _) ?_
  show J (gw 14 MSh cy bm ν ++ (gw 105 XSh cy b μ1 ++ [(o, .inl (cy 4, 1, .inr (.inl f1)))])) (ce + 2) (sl + 12) 1338 [(5, .int (zI zz)), (0, .ref sb), (1, .ref (b 0)), (2, .ref (bm 0)), (3, .ref o), (4, .int (zI i))] [.int (zI s3), .int (zI s2), .int (zI s1), .ref (bm 0)]
  refine j_callV0 hJ (c_X5_distance (b := bm) (E := gw 105 XSh cy b μ1 ++ [(o, .inl (cy 4, 1, .inr (.inl f1)))]) hfl hM r1 r2 r3) m_L_161 k_X5_distance (rest := []) (q0 := 0) (by rw [gw_get (by decide)]; rfl) rfl ⟨(Nat.le_of_ble_eq_true rfl), (Nat.le_of_ble_eq_true rfl)⟩ ⟨by show (ce + 2) + 0 ≤ 601024; omega, by show (sl + 12) + 0 ≤ 7293034; omega⟩ (Nat.le_of_ble_eq_true rfl) dL_law_1338 rfl ?_
  intro v u hv0
  obtain ⟨q, ν1, rfl, rfl, h2⟩ := hv0
  obtain ⟨ez, z0, z3, hv, n', N', ow', m', p', hX9, hM9⟩ := cb_distance (ν := ν) hX r1 r2 r3 h1 h2
  show J (gw 14 MSh cy bm ν1 ++ (gw 105 XSh cy b μ1 ++ [(o, .inl (cy 4, 1, .inr (.inl f1)))])) (ce + 2) (sl + 12) 1341 [(5, .int (zI zz)), (0, .ref sb), (1, .ref (b 0)), (2, .ref (bm 0)), (3, .ref o), (4, .int (zI i))] [.int (zI q)]
  refine j_istore hJ (lv' := [(6, .int (zI q)), (5, .int (zI zz)), (0, .ref sb), (1, .ref (b 0)), (2, .ref (bm 0)), (3, .ref o), (4, .int (zI i))]) (by decide) rfl dL_law_1341 ?_
  refine j_aload_n hJ (j := 4) rfl rfl dL_law_1343 ?_
  refine j_callV0 hJ (c_X5_thrown (b := bm) (ν := ν1) (E := gw 105 XSh cy b μ1 ++ [(o, .inl (cy 4, 1, .inr (.inl f1)))]) hfl) m_L_99 k_X5_thrown (rest := []) (q0 := 0) (by rw [gw_get (by decide)]; rfl) rfl ⟨(Nat.le_of_ble_eq_true rfl), (Nat.le_of_ble_eq_true rfl)⟩ ⟨by show (ce + 2) + 0 ≤ 601024; omega, by show (sl + 12) + 0 ≤ 7293034; omega⟩ (Nat.le_of_ble_eq_true rfl) dL_law_1344 rfl ?_
  intro v u hv0
  obtain ⟨q7, rfl, rfl, e7⟩ := hv0
  show J (gw 14 MSh cy bm ν1 ++ (gw 105 XSh cy b μ1 ++ [(o, .inl (cy 4, 1, .inr (.inl f1)))])) (ce + 2) (sl + 12) 1347 [(6, .int (zI q)), (5, .int (zI zz)), (0, .ref sb), (1, .ref (b 0)), (2, .ref (bm 0)), (3, .ref o), (4, .int (zI i))] [.int (zI q7)]
  refine j_perm hJ (perm_law _ _ _).symm ?_
  show J (gw 105 XSh cy b μ1 ++ ((o, .inl (cy 4, 1, .inr (.inl f1))) :: gw 14 MSh cy bm ν1)) (ce + 2) (sl + 12) 1347 [(6, .int (zI q)), (5, .int (zI zz)), (0, .ref sb), (1, .ref (b 0)), (2, .ref (bm 0)), (3, .ref o), (4, .int (zI i))] [.int (zI q7)]
  refine j_iload hJ (j := 1) rfl dL_law_1347 ?_
  refine j_icmp_eq hJ (tgt := 1354) ⟨by omega, by omega⟩ ⟨by omega, by omega⟩ (by decide) dL_law_1349 ?_ ?_
  · intro h1349
    refine j_iload hJ (j := 1) rfl dL_law_1354 ?_
    refine j_if_ne hJ (tgt := 1371) ⟨by omega, by omega⟩ (by decide) dL_law_1356 ?_ ?_
    · intro h1356
      refine j_goto hJ (tgt := 1706) (by decide) dL_law_1371 ?_
      refine j_locs hJ [2, 3, 4, 5, 6] rfl ?_
      refine j_widen hJ (ce' := ce + 10) (sl' := sl + 2300) (by omega) (by omega) ?_
      exact hn _ _ _ _ _ _ _ _ hX9 hM9
    · intro hz0
      refine j_aload_n hJ (j := 5) rfl rfl dL_law_1359 ?_
      refine j_iconst hJ dL_law_1360 ?_
      refine j_laload hJ (q0 := 105) out_at dL_law_1361 ?_
      refine j_iload hJ (j := 0) rfl dL_law_1362 ?_
      refine j_i2l hJ dL_law_1364 ?_
      refine j_lcmp hJ (hv hz0) dL_law_1365 ?_
      refine j_if_eq hJ (tgt := 1371) ⟨by omega, by omega⟩ (by decide) dL_law_1366 ?_ ?_
      · intro h1366
        refine j_goto hJ (tgt := 1706) (by decide) dL_law_1371 ?_
        refine j_locs hJ [2, 3, 4, 5, 6] rfl ?_
        refine j_widen hJ (ce' := ce + 10) (sl' := sl + 2300) (by omega) (by omega) ?_
        exact hn _ _ _ _ _ _ _ _ hX9 hM9
      · intro h1366; exact absurd rfl h1366
  · intro h1349; exfalso; omega
set_option maxHeartbeats 4000000 in
set_option maxRecDepth 100000 in
theorem cs_nearest {μ ν : Nat → Int → Int} {n : Nat} {N : Nat → List Int} {ow : Nat → Int} {m : Nat → Nat} {p : Nat → Nat → Int} {g9 : Nat → Int64} {i : Int} {ce sl : Nat} (hfl : l.stackTraces = false) (hJ : Cx l D cy n0 ad RL cL_law 7 (some .boolean) room_1 (AN n0) PR PX (XSL sb L xs n0) fin ET J) (hL : L ≤ 2560) (hi0 : 0 ≤ i) (hi5 : i + 5 ≤ L) (hc0 : ce + 10 ≤ 601024) (hs0 : sl + 2300 ≤ 7293034) (hX : XI μ n N ow m p) (hM : MI ν (μ 1) n N ow m p) (hn : LNx cy b bm o sb (ce + 10) (sl + 2300) i J) : J (gw 105 XSh cy b μ ++ ((o, .inl (cy 4, 1, .inr (.inl g9))) :: gw 14 MSh cy bm ν)) ce sl 1374 [(0, .ref sb), (1, .ref (b 0)), (2, .ref (bm 0)), (3, .ref o), (4, .int (zI i))] [] := by
  obtain ⟨s1, e1⟩ : ∃ z, (xs (i + 1).toNat).toInt = z := ⟨_, rfl⟩
  have r1 := inR_s e1
  obtain ⟨s2, e2⟩ : ∃ z, (xs (i + 2).toNat).toInt = z := ⟨_, rfl⟩
  have r2 := inR_s e2
  obtain ⟨s3, e3⟩ : ∃ z, (xs (i + 3).toNat).toInt = z := ⟨_, rfl⟩
  have r3 := inR_s e3
  obtain ⟨x1, x2, -⟩ := id hX
  refine j_aload_n hJ (j := 1) rfl rfl dL_law_1374 ?_
  refine j_aload_n hJ (j := 0) rfl rfl dL_law_1375 ?_
  refine j_iload hJ (j := 4) rfl dL_law_1376 ?_
  refine j_iconst hJ dL_law_1378 ?_
  refine j_iadd hJ dL_law_1379 ?_
  refine j_sldv hJ e1 (by omega) (by omega) hL dL_law_1380 ?_
  refine j_aload_n hJ (j := 0) rfl rfl dL_law_1381 ?_
  refine j_iload hJ (j := 4) rfl dL_law_1382 ?_
  refine j_iconst hJ dL_law_1384 ?_
  refine j_iadd hJ dL_law_1385 ?_
  refine j_sldv hJ e2 (by omega) (by omega) hL dL_law_1386 ?_
  refine j_aload_n hJ (j := 0) rfl rfl dL_law_1387 ?_
  refine j_iload hJ (j := 4) rfl dL_law_1388 ?_
  refine j_iconst hJ dL_law_1390 ?_
  refine j_iadd hJ dL_law_1391 ?_
  refine j_sldv hJ e3 (by omega) (by omega) hL dL_law_1392 ?_
  refine j_aload_n hJ (j := 3) rfl rfl dL_law_1393 ?_
  refine j_callSH hJ (fun _ h => h.1) (c_L_nearest (E := gw 14 MSh cy bm ν) hfl hX r1 r2 r3) mx_L_162 kw_L_nearest ⟨(Nat.le_of_ble_eq_true rfl), (Nat.le_of_ble_eq_true rfl)⟩ ⟨by show ce + 2 ≤ 601024; omega, by show sl + 12 ≤ 7293034; omega⟩ (Nat.le_of_ble_eq_true rfl) dL_law_1394 rfl ?_
  intro v u hv0
  obtain ⟨zz, μ1, f1, rfl, rfl, h1⟩ := hv0
  show J (gw 105 XSh cy b μ1 ++ ((o, .inl (cy 4, 1, .inr (.inl f1))) :: gw 14 MSh cy bm ν)) (ce + 2) (sl + 12) 1397 [(0, .ref sb), (1, .ref (b 0)), (2, .ref (bm 0)), (3, .ref o), (4, .int (zI i))] [.int (zI zz)]
  refine j_istore hJ (lv' := [(5, .int (zI zz)), (0, .ref sb), (1, .ref (b 0)), (2, .ref (bm 0)), (3, .ref o), (4, .int (zI i))]) (by decide) rfl dL_law_1397 ?_
  refine j_aload_n hJ (j := 3) rfl rfl dL_law_1399 ?_
  refine j_aload_n hJ (j := 1) rfl rfl dL_law_1400 ?_
  refine j_iload hJ (j := 5) rfl dL_law_1401 ?_
  refine j_iconst hJ dL_law_1403 ?_
  refine j_iadd hJ dL_law_1404 ?_
  refine j_sldv hJ e1 (by omega) (by omega) hL dL_law_1405 ?_
  refine j_aload_n hJ (j := 1) rfl rfl dL_law_1406 ?_
  refine j_iload hJ (j := 5) rfl dL_law_1407 ?_
  refine j_iconst hJ dL_law_1409 ?_
  refine j_iadd hJ dL_law_1410 ?_
  refine j_sldv hJ e2 (by omega) (by omega) hL dL_law_1411 ?_
  refine j_aload_n hJ (j := 1) rfl rfl dL_law_1412 ?_
  refine j_iload hJ (j := 5) rfl dL_law_1413 ?_
  refine j_iconst hJ dL_law_1415 ?_
  refine j_iadd hJ dL_law_1416 ?_
  refine j_sldv hJ e3 (by omega) (by omega) hL dL_law_1417 ?_
  refine j_perm hJ (perm_law _ _ _) ?_
  show J (gw 14 MSh cy bm ν ++ (gw 105 XSh cy b μ1 ++ [(o, .inl (cy 4, 1, .inr (.inl f1)))])) (ce + 2) (sl + 12) 1418 [(5, .int (zI zz)), (0, .ref sb), (1, .ref (b 0)), (2, .ref (bm 0)), (3, .ref o), (4, .int (zI i))] [.int (zI s3), .int (zI s2), .int (zI s1), .ref (bm 0)]
  refine j_callV0 hJ (c_X5_nearest (b := bm) (E := gw 105 XSh cy b μ1 ++ [(o, .inl (cy 4, 1, .inr (.inl f1)))]) hfl hM r1 r2 r3) m_L_164 k_X5_nearest (rest := []) (q0 := 0) (by rw [gw_get (by decide)]; rfl) rfl ⟨(Nat.le_of_ble_eq_true rfl), (Nat.le_of_ble_eq_true rfl)⟩ ⟨by show (ce + 2) + 0 ≤ 601024; omega, by show (sl + 12) + 0 ≤ 7293034; omega⟩ (Nat.le_of_ble_eq_true rfl) dL_law_1418 rfl ?_
  intro v u hv0
  obtain ⟨q, ν1, rfl, rfl, h2⟩ := hv0
  obtain ⟨ez, z0, z3, hv, n', N', ow', m', p', hX9, hM9⟩ := cb_nearest (ν := ν) hX r1 r2 r3 h1 h2
  show J (gw 14 MSh cy bm ν1 ++ (gw 105 XSh cy b μ1 ++ [(o, .inl (cy 4, 1, .inr (.inl f1)))])) (ce + 2) (sl + 12) 1421 [(5, .int (zI zz)), (0, .ref sb), (1, .ref (b 0)), (2, .ref (bm 0)), (3, .ref o), (4, .int (zI i))] [.int (zI q)]
  refine j_istore hJ (lv' := [(6, .int (zI q)), (5, .int (zI zz)), (0, .ref sb), (1, .ref (b 0)), (2, .ref (bm 0)), (3, .ref o), (4, .int (zI i))]) (by decide) rfl dL_law_1421 ?_
  refine j_aload_n hJ (j := 4) rfl rfl dL_law_1423 ?_
  refine j_callV0 hJ (c_X5_thrown (b := bm) (ν := ν1) (E := gw 105 XSh cy b μ1 ++ [(o, .inl (cy 4, 1, .inr (.inl f1)))]) hfl) m_L_99 k_X5_thrown (rest := []) (q0 := 0) (by rw [gw_get (by decide)]; rfl) rfl ⟨(Nat.le_of_ble_eq_true rfl), (Nat.le_of_ble_eq_true rfl)⟩ ⟨by show (ce + 2) + 0 ≤ 601024; omega, by show (sl + 12) + 0 ≤ 7293034; omega⟩ (Nat.le_of_ble_eq_true rfl) dL_law_1424 rfl ?_
  intro v u hv0
  obtain ⟨q7, rfl, rfl, e7⟩ := hv0
  show J (gw 14 MSh cy bm ν1 ++ (gw 105 XSh cy b μ1 ++ [(o, .inl (cy 4, 1, .inr (.inl f1)))])) (ce + 2) (sl + 12) 1427 [(6, .int (zI q)), (5, .int (zI zz)), (0, .ref sb), (1, .ref (b 0)), (2, .ref (bm 0)), (3, .ref o), (4, .int (zI i))] [.int (zI q7)]
  refine j_perm hJ (perm_law _ _ _).symm ?_
  show J (gw 105 XSh cy b μ1 ++ ((o, .inl (cy 4, 1, .inr (.inl f1))) :: gw 14 MSh cy bm ν1)) (ce + 2) (sl + 12) 1427 [(6, .int (zI q)), (5, .int (zI zz)), (0, .ref sb), (1, .ref (b 0)), (2, .ref (bm 0)), (3, .ref o), (4, .int (zI i))] [.int (zI q7)]
  refine j_iload hJ (j := 1) rfl dL_law_1427 ?_
  refine j_icmp_eq hJ (tgt := 1434) ⟨by omega, by omega⟩ ⟨by omega, by omega⟩ (by decide) dL_law_1429 ?_ ?_
  · intro h1429
    refine j_iload hJ (j := 1) rfl dL_law_1434 ?_
    refine j_if_ne hJ (tgt := 1451) ⟨by omega, by omega⟩ (by decide) dL_law_1436 ?_ ?_
    · intro h1436
      refine j_goto hJ (tgt := 1706) (by decide) dL_law_1451 ?_
      refine j_locs hJ [2, 3, 4, 5, 6] rfl ?_
      refine j_widen hJ (ce' := ce + 10) (sl' := sl + 2300) (by omega) (by omega) ?_
      exact hn _ _ _ _ _ _ _ _ hX9 hM9
    · intro hz0
      refine j_aload_n hJ (j := 5) rfl rfl dL_law_1439 ?_
      refine j_iconst hJ dL_law_1440 ?_
      refine j_laload hJ (q0 := 105) out_at dL_law_1441 ?_
      refine j_iload hJ (j := 0) rfl dL_law_1442 ?_
      refine j_i2l hJ dL_law_1444 ?_
      refine j_lcmp hJ (hv hz0) dL_law_1445 ?_
      refine j_if_eq hJ (tgt := 1451) ⟨by omega, by omega⟩ (by decide) dL_law_1446 ?_ ?_
      · intro h1446
        refine j_goto hJ (tgt := 1706) (by decide) dL_law_1451 ?_
        refine j_locs hJ [2, 3, 4, 5, 6] rfl ?_
        refine j_widen hJ (ce' := ce + 10) (sl' := sl + 2300) (by omega) (by omega) ?_
        exact hn _ _ _ _ _ _ _ _ hX9 hM9
      · intro h1446; exact absurd rfl h1446
  · intro h1429; exfalso; omega
set_option maxHeartbeats 4000000 in
set_option maxRecDepth 100000 in
theorem cs_walk {μ ν : Nat → Int → Int} {n : Nat} {N : Nat → List Int} {ow : Nat → Int} {m : Nat → Nat} {p : Nat → Nat → Int} {g9 : Nat → Int64} {i : Int} {ce sl : Nat} (hfl : l.stackTraces = false) (hJ : Cx l D cy n0 ad RL cL_law 7 (some .boolean) room_1 (AN n0) PR PX (XSL sb L xs n0) fin ET J) (hL : L ≤ 2560) (hi0 : 0 ≤ i) (hi5 : i + 5 ≤ L) (hc0 : ce + 10 ≤ 601024) (hs0 : sl + 2300 ≤ 7293034) (hX : XI μ n N ow m p) (hM : MI ν (μ 1) n N ow m p) (hn : LNx cy b bm o sb (ce + 10) (sl + 2300) i J) : J (gw 105 XSh cy b μ ++ ((o, .inl (cy 4, 1, .inr (.inl g9))) :: gw 14 MSh cy bm ν)) ce sl 1454 [(0, .ref sb), (1, .ref (b 0)), (2, .ref (bm 0)), (3, .ref o), (4, .int (zI i))] [] := by
  obtain ⟨s1, e1⟩ : ∃ z, (xs (i + 1).toNat).toInt = z := ⟨_, rfl⟩
  have r1 := inR_s e1
  obtain ⟨s2, e2⟩ : ∃ z, (xs (i + 2).toNat).toInt = z := ⟨_, rfl⟩
  have r2 := inR_s e2
  obtain ⟨s3, e3⟩ : ∃ z, (xs (i + 3).toNat).toInt = z := ⟨_, rfl⟩
  have r3 := inR_s e3
  obtain ⟨s4, e4⟩ : ∃ z, (xs (i + 4).toNat).toInt = z := ⟨_, rfl⟩
  have r4 := inR_s e4
  obtain ⟨x1, x2, -⟩ := id hX
  refine j_aload_n hJ (j := 1) rfl rfl dL_law_1454 ?_
  refine j_aload_n hJ (j := 0) rfl rfl dL_law_1455 ?_
  refine j_iload hJ (j := 4) rfl dL_law_1456 ?_
  refine j_iconst hJ dL_law_1458 ?_
  refine j_iadd hJ dL_law_1459 ?_
  refine j_sldv hJ e1 (by omega) (by omega) hL dL_law_1460 ?_
  refine j_aload_n hJ (j := 0) rfl rfl dL_law_1461 ?_
  refine j_iload hJ (j := 4) rfl dL_law_1462 ?_
  refine j_iconst hJ dL_law_1464 ?_
  refine j_iadd hJ dL_law_1465 ?_
  refine j_sldv hJ e2 (by omega) (by omega) hL dL_law_1466 ?_
  refine j_aload_n hJ (j := 0) rfl rfl dL_law_1467 ?_
  refine j_iload hJ (j := 4) rfl dL_law_1468 ?_
  refine j_iconst hJ dL_law_1470 ?_
  refine j_iadd hJ dL_law_1471 ?_
  refine j_sldv hJ e3 (by omega) (by omega) hL dL_law_1472 ?_
  refine j_aload_n hJ (j := 0) rfl rfl dL_law_1473 ?_
  refine j_iload hJ (j := 4) rfl dL_law_1474 ?_
  refine j_iconst hJ dL_law_1476 ?_
  refine j_iadd hJ dL_law_1477 ?_
  refine j_sldv hJ e4 (by omega) (by omega) hL dL_law_1478 ?_
  refine j_aload_n hJ (j := 3) rfl rfl dL_law_1479 ?_
  refine j_callSH hJ (fun _ h => h.1) (c_L_walk (E := gw 14 MSh cy bm ν) hfl hX r1 r2 r3 r4) mx_L_165 kw_L_walk ⟨(Nat.le_of_ble_eq_true rfl), (Nat.le_of_ble_eq_true rfl)⟩ ⟨by show ce + 2 ≤ 601024; omega, by show sl + 12 ≤ 7293034; omega⟩ (Nat.le_of_ble_eq_true rfl) dL_law_1480 rfl ?_
  intro v u hv0
  obtain ⟨zz, μ1, f1, rfl, rfl, h1⟩ := hv0
  show J (gw 105 XSh cy b μ1 ++ ((o, .inl (cy 4, 1, .inr (.inl f1))) :: gw 14 MSh cy bm ν)) (ce + 2) (sl + 12) 1483 [(0, .ref sb), (1, .ref (b 0)), (2, .ref (bm 0)), (3, .ref o), (4, .int (zI i))] [.int (zI zz)]
  refine j_istore hJ (lv' := [(5, .int (zI zz)), (0, .ref sb), (1, .ref (b 0)), (2, .ref (bm 0)), (3, .ref o), (4, .int (zI i))]) (by decide) rfl dL_law_1483 ?_
  refine j_aload_n hJ (j := 3) rfl rfl dL_law_1485 ?_
  refine j_aload_n hJ (j := 1) rfl rfl dL_law_1486 ?_
  refine j_iload hJ (j := 5) rfl dL_law_1487 ?_
  refine j_iconst hJ dL_law_1489 ?_
  refine j_iadd hJ dL_law_1490 ?_
  refine j_sldv hJ e1 (by omega) (by omega) hL dL_law_1491 ?_
  refine j_aload_n hJ (j := 1) rfl rfl dL_law_1492 ?_
  refine j_iload hJ (j := 5) rfl dL_law_1493 ?_
  refine j_iconst hJ dL_law_1495 ?_
  refine j_iadd hJ dL_law_1496 ?_
  refine j_sldv hJ e2 (by omega) (by omega) hL dL_law_1497 ?_
  refine j_aload_n hJ (j := 1) rfl rfl dL_law_1498 ?_
  refine j_iload hJ (j := 5) rfl dL_law_1499 ?_
  refine j_iconst hJ dL_law_1501 ?_
  refine j_iadd hJ dL_law_1502 ?_
  refine j_sldv hJ e3 (by omega) (by omega) hL dL_law_1503 ?_
  refine j_aload_n hJ (j := 1) rfl rfl dL_law_1504 ?_
  refine j_iload hJ (j := 5) rfl dL_law_1505 ?_
  refine j_iconst hJ dL_law_1507 ?_
  refine j_iadd hJ dL_law_1508 ?_
  refine j_sldv hJ e4 (by omega) (by omega) hL dL_law_1509 ?_
  refine j_perm hJ (perm_law _ _ _) ?_
  show J (gw 14 MSh cy bm ν ++ (gw 105 XSh cy b μ1 ++ [(o, .inl (cy 4, 1, .inr (.inl f1)))])) (ce + 2) (sl + 12) 1510 [(5, .int (zI zz)), (0, .ref sb), (1, .ref (b 0)), (2, .ref (bm 0)), (3, .ref o), (4, .int (zI i))] [.int (zI s4), .int (zI s3), .int (zI s2), .int (zI s1), .ref (bm 0)]
  refine j_callV0 hJ (c_X5_walk (b := bm) (E := gw 105 XSh cy b μ1 ++ [(o, .inl (cy 4, 1, .inr (.inl f1)))]) hfl hM r1 r2 r3 r4) m_L_168 k_X5_walk (rest := []) (q0 := 0) (by rw [gw_get (by decide)]; rfl) rfl ⟨(Nat.le_of_ble_eq_true rfl), (Nat.le_of_ble_eq_true rfl)⟩ ⟨by show (ce + 2) + 0 ≤ 601024; omega, by show (sl + 12) + 0 ≤ 7293034; omega⟩ (Nat.le_of_ble_eq_true rfl) dL_law_1510 rfl ?_
  intro v u hv0
  obtain ⟨q, ν1, rfl, rfl, h2⟩ := hv0
  obtain ⟨ez, z0, z3, hv, n', N', ow', m', p', hX9, hM9⟩ := cb_walk (ν := ν) hX r1 r2 r3 r4 h1 h2
  show J (gw 14 MSh cy bm ν1 ++ (gw 105 XSh cy b μ1 ++ [(o, .inl (cy 4, 1, .inr (.inl f1)))])) (ce + 2) (sl + 12) 1513 [(5, .int (zI zz)), (0, .ref sb), (1, .ref (b 0)), (2, .ref (bm 0)), (3, .ref o), (4, .int (zI i))] [.int (zI q)]
  refine j_istore hJ (lv' := [(6, .int (zI q)), (5, .int (zI zz)), (0, .ref sb), (1, .ref (b 0)), (2, .ref (bm 0)), (3, .ref o), (4, .int (zI i))]) (by decide) rfl dL_law_1513 ?_
  refine j_aload_n hJ (j := 4) rfl rfl dL_law_1515 ?_
  refine j_callV0 hJ (c_X5_thrown (b := bm) (ν := ν1) (E := gw 105 XSh cy b μ1 ++ [(o, .inl (cy 4, 1, .inr (.inl f1)))]) hfl) m_L_99 k_X5_thrown (rest := []) (q0 := 0) (by rw [gw_get (by decide)]; rfl) rfl ⟨(Nat.le_of_ble_eq_true rfl), (Nat.le_of_ble_eq_true rfl)⟩ ⟨by show (ce + 2) + 0 ≤ 601024; omega, by show (sl + 12) + 0 ≤ 7293034; omega⟩ (Nat.le_of_ble_eq_true rfl) dL_law_1516 rfl ?_
  intro v u hv0
  obtain ⟨q7, rfl, rfl, e7⟩ := hv0
  show J (gw 14 MSh cy bm ν1 ++ (gw 105 XSh cy b μ1 ++ [(o, .inl (cy 4, 1, .inr (.inl f1)))])) (ce + 2) (sl + 12) 1519 [(6, .int (zI q)), (5, .int (zI zz)), (0, .ref sb), (1, .ref (b 0)), (2, .ref (bm 0)), (3, .ref o), (4, .int (zI i))] [.int (zI q7)]
  refine j_perm hJ (perm_law _ _ _).symm ?_
  show J (gw 105 XSh cy b μ1 ++ ((o, .inl (cy 4, 1, .inr (.inl f1))) :: gw 14 MSh cy bm ν1)) (ce + 2) (sl + 12) 1519 [(6, .int (zI q)), (5, .int (zI zz)), (0, .ref sb), (1, .ref (b 0)), (2, .ref (bm 0)), (3, .ref o), (4, .int (zI i))] [.int (zI q7)]
  refine j_iload hJ (j := 1) rfl dL_law_1519 ?_
  refine j_icmp_eq hJ (tgt := 1526) ⟨by omega, by omega⟩ ⟨by omega, by omega⟩ (by decide) dL_law_1521 ?_ ?_
  · intro h1521
    refine j_iload hJ (j := 1) rfl dL_law_1526 ?_
    refine j_if_ne hJ (tgt := 1543) ⟨by omega, by omega⟩ (by decide) dL_law_1528 ?_ ?_
    · intro h1528
      refine j_goto hJ (tgt := 1706) (by decide) dL_law_1543 ?_
      refine j_locs hJ [2, 3, 4, 5, 6] rfl ?_
      refine j_widen hJ (ce' := ce + 10) (sl' := sl + 2300) (by omega) (by omega) ?_
      exact hn _ _ _ _ _ _ _ _ hX9 hM9
    · intro hz0
      refine j_aload_n hJ (j := 5) rfl rfl dL_law_1531 ?_
      refine j_iconst hJ dL_law_1532 ?_
      refine j_laload hJ (q0 := 105) out_at dL_law_1533 ?_
      refine j_iload hJ (j := 0) rfl dL_law_1534 ?_
      refine j_i2l hJ dL_law_1536 ?_
      refine j_lcmp hJ (hv hz0) dL_law_1537 ?_
      refine j_if_eq hJ (tgt := 1543) ⟨by omega, by omega⟩ (by decide) dL_law_1538 ?_ ?_
      · intro h1538
        refine j_goto hJ (tgt := 1706) (by decide) dL_law_1543 ?_
        refine j_locs hJ [2, 3, 4, 5, 6] rfl ?_
        refine j_widen hJ (ce' := ce + 10) (sl' := sl + 2300) (by omega) (by omega) ?_
        exact hn _ _ _ _ _ _ _ _ hX9 hM9
      · intro h1538; exact absurd rfl h1538
  · intro h1521; exfalso; omega
set_option maxHeartbeats 4000000 in
set_option maxRecDepth 100000 in
theorem cs_walkByRounds {μ ν : Nat → Int → Int} {n : Nat} {N : Nat → List Int} {ow : Nat → Int} {m : Nat → Nat} {p : Nat → Nat → Int} {g9 : Nat → Int64} {i : Int} {ce sl : Nat} (hfl : l.stackTraces = false) (hJ : Cx l D cy n0 ad RL cL_law 7 (some .boolean) room_1 (AN n0) PR PX (XSL sb L xs n0) fin ET J) (hL : L ≤ 2560) (hi0 : 0 ≤ i) (hi5 : i + 5 ≤ L) (hc0 : ce + 10 ≤ 601024) (hs0 : sl + 2300 ≤ 7293034) (hX : XI μ n N ow m p) (hM : MI ν (μ 1) n N ow m p) (hn : LNx cy b bm o sb (ce + 10) (sl + 2300) i J) : J (gw 105 XSh cy b μ ++ ((o, .inl (cy 4, 1, .inr (.inl g9))) :: gw 14 MSh cy bm ν)) ce sl 1546 [(0, .ref sb), (1, .ref (b 0)), (2, .ref (bm 0)), (3, .ref o), (4, .int (zI i))] [] := by
  obtain ⟨s1, e1⟩ : ∃ z, (xs (i + 1).toNat).toInt = z := ⟨_, rfl⟩
  have r1 := inR_s e1
  obtain ⟨s2, e2⟩ : ∃ z, (xs (i + 2).toNat).toInt = z := ⟨_, rfl⟩
  have r2 := inR_s e2
  obtain ⟨s3, e3⟩ : ∃ z, (xs (i + 3).toNat).toInt = z := ⟨_, rfl⟩
  have r3 := inR_s e3
  obtain ⟨s4, e4⟩ : ∃ z, (xs (i + 4).toNat).toInt = z := ⟨_, rfl⟩
  have r4 := inR_s e4
  obtain ⟨x1, x2, -⟩ := id hX
  refine j_aload_n hJ (j := 1) rfl rfl dL_law_1546 ?_
  refine j_aload_n hJ (j := 0) rfl rfl dL_law_1547 ?_
  refine j_iload hJ (j := 4) rfl dL_law_1548 ?_
  refine j_iconst hJ dL_law_1550 ?_
  refine j_iadd hJ dL_law_1551 ?_
  refine j_sldv hJ e1 (by omega) (by omega) hL dL_law_1552 ?_
  refine j_aload_n hJ (j := 0) rfl rfl dL_law_1553 ?_
  refine j_iload hJ (j := 4) rfl dL_law_1554 ?_
  refine j_iconst hJ dL_law_1556 ?_
  refine j_iadd hJ dL_law_1557 ?_
  refine j_sldv hJ e2 (by omega) (by omega) hL dL_law_1558 ?_
  refine j_aload_n hJ (j := 0) rfl rfl dL_law_1559 ?_
  refine j_iload hJ (j := 4) rfl dL_law_1560 ?_
  refine j_iconst hJ dL_law_1562 ?_
  refine j_iadd hJ dL_law_1563 ?_
  refine j_sldv hJ e3 (by omega) (by omega) hL dL_law_1564 ?_
  refine j_aload_n hJ (j := 0) rfl rfl dL_law_1565 ?_
  refine j_iload hJ (j := 4) rfl dL_law_1566 ?_
  refine j_iconst hJ dL_law_1568 ?_
  refine j_iadd hJ dL_law_1569 ?_
  refine j_sldv hJ e4 (by omega) (by omega) hL dL_law_1570 ?_
  refine j_aload_n hJ (j := 3) rfl rfl dL_law_1571 ?_
  refine j_callSH hJ (fun _ h => h.1) (c_L_walkByRounds (E := gw 14 MSh cy bm ν) hfl hX r1 r2 r3 r4) mx_L_169 kw_L_walkByRounds ⟨(Nat.le_of_ble_eq_true rfl), (Nat.le_of_ble_eq_true rfl)⟩ ⟨by show ce + 2 ≤ 601024; omega, by show sl + 12 ≤ 7293034; omega⟩ (Nat.le_of_ble_eq_true rfl) dL_law_1572 rfl ?_
  intro v u hv0
  obtain ⟨zz, μ1, f1, rfl, rfl, h1⟩ := hv0
  show J (gw 105 XSh cy b μ1 ++ ((o, .inl (cy 4, 1, .inr (.inl f1))) :: gw 14 MSh cy bm ν)) (ce + 2) (sl + 12) 1575 [(0, .ref sb), (1, .ref (b 0)), (2, .ref (bm 0)), (3, .ref o), (4, .int (zI i))] [.int (zI zz)]
  refine j_istore hJ (lv' := [(5, .int (zI zz)), (0, .ref sb), (1, .ref (b 0)), (2, .ref (bm 0)), (3, .ref o), (4, .int (zI i))]) (by decide) rfl dL_law_1575 ?_
  refine j_aload_n hJ (j := 3) rfl rfl dL_law_1577 ?_
  refine j_aload_n hJ (j := 1) rfl rfl dL_law_1578 ?_
  refine j_iload hJ (j := 5) rfl dL_law_1579 ?_
  refine j_iconst hJ dL_law_1581 ?_
  refine j_iadd hJ dL_law_1582 ?_
  refine j_sldv hJ e1 (by omega) (by omega) hL dL_law_1583 ?_
  refine j_aload_n hJ (j := 1) rfl rfl dL_law_1584 ?_
  refine j_iload hJ (j := 5) rfl dL_law_1585 ?_
  refine j_iconst hJ dL_law_1587 ?_
  refine j_iadd hJ dL_law_1588 ?_
  refine j_sldv hJ e2 (by omega) (by omega) hL dL_law_1589 ?_
  refine j_aload_n hJ (j := 1) rfl rfl dL_law_1590 ?_
  refine j_iload hJ (j := 5) rfl dL_law_1591 ?_
  refine j_iconst hJ dL_law_1593 ?_
  refine j_iadd hJ dL_law_1594 ?_
  refine j_sldv hJ e3 (by omega) (by omega) hL dL_law_1595 ?_
  refine j_aload_n hJ (j := 1) rfl rfl dL_law_1596 ?_
  refine j_iload hJ (j := 5) rfl dL_law_1597 ?_
  refine j_iconst hJ dL_law_1599 ?_
  refine j_iadd hJ dL_law_1600 ?_
  refine j_sldv hJ e4 (by omega) (by omega) hL dL_law_1601 ?_
  refine j_perm hJ (perm_law _ _ _) ?_
  show J (gw 14 MSh cy bm ν ++ (gw 105 XSh cy b μ1 ++ [(o, .inl (cy 4, 1, .inr (.inl f1)))])) (ce + 2) (sl + 12) 1602 [(5, .int (zI zz)), (0, .ref sb), (1, .ref (b 0)), (2, .ref (bm 0)), (3, .ref o), (4, .int (zI i))] [.int (zI s4), .int (zI s3), .int (zI s2), .int (zI s1), .ref (bm 0)]
  refine j_callV0 hJ (c_X5_walkByRounds (b := bm) (E := gw 105 XSh cy b μ1 ++ [(o, .inl (cy 4, 1, .inr (.inl f1)))]) hfl hM r1 r2 r3 r4) m_L_171 k_X5_walkByRounds (rest := []) (q0 := 0) (by rw [gw_get (by decide)]; rfl) rfl ⟨(Nat.le_of_ble_eq_true rfl), (Nat.le_of_ble_eq_true rfl)⟩ ⟨by show (ce + 2) + 0 ≤ 601024; omega, by show (sl + 12) + 0 ≤ 7293034; omega⟩ (Nat.le_of_ble_eq_true rfl) dL_law_1602 rfl ?_
  intro v u hv0
  obtain ⟨q, ν1, rfl, rfl, h2⟩ := hv0
  obtain ⟨ez, z0, z3, hv, n', N', ow', m', p', hX9, hM9⟩ := cb_walkByRounds (ν := ν) hX r1 r2 r3 r4 h1 h2
  show J (gw 14 MSh cy bm ν1 ++ (gw 105 XSh cy b μ1 ++ [(o, .inl (cy 4, 1, .inr (.inl f1)))])) (ce + 2) (sl + 12) 1605 [(5, .int (zI zz)), (0, .ref sb), (1, .ref (b 0)), (2, .ref (bm 0)), (3, .ref o), (4, .int (zI i))] [.int (zI q)]
  refine j_istore hJ (lv' := [(6, .int (zI q)), (5, .int (zI zz)), (0, .ref sb), (1, .ref (b 0)), (2, .ref (bm 0)), (3, .ref o), (4, .int (zI i))]) (by decide) rfl dL_law_1605 ?_
  refine j_aload_n hJ (j := 4) rfl rfl dL_law_1607 ?_
  refine j_callV0 hJ (c_X5_thrown (b := bm) (ν := ν1) (E := gw 105 XSh cy b μ1 ++ [(o, .inl (cy 4, 1, .inr (.inl f1)))]) hfl) m_L_99 k_X5_thrown (rest := []) (q0 := 0) (by rw [gw_get (by decide)]; rfl) rfl ⟨(Nat.le_of_ble_eq_true rfl), (Nat.le_of_ble_eq_true rfl)⟩ ⟨by show (ce + 2) + 0 ≤ 601024; omega, by show (sl + 12) + 0 ≤ 7293034; omega⟩ (Nat.le_of_ble_eq_true rfl) dL_law_1608 rfl ?_
  intro v u hv0
  obtain ⟨q7, rfl, rfl, e7⟩ := hv0
  show J (gw 14 MSh cy bm ν1 ++ (gw 105 XSh cy b μ1 ++ [(o, .inl (cy 4, 1, .inr (.inl f1)))])) (ce + 2) (sl + 12) 1611 [(6, .int (zI q)), (5, .int (zI zz)), (0, .ref sb), (1, .ref (b 0)), (2, .ref (bm 0)), (3, .ref o), (4, .int (zI i))] [.int (zI q7)]
  refine j_perm hJ (perm_law _ _ _).symm ?_
  show J (gw 105 XSh cy b μ1 ++ ((o, .inl (cy 4, 1, .inr (.inl f1))) :: gw 14 MSh cy bm ν1)) (ce + 2) (sl + 12) 1611 [(6, .int (zI q)), (5, .int (zI zz)), (0, .ref sb), (1, .ref (b 0)), (2, .ref (bm 0)), (3, .ref o), (4, .int (zI i))] [.int (zI q7)]
  refine j_iload hJ (j := 1) rfl dL_law_1611 ?_
  refine j_icmp_eq hJ (tgt := 1618) ⟨by omega, by omega⟩ ⟨by omega, by omega⟩ (by decide) dL_law_1613 ?_ ?_
  · intro h1613
    refine j_iload hJ (j := 1) rfl dL_law_1618 ?_
    refine j_if_ne hJ (tgt := 1635) ⟨by omega, by omega⟩ (by decide) dL_law_1620 ?_ ?_
    · intro h1620
      refine j_goto hJ (tgt := 1706) (by decide) dL_law_1635 ?_
      refine j_locs hJ [2, 3, 4, 5, 6] rfl ?_
      refine j_widen hJ (ce' := ce + 10) (sl' := sl + 2300) (by omega) (by omega) ?_
      exact hn _ _ _ _ _ _ _ _ hX9 hM9
    · intro hz0
      refine j_aload_n hJ (j := 5) rfl rfl dL_law_1623 ?_
      refine j_iconst hJ dL_law_1624 ?_
      refine j_laload hJ (q0 := 105) out_at dL_law_1625 ?_
      refine j_iload hJ (j := 0) rfl dL_law_1626 ?_
      refine j_i2l hJ dL_law_1628 ?_
      refine j_lcmp hJ (hv hz0) dL_law_1629 ?_
      refine j_if_eq hJ (tgt := 1635) ⟨by omega, by omega⟩ (by decide) dL_law_1630 ?_ ?_
      · intro h1630
        refine j_goto hJ (tgt := 1706) (by decide) dL_law_1635 ?_
        refine j_locs hJ [2, 3, 4, 5, 6] rfl ?_
        refine j_widen hJ (ce' := ce + 10) (sl' := sl + 2300) (by omega) (by omega) ?_
        exact hn _ _ _ _ _ _ _ _ hX9 hM9
      · intro h1630; exact absurd rfl h1630
  · intro h1613; exfalso; omega
set_option maxHeartbeats 4000000 in
set_option maxRecDepth 100000 in
theorem cs_reachable {μ ν : Nat → Int → Int} {n : Nat} {N : Nat → List Int} {ow : Nat → Int} {m : Nat → Nat} {p : Nat → Nat → Int} {g9 : Nat → Int64} {i : Int} {ce sl : Nat} (hfl : l.stackTraces = false) (hJ : Cx l D cy n0 ad RL cL_law 7 (some .boolean) room_1 (AN n0) PR PX (XSL sb L xs n0) fin ET J) (hL : L ≤ 2560) (hi0 : 0 ≤ i) (hi5 : i + 5 ≤ L) (hc0 : ce + 10 ≤ 601024) (hs0 : sl + 2300 ≤ 7293034) (hX : XI μ n N ow m p) (hM : MI ν (μ 1) n N ow m p) (hn : LNx cy b bm o sb (ce + 10) (sl + 2300) i J) : J (gw 105 XSh cy b μ ++ ((o, .inl (cy 4, 1, .inr (.inl g9))) :: gw 14 MSh cy bm ν)) ce sl 1638 [(0, .ref sb), (1, .ref (b 0)), (2, .ref (bm 0)), (3, .ref o), (4, .int (zI i))] [] := by
  obtain ⟨s1, e1⟩ : ∃ z, (xs (i + 1).toNat).toInt = z := ⟨_, rfl⟩
  have r1 := inR_s e1
  obtain ⟨s2, e2⟩ : ∃ z, (xs (i + 2).toNat).toInt = z := ⟨_, rfl⟩
  have r2 := inR_s e2
  obtain ⟨x1, x2, -⟩ := id hX
  refine j_aload_n hJ (j := 1) rfl rfl dL_law_1638 ?_
  refine j_aload_n hJ (j := 0) rfl rfl dL_law_1639 ?_
  refine j_iload hJ (j := 4) rfl dL_law_1640 ?_
  refine j_iconst hJ dL_law_1642 ?_
  refine j_iadd hJ dL_law_1643 ?_
  refine j_sldv hJ e1 (by omega) (by omega) hL dL_law_1644 ?_
  refine j_aload_n hJ (j := 0) rfl rfl dL_law_1645 ?_
  refine j_iload hJ (j := 4) rfl dL_law_1646 ?_
  refine j_iconst hJ dL_law_1648 ?_
  refine j_iadd hJ dL_law_1649 ?_
  refine j_sldv hJ e2 (by omega) (by omega) hL dL_law_1650 ?_
  refine j_aload_n hJ (j := 3) rfl rfl dL_law_1651 ?_
  refine j_callSH hJ (fun _ h => h.1) (c_L_reachable (E := gw 14 MSh cy bm ν) hfl hX r1 r2) mx_L_172 kw_L_reachable ⟨(Nat.le_of_ble_eq_true rfl), (Nat.le_of_ble_eq_true rfl)⟩ ⟨by show ce + 1 ≤ 601024; omega, by show sl + 6 ≤ 7293034; omega⟩ (Nat.le_of_ble_eq_true rfl) dL_law_1652 rfl ?_
  intro v u hv0
  obtain ⟨zz, μ1, f1, rfl, rfl, h1⟩ := hv0
  show J (gw 105 XSh cy b μ1 ++ ((o, .inl (cy 4, 1, .inr (.inl f1))) :: gw 14 MSh cy bm ν)) (ce + 1) (sl + 6) 1655 [(0, .ref sb), (1, .ref (b 0)), (2, .ref (bm 0)), (3, .ref o), (4, .int (zI i))] [.int (zI zz)]
  refine j_istore hJ (lv' := [(5, .int (zI zz)), (0, .ref sb), (1, .ref (b 0)), (2, .ref (bm 0)), (3, .ref o), (4, .int (zI i))]) (by decide) rfl dL_law_1655 ?_
  refine j_aload_n hJ (j := 3) rfl rfl dL_law_1657 ?_
  refine j_aload_n hJ (j := 1) rfl rfl dL_law_1658 ?_
  refine j_iload hJ (j := 5) rfl dL_law_1659 ?_
  refine j_iconst hJ dL_law_1661 ?_
  refine j_iadd hJ dL_law_1662 ?_
  refine j_sldv hJ e1 (by omega) (by omega) hL dL_law_1663 ?_
  refine j_aload_n hJ (j := 1) rfl rfl dL_law_1664 ?_
  refine j_iload hJ (j := 5) rfl dL_law_1665 ?_
  refine j_iconst hJ dL_law_1667 ?_
  refine j_iadd hJ dL_law_1668 ?_
  refine j_sldv hJ e2 (by omega) (by omega) hL dL_law_1669 ?_
  refine j_perm hJ (perm_law _ _ _) ?_
  show J (gw 14 MSh cy bm ν ++ (gw 105 XSh cy b μ1 ++ [(o, .inl (cy 4, 1, .inr (.inl f1)))])) (ce + 1) (sl + 6) 1670 [(5, .int (zI zz)), (0, .ref sb), (1, .ref (b 0)), (2, .ref (bm 0)), (3, .ref o), (4, .int (zI i))] [.int (zI s2), .int (zI s1), .ref (bm 0)]
  refine j_callV0 hJ (c_X5_reachable (b := bm) (E := gw 105 XSh cy b μ1 ++ [(o, .inl (cy 4, 1, .inr (.inl f1)))]) hfl hM r1 r2) m_L_174 k_X5_reachable (rest := []) (q0 := 0) (by rw [gw_get (by decide)]; rfl) rfl ⟨(Nat.le_of_ble_eq_true rfl), (Nat.le_of_ble_eq_true rfl)⟩ ⟨by show (ce + 1) + 0 ≤ 601024; omega, by show (sl + 6) + 0 ≤ 7293034; omega⟩ (Nat.le_of_ble_eq_true rfl) dL_law_1670 rfl ?_
  intro v u hv0
  obtain ⟨q, ν1, rfl, rfl, h2⟩ := hv0
  obtain ⟨ez, z0, z3, hv, n', N', ow', m', p', hX9, hM9⟩ := cb_reachable (ν := ν) hX r1 r2 h1 h2
  show J (gw 14 MSh cy bm ν1 ++ (gw 105 XSh cy b μ1 ++ [(o, .inl (cy 4, 1, .inr (.inl f1)))])) (ce + 1) (sl + 6) 1673 [(5, .int (zI zz)), (0, .ref sb), (1, .ref (b 0)), (2, .ref (bm 0)), (3, .ref o), (4, .int (zI i))] [.int (zI q)]
  refine j_istore hJ (lv' := [(6, .int (zI q)), (5, .int (zI zz)), (0, .ref sb), (1, .ref (b 0)), (2, .ref (bm 0)), (3, .ref o), (4, .int (zI i))]) (by decide) rfl dL_law_1673 ?_
  refine j_aload_n hJ (j := 4) rfl rfl dL_law_1675 ?_
  refine j_callV0 hJ (c_X5_thrown (b := bm) (ν := ν1) (E := gw 105 XSh cy b μ1 ++ [(o, .inl (cy 4, 1, .inr (.inl f1)))]) hfl) m_L_99 k_X5_thrown (rest := []) (q0 := 0) (by rw [gw_get (by decide)]; rfl) rfl ⟨(Nat.le_of_ble_eq_true rfl), (Nat.le_of_ble_eq_true rfl)⟩ ⟨by show (ce + 1) + 0 ≤ 601024; omega, by show (sl + 6) + 0 ≤ 7293034; omega⟩ (Nat.le_of_ble_eq_true rfl) dL_law_1676 rfl ?_
  intro v u hv0
  obtain ⟨q7, rfl, rfl, e7⟩ := hv0
  show J (gw 14 MSh cy bm ν1 ++ (gw 105 XSh cy b μ1 ++ [(o, .inl (cy 4, 1, .inr (.inl f1)))])) (ce + 1) (sl + 6) 1679 [(6, .int (zI q)), (5, .int (zI zz)), (0, .ref sb), (1, .ref (b 0)), (2, .ref (bm 0)), (3, .ref o), (4, .int (zI i))] [.int (zI q7)]
  refine j_perm hJ (perm_law _ _ _).symm ?_
  show J (gw 105 XSh cy b μ1 ++ ((o, .inl (cy 4, 1, .inr (.inl f1))) :: gw 14 MSh cy bm ν1)) (ce + 1) (sl + 6) 1679 [(6, .int (zI q)), (5, .int (zI zz)), (0, .ref sb), (1, .ref (b 0)), (2, .ref (bm 0)), (3, .ref o), (4, .int (zI i))] [.int (zI q7)]
  refine j_iload hJ (j := 1) rfl dL_law_1679 ?_
  refine j_icmp_eq hJ (tgt := 1686) ⟨by omega, by omega⟩ ⟨by omega, by omega⟩ (by decide) dL_law_1681 ?_ ?_
  · intro h1681
    refine j_iload hJ (j := 1) rfl dL_law_1686 ?_
    refine j_if_ne hJ (tgt := 1703) ⟨by omega, by omega⟩ (by decide) dL_law_1688 ?_ ?_
    · intro h1688
      refine j_goto hJ (tgt := 1706) (by decide) dL_law_1703 ?_
      refine j_locs hJ [2, 3, 4, 5, 6] rfl ?_
      refine j_widen hJ (ce' := ce + 10) (sl' := sl + 2300) (by omega) (by omega) ?_
      exact hn _ _ _ _ _ _ _ _ hX9 hM9
    · intro hz0
      refine j_aload_n hJ (j := 5) rfl rfl dL_law_1691 ?_
      refine j_iconst hJ dL_law_1692 ?_
      refine j_laload hJ (q0 := 105) out_at dL_law_1693 ?_
      refine j_iload hJ (j := 0) rfl dL_law_1694 ?_
      refine j_i2l hJ dL_law_1696 ?_
      refine j_lcmp hJ (hv hz0) dL_law_1697 ?_
      refine j_if_eq hJ (tgt := 1703) ⟨by omega, by omega⟩ (by decide) dL_law_1698 ?_ ?_
      · intro h1698
        refine j_goto hJ (tgt := 1706) (by decide) dL_law_1703 ?_
        refine j_locs hJ [2, 3, 4, 5, 6] rfl ?_
        refine j_widen hJ (ce' := ce + 10) (sl' := sl + 2300) (by omega) (by omega) ?_
        exact hn _ _ _ _ _ _ _ _ hX9 hM9
      · intro h1698; exact absurd rfl h1698
  · intro h1681; exfalso; omega
end LCS
