/-! the law's cases -/
def LNx (cy : Nat → ClassId) (b bm : Nat → Nat) (o sb ce sl : Nat) (i : Int) (J : JT) : Prop := ∀ (μ ν : Nat → Int → Int) (g : Nat → Int64) (n : Nat) (N : Nat → List Int) (ow : Nat → Int) (m : Nat → Nat) (p : Nat → Nat → Int), XI μ n N ow m p → MI ν (μ 1) n N ow m p → J (gw 105 XSh cy b μ ++ ((o, .inl (cy 4, 1, .inr (.inl g))) :: gw 14 MSh cy bm ν)) ce sl 1706 [(0, .ref sb), (1, .ref (b 0)), (2, .ref (bm 0)), (3, .ref o), (4, .int (zI i))] []
set_option maxRecDepth 20000 in
theorem mx_L_93 : MX RL 93 1 yL_addStreet 4 := ⟨(List.mem_of_getElem? (i := 183) (by decide +kernel)), (List.mem_of_getElem? (i := 58) (by decide +kernel)), ⟨by decide +kernel, by decide +kernel⟩, by decide +kernel, fun h => by omega, fun _ => (List.mem_of_getElem? (i := 184) (by decide +kernel))⟩
set_option maxRecDepth 20000 in
theorem kw_L_addStreet : Cond.codeWith yL_addStreet cL_addStreet 5 (some .int) [(0, 10, 13, 13), (0, 10, 17, 15)] ∈ GT := (List.mem_of_getElem? (i := 185) (by decide +kernel))
set_option maxRecDepth 20000 in
theorem m_L_98 : MF RL 98 0 yX5_addStreet 2 := ⟨Or.inl (List.mem_of_getElem? (i := 933) (by decide +kernel)), (List.mem_of_getElem? (i := 63) (by decide +kernel)), ⟨by decide +kernel, by decide +kernel⟩, by decide +kernel, fun _ => ⟨(List.mem_of_getElem? (i := 934) (by decide +kernel)), (List.mem_of_getElem? (i := 935) (by decide +kernel))⟩, fun h => by omega, fun h => by omega⟩
set_option maxRecDepth 20000 in
theorem k_X5_addStreet : Cond.code yX5_addStreet cX5_addStreet 3 (some .int) ∈ GT := (List.mem_of_getElem? (i := 936) (by decide +kernel))
set_option maxRecDepth 20000 in
theorem m_L_99 : MF RL 99 0 yX5_thrown 0 := ⟨Or.inl (List.mem_of_getElem? (i := 929) (by decide +kernel)), (List.mem_of_getElem? (i := 63) (by decide +kernel)), ⟨by decide +kernel, by decide +kernel⟩, by decide +kernel, fun _ => ⟨(List.mem_of_getElem? (i := 930) (by decide +kernel)), (List.mem_of_getElem? (i := 931) (by decide +kernel))⟩, fun h => by omega, fun h => by omega⟩
set_option maxRecDepth 20000 in
theorem k_X5_thrown : Cond.code yX5_thrown cX5_thrown 1 (some .int) ∈ GT := (List.mem_of_getElem? (i := 932) (by decide +kernel))
set_option maxRecDepth 20000 in
theorem mx_L_103 : MX RL 103 1 yL_addPoint 5 := ⟨(List.mem_of_getElem? (i := 288) (by decide +kernel)), (List.mem_of_getElem? (i := 58) (by decide +kernel)), ⟨by decide +kernel, by decide +kernel⟩, by decide +kernel, fun h => by omega, fun _ => (List.mem_of_getElem? (i := 289) (by decide +kernel))⟩
set_option maxRecDepth 20000 in
theorem kw_L_addPoint : Cond.codeWith yL_addPoint cL_addPoint 6 (some .int) [(0, 12, 15, 21), (0, 12, 19, 13), (0, 12, 23, 15)] ∈ GT := (List.mem_of_getElem? (i := 290) (by decide +kernel))
set_option maxRecDepth 20000 in
theorem m_L_106 : MF RL 106 0 yX5_addPoint 3 := ⟨Or.inl (List.mem_of_getElem? (i := 947) (by decide +kernel)), (List.mem_of_getElem? (i := 63) (by decide +kernel)), ⟨by decide +kernel, by decide +kernel⟩, by decide +kernel, fun _ => ⟨(List.mem_of_getElem? (i := 948) (by decide +kernel)), (List.mem_of_getElem? (i := 949) (by decide +kernel))⟩, fun h => by omega, fun h => by omega⟩
set_option maxRecDepth 20000 in
theorem k_X5_addPoint : Cond.code yX5_addPoint cX5_addPoint 10 (some .int) ∈ GT := (List.mem_of_getElem? (i := 950) (by decide +kernel))
set_option maxRecDepth 20000 in
theorem mx_L_107 : MX RL 107 1 yL_dropPoint 3 := ⟨(List.mem_of_getElem? (i := 354) (by decide +kernel)), (List.mem_of_getElem? (i := 58) (by decide +kernel)), ⟨by decide +kernel, by decide +kernel⟩, by decide +kernel, fun h => by omega, fun _ => (List.mem_of_getElem? (i := 355) (by decide +kernel))⟩
set_option maxRecDepth 20000 in
theorem kw_L_dropPoint : Cond.codeWith yL_dropPoint cL_dropPoint 4 (some .int) [(0, 9, 12, 21), (0, 9, 15, 15)] ∈ GT := (List.mem_of_getElem? (i := 356) (by decide +kernel))
set_option maxRecDepth 20000 in
theorem m_L_110 : MF RL 110 0 yX5_dropPoint 1 := ⟨Or.inl (List.mem_of_getElem? (i := 973) (by decide +kernel)), (List.mem_of_getElem? (i := 63) (by decide +kernel)), ⟨by decide +kernel, by decide +kernel⟩, by decide +kernel, fun _ => ⟨(List.mem_of_getElem? (i := 974) (by decide +kernel)), (List.mem_of_getElem? (i := 975) (by decide +kernel))⟩, fun h => by omega, fun h => by omega⟩
set_option maxRecDepth 20000 in
theorem k_X5_dropPoint : Cond.code yX5_dropPoint cX5_dropPoint 3 (some .int) ∈ GT := (List.mem_of_getElem? (i := 976) (by decide +kernel))
set_option maxRecDepth 20000 in
theorem mx_L_111 : MX RL 111 1 yL_setOneWay 4 := ⟨(List.mem_of_getElem? (i := 369) (by decide +kernel)), (List.mem_of_getElem? (i := 58) (by decide +kernel)), ⟨by decide +kernel, by decide +kernel⟩, by decide +kernel, fun h => by omega, fun _ => (List.mem_of_getElem? (i := 370) (by decide +kernel))⟩
set_option maxRecDepth 20000 in
theorem kw_L_setOneWay : Cond.codeWith yL_setOneWay cL_setOneWay 5 (some .int) [(0, 17, 20, 21)] ∈ GT := (List.mem_of_getElem? (i := 371) (by decide +kernel))
set_option maxRecDepth 20000 in
theorem m_L_114 : MF RL 114 0 yX5_setOneWay 2 := ⟨Or.inl (List.mem_of_getElem? (i := 977) (by decide +kernel)), (List.mem_of_getElem? (i := 63) (by decide +kernel)), ⟨by decide +kernel, by decide +kernel⟩, by decide +kernel, fun _ => ⟨(List.mem_of_getElem? (i := 978) (by decide +kernel)), (List.mem_of_getElem? (i := 979) (by decide +kernel))⟩, fun h => by omega, fun h => by omega⟩
set_option maxRecDepth 20000 in
theorem k_X5_setOneWay : Cond.code yX5_setOneWay cX5_setOneWay 4 (some .boolean) ∈ GT := (List.mem_of_getElem? (i := 980) (by decide +kernel))
set_option maxRecDepth 20000 in
theorem mx_L_115 : MX RL 115 1 yL_rename 4 := ⟨(List.mem_of_getElem? (i := 376) (by decide +kernel)), (List.mem_of_getElem? (i := 58) (by decide +kernel)), ⟨by decide +kernel, by decide +kernel⟩, by decide +kernel, fun h => by omega, fun _ => (List.mem_of_getElem? (i := 377) (by decide +kernel))⟩
set_option maxRecDepth 20000 in
theorem kw_L_rename : Cond.codeWith yL_rename cL_rename 5 (some .int) [(0, 7, 10, 21), (0, 7, 14, 13)] ∈ GT := (List.mem_of_getElem? (i := 378) (by decide +kernel))
set_option maxRecDepth 20000 in
theorem m_L_118 : MF RL 118 0 yX5_rename 3 := ⟨Or.inl (List.mem_of_getElem? (i := 981) (by decide +kernel)), (List.mem_of_getElem? (i := 63) (by decide +kernel)), ⟨by decide +kernel, by decide +kernel⟩, by decide +kernel, fun _ => ⟨(List.mem_of_getElem? (i := 982) (by decide +kernel)), (List.mem_of_getElem? (i := 983) (by decide +kernel))⟩, fun h => by omega, fun h => by omega⟩
set_option maxRecDepth 20000 in
theorem k_X5_rename : Cond.code yX5_rename cX5_rename 4 none ∈ GT := (List.mem_of_getElem? (i := 984) (by decide +kernel))
set_option maxRecDepth 20000 in
theorem mx_L_119 : MX RL 119 1 yL_setKind 4 := ⟨(List.mem_of_getElem? (i := 383) (by decide +kernel)), (List.mem_of_getElem? (i := 58) (by decide +kernel)), ⟨by decide +kernel, by decide +kernel⟩, by decide +kernel, fun h => by omega, fun _ => (List.mem_of_getElem? (i := 384) (by decide +kernel))⟩
set_option maxRecDepth 20000 in
theorem kw_L_setKind : Cond.codeWith yL_setKind cL_setKind 5 (some .int) [(0, 10, 13, 21), (0, 10, 17, 13)] ∈ GT := (List.mem_of_getElem? (i := 385) (by decide +kernel))
set_option maxRecDepth 20000 in
theorem m_L_121 : MF RL 121 0 yX5_setKind 2 := ⟨Or.inl (List.mem_of_getElem? (i := 985) (by decide +kernel)), (List.mem_of_getElem? (i := 63) (by decide +kernel)), ⟨by decide +kernel, by decide +kernel⟩, by decide +kernel, fun _ => ⟨(List.mem_of_getElem? (i := 986) (by decide +kernel)), (List.mem_of_getElem? (i := 987) (by decide +kernel))⟩, fun h => by omega, fun h => by omega⟩
set_option maxRecDepth 20000 in
theorem k_X5_setKind : Cond.code yX5_setKind cX5_setKind 4 (some .int) ∈ GT := (List.mem_of_getElem? (i := 988) (by decide +kernel))
section LCS
variable {l : Launch} {D : va_G} {cy : Nat → ClassId} {n0 : Nat} {ad : Nat → Nat} {PR : Option Value → va_W → Prop} {PX : String → va_W → Prop} {fin : Bool} {ET : List ExceptionTableEntry} {J : JT} {b bm : Nat → Nat} {o sb L : Nat} {xs : Nat → Int32}
set_option maxHeartbeats 4000000 in
set_option maxRecDepth 100000 in
theorem cs_addStreet {μ ν : Nat → Int → Int} {n : Nat} {N : Nat → List Int} {ow : Nat → Int} {m : Nat → Nat} {p : Nat → Nat → Int} {g9 : Nat → Int64} {i : Int} {ce sl : Nat} (hfl : l.stackTraces = false) (hJ : Cx l D cy n0 ad RL cL_law 7 (some .boolean) room_1 (AN n0) PR PX (XSL sb L xs n0) fin ET J) (hL : L ≤ 2560) (hi0 : 0 ≤ i) (hi5 : i + 5 ≤ L) (hc0 : ce + 10 ≤ 601024) (hs0 : sl + 2300 ≤ 7293034) (hX : XI μ n N ow m p) (hM : MI ν (μ 1) n N ow m p) (hn : LNx cy b bm o sb (ce + 10) (sl + 2300) i J) : J (gw 105 XSh cy b μ ++ ((o, .inl (cy 4, 1, .inr (.inl g9))) :: gw 14 MSh cy bm ν)) ce sl 144 [(0, .ref sb), (1, .ref (b 0)), (2, .ref (bm 0)), (3, .ref o), (4, .int (zI i))] [] := by
  obtain ⟨s1, e1⟩ : ∃ z, (xs (i + 1).toNat).toInt = z := ⟨_, rfl⟩
  have r1 := inR_s e1
  obtain ⟨s2, e2⟩ : ∃ z, (xs (i + 2).toNat).toInt = z := ⟨_, rfl⟩
  have r2 := inR_s e2
  obtain ⟨x1, x2, -⟩ := id hX
  refine j_aload_n hJ (j := 1) rfl rfl dL_law_144 ?_
  refine j_aload_n hJ (j := 0) rfl rfl dL_law_145 ?_
  refine j_iload hJ (j := 4) rfl dL_law_146 ?_
  refine j_iconst hJ dL_law_148 ?_
  refine j_iadd hJ dL_law_149 ?_
  refine j_sldv hJ e1 (by omega) (by omega) hL dL_law_150 ?_
  refine j_aload_n hJ (j := 0) rfl rfl dL_law_151 ?_
  refine j_iload hJ (j := 4) rfl dL_law_152 ?_
  refine j_iconst hJ dL_law_154 ?_
  refine j_iadd hJ dL_law_155 ?_
  refine j_sldv hJ e2 (by omega) (by omega) hL dL_law_156 ?_
  refine j_aload_n hJ (j := 3) rfl rfl dL_law_157 ?_
  refine j_callSH hJ (fun _ h => h.1) (c_L_addStreet (E := gw 14 MSh cy bm ν) hfl hX r1) mx_L_93 kw_L_addStreet ⟨(Nat.le_of_ble_eq_true rfl), (Nat.le_of_ble_eq_true rfl)⟩ ⟨by show ce + 2 ≤ 601024; omega, by show sl + 12 ≤ 7293034; omega⟩ (Nat.le_of_ble_eq_true rfl) dL_law_158 rfl ?_
  intro v u hv0
  obtain ⟨zz, μ1, f1, rfl, rfl, h1⟩ := hv0
  show J (gw 105 XSh cy b μ1 ++ ((o, .inl (cy 4, 1, .inr (.inl f1))) :: gw 14 MSh cy bm ν)) (ce + 2) (sl + 12) 161 [(0, .ref sb), (1, .ref (b 0)), (2, .ref (bm 0)), (3, .ref o), (4, .int (zI i))] [.int (zI zz)]
  refine j_istore hJ (lv' := [(5, .int (zI zz)), (0, .ref sb), (1, .ref (b 0)), (2, .ref (bm 0)), (3, .ref o), (4, .int (zI i))]) (by decide) rfl dL_law_161 ?_
  refine j_aload_n hJ (j := 3) rfl rfl dL_law_163 ?_
  refine j_aload_n hJ (j := 1) rfl rfl dL_law_164 ?_
  refine j_iload hJ (j := 5) rfl dL_law_165 ?_
  refine j_iconst hJ dL_law_167 ?_
  refine j_iadd hJ dL_law_168 ?_
  refine j_sldv hJ e1 (by omega) (by omega) hL dL_law_169 ?_
  refine j_aload_n hJ (j := 1) rfl rfl dL_law_170 ?_
  refine j_iload hJ (j := 5) rfl dL_law_171 ?_
  refine j_iconst hJ dL_law_173 ?_
  refine j_iadd hJ dL_law_174 ?_
  refine j_sldv hJ e2 (by omega) (by omega) hL dL_law_175 ?_
  refine j_perm hJ (perm_law _ _ _) ?_
  show J (gw 14 MSh cy bm ν ++ (gw 105 XSh cy b μ1 ++ [(o, .inl (cy 4, 1, .inr (.inl f1)))])) (ce + 2) (sl + 12) 176 [(5, .int (zI zz)), (0, .ref sb), (1, .ref (b 0)), (2, .ref (bm 0)), (3, .ref o), (4, .int (zI i))] [.int (zI s2), .int (zI s1), .ref (bm 0)]
  refine j_callV0 hJ (c_X5_addStreet (b := bm) (E := gw 105 XSh cy b μ1 ++ [(o, .inl (cy 4, 1, .inr (.inl f1)))]) hfl hM r1) m_L_98 k_X5_addStreet (rest := []) (q0 := 0) (by rw [gw_get (by decide)]; rfl) rfl ⟨(Nat.le_of_ble_eq_true rfl), (Nat.le_of_ble_eq_true rfl)⟩ ⟨by show (ce + 2) + 0 ≤ 601024; omega, by show (sl + 12) + 0 ≤ 7293034; omega⟩ (Nat.le_of_ble_eq_true rfl) dL_law_176 rfl ?_
  intro v u hv0
  obtain ⟨q, ν1, rfl, rfl, h2⟩ := hv0
  obtain ⟨ez, z0, z3, hv, n', N', ow', m', p', hX9, hM9⟩ := cb_addStreet (ν := ν) hX r1 h1 h2
  show J (gw 14 MSh cy bm ν1 ++ (gw 105 XSh cy b μ1 ++ [(o, .inl (cy 4, 1, .inr (.inl f1)))])) (ce + 2) (sl + 12) 179 [(5, .int (zI zz)), (0, .ref sb), (1, .ref (b 0)), (2, .ref (bm 0)), (3, .ref o), (4, .int (zI i))] [.int (zI q)]
  refine j_istore hJ (lv' := [(6, .int (zI q)), (5, .int (zI zz)), (0, .ref sb), (1, .ref (b 0)), (2, .ref (bm 0)), (3, .ref o), (4, .int (zI i))]) (by decide) rfl dL_law_179 ?_
  refine j_aload_n hJ (j := 4) rfl rfl dL_law_181 ?_
  refine j_callV0 hJ (c_X5_thrown (b := bm) (ν := ν1) (E := gw 105 XSh cy b μ1 ++ [(o, .inl (cy 4, 1, .inr (.inl f1)))]) hfl) m_L_99 k_X5_thrown (rest := []) (q0 := 0) (by rw [gw_get (by decide)]; rfl) rfl ⟨(Nat.le_of_ble_eq_true rfl), (Nat.le_of_ble_eq_true rfl)⟩ ⟨by show (ce + 2) + 0 ≤ 601024; omega, by show (sl + 12) + 0 ≤ 7293034; omega⟩ (Nat.le_of_ble_eq_true rfl) dL_law_182 rfl ?_
  intro v u hv0
  obtain ⟨q7, rfl, rfl, e7⟩ := hv0
  show J (gw 14 MSh cy bm ν1 ++ (gw 105 XSh cy b μ1 ++ [(o, .inl (cy 4, 1, .inr (.inl f1)))])) (ce + 2) (sl + 12) 185 [(6, .int (zI q)), (5, .int (zI zz)), (0, .ref sb), (1, .ref (b 0)), (2, .ref (bm 0)), (3, .ref o), (4, .int (zI i))] [.int (zI q7)]
  refine j_perm hJ (perm_law _ _ _).symm ?_
  show J (gw 105 XSh cy b μ1 ++ ((o, .inl (cy 4, 1, .inr (.inl f1))) :: gw 14 MSh cy bm ν1)) (ce + 2) (sl + 12) 185 [(6, .int (zI q)), (5, .int (zI zz)), (0, .ref sb), (1, .ref (b 0)), (2, .ref (bm 0)), (3, .ref o), (4, .int (zI i))] [.int (zI q7)]
  refine j_iload hJ (j := 1) rfl dL_law_185 ?_
  refine j_icmp_eq hJ (tgt := 192) ⟨by omega, by omega⟩ ⟨by omega, by omega⟩ (by decide) dL_law_187 ?_ ?_
  · intro h187
    refine j_iload hJ (j := 1) rfl dL_law_192 ?_
    refine j_if_ne hJ (tgt := 209) ⟨by omega, by omega⟩ (by decide) dL_law_194 ?_ ?_
    · intro h194
      refine j_goto hJ (tgt := 1706) (by decide) dL_law_209 ?_
      refine j_locs hJ [2, 3, 4, 5, 6] rfl ?_
      refine j_widen hJ (ce' := ce + 10) (sl' := sl + 2300) (by omega) (by omega) ?_
      exact hn _ _ _ _ _ _ _ _ hX9 hM9
    · intro hz0
      refine j_aload_n hJ (j := 5) rfl rfl dL_law_197 ?_
      refine j_iconst hJ dL_law_198 ?_
      refine j_laload hJ (q0 := 105) out_at dL_law_199 ?_
      refine j_iload hJ (j := 0) rfl dL_law_200 ?_
      refine j_i2l hJ dL_law_202 ?_
      refine j_lcmp hJ (hv hz0) dL_law_203 ?_
      refine j_if_eq hJ (tgt := 209) ⟨by omega, by omega⟩ (by decide) dL_law_204 ?_ ?_
      · intro h204
        refine j_goto hJ (tgt := 1706) (by decide) dL_law_209 ?_
        refine j_locs hJ [2, 3, 4, 5, 6] rfl ?_
        refine j_widen hJ (ce' := ce + 10) (sl' := sl + 2300) (by omega) (by omega) ?_
        exact hn _ _ _ _ _ _ _ _ hX9 hM9
      · intro h204; exact absurd rfl h204
  · intro h187; exfalso; omega
set_option maxHeartbeats 4000000 in
set_option maxRecDepth 100000 in
theorem cs_addPoint {μ ν : Nat → Int → Int} {n : Nat} {N : Nat → List Int} {ow : Nat → Int} {m : Nat → Nat} {p : Nat → Nat → Int} {g9 : Nat → Int64} {i : Int} {ce sl : Nat} (hfl : l.stackTraces = false) (hJ : Cx l D cy n0 ad RL cL_law 7 (some .boolean) room_1 (AN n0) PR PX (XSL sb L xs n0) fin ET J) (hL : L ≤ 2560) (hi0 : 0 ≤ i) (hi5 : i + 5 ≤ L) (hc0 : ce + 10 ≤ 601024) (hs0 : sl + 2300 ≤ 7293034) (hX : XI μ n N ow m p) (hM : MI ν (μ 1) n N ow m p) (hn : LNx cy b bm o sb (ce + 10) (sl + 2300) i J) : J (gw 105 XSh cy b μ ++ ((o, .inl (cy 4, 1, .inr (.inl g9))) :: gw 14 MSh cy bm ν)) ce sl 212 [(0, .ref sb), (1, .ref (b 0)), (2, .ref (bm 0)), (3, .ref o), (4, .int (zI i))] [] := by
  obtain ⟨s1, e1⟩ : ∃ z, (xs (i + 1).toNat).toInt = z := ⟨_, rfl⟩
  have r1 := inR_s e1
  obtain ⟨s2, e2⟩ : ∃ z, (xs (i + 2).toNat).toInt = z := ⟨_, rfl⟩
  have r2 := inR_s e2
  obtain ⟨s3, e3⟩ : ∃ z, (xs (i + 3).toNat).toInt = z := ⟨_, rfl⟩
  have r3 := inR_s e3
  obtain ⟨x1, x2, -⟩ := id hX
  refine j_aload_n hJ (j := 1) rfl rfl dL_law_212 ?_
  refine j_aload_n hJ (j := 0) rfl rfl dL_law_213 ?_
  refine j_iload hJ (j := 4) rfl dL_law_214 ?_
  refine j_iconst hJ dL_law_216 ?_
  refine j_iadd hJ dL_law_217 ?_
  refine j_sldv hJ e1 (by omega) (by omega) hL dL_law_218 ?_
  refine j_aload_n hJ (j := 0) rfl rfl dL_law_219 ?_
  refine j_iload hJ (j := 4) rfl dL_law_220 ?_
  refine j_iconst hJ dL_law_222 ?_
  refine j_iadd hJ dL_law_223 ?_
  refine j_sldv hJ e2 (by omega) (by omega) hL dL_law_224 ?_
  refine j_aload_n hJ (j := 0) rfl rfl dL_law_225 ?_
  refine j_iload hJ (j := 4) rfl dL_law_226 ?_
  refine j_iconst hJ dL_law_228 ?_
  refine j_iadd hJ dL_law_229 ?_
  refine j_sldv hJ e3 (by omega) (by omega) hL dL_law_230 ?_
  refine j_aload_n hJ (j := 3) rfl rfl dL_law_231 ?_
  refine j_callSH hJ (fun _ h => h.1) (c_L_addPoint (E := gw 14 MSh cy bm ν) hfl hX r1 r2 r3) mx_L_103 kw_L_addPoint ⟨(Nat.le_of_ble_eq_true rfl), (Nat.le_of_ble_eq_true rfl)⟩ ⟨by show ce + 3 ≤ 601024; omega, by show sl + 18 ≤ 7293034; omega⟩ (Nat.le_of_ble_eq_true rfl) dL_law_232 rfl ?_
  intro v u hv0
  obtain ⟨zz, μ1, f1, rfl, rfl, h1⟩ := hv0
  show J (gw 105 XSh cy b μ1 ++ ((o, .inl (cy 4, 1, .inr (.inl f1))) :: gw 14 MSh cy bm ν)) (ce + 3) (sl + 18) 235 [(0, .ref sb), (1, .ref (b 0)), (2, .ref (bm 0)), (3, .ref o), (4, .int (zI i))] [.int (zI zz)]
  refine j_istore hJ (lv' := [(5, .int (zI zz)), (0, .ref sb), (1, .ref (b 0)), (2, .ref (bm 0)), (3, .ref o), (4, .int (zI i))]) (by decide) rfl dL_law_235 ?_
  refine j_aload_n hJ (j := 3) rfl rfl dL_law_237 ?_
  refine j_aload_n hJ (j := 1) rfl rfl dL_law_238 ?_
  refine j_iload hJ (j := 5) rfl dL_law_239 ?_
  refine j_iconst hJ dL_law_241 ?_
  refine j_iadd hJ dL_law_242 ?_
  refine j_sldv hJ e1 (by omega) (by omega) hL dL_law_243 ?_
  refine j_aload_n hJ (j := 1) rfl rfl dL_law_244 ?_
  refine j_iload hJ (j := 5) rfl dL_law_245 ?_
  refine j_iconst hJ dL_law_247 ?_
  refine j_iadd hJ dL_law_248 ?_
  refine j_sldv hJ e2 (by omega) (by omega) hL dL_law_249 ?_
  refine j_aload_n hJ (j := 1) rfl rfl dL_law_250 ?_
  refine j_iload hJ (j := 5) rfl dL_law_251 ?_
  refine j_iconst hJ dL_law_253 ?_
  refine j_iadd hJ dL_law_254 ?_
  refine j_sldv hJ e3 (by omega) (by omega) hL dL_law_255 ?_
  refine j_perm hJ (perm_law _ _ _) ?_
  show J (gw 14 MSh cy bm ν ++ (gw 105 XSh cy b μ1 ++ [(o, .inl (cy 4, 1, .inr (.inl f1)))])) (ce + 3) (sl + 18) 256 [(5, .int (zI zz)), (0, .ref sb), (1, .ref (b 0)), (2, .ref (bm 0)), (3, .ref o), (4, .int (zI i))] [.int (zI s3), .int (zI s2), .int (zI s1), .ref (bm 0)]
  refine j_callV0 hJ (c_X5_addPoint (b := bm) (E := gw 105 XSh cy b μ1 ++ [(o, .inl (cy 4, 1, .inr (.inl f1)))]) hfl hM r1 r2 r3) m_L_106 k_X5_addPoint (rest := []) (q0 := 0) (by rw [gw_get (by decide)]; rfl) rfl ⟨(Nat.le_of_ble_eq_true rfl), (Nat.le_of_ble_eq_true rfl)⟩ ⟨by show (ce + 3) + 0 ≤ 601024; omega, by show (sl + 18) + 0 ≤ 7293034; omega⟩ (Nat.le_of_ble_eq_true rfl) dL_law_256 rfl ?_
  intro v u hv0
  obtain ⟨q, ν1, rfl, rfl, h2⟩ := hv0
  obtain ⟨ez, z0, z3, hv, n', N', ow', m', p', hX9, hM9⟩ := cb_addPoint (ν := ν) hX r1 r2 r3 h1 h2
  show J (gw 14 MSh cy bm ν1 ++ (gw 105 XSh cy b μ1 ++ [(o, .inl (cy 4, 1, .inr (.inl f1)))])) (ce + 3) (sl + 18) 259 [(5, .int (zI zz)), (0, .ref sb), (1, .ref (b 0)), (2, .ref (bm 0)), (3, .ref o), (4, .int (zI i))] [.int (zI q)]
  refine j_istore hJ (lv' := [(6, .int (zI q)), (5, .int (zI zz)), (0, .ref sb), (1, .ref (b 0)), (2, .ref (bm 0)), (3, .ref o), (4, .int (zI i))]) (by decide) rfl dL_law_259 ?_
  refine j_aload_n hJ (j := 4) rfl rfl dL_law_261 ?_
  refine j_callV0 hJ (c_X5_thrown (b := bm) (ν := ν1) (E := gw 105 XSh cy b μ1 ++ [(o, .inl (cy 4, 1, .inr (.inl f1)))]) hfl) m_L_99 k_X5_thrown (rest := []) (q0 := 0) (by rw [gw_get (by decide)]; rfl) rfl ⟨(Nat.le_of_ble_eq_true rfl), (Nat.le_of_ble_eq_true rfl)⟩ ⟨by show (ce + 3) + 0 ≤ 601024; omega, by show (sl + 18) + 0 ≤ 7293034; omega⟩ (Nat.le_of_ble_eq_true rfl) dL_law_262 rfl ?_
  intro v u hv0
  obtain ⟨q7, rfl, rfl, e7⟩ := hv0
  show J (gw 14 MSh cy bm ν1 ++ (gw 105 XSh cy b μ1 ++ [(o, .inl (cy 4, 1, .inr (.inl f1)))])) (ce + 3) (sl + 18) 265 [(6, .int (zI q)), (5, .int (zI zz)), (0, .ref sb), (1, .ref (b 0)), (2, .ref (bm 0)), (3, .ref o), (4, .int (zI i))] [.int (zI q7)]
  refine j_perm hJ (perm_law _ _ _).symm ?_
  show J (gw 105 XSh cy b μ1 ++ ((o, .inl (cy 4, 1, .inr (.inl f1))) :: gw 14 MSh cy bm ν1)) (ce + 3) (sl + 18) 265 [(6, .int (zI q)), (5, .int (zI zz)), (0, .ref sb), (1, .ref (b 0)), (2, .ref (bm 0)), (3, .ref o), (4, .int (zI i))] [.int (zI q7)]
  refine j_iload hJ (j := 1) rfl dL_law_265 ?_
  refine j_icmp_eq hJ (tgt := 272) ⟨by omega, by omega⟩ ⟨by omega, by omega⟩ (by decide) dL_law_267 ?_ ?_
  · intro h267
    refine j_iload hJ (j := 1) rfl dL_law_272 ?_
    refine j_if_ne hJ (tgt := 289) ⟨by omega, by omega⟩ (by decide) dL_law_274 ?_ ?_
    · intro h274
      refine j_goto hJ (tgt := 1706) (by decide) dL_law_289 ?_
      refine j_locs hJ [2, 3, 4, 5, 6] rfl ?_
      refine j_widen hJ (ce' := ce + 10) (sl' := sl + 2300) (by omega) (by omega) ?_
      exact hn _ _ _ _ _ _ _ _ hX9 hM9
    · intro hz0
      refine j_aload_n hJ (j := 5) rfl rfl dL_law_277 ?_
      refine j_iconst hJ dL_law_278 ?_
      refine j_laload hJ (q0 := 105) out_at dL_law_279 ?_
      refine j_iload hJ (j := 0) rfl dL_law_280 ?_
      refine j_i2l hJ dL_law_282 ?_
      refine j_lcmp hJ (hv hz0) dL_law_283 ?_
      refine j_if_eq hJ (tgt := 289) ⟨by omega, by omega⟩ (by decide) dL_law_284 ?_ ?_
      · intro h284
        refine j_goto hJ (tgt := 1706) (by decide) dL_law_289 ?_
        refine j_locs hJ [2, 3, 4, 5, 6] rfl ?_
        refine j_widen hJ (ce' := ce + 10) (sl' := sl + 2300) (by omega) (by omega) ?_
        exact hn _ _ _ _ _ _ _ _ hX9 hM9
      · intro h284; exact absurd rfl h284
  · intro h267; exfalso; omega
set_option maxHeartbeats 4000000 in
set_option maxRecDepth 100000 in
theorem cs_dropPoint {μ ν : Nat → Int → Int} {n : Nat} {N : Nat → List Int} {ow : Nat → Int} {m : Nat → Nat} {p : Nat → Nat → Int} {g9 : Nat → Int64} {i : Int} {ce sl : Nat} (hfl : l.stackTraces = false) (hJ : Cx l D cy n0 ad RL cL_law 7 (some .boolean) room_1 (AN n0) PR PX (XSL sb L xs n0) fin ET J) (hL : L ≤ 2560) (hi0 : 0 ≤ i) (hi5 : i + 5 ≤ L) (hc0 : ce + 10 ≤ 601024) (hs0 : sl + 2300 ≤ 7293034) (hX : XI μ n N ow m p) (hM : MI ν (μ 1) n N ow m p) (hn : LNx cy b bm o sb (ce + 10) (sl + 2300) i J) : J (gw 105 XSh cy b μ ++ ((o, .inl (cy 4, 1, .inr (.inl g9))) :: gw 14 MSh cy bm ν)) ce sl 292 [(0, .ref sb), (1, .ref (b 0)), (2, .ref (bm 0)), (3, .ref o), (4, .int (zI i))] [] := by
  obtain ⟨s1, e1⟩ : ∃ z, (xs (i + 1).toNat).toInt = z := ⟨_, rfl⟩
  have r1 := inR_s e1
  obtain ⟨x1, x2, -⟩ := id hX
  refine j_aload_n hJ (j := 1) rfl rfl dL_law_292 ?_
  refine j_aload_n hJ (j := 0) rfl rfl dL_law_293 ?_
  refine j_iload hJ (j := 4) rfl dL_law_294 ?_
  refine j_iconst hJ dL_law_296 ?_
  refine j_iadd hJ dL_law_297 ?_
  refine j_sldv hJ e1 (by omega) (by omega) hL dL_law_298 ?_
  refine j_aload_n hJ (j := 3) rfl rfl dL_law_299 ?_
  refine j_callSH hJ (fun _ h => h.1) (c_L_dropPoint (E := gw 14 MSh cy bm ν) hfl hX r1) mx_L_107 kw_L_dropPoint ⟨(Nat.le_of_ble_eq_true rfl), (Nat.le_of_ble_eq_true rfl)⟩ ⟨by show ce + 2 ≤ 601024; omega, by show sl + 12 ≤ 7293034; omega⟩ (Nat.le_of_ble_eq_true rfl) dL_law_300 rfl ?_
  intro v u hv0
  obtain ⟨zz, μ1, f1, rfl, rfl, h1⟩ := hv0
  show J (gw 105 XSh cy b μ1 ++ ((o, .inl (cy 4, 1, .inr (.inl f1))) :: gw 14 MSh cy bm ν)) (ce + 2) (sl + 12) 303 [(0, .ref sb), (1, .ref (b 0)), (2, .ref (bm 0)), (3, .ref o), (4, .int (zI i))] [.int (zI zz)]
  refine j_istore hJ (lv' := [(5, .int (zI zz)), (0, .ref sb), (1, .ref (b 0)), (2, .ref (bm 0)), (3, .ref o), (4, .int (zI i))]) (by decide) rfl dL_law_303 ?_
  refine j_aload_n hJ (j := 3) rfl rfl dL_law_305 ?_
  refine j_aload_n hJ (j := 1) rfl rfl dL_law_306 ?_
  refine j_iload hJ (j := 5) rfl dL_law_307 ?_
  refine j_iconst hJ dL_law_309 ?_
  refine j_iadd hJ dL_law_310 ?_
  refine j_sldv hJ e1 (by omega) (by omega) hL dL_law_311 ?_
  refine j_perm hJ (perm_law _ _ _) ?_
  show J (gw 14 MSh cy bm ν ++ (gw 105 XSh cy b μ1 ++ [(o, .inl (cy 4, 1, .inr (.inl f1)))])) (ce + 2) (sl + 12) 312 [(5, .int (zI zz)), (0, .ref sb), (1, .ref (b 0)), (2, .ref (bm 0)), (3, .ref o), (4, .int (zI i))] [.int (zI s1), .ref (bm 0)]
  refine j_callV0 hJ (c_X5_dropPoint (b := bm) (E := gw 105 XSh cy b μ1 ++ [(o, .inl (cy 4, 1, .inr (.inl f1)))]) hfl hM r1) m_L_110 k_X5_dropPoint (rest := []) (q0 := 0) (by rw [gw_get (by decide)]; rfl) rfl ⟨(Nat.le_of_ble_eq_true rfl), (Nat.le_of_ble_eq_true rfl)⟩ ⟨by show (ce + 2) + 0 ≤ 601024; omega, by show (sl + 12) + 0 ≤ 7293034; omega⟩ (Nat.le_of_ble_eq_true rfl) dL_law_312 rfl ?_
  intro v u hv0
  obtain ⟨q, ν1, rfl, rfl, h2⟩ := hv0
  obtain ⟨ez, z0, z3, hv, n', N', ow', m', p', hX9, hM9⟩ := cb_dropPoint (ν := ν) hX r1 h1 h2
  show J (gw 14 MSh cy bm ν1 ++ (gw 105 XSh cy b μ1 ++ [(o, .inl (cy 4, 1, .inr (.inl f1)))])) (ce + 2) (sl + 12) 315 [(5, .int (zI zz)), (0, .ref sb), (1, .ref (b 0)), (2, .ref (bm 0)), (3, .ref o), (4, .int (zI i))] [.int (zI q)]
  refine j_istore hJ (lv' := [(6, .int (zI q)), (5, .int (zI zz)), (0, .ref sb), (1, .ref (b 0)), (2, .ref (bm 0)), (3, .ref o), (4, .int (zI i))]) (by decide) rfl dL_law_315 ?_
  refine j_aload_n hJ (j := 4) rfl rfl dL_law_317 ?_
  refine j_callV0 hJ (c_X5_thrown (b := bm) (ν := ν1) (E := gw 105 XSh cy b μ1 ++ [(o, .inl (cy 4, 1, .inr (.inl f1)))]) hfl) m_L_99 k_X5_thrown (rest := []) (q0 := 0) (by rw [gw_get (by decide)]; rfl) rfl ⟨(Nat.le_of_ble_eq_true rfl), (Nat.le_of_ble_eq_true rfl)⟩ ⟨by show (ce + 2) + 0 ≤ 601024; omega, by show (sl + 12) + 0 ≤ 7293034; omega⟩ (Nat.le_of_ble_eq_true rfl) dL_law_318 rfl ?_
  intro v u hv0
  obtain ⟨q7, rfl, rfl, e7⟩ := hv0
  show J (gw 14 MSh cy bm ν1 ++ (gw 105 XSh cy b μ1 ++ [(o, .inl (cy 4, 1, .inr (.inl f1)))])) (ce + 2) (sl + 12) 321 [(6, .int (zI q)), (5, .int (zI zz)), (0, .ref sb), (1, .ref (b 0)), (2, .ref (bm 0)), (3, .ref o), (4, .int (zI i))] [.int (zI q7)]
  refine j_perm hJ (perm_law _ _ _).symm ?_
  show J (gw 105 XSh cy b μ1 ++ ((o, .inl (cy 4, 1, .inr (.inl f1))) :: gw 14 MSh cy bm ν1)) (ce + 2) (sl + 12) 321 [(6, .int (zI q)), (5, .int (zI zz)), (0, .ref sb), (1, .ref (b 0)), (2, .ref (bm 0)), (3, .ref o), (4, .int (zI i))] [.int (zI q7)]
  refine j_iload hJ (j := 1) rfl dL_law_321 ?_
  refine j_icmp_eq hJ (tgt := 328) ⟨by omega, by omega⟩ ⟨by omega, by omega⟩ (by decide) dL_law_323 ?_ ?_
  · intro h323
    refine j_iload hJ (j := 1) rfl dL_law_328 ?_
    refine j_if_ne hJ (tgt := 345) ⟨by omega, by omega⟩ (by decide) dL_law_330 ?_ ?_
    · intro h330
      refine j_goto hJ (tgt := 1706) (by decide) dL_law_345 ?_
      refine j_locs hJ [2, 3, 4, 5, 6] rfl ?_
      refine j_widen hJ (ce' := ce + 10) (sl' := sl + 2300) (by omega) (by omega) ?_
      exact hn _ _ _ _ _ _ _ _ hX9 hM9
    · intro hz0
      refine j_aload_n hJ (j := 5) rfl rfl dL_law_333 ?_
      refine j_iconst hJ dL_law_334 ?_
      refine j_laload hJ (q0 := 105) out_at dL_law_335 ?_
      refine j_iload hJ (j := 0) rfl dL_law_336 ?_
      refine j_i2l hJ dL_law_338 ?_
      refine j_lcmp hJ (hv hz0) dL_law_339 ?_
      refine j_if_eq hJ (tgt := 345) ⟨by omega, by omega⟩ (by decide) dL_law_340 ?_ ?_
      · intro h340
        refine j_goto hJ (tgt := 1706) (by decide) dL_law_345 ?_
        refine j_locs hJ [2, 3, 4, 5, 6] rfl ?_
        refine j_widen hJ (ce' := ce + 10) (sl' := sl + 2300) (by omega) (by omega) ?_
        exact hn _ _ _ _ _ _ _ _ hX9 hM9
      · intro h340; exact absurd rfl h340
  · intro h323; exfalso; omega
set_option maxHeartbeats 4000000 in
set_option maxRecDepth 100000 in
theorem cs_setOneWay {μ ν : Nat → Int → Int} {n : Nat} {N : Nat → List Int} {ow : Nat → Int} {m : Nat → Nat} {p : Nat → Nat → Int} {g9 : Nat → Int64} {i : Int} {ce sl : Nat} (hfl : l.stackTraces = false) (hJ : Cx l D cy n0 ad RL cL_law 7 (some .boolean) room_1 (AN n0) PR PX (XSL sb L xs n0) fin ET J) (hL : L ≤ 2560) (hi0 : 0 ≤ i) (hi5 : i + 5 ≤ L) (hc0 : ce + 10 ≤ 601024) (hs0 : sl + 2300 ≤ 7293034) (hX : XI μ n N ow m p) (hM : MI ν (μ 1) n N ow m p) (hn : LNx cy b bm o sb (ce + 10) (sl + 2300) i J) : J (gw 105 XSh cy b μ ++ ((o, .inl (cy 4, 1, .inr (.inl g9))) :: gw 14 MSh cy bm ν)) ce sl 348 [(0, .ref sb), (1, .ref (b 0)), (2, .ref (bm 0)), (3, .ref o), (4, .int (zI i))] [] := by
  obtain ⟨s1, e1⟩ : ∃ z, (xs (i + 1).toNat).toInt = z := ⟨_, rfl⟩
  have r1 := inR_s e1
  obtain ⟨s2, e2⟩ : ∃ z, (xs (i + 2).toNat).toInt = z := ⟨_, rfl⟩
  have r2 := inR_s e2
  obtain ⟨x1, x2, -⟩ := id hX
  refine j_aload_n hJ (j := 1) rfl rfl dL_law_348 ?_
  refine j_aload_n hJ (j := 0) rfl rfl dL_law_349 ?_
  refine j_iload hJ (j := 4) rfl dL_law_350 ?_
  refine j_iconst hJ dL_law_352 ?_
  refine j_iadd hJ dL_law_353 ?_
  refine j_sldv hJ e1 (by omega) (by omega) hL dL_law_354 ?_
  refine j_aload_n hJ (j := 0) rfl rfl dL_law_355 ?_
  refine j_iload hJ (j := 4) rfl dL_law_356 ?_
  refine j_iconst hJ dL_law_358 ?_
  refine j_iadd hJ dL_law_359 ?_
  refine j_sldv hJ e2 (by omega) (by omega) hL dL_law_360 ?_
  refine j_if_eq hJ (tgt := 368) ⟨by omega, by omega⟩ (by decide) dL_law_361 ?_ ?_
  · intro hs2
    refine j_iconst hJ dL_law_368 ?_
    refine j_aload_n hJ (j := 3) rfl rfl dL_law_369 ?_
    refine j_callSH hJ (fun _ h => h.1) (c_L_setOneWay (E := gw 14 MSh cy bm ν) hfl hX r1 (Or.inl rfl)) mx_L_111 kw_L_setOneWay ⟨(Nat.le_of_ble_eq_true rfl), (Nat.le_of_ble_eq_true rfl)⟩ ⟨by show ce + 1 ≤ 601024; omega, by show sl + 6 ≤ 7293034; omega⟩ (Nat.le_of_ble_eq_true rfl) dL_law_370 rfl ?_
    intro v u hv0
    obtain ⟨zz, μ1, f1, rfl, rfl, h1⟩ := hv0
    show J (gw 105 XSh cy b μ1 ++ ((o, .inl (cy 4, 1, .inr (.inl f1))) :: gw 14 MSh cy bm ν)) (ce + 1) (sl + 6) 373 [(0, .ref sb), (1, .ref (b 0)), (2, .ref (bm 0)), (3, .ref o), (4, .int (zI i))] [.int (zI zz)]
    refine j_istore hJ (lv' := [(5, .int (zI zz)), (0, .ref sb), (1, .ref (b 0)), (2, .ref (bm 0)), (3, .ref o), (4, .int (zI i))]) (by decide) rfl dL_law_373 ?_
    refine j_aload_n hJ (j := 3) rfl rfl dL_law_375 ?_
    refine j_aload_n hJ (j := 1) rfl rfl dL_law_376 ?_
    refine j_iload hJ (j := 5) rfl dL_law_377 ?_
    refine j_iconst hJ dL_law_379 ?_
    refine j_iadd hJ dL_law_380 ?_
    refine j_sldv hJ e1 (by omega) (by omega) hL dL_law_381 ?_
    refine j_aload_n hJ (j := 1) rfl rfl dL_law_382 ?_
    refine j_iload hJ (j := 5) rfl dL_law_383 ?_
    refine j_iconst hJ dL_law_385 ?_
    refine j_iadd hJ dL_law_386 ?_
    refine j_sldv hJ e2 (by omega) (by omega) hL dL_law_387 ?_
    refine j_if_eq hJ (tgt := 395) ⟨by omega, by omega⟩ (by decide) dL_law_388 ?_ ?_
    · intro h388
      refine j_iconst hJ dL_law_395 ?_
      refine j_perm hJ (perm_law _ _ _) ?_
      show J (gw 14 MSh cy bm ν ++ (gw 105 XSh cy b μ1 ++ [(o, .inl (cy 4, 1, .inr (.inl f1)))])) (ce + 1) (sl + 6) 396 [(5, .int (zI zz)), (0, .ref sb), (1, .ref (b 0)), (2, .ref (bm 0)), (3, .ref o), (4, .int (zI i))] [.int (zI 0), .int (zI s1), .ref (bm 0)]
      refine j_callV0 hJ (c_X5_setOneWay (b := bm) (E := gw 105 XSh cy b μ1 ++ [(o, .inl (cy 4, 1, .inr (.inl f1)))]) hfl hM r1 (Or.inl rfl)) m_L_114 k_X5_setOneWay (rest := []) (q0 := 0) (by rw [gw_get (by decide)]; rfl) rfl ⟨(Nat.le_of_ble_eq_true rfl), (Nat.le_of_ble_eq_true rfl)⟩ ⟨by show (ce + 1) + 0 ≤ 601024; omega, by show (sl + 6) + 0 ≤ 7293034; omega⟩ (Nat.le_of_ble_eq_true rfl) dL_law_396 rfl ?_
      intro v u hv0
      obtain ⟨q, ν1, rfl, rfl, h2⟩ := hv0
      obtain ⟨ez, z0, z3, hv, n', N', ow', m', p', hX9, hM9⟩ := cb_setOneWay (ν := ν) hX r1 (Or.inl rfl) h1 h2
      show J (gw 14 MSh cy bm ν1 ++ (gw 105 XSh cy b μ1 ++ [(o, .inl (cy 4, 1, .inr (.inl f1)))])) (ce + 1) (sl + 6) 399 [(5, .int (zI zz)), (0, .ref sb), (1, .ref (b 0)), (2, .ref (bm 0)), (3, .ref o), (4, .int (zI i))] [.int (zI q)]
      refine j_istore hJ (lv' := [(6, .int (zI q)), (5, .int (zI zz)), (0, .ref sb), (1, .ref (b 0)), (2, .ref (bm 0)), (3, .ref o), (4, .int (zI i))]) (by decide) rfl dL_law_399 ?_
      refine j_aload_n hJ (j := 4) rfl rfl dL_law_401 ?_
      refine j_callV0 hJ (c_X5_thrown (b := bm) (ν := ν1) (E := gw 105 XSh cy b μ1 ++ [(o, .inl (cy 4, 1, .inr (.inl f1)))]) hfl) m_L_99 k_X5_thrown (rest := []) (q0 := 0) (by rw [gw_get (by decide)]; rfl) rfl ⟨(Nat.le_of_ble_eq_true rfl), (Nat.le_of_ble_eq_true rfl)⟩ ⟨by show (ce + 1) + 0 ≤ 601024; omega, by show (sl + 6) + 0 ≤ 7293034; omega⟩ (Nat.le_of_ble_eq_true rfl) dL_law_402 rfl ?_
      intro v u hv0
      obtain ⟨q7, rfl, rfl, e7⟩ := hv0
      show J (gw 14 MSh cy bm ν1 ++ (gw 105 XSh cy b μ1 ++ [(o, .inl (cy 4, 1, .inr (.inl f1)))])) (ce + 1) (sl + 6) 405 [(6, .int (zI q)), (5, .int (zI zz)), (0, .ref sb), (1, .ref (b 0)), (2, .ref (bm 0)), (3, .ref o), (4, .int (zI i))] [.int (zI q7)]
      refine j_perm hJ (perm_law _ _ _).symm ?_
      show J (gw 105 XSh cy b μ1 ++ ((o, .inl (cy 4, 1, .inr (.inl f1))) :: gw 14 MSh cy bm ν1)) (ce + 1) (sl + 6) 405 [(6, .int (zI q)), (5, .int (zI zz)), (0, .ref sb), (1, .ref (b 0)), (2, .ref (bm 0)), (3, .ref o), (4, .int (zI i))] [.int (zI q7)]
      refine j_iload hJ (j := 1) rfl dL_law_405 ?_
      refine j_icmp_eq hJ (tgt := 412) ⟨by omega, by omega⟩ ⟨by omega, by omega⟩ (by decide) dL_law_407 ?_ ?_
      · intro h407
        refine j_iload hJ (j := 1) rfl dL_law_412 ?_
        refine j_if_ne hJ (tgt := 436) ⟨by omega, by omega⟩ (by decide) dL_law_414 ?_ ?_
        · intro h414
          refine j_goto hJ (tgt := 1706) (by decide) dL_law_436 ?_
          refine j_locs hJ [2, 3, 4, 5, 6] rfl ?_
          refine j_widen hJ (ce' := ce + 10) (sl' := sl + 2300) (by omega) (by omega) ?_
          exact hn _ _ _ _ _ _ _ _ hX9 hM9
        · intro hz0
          refine j_aload_n hJ (j := 5) rfl rfl dL_law_417 ?_
          refine j_iconst hJ dL_law_418 ?_
          refine j_laload hJ (q0 := 105) out_at dL_law_419 ?_
          refine j_iload hJ (j := 0) rfl dL_law_420 ?_
          refine j_if_eq hJ (tgt := 429) ⟨by omega, by omega⟩ (by decide) dL_law_422 ?_ ?_
          · intro hqv
            refine j_lconst (n := 0) (v := (zI q).toInt64) hJ (by rw [hqv]; rfl) dL_law_429 ?_
            refine j_lcmp hJ (hv hz0).1 dL_law_430 ?_
            refine j_if_eq hJ (tgt := 436) ⟨by omega, by omega⟩ (by decide) dL_law_431 ?_ ?_
            · intro h431
              refine j_goto hJ (tgt := 1706) (by decide) dL_law_436 ?_
              refine j_locs hJ [2, 3, 4, 5, 6] rfl ?_
              refine j_widen hJ (ce' := ce + 10) (sl' := sl + 2300) (by omega) (by omega) ?_
              exact hn _ _ _ _ _ _ _ _ hX9 hM9
            · intro h431; exact absurd rfl h431
          · intro h422
            have hqv : q = 1 := by have := (hv hz0).2; omega
            refine j_lconst (n := 1) (v := (zI q).toInt64) hJ (by rw [hqv]; rfl) dL_law_425 ?_
            refine j_goto hJ (tgt := 430) (by decide) dL_law_426 ?_
            refine j_lcmp hJ (hv hz0).1 dL_law_430 ?_
            refine j_if_eq hJ (tgt := 436) ⟨by omega, by omega⟩ (by decide) dL_law_431 ?_ ?_
            · intro h431
              refine j_goto hJ (tgt := 1706) (by decide) dL_law_436 ?_
              refine j_locs hJ [2, 3, 4, 5, 6] rfl ?_
              refine j_widen hJ (ce' := ce + 10) (sl' := sl + 2300) (by omega) (by omega) ?_
              exact hn _ _ _ _ _ _ _ _ hX9 hM9
            · intro h431; exact absurd rfl h431
      · intro h407; exfalso; omega
    · intro h388; exact absurd hs2 h388
  · intro hs2
    refine j_iconst hJ dL_law_364 ?_
    refine j_goto hJ (tgt := 369) (by decide) dL_law_365 ?_
    refine j_aload_n hJ (j := 3) rfl rfl dL_law_369 ?_
    refine j_callSH hJ (fun _ h => h.1) (c_L_setOneWay (E := gw 14 MSh cy bm ν) hfl hX r1 (Or.inr rfl)) mx_L_111 kw_L_setOneWay ⟨(Nat.le_of_ble_eq_true rfl), (Nat.le_of_ble_eq_true rfl)⟩ ⟨by show ce + 1 ≤ 601024; omega, by show sl + 6 ≤ 7293034; omega⟩ (Nat.le_of_ble_eq_true rfl) dL_law_370 rfl ?_
    intro v u hv0
    obtain ⟨zz, μ1, f1, rfl, rfl, h1⟩ := hv0
    show J (gw 105 XSh cy b μ1 ++ ((o, .inl (cy 4, 1, .inr (.inl f1))) :: gw 14 MSh cy bm ν)) (ce + 1) (sl + 6) 373 [(0, .ref sb), (1, .ref (b 0)), (2, .ref (bm 0)), (3, .ref o), (4, .int (zI i))] [.int (zI zz)]
    refine j_istore hJ (lv' := [(5, .int (zI zz)), (0, .ref sb), (1, .ref (b 0)), (2, .ref (bm 0)), (3, .ref o), (4, .int (zI i))]) (by decide) rfl dL_law_373 ?_
    refine j_aload_n hJ (j := 3) rfl rfl dL_law_375 ?_
    refine j_aload_n hJ (j := 1) rfl rfl dL_law_376 ?_
    refine j_iload hJ (j := 5) rfl dL_law_377 ?_
    refine j_iconst hJ dL_law_379 ?_
    refine j_iadd hJ dL_law_380 ?_
    refine j_sldv hJ e1 (by omega) (by omega) hL dL_law_381 ?_
    refine j_aload_n hJ (j := 1) rfl rfl dL_law_382 ?_
    refine j_iload hJ (j := 5) rfl dL_law_383 ?_
    refine j_iconst hJ dL_law_385 ?_
    refine j_iadd hJ dL_law_386 ?_
    refine j_sldv hJ e2 (by omega) (by omega) hL dL_law_387 ?_
    refine j_if_eq hJ (tgt := 395) ⟨by omega, by omega⟩ (by decide) dL_law_388 ?_ ?_
    · intro h388; exact absurd h388 hs2
    · intro h388
      refine j_iconst hJ dL_law_391 ?_
      refine j_goto hJ (tgt := 396) (by decide) dL_law_392 ?_
      refine j_perm hJ (perm_law _ _ _) ?_
      show J (gw 14 MSh cy bm ν ++ (gw 105 XSh cy b μ1 ++ [(o, .inl (cy 4, 1, .inr (.inl f1)))])) (ce + 1) (sl + 6) 396 [(5, .int (zI zz)), (0, .ref sb), (1, .ref (b 0)), (2, .ref (bm 0)), (3, .ref o), (4, .int (zI i))] [.int (zI 1), .int (zI s1), .ref (bm 0)]
      refine j_callV0 hJ (c_X5_setOneWay (b := bm) (E := gw 105 XSh cy b μ1 ++ [(o, .inl (cy 4, 1, .inr (.inl f1)))]) hfl hM r1 (Or.inr rfl)) m_L_114 k_X5_setOneWay (rest := []) (q0 := 0) (by rw [gw_get (by decide)]; rfl) rfl ⟨(Nat.le_of_ble_eq_true rfl), (Nat.le_of_ble_eq_true rfl)⟩ ⟨by show (ce + 1) + 0 ≤ 601024; omega, by show (sl + 6) + 0 ≤ 7293034; omega⟩ (Nat.le_of_ble_eq_true rfl) dL_law_396 rfl ?_
      intro v u hv0
      obtain ⟨q, ν1, rfl, rfl, h2⟩ := hv0
      obtain ⟨ez, z0, z3, hv, n', N', ow', m', p', hX9, hM9⟩ := cb_setOneWay (ν := ν) hX r1 (Or.inr rfl) h1 h2
      show J (gw 14 MSh cy bm ν1 ++ (gw 105 XSh cy b μ1 ++ [(o, .inl (cy 4, 1, .inr (.inl f1)))])) (ce + 1) (sl + 6) 399 [(5, .int (zI zz)), (0, .ref sb), (1, .ref (b 0)), (2, .ref (bm 0)), (3, .ref o), (4, .int (zI i))] [.int (zI q)]
      refine j_istore hJ (lv' := [(6, .int (zI q)), (5, .int (zI zz)), (0, .ref sb), (1, .ref (b 0)), (2, .ref (bm 0)), (3, .ref o), (4, .int (zI i))]) (by decide) rfl dL_law_399 ?_
      refine j_aload_n hJ (j := 4) rfl rfl dL_law_401 ?_
      refine j_callV0 hJ (c_X5_thrown (b := bm) (ν := ν1) (E := gw 105 XSh cy b μ1 ++ [(o, .inl (cy 4, 1, .inr (.inl f1)))]) hfl) m_L_99 k_X5_thrown (rest := []) (q0 := 0) (by rw [gw_get (by decide)]; rfl) rfl ⟨(Nat.le_of_ble_eq_true rfl), (Nat.le_of_ble_eq_true rfl)⟩ ⟨by show (ce + 1) + 0 ≤ 601024; omega, by show (sl + 6) + 0 ≤ 7293034; omega⟩ (Nat.le_of_ble_eq_true rfl) dL_law_402 rfl ?_
      intro v u hv0
      obtain ⟨q7, rfl, rfl, e7⟩ := hv0
      show J (gw 14 MSh cy bm ν1 ++ (gw 105 XSh cy b μ1 ++ [(o, .inl (cy 4, 1, .inr (.inl f1)))])) (ce + 1) (sl + 6) 405 [(6, .int (zI q)), (5, .int (zI zz)), (0, .ref sb), (1, .ref (b 0)), (2, .ref (bm 0)), (3, .ref o), (4, .int (zI i))] [.int (zI q7)]
      refine j_perm hJ (perm_law _ _ _).symm ?_
      show J (gw 105 XSh cy b μ1 ++ ((o, .inl (cy 4, 1, .inr (.inl f1))) :: gw 14 MSh cy bm ν1)) (ce + 1) (sl + 6) 405 [(6, .int (zI q)), (5, .int (zI zz)), (0, .ref sb), (1, .ref (b 0)), (2, .ref (bm 0)), (3, .ref o), (4, .int (zI i))] [.int (zI q7)]
      refine j_iload hJ (j := 1) rfl dL_law_405 ?_
      refine j_icmp_eq hJ (tgt := 412) ⟨by omega, by omega⟩ ⟨by omega, by omega⟩ (by decide) dL_law_407 ?_ ?_
      · intro h407
        refine j_iload hJ (j := 1) rfl dL_law_412 ?_
        refine j_if_ne hJ (tgt := 436) ⟨by omega, by omega⟩ (by decide) dL_law_414 ?_ ?_
        · intro h414
          refine j_goto hJ (tgt := 1706) (by decide) dL_law_436 ?_
          refine j_locs hJ [2, 3, 4, 5, 6] rfl ?_
          refine j_widen hJ (ce' := ce + 10) (sl' := sl + 2300) (by omega) (by omega) ?_
          exact hn _ _ _ _ _ _ _ _ hX9 hM9
        · intro hz0
          refine j_aload_n hJ (j := 5) rfl rfl dL_law_417 ?_
          refine j_iconst hJ dL_law_418 ?_
          refine j_laload hJ (q0 := 105) out_at dL_law_419 ?_
          refine j_iload hJ (j := 0) rfl dL_law_420 ?_
          refine j_if_eq hJ (tgt := 429) ⟨by omega, by omega⟩ (by decide) dL_law_422 ?_ ?_
          · intro hqv
            refine j_lconst (n := 0) (v := (zI q).toInt64) hJ (by rw [hqv]; rfl) dL_law_429 ?_
            refine j_lcmp hJ (hv hz0).1 dL_law_430 ?_
            refine j_if_eq hJ (tgt := 436) ⟨by omega, by omega⟩ (by decide) dL_law_431 ?_ ?_
            · intro h431
              refine j_goto hJ (tgt := 1706) (by decide) dL_law_436 ?_
              refine j_locs hJ [2, 3, 4, 5, 6] rfl ?_
              refine j_widen hJ (ce' := ce + 10) (sl' := sl + 2300) (by omega) (by omega) ?_
              exact hn _ _ _ _ _ _ _ _ hX9 hM9
            · intro h431; exact absurd rfl h431
          · intro h422
            have hqv : q = 1 := by have := (hv hz0).2; omega
            refine j_lconst (n := 1) (v := (zI q).toInt64) hJ (by rw [hqv]; rfl) dL_law_425 ?_
            refine j_goto hJ (tgt := 430) (by decide) dL_law_426 ?_
            refine j_lcmp hJ (hv hz0).1 dL_law_430 ?_
            refine j_if_eq hJ (tgt := 436) ⟨by omega, by omega⟩ (by decide) dL_law_431 ?_ ?_
            · intro h431
              refine j_goto hJ (tgt := 1706) (by decide) dL_law_436 ?_
              refine j_locs hJ [2, 3, 4, 5, 6] rfl ?_
              refine j_widen hJ (ce' := ce + 10) (sl' := sl + 2300) (by omega) (by omega) ?_
              exact hn _ _ _ _ _ _ _ _ hX9 hM9
            · intro h431; exact absurd rfl h431
      · intro h407; exfalso; omega
set_option maxHeartbeats 4000000 in
set_option maxRecDepth 100000 in
theorem cs_rename {μ ν : Nat → Int → Int} {n : Nat} {N : Nat → List Int} {ow : Nat → Int} {m : Nat → Nat} {p : Nat → Nat → Int} {g9 : Nat → Int64} {i : Int} {ce sl : Nat} (hfl : l.stackTraces = false) (hJ : Cx l D cy n0 ad RL cL_law 7 (some .boolean) room_1 (AN n0) PR PX (XSL sb L xs n0) fin ET J) (hL : L ≤ 2560) (hi0 : 0 ≤ i) (hi5 : i + 5 ≤ L) (hc0 : ce + 10 ≤ 601024) (hs0 : sl + 2300 ≤ 7293034) (hX : XI μ n N ow m p) (hM : MI ν (μ 1) n N ow m p) (hn : LNx cy b bm o sb (ce + 10) (sl + 2300) i J) : J (gw 105 XSh cy b μ ++ ((o, .inl (cy 4, 1, .inr (.inl g9))) :: gw 14 MSh cy bm ν)) ce sl 439 [(0, .ref sb), (1, .ref (b 0)), (2, .ref (bm 0)), (3, .ref o), (4, .int (zI i))] [] := by
  obtain ⟨s1, e1⟩ : ∃ z, (xs (i + 1).toNat).toInt = z := ⟨_, rfl⟩
  have r1 := inR_s e1
  obtain ⟨s2, e2⟩ : ∃ z, (xs (i + 2).toNat).toInt = z := ⟨_, rfl⟩
  have r2 := inR_s e2
  obtain ⟨s3, e3⟩ : ∃ z, (xs (i + 3).toNat).toInt = z := ⟨_, rfl⟩
  have r3 := inR_s e3
  obtain ⟨x1, x2, -⟩ := id hX
  refine j_aload_n hJ (j := 1) rfl rfl dL_law_439 ?_
  refine j_aload_n hJ (j := 0) rfl rfl dL_law_440 ?_
  refine j_iload hJ (j := 4) rfl dL_law_441 ?_
  refine j_iconst hJ dL_law_443 ?_
  refine j_iadd hJ dL_law_444 ?_
  refine j_sldv hJ e1 (by omega) (by omega) hL dL_law_445 ?_
  refine j_aload_n hJ (j := 0) rfl rfl dL_law_446 ?_
  refine j_iload hJ (j := 4) rfl dL_law_447 ?_
  refine j_iconst hJ dL_law_449 ?_
  refine j_iadd hJ dL_law_450 ?_
  refine j_sldv hJ e2 (by omega) (by omega) hL dL_law_451 ?_
  refine j_aload_n hJ (j := 0) rfl rfl dL_law_452 ?_
  refine j_iload hJ (j := 4) rfl dL_law_453 ?_
  refine j_iconst hJ dL_law_455 ?_
  refine j_iadd hJ dL_law_456 ?_
  refine j_sldv hJ e3 (by omega) (by omega) hL dL_law_457 ?_
  refine j_callSH hJ (fun _ h => h.1) (c_L_rename (E := (o, .inl (cy 4, 1, .inr (.inl g9))) :: gw 14 MSh cy bm ν) hfl hX r1 r2) mx_L_115 kw_L_rename ⟨(Nat.le_of_ble_eq_true rfl), (Nat.le_of_ble_eq_true rfl)⟩ ⟨by show ce + 2 ≤ 601024; omega, by show sl + 12 ≤ 7293034; omega⟩ (Nat.le_of_ble_eq_true rfl) dL_law_458 rfl ?_
  intro v u hv0
  obtain ⟨zz, μ1, rfl, rfl, h1⟩ := hv0
  show J (gw 105 XSh cy b μ1 ++ ((o, .inl (cy 4, 1, .inr (.inl g9))) :: gw 14 MSh cy bm ν)) (ce + 2) (sl + 12) 461 [(0, .ref sb), (1, .ref (b 0)), (2, .ref (bm 0)), (3, .ref o), (4, .int (zI i))] [.int (zI zz)]
  refine j_istore hJ (lv' := [(5, .int (zI zz)), (0, .ref sb), (1, .ref (b 0)), (2, .ref (bm 0)), (3, .ref o), (4, .int (zI i))]) (by decide) rfl dL_law_461 ?_
  refine j_aload_n hJ (j := 3) rfl rfl dL_law_463 ?_
  refine j_aload_n hJ (j := 1) rfl rfl dL_law_464 ?_
  refine j_iload hJ (j := 5) rfl dL_law_465 ?_
  refine j_iconst hJ dL_law_467 ?_
  refine j_iadd hJ dL_law_468 ?_
  refine j_sldv hJ e1 (by omega) (by omega) hL dL_law_469 ?_
  refine j_aload_n hJ (j := 1) rfl rfl dL_law_470 ?_
  refine j_iload hJ (j := 5) rfl dL_law_471 ?_
  refine j_iconst hJ dL_law_473 ?_
  refine j_iadd hJ dL_law_474 ?_
  refine j_sldv hJ e2 (by omega) (by omega) hL dL_law_475 ?_
  refine j_aload_n hJ (j := 1) rfl rfl dL_law_476 ?_
  refine j_iload hJ (j := 5) rfl dL_law_477 ?_
  refine j_iconst hJ dL_law_479 ?_
  refine j_iadd hJ dL_law_480 ?_
  refine j_sldv hJ e3 (by omega) (by omega) hL dL_law_481 ?_
  refine j_perm hJ (perm_law _ _ _) ?_
  show J (gw 14 MSh cy bm ν ++ (gw 105 XSh cy b μ1 ++ [(o, .inl (cy 4, 1, .inr (.inl g9)))])) (ce + 2) (sl + 12) 482 [(5, .int (zI zz)), (0, .ref sb), (1, .ref (b 0)), (2, .ref (bm 0)), (3, .ref o), (4, .int (zI i))] [.int (zI s3), .int (zI s2), .int (zI s1), .ref (bm 0)]
  refine j_callV0 hJ (c_X5_rename (b := bm) (E := gw 105 XSh cy b μ1 ++ [(o, .inl (cy 4, 1, .inr (.inl g9)))]) hfl hM r1 r2) m_L_118 k_X5_rename (rest := []) (q0 := 0) (by rw [gw_get (by decide)]; rfl) rfl ⟨(Nat.le_of_ble_eq_true rfl), (Nat.le_of_ble_eq_true rfl)⟩ ⟨by show (ce + 2) + 0 ≤ 601024; omega, by show (sl + 12) + 0 ≤ 7293034; omega⟩ (Nat.le_of_ble_eq_true rfl) dL_law_482 rfl ?_
  intro v u hv0
  obtain ⟨ν1, rfl, rfl, h2⟩ := hv0
  obtain ⟨ez, z0, z3, n', N', ow', m', p', hX9, hM9⟩ := cb_rename (ν := ν) hX r1 r2 h1 h2
  show J (gw 14 MSh cy bm ν1 ++ (gw 105 XSh cy b μ1 ++ [(o, .inl (cy 4, 1, .inr (.inl g9)))])) (ce + 2) (sl + 12) 485 [(5, .int (zI zz)), (0, .ref sb), (1, .ref (b 0)), (2, .ref (bm 0)), (3, .ref o), (4, .int (zI i))] []
  refine j_aload_n hJ (j := 3) rfl rfl dL_law_485 ?_
  refine j_callV0 hJ (c_X5_thrown (b := bm) (ν := ν1) (E := gw 105 XSh cy b μ1 ++ [(o, .inl (cy 4, 1, .inr (.inl g9)))]) hfl) m_L_99 k_X5_thrown (rest := []) (q0 := 0) (by rw [gw_get (by decide)]; rfl) rfl ⟨(Nat.le_of_ble_eq_true rfl), (Nat.le_of_ble_eq_true rfl)⟩ ⟨by show (ce + 2) + 0 ≤ 601024; omega, by show (sl + 12) + 0 ≤ 7293034; omega⟩ (Nat.le_of_ble_eq_true rfl) dL_law_486 rfl ?_
  intro v u hv0
  obtain ⟨q7, rfl, rfl, e7⟩ := hv0
  show J (gw 14 MSh cy bm ν1 ++ (gw 105 XSh cy b μ1 ++ [(o, .inl (cy 4, 1, .inr (.inl g9)))])) (ce + 2) (sl + 12) 489 [(5, .int (zI zz)), (0, .ref sb), (1, .ref (b 0)), (2, .ref (bm 0)), (3, .ref o), (4, .int (zI i))] [.int (zI q7)]
  refine j_perm hJ (perm_law _ _ _).symm ?_
  show J (gw 105 XSh cy b μ1 ++ ((o, .inl (cy 4, 1, .inr (.inl g9))) :: gw 14 MSh cy bm ν1)) (ce + 2) (sl + 12) 489 [(5, .int (zI zz)), (0, .ref sb), (1, .ref (b 0)), (2, .ref (bm 0)), (3, .ref o), (4, .int (zI i))] [.int (zI q7)]
  refine j_iload hJ (j := 0) rfl dL_law_489 ?_
  refine j_icmp_eq hJ (tgt := 496) ⟨by omega, by omega⟩ ⟨by omega, by omega⟩ (by decide) dL_law_491 ?_ ?_
  · intro h491
    refine j_goto hJ (tgt := 1706) (by decide) dL_law_496 ?_
    refine j_locs hJ [1, 2, 3, 4, 5] rfl ?_
    refine j_widen hJ (ce' := ce + 10) (sl' := sl + 2300) (by omega) (by omega) ?_
    exact hn _ _ _ _ _ _ _ _ hX9 hM9
  · intro h491; exfalso; omega
set_option maxHeartbeats 4000000 in
set_option maxRecDepth 100000 in
theorem cs_setKind {μ ν : Nat → Int → Int} {n : Nat} {N : Nat → List Int} {ow : Nat → Int} {m : Nat → Nat} {p : Nat → Nat → Int} {g9 : Nat → Int64} {i : Int} {ce sl : Nat} (hfl : l.stackTraces = false) (hJ : Cx l D cy n0 ad RL cL_law 7 (some .boolean) room_1 (AN n0) PR PX (XSL sb L xs n0) fin ET J) (hL : L ≤ 2560) (hi0 : 0 ≤ i) (hi5 : i + 5 ≤ L) (hc0 : ce + 10 ≤ 601024) (hs0 : sl + 2300 ≤ 7293034) (hX : XI μ n N ow m p) (hM : MI ν (μ 1) n N ow m p) (hn : LNx cy b bm o sb (ce + 10) (sl + 2300) i J) : J (gw 105 XSh cy b μ ++ ((o, .inl (cy 4, 1, .inr (.inl g9))) :: gw 14 MSh cy bm ν)) ce sl 499 [(0, .ref sb), (1, .ref (b 0)), (2, .ref (bm 0)), (3, .ref o), (4, .int (zI i))] [] := by
  obtain ⟨s1, e1⟩ : ∃ z, (xs (i + 1).toNat).toInt = z := ⟨_, rfl⟩
  have r1 := inR_s e1
  obtain ⟨s2, e2⟩ : ∃ z, (xs (i + 2).toNat).toInt = z := ⟨_, rfl⟩
  have r2 := inR_s e2
  obtain ⟨x1, x2, -⟩ := id hX
  refine j_aload_n hJ (j := 1) rfl rfl dL_law_499 ?_
  refine j_aload_n hJ (j := 0) rfl rfl dL_law_500 ?_
  refine j_iload hJ (j := 4) rfl dL_law_501 ?_
  refine j_iconst hJ dL_law_503 ?_
  refine j_iadd hJ dL_law_504 ?_
  refine j_sldv hJ e1 (by omega) (by omega) hL dL_law_505 ?_
  refine j_aload_n hJ (j := 0) rfl rfl dL_law_506 ?_
  refine j_iload hJ (j := 4) rfl dL_law_507 ?_
  refine j_iconst hJ dL_law_509 ?_
  refine j_iadd hJ dL_law_510 ?_
  refine j_sldv hJ e2 (by omega) (by omega) hL dL_law_511 ?_
  refine j_aload_n hJ (j := 3) rfl rfl dL_law_512 ?_
  refine j_callSH hJ (fun _ h => h.1) (c_L_setKind (E := gw 14 MSh cy bm ν) hfl hX r1 r2) mx_L_119 kw_L_setKind ⟨(Nat.le_of_ble_eq_true rfl), (Nat.le_of_ble_eq_true rfl)⟩ ⟨by show ce + 1 ≤ 601024; omega, by show sl + 6 ≤ 7293034; omega⟩ (Nat.le_of_ble_eq_true rfl) dL_law_513 rfl ?_
  intro v u hv0
  obtain ⟨zz, μ1, f1, rfl, rfl, h1⟩ := hv0
  show J (gw 105 XSh cy b μ1 ++ ((o, .inl (cy 4, 1, .inr (.inl f1))) :: gw 14 MSh cy bm ν)) (ce + 1) (sl + 6) 516 [(0, .ref sb), (1, .ref (b 0)), (2, .ref (bm 0)), (3, .ref o), (4, .int (zI i))] [.int (zI zz)]
  refine j_istore hJ (lv' := [(5, .int (zI zz)), (0, .ref sb), (1, .ref (b 0)), (2, .ref (bm 0)), (3, .ref o), (4, .int (zI i))]) (by decide) rfl dL_law_516 ?_
  refine j_aload_n hJ (j := 3) rfl rfl dL_law_518 ?_
  refine j_aload_n hJ (j := 1) rfl rfl dL_law_519 ?_
  refine j_iload hJ (j := 5) rfl dL_law_520 ?_
  refine j_iconst hJ dL_law_522 ?_
  refine j_iadd hJ dL_law_523 ?_
  refine j_sldv hJ e1 (by omega) (by omega) hL dL_law_524 ?_
  refine j_aload_n hJ (j := 1) rfl rfl dL_law_525 ?_
  refine j_iload hJ (j := 5) rfl dL_law_526 ?_
  refine j_iconst hJ dL_law_528 ?_
  refine j_iadd hJ dL_law_529 ?_
  refine j_sldv hJ e2 (by omega) (by omega) hL dL_law_530 ?_
  refine j_perm hJ (perm_law _ _ _) ?_
  show J (gw 14 MSh cy bm ν ++ (gw 105 XSh cy b μ1 ++ [(o, .inl (cy 4, 1, .inr (.inl f1)))])) (ce + 1) (sl + 6) 531 [(5, .int (zI zz)), (0, .ref sb), (1, .ref (b 0)), (2, .ref (bm 0)), (3, .ref o), (4, .int (zI i))] [.int (zI s2), .int (zI s1), .ref (bm 0)]
  refine j_callV0 hJ (c_X5_setKind (b := bm) (E := gw 105 XSh cy b μ1 ++ [(o, .inl (cy 4, 1, .inr (.inl f1)))]) hfl hM r1 r2) m_L_121 k_X5_setKind (rest := []) (q0 := 0) (by rw [gw_get (by decide)]; rfl) rfl ⟨(Nat.le_of_ble_eq_true rfl), (Nat.le_of_ble_eq_true rfl)⟩ ⟨by show (ce + 1) + 0 ≤ 601024; omega, by show (sl + 6) + 0 ≤ 7293034; omega⟩ (Nat.le_of_ble_eq_true rfl) dL_law_531 rfl ?_
  intro v u hv0
  obtain ⟨q, ν1, rfl, rfl, h2⟩ := hv0
  obtain ⟨ez, z0, z3, hv, n', N', ow', m', p', hX9, hM9⟩ := cb_setKind (ν := ν) hX r1 r2 h1 h2
  show J (gw 14 MSh cy bm ν1 ++ (gw 105 XSh cy b μ1 ++ [(o, .inl (cy 4, 1, .inr (.inl f1)))])) (ce + 1) (sl + 6) 534 [(5, .int (zI zz)), (0, .ref sb), (1, .ref (b 0)), (2, .ref (bm 0)), (3, .ref o), (4, .int (zI i))] [.int (zI q)]
  refine j_istore hJ (lv' := [(6, .int (zI q)), (5, .int (zI zz)), (0, .ref sb), (1, .ref (b 0)), (2, .ref (bm 0)), (3, .ref o), (4, .int (zI i))]) (by decide) rfl dL_law_534 ?_
  refine j_aload_n hJ (j := 4) rfl rfl dL_law_536 ?_
  refine j_callV0 hJ (c_X5_thrown (b := bm) (ν := ν1) (E := gw 105 XSh cy b μ1 ++ [(o, .inl (cy 4, 1, .inr (.inl f1)))]) hfl) m_L_99 k_X5_thrown (rest := []) (q0 := 0) (by rw [gw_get (by decide)]; rfl) rfl ⟨(Nat.le_of_ble_eq_true rfl), (Nat.le_of_ble_eq_true rfl)⟩ ⟨by show (ce + 1) + 0 ≤ 601024; omega, by show (sl + 6) + 0 ≤ 7293034; omega⟩ (Nat.le_of_ble_eq_true rfl) dL_law_537 rfl ?_
  intro v u hv0
  obtain ⟨q7, rfl, rfl, e7⟩ := hv0
  show J (gw 14 MSh cy bm ν1 ++ (gw 105 XSh cy b μ1 ++ [(o, .inl (cy 4, 1, .inr (.inl f1)))])) (ce + 1) (sl + 6) 540 [(6, .int (zI q)), (5, .int (zI zz)), (0, .ref sb), (1, .ref (b 0)), (2, .ref (bm 0)), (3, .ref o), (4, .int (zI i))] [.int (zI q7)]
  refine j_perm hJ (perm_law _ _ _).symm ?_
  show J (gw 105 XSh cy b μ1 ++ ((o, .inl (cy 4, 1, .inr (.inl f1))) :: gw 14 MSh cy bm ν1)) (ce + 1) (sl + 6) 540 [(6, .int (zI q)), (5, .int (zI zz)), (0, .ref sb), (1, .ref (b 0)), (2, .ref (bm 0)), (3, .ref o), (4, .int (zI i))] [.int (zI q7)]
  refine j_iload hJ (j := 1) rfl dL_law_540 ?_
  refine j_icmp_eq hJ (tgt := 547) ⟨by omega, by omega⟩ ⟨by omega, by omega⟩ (by decide) dL_law_542 ?_ ?_
  · intro h542
    refine j_iload hJ (j := 1) rfl dL_law_547 ?_
    refine j_if_ne hJ (tgt := 564) ⟨by omega, by omega⟩ (by decide) dL_law_549 ?_ ?_
    · intro h549
      refine j_goto hJ (tgt := 1706) (by decide) dL_law_564 ?_
      refine j_locs hJ [2, 3, 4, 5, 6] rfl ?_
      refine j_widen hJ (ce' := ce + 10) (sl' := sl + 2300) (by omega) (by omega) ?_
      exact hn _ _ _ _ _ _ _ _ hX9 hM9
    · intro hz0
      refine j_aload_n hJ (j := 5) rfl rfl dL_law_552 ?_
      refine j_iconst hJ dL_law_553 ?_
      refine j_laload hJ (q0 := 105) out_at dL_law_554 ?_
      refine j_iload hJ (j := 0) rfl dL_law_555 ?_
      refine j_i2l hJ dL_law_557 ?_
      refine j_lcmp hJ (hv hz0) dL_law_558 ?_
      refine j_if_eq hJ (tgt := 564) ⟨by omega, by omega⟩ (by decide) dL_law_559 ?_ ?_
      · intro h559
        refine j_goto hJ (tgt := 1706) (by decide) dL_law_564 ?_
        refine j_locs hJ [2, 3, 4, 5, 6] rfl ?_
        refine j_widen hJ (ce' := ce + 10) (sl' := sl + 2300) (by omega) (by omega) ?_
        exact hn _ _ _ _ _ _ _ _ hX9 hM9
      · intro h559; exact absurd rfl h559
  · intro h542; exfalso; omega
end LCS
