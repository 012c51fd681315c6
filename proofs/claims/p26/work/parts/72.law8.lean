/-! the law: holds -/
theorem nu0_0 : (fun _ _ => 0 : Nat → Int → Int) = nu0 0 := by
  funext r j
  unfold nu0
  rw [if_neg (fun q => by have := q.2; omega)]
set_option maxRecDepth 20000 in
theorem m_L_121 : MF RL 121 2 yX4_init 0 := ⟨Or.inl (List.mem_of_getElem? (i := 75) (by decide +kernel)), (List.mem_of_getElem? (i := 40) (by decide +kernel)), ⟨by decide +kernel, by decide +kernel⟩, by decide +kernel, fun h => by omega, fun h => by omega, fun _ => ⟨(List.mem_of_getElem? (i := 76) (by decide +kernel)), rfl⟩⟩
set_option maxRecDepth 20000 in
theorem k_X4_init : Cond.code yX4_init cX4_init 2 none ∈ GT := (List.mem_of_getElem? (i := 77) (by decide +kernel))
theorem q_L_125 : Cond.constant RL 125 (zI 100000) ∈ GT := (List.mem_of_getElem? (i := 173) (by decide +kernel))
set_option maxRecDepth 20000 in
theorem mx_L_122 : MX RL 122 1 yL_from 3 := ⟨(List.mem_of_getElem? (i := 168) (by decide +kernel)), (List.mem_of_getElem? (i := 39) (by decide +kernel)), ⟨by decide +kernel, by decide +kernel⟩, by decide +kernel, fun h => by omega, fun _ => (List.mem_of_getElem? (i := 169) (by decide +kernel))⟩
set_option maxRecDepth 20000 in
theorem k_L_from : Cond.code yL_from cL_from 4 (some .int) ∈ GT := (List.mem_of_getElem? (i := 170) (by decide +kernel))
set_option maxRecDepth 20000 in
theorem m_L_150 : MF RL 150 1 yL_isIndex 4 := ⟨Or.inl (List.mem_of_getElem? (i := 380) (by decide +kernel)), (List.mem_of_getElem? (i := 39) (by decide +kernel)), ⟨by decide +kernel, by decide +kernel⟩, by decide +kernel, fun h => by omega, fun _ => (List.mem_of_getElem? (i := 381) (by decide +kernel)), fun h => by omega⟩
set_option maxRecDepth 20000 in
theorem k_L_isIndex : Cond.code yL_isIndex cL_isIndex 8 (some .boolean) ∈ GT := (List.mem_of_getElem? (i := 382) (by decide +kernel))
set_option maxRecDepth 20000 in
theorem m_L_154 : MF RL 154 1 yL_isWalk 5 := ⟨Or.inl (List.mem_of_getElem? (i := 495) (by decide +kernel)), (List.mem_of_getElem? (i := 39) (by decide +kernel)), ⟨by decide +kernel, by decide +kernel⟩, by decide +kernel, fun h => by omega, fun _ => (List.mem_of_getElem? (i := 496) (by decide +kernel)), fun h => by omega⟩
set_option maxRecDepth 20000 in
theorem k_L_isWalk : Cond.code yL_isWalk cL_isWalk 17 (some .boolean) ∈ GT := (List.mem_of_getElem? (i := 497) (by decide +kernel))
set_option maxRecDepth 20000 in
theorem mx_L_165 : MX RL 165 0 yX4_streetsOf 2 := ⟨(List.mem_of_getElem? (i := 849) (by decide +kernel)), (List.mem_of_getElem? (i := 40) (by decide +kernel)), ⟨by decide +kernel, by decide +kernel⟩, by decide +kernel, fun _ => ⟨(List.mem_of_getElem? (i := 850) (by decide +kernel)), (List.mem_of_getElem? (i := 851) (by decide +kernel))⟩, fun h => by omega⟩
set_option maxRecDepth 20000 in
theorem k_X4_streetsOf : Cond.code yX4_streetsOf cX4_streetsOf 5 (some .int) ∈ GT := (List.mem_of_getElem? (i := 852) (by decide +kernel))
set_option maxRecDepth 20000 in
theorem m_L_158 : MF RL 158 1 yL_isLine 5 := ⟨Or.inl (List.mem_of_getElem? (i := 551) (by decide +kernel)), (List.mem_of_getElem? (i := 39) (by decide +kernel)), ⟨by decide +kernel, by decide +kernel⟩, by decide +kernel, fun h => by omega, fun _ => (List.mem_of_getElem? (i := 552) (by decide +kernel)), fun h => by omega⟩
set_option maxRecDepth 20000 in
theorem k_L_isLine : Cond.code yL_isLine cL_isLine 14 (some .boolean) ∈ GT := (List.mem_of_getElem? (i := 553) (by decide +kernel))
set_option maxRecDepth 20000 in
theorem m_L_162 : MF RL 162 1 yL_isNear 4 := ⟨Or.inl (List.mem_of_getElem? (i := 817) (by decide +kernel)), (List.mem_of_getElem? (i := 39) (by decide +kernel)), ⟨by decide +kernel, by decide +kernel⟩, by decide +kernel, fun h => by omega, fun _ => (List.mem_of_getElem? (i := 818) (by decide +kernel)), fun h => by omega⟩
set_option maxRecDepth 20000 in
theorem k_L_isNear : Cond.code yL_isNear cL_isNear 8 (some .boolean) ∈ GT := (List.mem_of_getElem? (i := 819) (by decide +kernel))
set_option maxRecDepth 20000 in
theorem m_L_146 : MF RL 146 1 yL_isPointed 4 := ⟨Or.inl (List.mem_of_getElem? (i := 329) (by decide +kernel)), (List.mem_of_getElem? (i := 39) (by decide +kernel)), ⟨by decide +kernel, by decide +kernel⟩, by decide +kernel, fun h => by omega, fun _ => (List.mem_of_getElem? (i := 330) (by decide +kernel)), fun h => by omega⟩
set_option maxRecDepth 20000 in
theorem k_L_isPointed : Cond.code yL_isPointed cL_isPointed 13 (some .boolean) ∈ GT := (List.mem_of_getElem? (i := 331) (by decide +kernel))
set_option maxRecDepth 20000 in
theorem mx_L_143 : MX RL 143 0 yX4_dropPoint 1 := ⟨(List.mem_of_getElem? (i := 313) (by decide +kernel)), (List.mem_of_getElem? (i := 40) (by decide +kernel)), ⟨by decide +kernel, by decide +kernel⟩, by decide +kernel, fun _ => ⟨(List.mem_of_getElem? (i := 314) (by decide +kernel)), (List.mem_of_getElem? (i := 315) (by decide +kernel))⟩, fun h => by omega⟩
set_option maxRecDepth 20000 in
theorem k_X4_dropPoint : Cond.code yX4_dropPoint cX4_dropPoint 3 (some .int) ∈ GT := (List.mem_of_getElem? (i := 316) (by decide +kernel))
set_option maxRecDepth 20000 in
theorem mx_L_139 : MX RL 139 0 yX4_setOneWay 2 := ⟨(List.mem_of_getElem? (i := 309) (by decide +kernel)), (List.mem_of_getElem? (i := 40) (by decide +kernel)), ⟨by decide +kernel, by decide +kernel⟩, by decide +kernel, fun _ => ⟨(List.mem_of_getElem? (i := 310) (by decide +kernel)), (List.mem_of_getElem? (i := 311) (by decide +kernel))⟩, fun h => by omega⟩
set_option maxRecDepth 20000 in
theorem k_X4_setOneWay : Cond.code yX4_setOneWay cX4_setOneWay 4 (some .boolean) ∈ GT := (List.mem_of_getElem? (i := 312) (by decide +kernel))
set_option maxRecDepth 20000 in
theorem mx_L_136 : MX RL 136 0 yX4_setKind 2 := ⟨(List.mem_of_getElem? (i := 304) (by decide +kernel)), (List.mem_of_getElem? (i := 40) (by decide +kernel)), ⟨by decide +kernel, by decide +kernel⟩, by decide +kernel, fun _ => ⟨(List.mem_of_getElem? (i := 305) (by decide +kernel)), (List.mem_of_getElem? (i := 306) (by decide +kernel))⟩, fun h => by omega⟩
set_option maxRecDepth 20000 in
theorem k_X4_setKind : Cond.code yX4_setKind cX4_setKind 4 (some .int) ∈ GT := (List.mem_of_getElem? (i := 307) (by decide +kernel))
set_option maxRecDepth 20000 in
theorem m_L_126 : MF RL 126 1 yL_named 3 := ⟨Or.inl (List.mem_of_getElem? (i := 174) (by decide +kernel)), (List.mem_of_getElem? (i := 39) (by decide +kernel)), ⟨by decide +kernel, by decide +kernel⟩, by decide +kernel, fun h => by omega, fun _ => (List.mem_of_getElem? (i := 175) (by decide +kernel)), fun h => by omega⟩
set_option maxRecDepth 20000 in
theorem k_L_named : Cond.code yL_named cL_named 6 (some .int) ∈ GT := (List.mem_of_getElem? (i := 176) (by decide +kernel))
set_option maxRecDepth 20000 in
theorem mx_L_132 : MX RL 132 0 yX4_rename 3 := ⟨(List.mem_of_getElem? (i := 280) (by decide +kernel)), (List.mem_of_getElem? (i := 40) (by decide +kernel)), ⟨by decide +kernel, by decide +kernel⟩, by decide +kernel, fun _ => ⟨(List.mem_of_getElem? (i := 281) (by decide +kernel)), (List.mem_of_getElem? (i := 282) (by decide +kernel))⟩, fun h => by omega⟩
set_option maxRecDepth 20000 in
theorem k_X4_rename : Cond.code yX4_rename cX4_rename 4 none ∈ GT := (List.mem_of_getElem? (i := 283) (by decide +kernel))
set_option maxRecDepth 20000 in
theorem mx_L_129 : MX RL 129 0 yX4_addStreet 2 := ⟨(List.mem_of_getElem? (i := 180) (by decide +kernel)), (List.mem_of_getElem? (i := 40) (by decide +kernel)), ⟨by decide +kernel, by decide +kernel⟩, by decide +kernel, fun _ => ⟨(List.mem_of_getElem? (i := 181) (by decide +kernel)), (List.mem_of_getElem? (i := 182) (by decide +kernel))⟩, fun h => by omega⟩
set_option maxRecDepth 20000 in
theorem k_X4_addStreet : Cond.code yX4_addStreet cX4_addStreet 3 (some .int) ∈ GT := (List.mem_of_getElem? (i := 183) (by decide +kernel))
section
variable {l : Launch} {D : va_G} {cy : Nat → ClassId} {n0 : Nat} {ad : Nat → Nat} {b ba : Nat → Nat} {E : va_W} {ws : va_W}
set_option maxHeartbeats 4000000 in
set_option maxRecDepth 100000 in
theorem c_L_holds {sb L : Nat} {xs : Nat → Int32} (hfl : l.stackTraces = false) (hL : L ≤ 260) : CTX l D cy n0 ad (XSL sb L xs n0) yL_holds (.code yL_holds cL_holds 14 (some .boolean)) ({ frames := 13, cells := 150000, slots := 5700000, locals := 310 }) [.ref sb] [] (fun vv uu => vv = some (.int (zI 1))) := by
  refine CTX.walk hfl (by decide) (Nat.le_of_ble_eq_true rfl) ?_
  intro A J hJ
  show J [] 0 0 0 [(0, .ref sb)] []
  refine j_new tyX4 hJ (ci := 4) (fs := [.null, .null, .int (zI 0), .null, .null, .null]) rfl lays_X4 tyX4_ok (List.mem_of_getElem? (i := 73) (by decide +kernel)) (List.mem_of_getElem? (i := 74) (by decide +kernel)) (List.mem_of_getElem? (i := 40) (by decide +kernel)) (fun j hj => by rcases (show j = 0 ∨ j = 1 ∨ j = 2 ∨ j = 3 ∨ j = 4 ∨ j = 5 by omega) with rfl | rfl | rfl | rfl | rfl | rfl <;> rfl) (Nat.le_of_ble_eq_true rfl) (Nat.le_of_ble_eq_true rfl) dL_holds_0 (fun q1 => ?_)
  show J ([(q1, .inr (4, [.null, .null, .int (zI 0), .null, .null, .null]))] ++ []) 1 6 3 [(0, .ref sb)] [.ref q1]
  refine j_dup hJ rfl dL_holds_3 ?_
  refine j_callI0 (ce := 1) (sl := 6) hJ (c_X4_init (a := q1) (E := []) hfl) m_L_121 k_X4_init ⟨(Nat.le_of_ble_eq_true rfl), (Nat.le_of_ble_eq_true rfl)⟩ ⟨(Nat.le_of_ble_eq_true rfl), (Nat.le_of_ble_eq_true rfl)⟩ (rest := [.ref q1]) (Nat.le_of_ble_eq_true rfl) dL_holds_4 rfl ?_
  intro v u hv
  obtain ⟨b, rfl, rfl, rfl⟩ := hv
  show J (gw 105 XSh cy b mu0 ++ []) 105 2649 7 [(0, .ref sb)] [.ref (b 0)]
  refine j_astore_n hJ (lv' := [(1, .ref (b 0)), (0, .ref sb)]) rfl (by decide) rfl dL_holds_7 ?_
  refine j_bipush hJ (v := 24) (by decide) dL_holds_8 ?_
  refine j_newa hJ (ty := .int) (t := 0) (N' := 24) rfl (fun _ => rfl) arr_i rfl (by decide) (by decide) (fun _ => rfl) (Nat.le_of_ble_eq_true rfl) (Nat.le_of_ble_eq_true rfl) dL_holds_10 (fun d9 => ?_)
  refine j_astore_n hJ (lv' := [(2, .ref d9), (1, .ref (b 0)), (0, .ref sb)]) rfl (by decide) rfl dL_holds_12 ?_
  refine j_bipush hJ (v := 25) (by decide) dL_holds_13 ?_
  refine j_newa hJ (ty := .int) (t := 0) (N' := 25) rfl (fun _ => rfl) arr_i rfl (by decide) (by decide) (fun _ => rfl) (Nat.le_of_ble_eq_true rfl) (Nat.le_of_ble_eq_true rfl) dL_holds_15 (fun n9 => ?_)
  refine j_astore_n hJ (lv' := [(3, .ref n9), (2, .ref d9), (1, .ref (b 0)), (0, .ref sb)]) rfl (by decide) rfl dL_holds_17 ?_
  refine j_bipush hJ (v := 35) (by decide) dL_holds_18 ?_
  refine j_newa hJ (ty := .int) (t := 0) (N' := 35) rfl (fun _ => rfl) arr_i rfl (by decide) (by decide) (fun _ => rfl) (Nat.le_of_ble_eq_true rfl) (Nat.le_of_ble_eq_true rfl) dL_holds_20 (fun p9 => ?_)
  refine j_astore hJ (lv' := [(4, .ref p9), (3, .ref n9), (2, .ref d9), (1, .ref (b 0)), (0, .ref sb)]) (by decide) rfl dL_holds_22 ?_
  obtain ⟨ba, e0, e1, e2⟩ : ∃ ba : Nat → Nat, ba 0 = d9 ∧ ba 1 = n9 ∧ ba 2 = p9 := ⟨fun k => match k with | 0 => d9 | 1 => n9 | _ + 2 => p9, rfl, rfl, rfl⟩
  subst e0; subst e1; subst e2
  refine j_perm hJ (ws' := gw 105 XSh cy b mu0 ++ (gw 3 ASh cy ba (fun _ _ => 0) ++ [])) (List.Perm.of_eq (by rw [List.append_nil, List.append_nil, List.append_assoc, List.append_assoc]; rfl)) ?_
  refine j_locs hJ [4, 3, 2, 1, 0] rfl ?_
  show J (gw 105 XSh cy b mu0 ++ (gw 3 ASh cy ba (fun _ _ => 0) ++ [])) 108 2733 24 [(0, .ref sb), (1, .ref (b 0)), (2, .ref (ba 0)), (3, .ref (ba 1)), (4, .ref (ba 2))] []
  refine j_iconst hJ dL_holds_24 ?_
  refine j_istore hJ (lv' := [(5, .int (zI 0)), (0, .ref sb), (1, .ref (b 0)), (2, .ref (ba 0)), (3, .ref (ba 1)), (4, .ref (ba 2))]) (by decide) rfl dL_holds_25 ?_
  have lp27 : ∀ (nn27 : Nat) (νk : Nat → Int → Int) (k : Nat) (hmeas27 : 5 - k < nn27) (hk : k ≤ 4) (hν : νk = nu0 k), J (gw 105 XSh cy b mu0 ++ (gw 3 ASh cy ba νk ++ [])) 108 2733 27 [(0, .ref sb), (1, .ref (b 0)), (2, .ref (ba 0)), (3, .ref (ba 1)), (4, .ref (ba 2)), (5, .int (zI (k : Int)))] [] := by
    intro nn27
    induction nn27 with
    | zero => intro νk k hmeas27 hk hν; omega
    | succ nn27 ih27 =>
      intro νk k hmeas27 hk hν
      refine j_iload hJ (j := 5) rfl dL_holds_27 ?_
      refine j_iconst hJ dL_holds_29 ?_
      refine j_icmp_ge hJ (tgt := 44) ⟨by omega, by omega⟩ ⟨by omega, by omega⟩ (by decide) dL_holds_30 ?_ ?_
      · intro h30
        have hk4 : k = 4 := by omega
        have hS0 : SI mu0 νk 0 (fun _ => []) (fun _ => 0) (fun _ => 0) (fun _ _ => 0) := by rw [hν, hk4]; exact SI_new
        refine j_iconst hJ dL_holds_44 ?_
        refine j_istore hJ (lv' := [(5, .int (zI 0)), (0, .ref sb), (1, .ref (b 0)), (2, .ref (ba 0)), (3, .ref (ba 1)), (4, .ref (ba 2))]) (by decide) rfl dL_holds_45 ?_
        refine j_iconst hJ dL_holds_47 ?_
        refine j_istore hJ (lv' := [(6, .int (zI 1)), (5, .int (zI 0)), (0, .ref sb), (1, .ref (b 0)), (2, .ref (ba 0)), (3, .ref (ba 1)), (4, .ref (ba 2))]) (by decide) rfl dL_holds_48 ?_
        refine j_iconst hJ dL_holds_50 ?_
        refine j_istore hJ (lv' := [(7, .int (zI 0)), (6, .int (zI 1)), (5, .int (zI 0)), (0, .ref sb), (1, .ref (b 0)), (2, .ref (ba 0)), (3, .ref (ba 1)), (4, .ref (ba 2))]) (by decide) rfl dL_holds_51 ?_
        have lp53 : ∀ (nn53 : Nat) (μe : Nat → Int → Int) (νe : Nat → Int → Int) (n : Nat) (N : Nat → List Int) (ow : Nat → Int) (m : Nat → Nat) (p : Nat → Nat → Int) (e : Nat) (hmeas53 : 71 - e < nn53) (he : e ≤ 70) (hS : SI μe νe n N ow m p) (hne : 1 ≤ e → 1 ≤ n), J (gw 105 XSh cy b μe ++ (gw 3 ASh cy ba νe ++ [])) (200 + 100 * e + 10000 * (e / 5)) (4000 + 200 * e + 400000 * (e / 5)) 53 [(0, .ref sb), (1, .ref (b 0)), (2, .ref (ba 0)), (3, .ref (ba 1)), (4, .ref (ba 2)), (5, .int (zI (n : Int))), (6, .int (zI 1)), (7, .int (zI (e : Int)))] [] := by
          intro nn53
          induction nn53 with
          | zero => intro μe νe n N ow m p e hmeas53 he hS hne; omega
          | succ nn53 ih53 =>
            intro μe νe n N ow m p e hmeas53 he hS hne
            refine j_iload hJ (j := 7) rfl dL_holds_53 ?_
            refine j_bipush hJ (v := 70) (by decide) dL_holds_55 ?_
            refine j_icmp_ge hJ (tgt := 665) ⟨by omega, by omega⟩ ⟨by omega, by omega⟩ (by decide) dL_holds_57 ?_ ?_
            · intro h57
              refine j_iload hJ (j := 6) rfl dL_holds_665 ?_
              refine j_iret hJ rfl rfl rfl (by dsimp only; omega) (by dsimp only; omega) dL_holds_667 rfl
            · intro h57
              have he70 : e < 70 := by omega
              obtain ⟨hX, hn5, hK, hA, hN, hP, hB⟩ := id hS
              obtain ⟨x1, x2, x3, x4, x5, x6, x7⟩ := id hX
              refine j_iload hJ (j := 6) rfl dL_holds_60 ?_
              refine j_if_eq hJ (tgt := 665) ⟨by omega, by omega⟩ (by decide) dL_holds_62 ?_ ?_
              · intro h62
                exact absurd h62 (by decide)
              · intro h62
                have j85 : ∀ (wy : Int) (hwy : (0 ≤ wy ∧ wy < 12) ∧ (e < 2 → wy = 0)), J (gw 105 XSh cy b μe ++ (gw 3 ASh cy ba νe ++ [])) (200 + 100 * e + 10000 * (e / 5)) (4000 + 200 * e + 400000 * (e / 5)) 85 [(0, .ref sb), (1, .ref (b 0)), (2, .ref (ba 0)), (3, .ref (ba 1)), (4, .ref (ba 2)), (5, .int (zI (n : Int))), (6, .int (zI 1)), (7, .int (zI (e : Int)))] [.int (zI wy)] := by
                  intro wy hwy
                  refine j_istore hJ (lv' := [(8, .int (zI wy)), (0, .ref sb), (1, .ref (b 0)), (2, .ref (ba 0)), (3, .ref (ba 1)), (4, .ref (ba 2)), (5, .int (zI (n : Int))), (6, .int (zI 1)), (7, .int (zI (e : Int)))]) (by decide) rfl dL_holds_85 ?_
                  refine j_aload_n hJ (j := 1) rfl rfl dL_holds_87 ?_
                  refine j_iconst hJ dL_holds_88 ?_
                  refine j_iload hJ (j := 8) rfl dL_holds_89 ?_
                  refine j_imul hJ dL_holds_91 ?_
                  refine j_iconst hJ dL_holds_92 ?_
                  refine j_iadd hJ dL_holds_93 ?_
                  refine j_ldc hJ q_L_125 dL_holds_94 ?_
                  refine j_callSC XSL.mv hJ (c_L_from hfl hL ⟨by omega, by omega⟩ ⟨by omega, by omega⟩) mx_L_122 k_L_from ⟨(Nat.le_of_ble_eq_true rfl), (Nat.le_of_ble_eq_true rfl)⟩ ⟨by dsimp only; omega, by dsimp only; omega⟩ (Nat.le_of_ble_eq_true rfl) dL_holds_96 rfl ?_
                  intro v1 u2 hv3
                  obtain ⟨z, rfl, rfl, hz⟩ := hv3
                  show J (gw 105 XSh cy b μe ++ (gw 3 ASh cy ba νe ++ [])) _ _ 99 [(8, .int (zI wy)), (0, .ref sb), (1, .ref (b 0)), (2, .ref (ba 0)), (3, .ref (ba 1)), (4, .ref (ba 2)), (5, .int (zI (n : Int))), (6, .int (zI 1)), (7, .int (zI (e : Int)))] [.int (zI z)]
                  
                  refine j_istore hJ (lv' := [(9, .int (zI z)), (8, .int (zI wy)), (0, .ref sb), (1, .ref (b 0)), (2, .ref (ba 0)), (3, .ref (ba 1)), (4, .ref (ba 2)), (5, .int (zI (n : Int))), (6, .int (zI 1)), (7, .int (zI (e : Int)))]) (by decide) rfl dL_holds_99 ?_
                  have j122 : ∀ (sr : Nat) (hsr : (0 < n → sr < n) ∧ (n = 0 → sr = 0)), J (gw 105 XSh cy b μe ++ (gw 3 ASh cy ba νe ++ [])) (200 + 100 * e + 10000 * (e / 5)) (4000 + 200 * e + 400000 * (e / 5)) 122 [(0, .ref sb), (1, .ref (b 0)), (2, .ref (ba 0)), (3, .ref (ba 1)), (4, .ref (ba 2)), (5, .int (zI (n : Int))), (6, .int (zI 1)), (7, .int (zI (e : Int))), (8, .int (zI wy)), (9, .int (zI z))] [.int (zI (sr : Int))] := by
                    intro sr hsr
                    refine j_istore hJ (lv' := [(10, .int (zI (sr : Int))), (0, .ref sb), (1, .ref (b 0)), (2, .ref (ba 0)), (3, .ref (ba 1)), (4, .ref (ba 2)), (5, .int (zI (n : Int))), (6, .int (zI 1)), (7, .int (zI (e : Int))), (8, .int (zI wy)), (9, .int (zI z))]) (by decide) rfl dL_holds_122 ?_
                    have j411 : ∀ (μ2 : Nat → Int → Int) (ν2 : Nat → Int → Int) (n2 : Nat) (N2 : Nat → List Int) (ow2 : Nat → Int) (m2 : Nat → Nat) (p2 : Nat → Nat → Int) (hS2 : SI μ2 ν2 n2 N2 ow2 m2 p2) (hn2 : 1 ≤ n2 ∧ sr < n2), J (gw 105 XSh cy b μ2 ++ (gw 3 ASh cy ba ν2 ++ [])) (200 + 100 * e + 10000 * (e / 5) + 50) (4000 + 200 * e + 400000 * (e / 5) + 100) 411 [(0, .ref sb), (1, .ref (b 0)), (2, .ref (ba 0)), (3, .ref (ba 1)), (4, .ref (ba 2)), (5, .int (zI (n2 : Int))), (6, .int (zI 1)), (7, .int (zI (e : Int))), (9, .int (zI z)), (10, .int (zI (sr : Int)))] [] := by
                      intro μ2 ν2 n2 N2 ow2 m2 p2 hS2 hn2
                      refine j_iload hJ (j := 6) rfl dL_holds_411 ?_
                      have j659 : ∀ (μ9 : Nat → Int → Int) (hS9 : SI μ9 ν2 n2 N2 ow2 m2 p2), J (gw 105 XSh cy b μ9 ++ (gw 3 ASh cy ba ν2 ++ [])) (200 + 100 * (e + 1) + 10000 * ((e + 1) / 5)) (4000 + 200 * (e + 1) + 400000 * ((e + 1) / 5)) 659 [(0, .ref sb), (1, .ref (b 0)), (2, .ref (ba 0)), (3, .ref (ba 1)), (4, .ref (ba 2)), (5, .int (zI (n2 : Int))), (6, .int (zI 1)), (7, .int (zI (e : Int)))] [] := by
                        intro μ9 hS9
                        refine j_iinc hJ (lv' := [(7, .int (zI ((e : Int) + 1))), (0, .ref sb), (1, .ref (b 0)), (2, .ref (ba 0)), (3, .ref (ba 1)), (4, .ref (ba 2)), (5, .int (zI (n2 : Int))), (6, .int (zI 1))]) (j := 7) rfl (by omega) (by decide) rfl dL_holds_659 ?_
                        refine j_goto hJ (tgt := 53) (by decide) dL_holds_662 ?_
                        refine j_locs hJ [1, 2, 3, 4, 5, 6, 7, 0] rfl ?_
                        refine j_widen hJ (ce' := 200 + 100 * (e + 1) + 10000 * ((e + 1) / 5)) (sl' := 4000 + 200 * (e + 1) + 400000 * ((e + 1) / 5)) (by (try dsimp only); omega) (by (try dsimp only); omega) ?_
                        exact ih53 μ9 ν2 n2 N2 ow2 m2 p2 (e + 1) (by omega) (by omega) (by exact hS9) (by omega)
                      refine j_if_eq hJ (tgt := 659) ⟨by omega, by omega⟩ (by decide) dL_holds_413 ?_ ?_
                      · intro h413
                        refine j_locs hJ [0, 1, 2, 3, 4, 5, 6, 7] rfl ?_
                        refine j_widen hJ (ce' := 200 + 100 * (e + 1) + 10000 * ((e + 1) / 5)) (sl' := 4000 + 200 * (e + 1) + 400000 * ((e + 1) / 5)) (by (try dsimp only); omega) (by (try dsimp only); omega) ?_
                        exact j659 μ2 (by first | exact hS9 | exact hS2)
                      · intro h413
                        refine j_iload hJ (j := 7) rfl dL_holds_416 ?_
                        refine j_iconst hJ dL_holds_418 ?_
                        refine j_irem hJ (by omega) (by omega) (by omega) (by omega) dL_holds_419 ?_
                        refine j_iconst hJ dL_holds_420 ?_
                        refine j_icmp_ne hJ (tgt := 659) ⟨by omega, by omega⟩ ⟨by omega, by omega⟩ (by decide) dL_holds_421 ?_ ?_
                        · intro h421
                          refine j_locs hJ [0, 1, 2, 3, 4, 5, 6, 7] rfl ?_
                          refine j_widen hJ (ce' := 200 + 100 * (e + 1) + 10000 * ((e + 1) / 5)) (sl' := 4000 + 200 * (e + 1) + 400000 * ((e + 1) / 5)) (by (try dsimp only); omega) (by (try dsimp only); omega) ?_
                          exact j659 μ2 (by first | exact hS9 | exact hS2)
                        · intro h421
                          have he5 : e % 5 = 4 := by omega
                          have he6 : (e + 1) / 5 = e / 5 + 1 := by omega
                          obtain ⟨hX, hn5, hK, hA, hN, hP, hB⟩ := id hS2
                          obtain ⟨sq, hsqv⟩ : ∃ sq, sq = z / 11 % 8 * 12 + z / 97 % 8 := ⟨_, rfl⟩
                          have hsqr : 0 ≤ sq ∧ sq < 144 := by omega
                          have hPn : ∀ i, i < n2 → APt ν2 i (p2 i) (m2 i) ∧ ν2 2 (7 * (i : Int) + 6) = ow2 i := fun i hi => hP i (by omega)
                          refine j_iload hJ (j := 8) rfl dL_holds_424 ?_
                          refine j_bipush hJ (v := 11) (by decide) dL_holds_426 ?_
                          refine j_idiv hJ (by omega) (by omega) (by omega) (by omega) dL_holds_428 ?_
                          refine j_bipush hJ (v := 8) (by decide) dL_holds_429 ?_
                          refine j_irem hJ (by omega) (by omega) (by omega) (by omega) dL_holds_431 ?_
                          refine j_bipush hJ (v := 12) (by decide) dL_holds_432 ?_
                          refine j_imul hJ dL_holds_434 ?_
                          refine j_iload hJ (j := 8) rfl dL_holds_435 ?_
                          refine j_bipush hJ (v := 97) (by decide) dL_holds_437 ?_
                          refine j_idiv hJ (by omega) (by omega) (by omega) (by omega) dL_holds_439 ?_
                          refine j_bipush hJ (v := 8) (by decide) dL_holds_440 ?_
                          refine j_irem hJ (by omega) (by omega) (by omega) (by omega) dL_holds_442 ?_
                          refine j_iadd hJ dL_holds_443 ?_
                          refine j_topi (y := zI sq) (by rw [hsqv]) ?_
                          refine j_istore hJ (lv' := [(11, .int (zI sq)), (0, .ref sb), (1, .ref (b 0)), (2, .ref (ba 0)), (3, .ref (ba 1)), (4, .ref (ba 2)), (5, .int (zI (n2 : Int))), (6, .int (zI 1)), (7, .int (zI (e : Int))), (9, .int (zI z)), (10, .int (zI (sr : Int)))]) (by decide) rfl dL_holds_444 ?_
                          refine j_aload_n hJ (j := 2) rfl rfl dL_holds_446 ?_
                          refine j_aload_n hJ (j := 3) rfl rfl dL_holds_447 ?_
                          refine j_aload_n hJ (j := 4) rfl rfl dL_holds_448 ?_
                          refine j_iload hJ (j := 6) rfl dL_holds_449 ?_
                          refine j_callS0 hJ (c_L_isIndex hfl hX hn5 hK hA hN) m_L_150 k_L_isIndex ⟨(Nat.le_of_ble_eq_true rfl), (Nat.le_of_ble_eq_true rfl)⟩ ⟨by dsimp only; omega, by dsimp only; omega⟩ (Nat.le_of_ble_eq_true rfl) dL_holds_451 rfl ?_
                          intro v4 u5 hv6
                          obtain ⟨q451, μ1, rfl, rfl, h451⟩ := hv6
                          show J (gw 105 XSh cy b μ1 ++ (gw 3 ASh cy ba ν2 ++ [])) _ _ 454 [(11, .int (zI sq)), (0, .ref sb), (1, .ref (b 0)), (2, .ref (ba 0)), (3, .ref (ba 1)), (4, .ref (ba 2)), (5, .int (zI (n2 : Int))), (6, .int (zI 1)), (7, .int (zI (e : Int))), (9, .int (zI z)), (10, .int (zI (sr : Int)))] [.int (zI q451)]
                          have hSb := hS2.scr h451.2
                          refine j_topi (y := zI 1) (by rw [h451.1]) ?_
                          refine j_if_eq hJ (tgt := 494) ⟨by omega, by omega⟩ (by decide) dL_holds_454 ?_ ?_
                          · intro h454
                            exact absurd h454 (by decide)
                          · intro h454
                            refine j_aload_n hJ (j := 2) rfl rfl dL_holds_457 ?_
                            refine j_aload hJ (j := 5) rfl dL_holds_458 ?_
                            refine j_iload hJ (j := 6) rfl dL_holds_460 ?_
                            refine j_iload hJ (j := 0) rfl dL_holds_462 ?_
                            refine j_iload hJ (j := 9) rfl dL_holds_464 ?_
                            refine j_bipush hJ (v := 13) (by decide) dL_holds_466 ?_
                            refine j_idiv hJ (by omega) (by omega) (by omega) (by omega) dL_holds_468 ?_
                            refine j_bipush hJ (v := 6) (by decide) dL_holds_469 ?_
                            refine j_irem hJ (by omega) (by omega) (by omega) (by omega) dL_holds_471 ?_
                            refine j_bipush hJ (v := 12) (by decide) dL_holds_472 ?_
                            refine j_imul hJ dL_holds_474 ?_
                            refine j_iload hJ (j := 9) rfl dL_holds_475 ?_
                            refine j_bipush hJ (v := 89) (by decide) dL_holds_477 ?_
                            refine j_idiv hJ (by omega) (by omega) (by omega) (by omega) dL_holds_479 ?_
                            refine j_bipush hJ (v := 6) (by decide) dL_holds_480 ?_
                            refine j_irem hJ (by omega) (by omega) (by omega) (by omega) dL_holds_482 ?_
                            refine j_iadd hJ dL_holds_483 ?_
                            refine j_callS0 hJ (c_L_isWalk hfl hSb.1 hn5 hPn hsqr ⟨by omega, by omega⟩) m_L_154 k_L_isWalk ⟨(Nat.le_of_ble_eq_true rfl), (Nat.le_of_ble_eq_true rfl)⟩ ⟨by dsimp only; omega, by dsimp only; omega⟩ (Nat.le_of_ble_eq_true rfl) dL_holds_484 rfl ?_
                            intro v7 u8 hv9
                            obtain ⟨q484, μ2, rfl, rfl, h484⟩ := hv9
                            show J (gw 105 XSh cy b μ2 ++ (gw 3 ASh cy ba ν2 ++ [])) _ _ 487 [(11, .int (zI sq)), (0, .ref sb), (1, .ref (b 0)), (2, .ref (ba 0)), (3, .ref (ba 1)), (4, .ref (ba 2)), (5, .int (zI (n2 : Int))), (6, .int (zI 1)), (7, .int (zI (e : Int))), (9, .int (zI z)), (10, .int (zI (sr : Int)))] [.int (zI q484)]
                            have hSc := hSb.mu h484.2.1 h484.2.2
                            refine j_topi (y := zI 1) (by rw [h484.1]) ?_
                            refine j_if_eq hJ (tgt := 494) ⟨by omega, by omega⟩ (by decide) dL_holds_487 ?_ ?_
                            · intro h487
                              exact absurd h487 (by decide)
                            · intro h487
                              refine j_iconst hJ dL_holds_490 ?_
                              refine j_goto hJ (tgt := 495) (by decide) dL_holds_491 ?_
                              refine j_istore hJ (lv' := [(6, .int (zI 1)), (11, .int (zI sq)), (0, .ref sb), (1, .ref (b 0)), (2, .ref (ba 0)), (3, .ref (ba 1)), (4, .ref (ba 2)), (5, .int (zI (n2 : Int))), (7, .int (zI (e : Int))), (9, .int (zI z)), (10, .int (zI (sr : Int)))]) (by decide) rfl dL_holds_495 ?_
                              refine j_iconst hJ dL_holds_497 ?_
                              refine j_istore hJ (lv' := [(12, .int (zI 0)), (6, .int (zI 1)), (11, .int (zI sq)), (0, .ref sb), (1, .ref (b 0)), (2, .ref (ba 0)), (3, .ref (ba 1)), (4, .ref (ba 2)), (5, .int (zI (n2 : Int))), (7, .int (zI (e : Int))), (9, .int (zI z)), (10, .int (zI (sr : Int)))]) (by decide) rfl dL_holds_498 ?_
                              refine j_iconst hJ dL_holds_500 ?_
                              refine j_istore hJ (lv' := [(13, .int (zI 0)), (12, .int (zI 0)), (6, .int (zI 1)), (11, .int (zI sq)), (0, .ref sb), (1, .ref (b 0)), (2, .ref (ba 0)), (3, .ref (ba 1)), (4, .ref (ba 2)), (5, .int (zI (n2 : Int))), (7, .int (zI (e : Int))), (9, .int (zI z)), (10, .int (zI (sr : Int)))]) (by decide) rfl dL_holds_501 ?_
                              have lp503 : ∀ (nn503 : Nat) (μk : Nat → Int → Int) (k : Nat) (hmeas503 : n2 + 1 - k < nn503) (hk : k ≤ n2) (hSk : SI μk ν2 n2 N2 ow2 m2 p2), J (gw 105 XSh cy b μk ++ (gw 3 ASh cy ba ν2 ++ [])) (200 + 100 * e + 10000 * (e / 5) + 120 + 1909 * k) (4000 + 200 * e + 400000 * (e / 5) + 540 + 79054 * k) 503 [(0, .ref sb), (1, .ref (b 0)), (2, .ref (ba 0)), (3, .ref (ba 1)), (4, .ref (ba 2)), (5, .int (zI (n2 : Int))), (6, .int (zI 1)), (7, .int (zI (e : Int))), (9, .int (zI z)), (10, .int (zI (sr : Int))), (11, .int (zI sq)), (12, .int (zI (bitsOf (fun j => decide (sq ∈ trk (p2 j) (m2 j))) k))), (13, .int (zI (k : Int)))] [] := by
                                intro nn503
                                induction nn503 with
                                | zero => intro μk k hmeas503 hk hSk; omega
                                | succ nn503 ih503 =>
                                  intro μk k hmeas503 hk hSk
                                  refine j_iload hJ (j := 12) rfl dL_holds_503 ?_
                                  refine j_iload hJ (j := 5) rfl dL_holds_505 ?_
                                  refine j_icmp_ge hJ (tgt := 579) ⟨by omega, by omega⟩ ⟨by omega, by omega⟩ (by decide) dL_holds_507 ?_ ?_
                                  · intro h507
                                    have j657 : ∀ (μ9 : Nat → Int → Int) (hS9 : SI μ9 ν2 n2 N2 ow2 m2 p2), J (gw 105 XSh cy b μ9 ++ (gw 3 ASh cy ba ν2 ++ [])) (200 + 100 * (e + 1) + 10000 * ((e + 1) / 5)) (4000 + 200 * (e + 1) + 400000 * ((e + 1) / 5)) 657 [(0, .ref sb), (1, .ref (b 0)), (2, .ref (ba 0)), (3, .ref (ba 1)), (4, .ref (ba 2)), (5, .int (zI (n2 : Int))), (7, .int (zI (e : Int)))] [.int (zI 1)] := by
                                      intro μ9 hS9
                                      refine j_istore hJ (lv' := [(6, .int (zI 1)), (0, .ref sb), (1, .ref (b 0)), (2, .ref (ba 0)), (3, .ref (ba 1)), (4, .ref (ba 2)), (5, .int (zI (n2 : Int))), (7, .int (zI (e : Int)))]) (by decide) rfl dL_holds_657 ?_
                                      refine j_locs hJ [1, 2, 3, 4, 5, 6, 0, 7] rfl ?_
                                      refine j_widen hJ (ce' := 200 + 100 * (e + 1) + 10000 * ((e + 1) / 5)) (sl' := 4000 + 200 * (e + 1) + 400000 * ((e + 1) / 5)) (by (try dsimp only); omega) (by (try dsimp only); omega) ?_
                                      exact j659 μ9 (by first | exact hS9 | exact hS2)
                                    have hkn : k = n2 := by omega
                                    obtain ⟨kX, -, kK, kA, kN, kP, -⟩ := id hSk
                                    have hbr := bitsOf_rng (f := (fun j => decide (sq ∈ trk (p2 j) (m2 j)))) (k := k) (by omega)
                                    refine j_iload hJ (j := 6) rfl dL_holds_579 ?_
                                    refine j_if_eq hJ (tgt := 656) ⟨by omega, by omega⟩ (by decide) dL_holds_581 ?_ ?_
                                    · intro h581
                                      exact absurd h581 (by decide)
                                    · intro h581
                                      refine j_aload_n hJ (j := 1) rfl rfl dL_holds_584 ?_
                                      refine j_iload hJ (j := 10) rfl dL_holds_585 ?_
                                      refine j_bipush hJ (v := 12) (by decide) dL_holds_587 ?_
                                      refine j_idiv hJ (by omega) (by omega) (by omega) (by omega) dL_holds_589 ?_
                                      refine j_iload hJ (j := 10) rfl dL_holds_590 ?_
                                      refine j_bipush hJ (v := 12) (by decide) dL_holds_592 ?_
                                      refine j_irem hJ (by omega) (by omega) (by omega) (by omega) dL_holds_594 ?_
                                      refine j_callVX0 hJ (c_X4_streetsOf hfl kX ⟨by omega, by omega⟩ ⟨by omega, by omega⟩) mx_L_165 k_X4_streetsOf (q0 := 0) (by rw [gw_get (by decide)]; rfl) rfl ⟨(Nat.le_of_ble_eq_true rfl), (Nat.le_of_ble_eq_true rfl)⟩ ⟨by dsimp only; omega, by dsimp only; omega⟩ (Nat.le_of_ble_eq_true rfl) dL_holds_595 (by rintro q u ⟨_, _, ⟨_, h⟩, _⟩; exact h ⟨⟨by omega, by omega⟩, by omega, by omega⟩) rfl ?_
                                      intro v10 u11 hv12
                                      obtain ⟨q595, rfl, rfl, h595⟩ := hv12
                                      show J (gw 105 XSh cy b μk ++ (gw 3 ASh cy ba ν2 ++ [])) _ _ 598 [(0, .ref sb), (1, .ref (b 0)), (2, .ref (ba 0)), (3, .ref (ba 1)), (4, .ref (ba 2)), (5, .int (zI (n2 : Int))), (6, .int (zI 1)), (7, .int (zI (e : Int))), (9, .int (zI z)), (10, .int (zI (sr : Int))), (11, .int (zI sq)), (12, .int (zI (bitsOf (fun j => decide (sq ∈ trk (p2 j) (m2 j))) k))), (13, .int (zI (k : Int)))] [.int (zI q595)]
                                      have e595 := h595.2
                                      rw [show 12 * (sq / 12) + sq % 12 = sq by omega, ← hkn] at e595
                                      refine j_iload hJ (j := 11) rfl dL_holds_598 ?_
                                      refine j_icmp_ne hJ (tgt := 656) ⟨by omega, by omega⟩ ⟨by omega, by omega⟩ (by decide) dL_holds_600 ?_ ?_
                                      · intro h600
                                        exact absurd e595 h600
                                      · intro h600
                                        refine j_aload hJ (j := 4) rfl dL_holds_603 ?_
                                        refine j_bipush hJ (v := 7) (by decide) dL_holds_605 ?_
                                        refine j_iload hJ (j := 9) rfl dL_holds_607 ?_
                                        refine j_imul hJ dL_holds_609 ?_
                                        refine w2_iald hJ (by decide) rfl (by decide) (by omega) (by omega) dL_holds_610 ?_
                                        obtain ⟨⟨t1, t2, t3, t4⟩, -⟩ := kP sr (by omega)
                                        have t5 := t4.1
                                        refine j_topi (y := zI (m2 sr : Int)) (by rw [(kP sr (by omega)).1.1]) ?_
                                        refine j_if_eq hJ (tgt := 652) ⟨by omega, by omega⟩ (by decide) dL_holds_611 ?_ ?_
                                        · intro h611
                                          refine j_iconst hJ dL_holds_652 ?_
                                          refine j_goto hJ (tgt := 657) (by decide) dL_holds_653 ?_
                                          refine j_locs hJ [0, 1, 2, 3, 4, 5, 7] rfl ?_
                                          refine j_widen hJ (ce' := 200 + 100 * (e + 1) + 10000 * ((e + 1) / 5)) (sl' := 4000 + 200 * (e + 1) + 400000 * ((e + 1) / 5)) (by (try dsimp only); omega) (by (try dsimp only); omega) ?_
                                          exact j657 μk (by first | exact hSd | exact hSk)
                                        · intro h611
                                          have hm1 : 1 ≤ m2 sr := by omega
                                          refine j_aload_n hJ (j := 1) rfl rfl dL_holds_614 ?_
                                          refine j_aload hJ (j := 4) rfl dL_holds_615 ?_
                                          refine j_iload hJ (j := 5) rfl dL_holds_617 ?_
                                          refine j_aload hJ (j := 4) rfl dL_holds_619 ?_
                                          refine j_bipush hJ (v := 7) (by decide) dL_holds_621 ?_
                                          refine j_iload hJ (j := 9) rfl dL_holds_623 ?_
                                          refine j_imul hJ dL_holds_625 ?_
                                          refine j_iconst hJ dL_holds_626 ?_
                                          refine j_iadd hJ dL_holds_627 ?_
                                          refine w2_iald hJ (by decide) rfl (by decide) (by omega) (by omega) dL_holds_628 ?_
                                          refine j_topi (y := zI (p2 sr 0)) (by rw [show (7 * (sr : Int) + 1) = 7 * (sr : Int) + 1 + ((0 : Nat) : Int) by omega, t3 0 (by omega)]) ?_
                                          refine j_aload hJ (j := 4) rfl dL_holds_629 ?_
                                          refine j_bipush hJ (v := 7) (by decide) dL_holds_631 ?_
                                          refine j_iload hJ (j := 9) rfl dL_holds_633 ?_
                                          refine j_imul hJ dL_holds_635 ?_
                                          refine j_aload hJ (j := 4) rfl dL_holds_636 ?_
                                          refine j_bipush hJ (v := 7) (by decide) dL_holds_638 ?_
                                          refine j_iload hJ (j := 9) rfl dL_holds_640 ?_
                                          refine j_imul hJ dL_holds_642 ?_
                                          refine w2_iald hJ (by decide) rfl (by decide) (by omega) (by omega) dL_holds_643 ?_
                                          refine j_topi (y := zI (m2 sr : Int)) (by rw [t1]) ?_
                                          refine j_iadd hJ dL_holds_644 ?_
                                          refine w2_iald hJ (by decide) rfl (by decide) (by omega) (by omega) dL_holds_645 ?_
                                          refine j_topi (y := zI (p2 sr (m2 sr - 1))) (by rw [show (7 * (sr : Int) + (m2 sr : Int)) = 7 * (sr : Int) + 1 + ((m2 sr - 1 : Nat) : Int) by omega, t3 (m2 sr - 1) (by omega)]) ?_
                                          refine j_callS0 hJ (c_L_isWalk hfl kX hn5 hPn (t5 0 (by omega)) (t5 (m2 sr - 1) (by omega))) m_L_154 k_L_isWalk ⟨(Nat.le_of_ble_eq_true rfl), (Nat.le_of_ble_eq_true rfl)⟩ ⟨by dsimp only; omega, by dsimp only; omega⟩ (Nat.le_of_ble_eq_true rfl) dL_holds_646 rfl ?_
                                          intro v13 u14 hv15
                                          obtain ⟨q646, μ3, rfl, rfl, h646⟩ := hv15
                                          show J (gw 105 XSh cy b μ3 ++ (gw 3 ASh cy ba ν2 ++ [])) _ _ 649 [(0, .ref sb), (1, .ref (b 0)), (2, .ref (ba 0)), (3, .ref (ba 1)), (4, .ref (ba 2)), (5, .int (zI (n2 : Int))), (6, .int (zI 1)), (7, .int (zI (e : Int))), (9, .int (zI z)), (10, .int (zI (sr : Int))), (11, .int (zI sq)), (12, .int (zI (bitsOf (fun j => decide (sq ∈ trk (p2 j) (m2 j))) k))), (13, .int (zI (k : Int)))] [.int (zI q646)]
                                          have hSd := hSk.mu h646.2.1 h646.2.2
                                          refine j_topi (y := zI 1) (by rw [h646.1]) ?_
                                          refine j_if_eq hJ (tgt := 656) ⟨by omega, by omega⟩ (by decide) dL_holds_649 ?_ ?_
                                          · intro h649
                                            exact absurd h649 (by decide)
                                          · intro h649
                                            refine j_iconst hJ dL_holds_652 ?_
                                            refine j_goto hJ (tgt := 657) (by decide) dL_holds_653 ?_
                                            refine j_locs hJ [0, 1, 2, 3, 4, 5, 7] rfl ?_
                                            refine j_widen hJ (ce' := 200 + 100 * (e + 1) + 10000 * ((e + 1) / 5)) (sl' := 4000 + 200 * (e + 1) + 400000 * ((e + 1) / 5)) (by (try dsimp only); omega) (by (try dsimp only); omega) ?_
                                            exact j657 μ3 (by first | exact hSd | exact hSk)
                                  · intro h507
                                    have hk2 : k < n2 := by omega
                                    obtain ⟨kX, -, kK, kA, kN, kP, -⟩ := id hSk
                                    obtain ⟨hPk, -⟩ := kP k (by omega)
                                    refine j_iload hJ (j := 6) rfl dL_holds_510 ?_
                                    refine j_if_eq hJ (tgt := 579) ⟨by omega, by omega⟩ (by decide) dL_holds_512 ?_ ?_
                                    · intro h512
                                      exact absurd h512 (by decide)
                                    · intro h512
                                      refine j_aload_n hJ (j := 1) rfl rfl dL_holds_515 ?_
                                      refine j_aload_n hJ (j := 2) rfl rfl dL_holds_516 ?_
                                      refine j_aload_n hJ (j := 3) rfl rfl dL_holds_517 ?_
                                      refine j_aload hJ (j := 4) rfl dL_holds_518 ?_
                                      refine j_iload hJ (j := 12) rfl dL_holds_520 ?_
                                      refine j_callS0 hJ (c_L_isLine hfl kX hn5 hk2 kK kA (kN k hk2) hPk (hSk.line hk2)) m_L_158 k_L_isLine ⟨(Nat.le_of_ble_eq_true rfl), (Nat.le_of_ble_eq_true rfl)⟩ ⟨by dsimp only; omega, by dsimp only; omega⟩ (Nat.le_of_ble_eq_true rfl) dL_holds_522 rfl ?_
                                      intro v16 u17 hv18
                                      obtain ⟨_, rfl, rfl, rfl⟩ := hv18
                                      show J (gw 105 XSh cy b μk ++ (gw 3 ASh cy ba ν2 ++ [])) _ _ 525 [(0, .ref sb), (1, .ref (b 0)), (2, .ref (ba 0)), (3, .ref (ba 1)), (4, .ref (ba 2)), (5, .int (zI (n2 : Int))), (6, .int (zI 1)), (7, .int (zI (e : Int))), (9, .int (zI z)), (10, .int (zI (sr : Int))), (11, .int (zI sq)), (12, .int (zI (bitsOf (fun j => decide (sq ∈ trk (p2 j) (m2 j))) k))), (13, .int (zI (k : Int)))] [.int (zI 1)]
                                      refine j_if_eq hJ (tgt := 545) ⟨by omega, by omega⟩ (by decide) dL_holds_525 ?_ ?_
                                      · intro h525
                                        exact absurd h525 (by decide)
                                      · intro h525
                                        refine j_aload_n hJ (j := 1) rfl rfl dL_holds_528 ?_
                                        refine j_aload hJ (j := 4) rfl dL_holds_529 ?_
                                        refine j_iload hJ (j := 12) rfl dL_holds_531 ?_
                                        refine j_iload hJ (j := 10) rfl dL_holds_533 ?_
                                        refine j_callS0 hJ (c_L_isNear hfl kX (by omega) hk2 hPk hsqr) m_L_162 k_L_isNear ⟨(Nat.le_of_ble_eq_true rfl), (Nat.le_of_ble_eq_true rfl)⟩ ⟨by dsimp only; omega, by dsimp only; omega⟩ (Nat.le_of_ble_eq_true rfl) dL_holds_535 rfl ?_
                                        intro v19 u20 hv21
                                        obtain ⟨_, rfl, rfl, rfl⟩ := hv21
                                        show J (gw 105 XSh cy b μk ++ (gw 3 ASh cy ba ν2 ++ [])) _ _ 538 [(0, .ref sb), (1, .ref (b 0)), (2, .ref (ba 0)), (3, .ref (ba 1)), (4, .ref (ba 2)), (5, .int (zI (n2 : Int))), (6, .int (zI 1)), (7, .int (zI (e : Int))), (9, .int (zI z)), (10, .int (zI (sr : Int))), (11, .int (zI sq)), (12, .int (zI (bitsOf (fun j => decide (sq ∈ trk (p2 j) (m2 j))) k))), (13, .int (zI (k : Int)))] [.int (zI 1)]
                                        refine j_if_eq hJ (tgt := 545) ⟨by omega, by omega⟩ (by decide) dL_holds_538 ?_ ?_
                                        · intro h538
                                          exact absurd h538 (by decide)
                                        · intro h538
                                          refine j_iconst hJ dL_holds_541 ?_
                                          refine j_goto hJ (tgt := 546) (by decide) dL_holds_542 ?_
                                          refine j_istore hJ (lv' := [(6, .int (zI 1)), (0, .ref sb), (1, .ref (b 0)), (2, .ref (ba 0)), (3, .ref (ba 1)), (4, .ref (ba 2)), (5, .int (zI (n2 : Int))), (7, .int (zI (e : Int))), (9, .int (zI z)), (10, .int (zI (sr : Int))), (11, .int (zI sq)), (12, .int (zI (bitsOf (fun j => decide (sq ∈ trk (p2 j) (m2 j))) k))), (13, .int (zI (k : Int)))]) (by decide) rfl dL_holds_546 ?_
                                          have j570 : ∀ (bv : Int) (hbv : bv = if (fun j => decide (sq ∈ trk (p2 j) (m2 j))) k = true then 2 ^ k else 0), J (gw 105 XSh cy b μk ++ (gw 3 ASh cy ba ν2 ++ [])) (200 + 100 * e + 10000 * (e / 5) + 120 + 1909 * (k + 1)) (4000 + 200 * e + 400000 * (e / 5) + 540 + 79054 * (k + 1)) 570 [(0, .ref sb), (1, .ref (b 0)), (2, .ref (ba 0)), (3, .ref (ba 1)), (4, .ref (ba 2)), (5, .int (zI (n2 : Int))), (6, .int (zI 1)), (7, .int (zI (e : Int))), (9, .int (zI z)), (10, .int (zI (sr : Int))), (11, .int (zI sq)), (13, .int (zI (k : Int)))] [.int (zI bv), .int (zI (bitsOf (fun j => decide (sq ∈ trk (p2 j) (m2 j))) k))] := by
                                            intro bv hbv
                                            refine j_ior hJ (v := (bitsOf (fun j => decide (sq ∈ trk (p2 j) (m2 j))) (k + 1))) (bitsOf_step (by omega) hbv) dL_holds_570 ?_
                                            refine j_istore hJ (lv' := [(12, .int (zI (bitsOf (fun j => decide (sq ∈ trk (p2 j) (m2 j))) (k + 1)))), (0, .ref sb), (1, .ref (b 0)), (2, .ref (ba 0)), (3, .ref (ba 1)), (4, .ref (ba 2)), (5, .int (zI (n2 : Int))), (6, .int (zI 1)), (7, .int (zI (e : Int))), (9, .int (zI z)), (10, .int (zI (sr : Int))), (11, .int (zI sq)), (13, .int (zI (k : Int)))]) (by decide) rfl dL_holds_571 ?_
                                            refine j_iinc hJ (lv' := [(13, .int (zI ((k : Int) + 1))), (12, .int (zI (bitsOf (fun j => decide (sq ∈ trk (p2 j) (m2 j))) (k + 1)))), (0, .ref sb), (1, .ref (b 0)), (2, .ref (ba 0)), (3, .ref (ba 1)), (4, .ref (ba 2)), (5, .int (zI (n2 : Int))), (6, .int (zI 1)), (7, .int (zI (e : Int))), (9, .int (zI z)), (10, .int (zI (sr : Int))), (11, .int (zI sq))]) (j := 12) rfl (by omega) (by decide) rfl dL_holds_573 ?_
                                            refine j_goto hJ (tgt := 503) (by decide) dL_holds_576 ?_
                                            refine j_locs hJ [2, 3, 4, 5, 6, 7, 8, 9, 10, 11, 12, 1, 0] rfl ?_
                                            refine j_widen hJ (ce' := 200 + 100 * e + 10000 * (e / 5) + 120 + 1909 * (k + 1)) (sl' := 4000 + 200 * e + 400000 * (e / 5) + 540 + 79054 * (k + 1)) (by (try dsimp only); omega) (by (try dsimp only); omega) ?_
                                            exact ih503 μk (k + 1) (by omega) (by omega) (by exact hSk)
                                          refine j_iload hJ (j := 11) rfl dL_holds_548 ?_
                                          refine j_aload hJ (j := 5) rfl dL_holds_550 ?_
                                          refine j_iload hJ (j := 12) rfl dL_holds_552 ?_
                                          refine j_iload hJ (j := 10) rfl dL_holds_554 ?_
                                          refine j_perm hJ (perm3 _ _ _) ?_
                                          show J (gw 3 ASh cy ba ν2 ++ (gw 105 XSh cy b μk ++ [])) _ _ 556 [(6, .int (zI 1)), (0, .ref sb), (1, .ref (b 0)), (2, .ref (ba 0)), (3, .ref (ba 1)), (4, .ref (ba 2)), (5, .int (zI (n2 : Int))), (7, .int (zI (e : Int))), (9, .int (zI z)), (10, .int (zI (sr : Int))), (11, .int (zI sq)), (12, .int (zI (bitsOf (fun j => decide (sq ∈ trk (p2 j) (m2 j))) k))), (13, .int (zI (k : Int)))] [.int (zI sq), .int (zI (k : Int)), .ref (ba 2), .int (zI (bitsOf (fun j => decide (sq ∈ trk (p2 j) (m2 j))) k))]
                                          refine j_callS0 hJ (c_L_isOn hfl (by omega) hPk ⟨by omega, by omega⟩) m_L_47 k_L_isOn ⟨(Nat.le_of_ble_eq_true rfl), (Nat.le_of_ble_eq_true rfl)⟩ ⟨by dsimp only; omega, by dsimp only; omega⟩ (Nat.le_of_ble_eq_true rfl) dL_holds_556 rfl ?_
                                          intro v22 u23 hv24
                                          obtain ⟨on, rfl, rfl, hon⟩ := hv24
                                          show J (gw 3 ASh cy ba ν2 ++ (gw 105 XSh cy b μk ++ [])) _ _ 559 [(6, .int (zI 1)), (0, .ref sb), (1, .ref (b 0)), (2, .ref (ba 0)), (3, .ref (ba 1)), (4, .ref (ba 2)), (5, .int (zI (n2 : Int))), (7, .int (zI (e : Int))), (9, .int (zI z)), (10, .int (zI (sr : Int))), (11, .int (zI sq)), (12, .int (zI (bitsOf (fun j => decide (sq ∈ trk (p2 j) (m2 j))) k))), (13, .int (zI (k : Int)))] [.int (zI on), .int (zI (bitsOf (fun j => decide (sq ∈ trk (p2 j) (m2 j))) k))]
                                          refine j_perm hJ (perm3 _ _ _) ?_
                                          show J (gw 105 XSh cy b μk ++ (gw 3 ASh cy ba ν2 ++ [])) _ _ 559 [(6, .int (zI 1)), (0, .ref sb), (1, .ref (b 0)), (2, .ref (ba 0)), (3, .ref (ba 1)), (4, .ref (ba 2)), (5, .int (zI (n2 : Int))), (7, .int (zI (e : Int))), (9, .int (zI z)), (10, .int (zI (sr : Int))), (11, .int (zI sq)), (12, .int (zI (bitsOf (fun j => decide (sq ∈ trk (p2 j) (m2 j))) k))), (13, .int (zI (k : Int)))] [.int (zI on), .int (zI (bitsOf (fun j => decide (sq ∈ trk (p2 j) (m2 j))) k))]
                                          obtain ⟨on2, on1⟩ := ite01 hon
                                          refine j_if_eq hJ (tgt := 569) ⟨by omega, by omega⟩ (by decide) dL_holds_559 ?_ ?_
                                          · intro h559
                                            refine j_iconst hJ dL_holds_569 ?_
                                            refine j_locs hJ [1, 2, 3, 4, 5, 6, 0, 7, 8, 9, 10, 12] rfl ?_
                                            refine j_widen hJ (ce' := 200 + 100 * e + 10000 * (e / 5) + 120 + 1909 * (k + 1)) (sl' := 4000 + 200 * e + 400000 * (e / 5) + 540 + 79054 * (k + 1)) (by (try dsimp only); omega) (by (try dsimp only); omega) ?_
                                            refine j570 0 ?_
                                            · first
                                              | (rw [if_pos (decide_eq_true (on2.mp (by omega)))]; done)
                                              | (rw [if_neg (fun g => by have := on2.mpr (of_decide_eq_true g); omega)]; done)
                                          · intro h559
                                            refine j_iconst hJ dL_holds_562 ?_
                                            refine j_iload hJ (j := 12) rfl dL_holds_563 ?_
                                            refine j_ishl hJ (v := (2 ^ k)) ((zI_shl1 (r := (k : Int)) (by omega) (by omega)).trans (by rw [Int.toNat_natCast])) dL_holds_565 ?_
                                            refine j_goto hJ (tgt := 570) (by decide) dL_holds_566 ?_
                                            refine j_locs hJ [1, 2, 3, 4, 5, 6, 0, 7, 8, 9, 10, 12] rfl ?_
                                            refine j_widen hJ (ce' := 200 + 100 * e + 10000 * (e / 5) + 120 + 1909 * (k + 1)) (sl' := 4000 + 200 * e + 400000 * (e / 5) + 540 + 79054 * (k + 1)) (by (try dsimp only); omega) (by (try dsimp only); omega) ?_
                                            refine j570 (2 ^ k) ?_
                                            · first
                                              | (rw [if_pos (decide_eq_true (on2.mp (by omega)))]; done)
                                              | (rw [if_neg (fun g => by have := on2.mpr (of_decide_eq_true g); omega)]; done)
                              refine j_locs hJ [4, 5, 6, 7, 8, 9, 2, 10, 11, 12, 3, 1, 0] rfl ?_
                              refine j_widen hJ (ce' := 200 + 100 * e + 10000 * (e / 5) + 120 + 1909 * 0) (sl' := 4000 + 200 * e + 400000 * (e / 5) + 540 + 79054 * 0) (by (try dsimp only); omega) (by (try dsimp only); omega) ?_
                              exact lp503 (n2 + 1 - 0 + 1) μ2 0 (by omega) (by omega) (by exact hSc)
                    refine j_iload hJ (j := 9) rfl dL_holds_124 ?_
                    refine j_if_ne hJ (tgt := 175) ⟨by omega, by omega⟩ (by decide) dL_holds_126 ?_ ?_
                    · intro h126
                      refine j_iload hJ (j := 9) rfl dL_holds_175 ?_
                      refine j_iconst hJ dL_holds_177 ?_
                      refine j_icmp_ne hJ (tgt := 208) ⟨by omega, by omega⟩ ⟨by omega, by omega⟩ (by decide) dL_holds_178 ?_ ?_
                      · intro h178
                        refine j_iload hJ (j := 9) rfl dL_holds_208 ?_
                        refine j_iconst hJ dL_holds_210 ?_
                        refine j_icmp_ne hJ (tgt := 268) ⟨by omega, by omega⟩ ⟨by omega, by omega⟩ (by decide) dL_holds_211 ?_ ?_
                        · intro h211
                          have j345 : ∀  (hw3 : wy ≠ 3), J (gw 105 XSh cy b μe ++ (gw 3 ASh cy ba νe ++ [])) (200 + 100 * e + 10000 * (e / 5)) (4000 + 200 * e + 400000 * (e / 5)) 345 [(0, .ref sb), (1, .ref (b 0)), (2, .ref (ba 0)), (3, .ref (ba 1)), (4, .ref (ba 2)), (5, .int (zI (n : Int))), (6, .int (zI 1)), (7, .int (zI (e : Int))), (8, .int (zI wy)), (9, .int (zI z)), (10, .int (zI (sr : Int)))] [] := by
                            intro hw3
                            refine j_iload hJ (j := 8) rfl dL_holds_345 ?_
                            refine j_iconst hJ dL_holds_347 ?_
                            refine j_icmp_ne hJ (tgt := 399) ⟨by omega, by omega⟩ ⟨by omega, by omega⟩ (by decide) dL_holds_348 ?_ ?_
                            · intro h348
                              have hn1 : 1 ≤ n := by omega
                              have hsn := hsr.1 hn1
                              refine j_aload_n hJ (j := 1) rfl rfl dL_holds_399 ?_
                              refine j_aload hJ (j := 4) rfl dL_holds_400 ?_
                              refine j_iload hJ (j := 10) rfl dL_holds_402 ?_
                              refine j_iload hJ (j := 9) rfl dL_holds_404 ?_
                              refine j_callS0 hJ (c_L_isPointed hfl hS hsn hz) m_L_146 k_L_isPointed ⟨(Nat.le_of_ble_eq_true rfl), (Nat.le_of_ble_eq_true rfl)⟩ ⟨by dsimp only; omega, by dsimp only; omega⟩ (Nat.le_of_ble_eq_true rfl) dL_holds_406 rfl ?_
                              intro v25 u26 hv27
                              obtain ⟨q406, μ4, ν5, rfl, rfl, h406⟩ := hv27
                              show J (gw 105 XSh cy b μ4 ++ (gw 3 ASh cy ba ν5 ++ [])) _ _ 409 [(0, .ref sb), (1, .ref (b 0)), (2, .ref (ba 0)), (3, .ref (ba 1)), (4, .ref (ba 2)), (5, .int (zI (n : Int))), (6, .int (zI 1)), (7, .int (zI (e : Int))), (8, .int (zI wy)), (9, .int (zI z)), (10, .int (zI (sr : Int)))] [.int (zI q406)]
                              obtain ⟨e406, m9, p9, hSa⟩ := h406
                              refine j_topi (y := zI 1) (by rw [e406]) ?_
                              refine j_istore hJ (lv' := [(6, .int (zI 1)), (0, .ref sb), (1, .ref (b 0)), (2, .ref (ba 0)), (3, .ref (ba 1)), (4, .ref (ba 2)), (5, .int (zI (n : Int))), (7, .int (zI (e : Int))), (8, .int (zI wy)), (9, .int (zI z)), (10, .int (zI (sr : Int)))]) (by decide) rfl dL_holds_409 ?_
                              refine j_locs hJ [1, 2, 3, 4, 5, 6, 0, 7, 9, 10] rfl ?_
                              refine j_widen hJ (ce' := 200 + 100 * e + 10000 * (e / 5) + 50) (sl' := 4000 + 200 * e + 400000 * (e / 5) + 100) (by (try dsimp only); omega) (by (try dsimp only); omega) ?_
                              exact j411 μ4 ν5 n _ _ _ _ (by exact hSa) (by omega)
                            · intro h348
                              have hn1 : 1 ≤ n := by omega
                              have hsn := hsr.1 hn1
                              obtain ⟨hPs, hOs⟩ := hP sr (by omega)
                              obtain ⟨p1, p2, p3, p4⟩ := id hPs
                              refine j_aload hJ (j := 4) rfl dL_holds_351 ?_
                              refine j_bipush hJ (v := 7) (by decide) dL_holds_353 ?_
                              refine j_iload hJ (j := 10) rfl dL_holds_355 ?_
                              refine j_imul hJ dL_holds_357 ?_
                              refine w2_iald hJ (by decide) rfl (by decide) (by omega) (by omega) dL_holds_358 ?_
                              refine j_topi (y := zI (m sr : Int)) (by rw [p1]) ?_
                              refine j_if_le hJ (tgt := 399) ⟨by omega, by omega⟩ (by decide) dL_holds_359 ?_ ?_
                              · intro h359
                                have hn1 : 1 ≤ n := by omega
                                have hsn := hsr.1 hn1
                                refine j_aload_n hJ (j := 1) rfl rfl dL_holds_399 ?_
                                refine j_aload hJ (j := 4) rfl dL_holds_400 ?_
                                refine j_iload hJ (j := 10) rfl dL_holds_402 ?_
                                refine j_iload hJ (j := 9) rfl dL_holds_404 ?_
                                refine j_callS0 hJ (c_L_isPointed hfl hS hsn hz) m_L_146 k_L_isPointed ⟨(Nat.le_of_ble_eq_true rfl), (Nat.le_of_ble_eq_true rfl)⟩ ⟨by dsimp only; omega, by dsimp only; omega⟩ (Nat.le_of_ble_eq_true rfl) dL_holds_406 rfl ?_
                                intro v28 u29 hv30
                                obtain ⟨q406, μ6, ν7, rfl, rfl, h406⟩ := hv30
                                show J (gw 105 XSh cy b μ6 ++ (gw 3 ASh cy ba ν7 ++ [])) _ _ 409 [(0, .ref sb), (1, .ref (b 0)), (2, .ref (ba 0)), (3, .ref (ba 1)), (4, .ref (ba 2)), (5, .int (zI (n : Int))), (6, .int (zI 1)), (7, .int (zI (e : Int))), (8, .int (zI wy)), (9, .int (zI z)), (10, .int (zI (sr : Int)))] [.int (zI q406)]
                                obtain ⟨e406, m9, p9, hSa⟩ := h406
                                refine j_topi (y := zI 1) (by rw [e406]) ?_
                                refine j_istore hJ (lv' := [(6, .int (zI 1)), (0, .ref sb), (1, .ref (b 0)), (2, .ref (ba 0)), (3, .ref (ba 1)), (4, .ref (ba 2)), (5, .int (zI (n : Int))), (7, .int (zI (e : Int))), (8, .int (zI wy)), (9, .int (zI z)), (10, .int (zI (sr : Int)))]) (by decide) rfl dL_holds_409 ?_
                                refine j_locs hJ [1, 2, 3, 4, 5, 6, 0, 7, 9, 10] rfl ?_
                                refine j_widen hJ (ce' := 200 + 100 * e + 10000 * (e / 5) + 50) (sl' := 4000 + 200 * e + 400000 * (e / 5) + 100) (by (try dsimp only); omega) (by (try dsimp only); omega) ?_
                                exact j411 μ6 ν7 n _ _ _ _ (by exact hSa) (by omega)
                              · intro h359
                                refine j_aload hJ (j := 4) rfl dL_holds_362 ?_
                                refine j_bipush hJ (v := 7) (by decide) dL_holds_364 ?_
                                refine j_iload hJ (j := 10) rfl dL_holds_366 ?_
                                refine j_imul hJ dL_holds_368 ?_
                                refine j_dup2 hJ rfl rfl dL_holds_369 ?_
                                refine w2_iald hJ (by decide) rfl (by decide) (by omega) (by omega) dL_holds_370 ?_
                                refine j_topi (y := zI (m sr : Int)) (by rw [p1]) ?_
                                refine j_iconst hJ dL_holds_371 ?_
                                refine j_isub hJ dL_holds_372 ?_
                                refine w2_iast hJ (by decide) rfl (by decide) (by omega) (by omega) dL_holds_373 ?_
                                intro ν8 hν8
                                have hv9 := hν8
                                refine j_aload_n hJ (j := 1) rfl rfl dL_holds_374 ?_
                                refine j_iload hJ (j := 10) rfl dL_holds_375 ?_
                                refine j_callVX0 hJ (c_X4_dropPoint hfl hX ⟨by omega, by omega⟩) mx_L_143 k_X4_dropPoint (q0 := 0) (by rw [gw_get (by decide)]; rfl) rfl ⟨(Nat.le_of_ble_eq_true rfl), (Nat.le_of_ble_eq_true rfl)⟩ ⟨by dsimp only; omega, by dsimp only; omega⟩ (Nat.le_of_ble_eq_true rfl) dL_holds_377 (by rintro q u ⟨_, _, h, _⟩; rcases h with ⟨_, h⟩ | ⟨_, _, h⟩; exact h ⟨by omega, by omega⟩; (rw [Int.toNat_natCast] at h; omega)) rfl ?_
                                intro v31 u32 hv33
                                obtain ⟨q377, μ9, rfl, rfl, h377⟩ := hv33
                                show J (gw 105 XSh cy b μ9 ++ (gw 3 ASh cy ba ν8 ++ [])) _ _ 380 [(0, .ref sb), (1, .ref (b 0)), (2, .ref (ba 0)), (3, .ref (ba 1)), (4, .ref (ba 2)), (5, .int (zI (n : Int))), (6, .int (zI 1)), (7, .int (zI (e : Int))), (8, .int (zI wy)), (9, .int (zI z)), (10, .int (zI (sr : Int)))] [.int (zI q377)]
                                rw [Int.toNat_natCast] at h377
                                have hSa := hS.drop hsn (by omega) hv9 h377.2.2.2.1 h377.2.2.2.2
                                have hln9 := (trk_len (p4.less (k := m sr - 1) (by omega))).1
                                refine j_aload_n hJ (j := 1) rfl rfl dL_holds_380 ?_
                                refine j_iload hJ (j := 10) rfl dL_holds_381 ?_
                                refine j_callVX0 hJ (c_X4_trackLength hfl hSa.1 ⟨by omega, by omega⟩) mx_L_63 k_X4_trackLength (q0 := 0) (by rw [gw_get (by decide)]; rfl) rfl ⟨(Nat.le_of_ble_eq_true rfl), (Nat.le_of_ble_eq_true rfl)⟩ ⟨by dsimp only; omega, by dsimp only; omega⟩ (Nat.le_of_ble_eq_true rfl) dL_holds_383 (by rintro q u ⟨_, _, ⟨_, h⟩, _⟩; exact h ⟨by omega, by omega⟩) rfl ?_
                                intro v34 u35 hv36
                                obtain ⟨q383, rfl, rfl, h383⟩ := hv36
                                show J (gw 105 XSh cy b μ9 ++ (gw 3 ASh cy ba ν8 ++ [])) _ _ 386 [(0, .ref sb), (1, .ref (b 0)), (2, .ref (ba 0)), (3, .ref (ba 1)), (4, .ref (ba 2)), (5, .int (zI (n : Int))), (6, .int (zI 1)), (7, .int (zI (e : Int))), (8, .int (zI wy)), (9, .int (zI z)), (10, .int (zI (sr : Int)))] [.int (zI q383), .int (zI q377)]
                                have e383 := h383.2
                                rw [Int.toNat_natCast, fset_at] at e383
                                refine j_icmp_ne hJ (tgt := 393) ⟨by omega, by omega⟩ ⟨by omega, by omega⟩ (by decide) dL_holds_386 ?_ ?_
                                · intro h386
                                  exfalso; have := h377.2.2.1; omega
                                · intro h386
                                  refine j_iconst hJ dL_holds_389 ?_
                                  refine j_goto hJ (tgt := 394) (by decide) dL_holds_390 ?_
                                  refine j_istore hJ (lv' := [(6, .int (zI 1)), (0, .ref sb), (1, .ref (b 0)), (2, .ref (ba 0)), (3, .ref (ba 1)), (4, .ref (ba 2)), (5, .int (zI (n : Int))), (7, .int (zI (e : Int))), (8, .int (zI wy)), (9, .int (zI z)), (10, .int (zI (sr : Int)))]) (by decide) rfl dL_holds_394 ?_
                                  refine j_goto hJ (tgt := 411) (by decide) dL_holds_396 ?_
                                  refine j_locs hJ [1, 2, 3, 4, 5, 6, 0, 7, 9, 10] rfl ?_
                                  refine j_widen hJ (ce' := 200 + 100 * e + 10000 * (e / 5) + 50) (sl' := 4000 + 200 * e + 400000 * (e / 5) + 100) (by (try dsimp only); omega) (by (try dsimp only); omega) ?_
                                  exact j411 μ9 ν8 n _ _ _ _ (by exact hSa) (by omega)
                          refine j_iload hJ (j := 9) rfl dL_holds_268 ?_
                          refine j_iconst hJ dL_holds_270 ?_
                          refine j_icmp_ne hJ (tgt := 345) ⟨by omega, by omega⟩ ⟨by omega, by omega⟩ (by decide) dL_holds_271 ?_ ?_
                          · intro h271
                            refine j_locs hJ [1, 2, 3, 4, 5, 6, 7, 8, 9, 10, 0] rfl ?_
                            refine j_widen hJ (ce' := 200 + 100 * e + 10000 * (e / 5)) (sl' := 4000 + 200 * e + 400000 * (e / 5)) (by (try dsimp only); omega) (by (try dsimp only); omega) ?_
                            exact j345 (by omega)
                          · intro h271
                            have hn1 : 1 ≤ n := by omega
                            have hsn := hsr.1 hn1
                            obtain ⟨hPs, hOs⟩ := hP sr (by omega)
                            have hows := (x5 sr (by omega)).2
                            have j294 : ∀ (hd : Int) (hhd : hd = ow sr), J (gw 105 XSh cy b μe ++ (gw 3 ASh cy ba νe ++ [])) (200 + 100 * e + 10000 * (e / 5)) (4000 + 200 * e + 400000 * (e / 5)) 294 [(0, .ref sb), (1, .ref (b 0)), (2, .ref (ba 0)), (3, .ref (ba 1)), (4, .ref (ba 2)), (5, .int (zI (n : Int))), (6, .int (zI 1)), (7, .int (zI (e : Int))), (9, .int (zI z)), (10, .int (zI (sr : Int)))] [.int (zI hd)] := by
                              intro hd hhd
                              refine j_istore hJ (lv' := [(11, .int (zI hd)), (0, .ref sb), (1, .ref (b 0)), (2, .ref (ba 0)), (3, .ref (ba 1)), (4, .ref (ba 2)), (5, .int (zI (n : Int))), (6, .int (zI 1)), (7, .int (zI (e : Int))), (9, .int (zI z)), (10, .int (zI (sr : Int)))]) (by decide) rfl dL_holds_294 ?_
                              refine j_aload hJ (j := 5) rfl dL_holds_296 ?_
                              refine j_bipush hJ (v := 7) (by decide) dL_holds_298 ?_
                              refine j_iload hJ (j := 10) rfl dL_holds_300 ?_
                              refine j_imul hJ dL_holds_302 ?_
                              refine j_bipush hJ (v := 6) (by decide) dL_holds_303 ?_
                              refine j_iadd hJ dL_holds_305 ?_
                              refine j_iload hJ (j := 9) rfl dL_holds_306 ?_
                              refine j_iconst hJ dL_holds_308 ?_
                              refine j_irem hJ (by omega) (by omega) (by omega) (by omega) dL_holds_309 ?_
                              refine w2_iast hJ (by decide) rfl (by decide) (by omega) (by omega) dL_holds_310 ?_
                              intro ν3 hν3
                              have hv9 := hν3
                              have j327 : ∀ (f : Int) (hf : f = z % 2), J (gw 105 XSh cy b μe ++ (gw 3 ASh cy ba ν3 ++ [])) (200 + 100 * e + 10000 * (e / 5)) (4000 + 200 * e + 400000 * (e / 5)) 327 [(0, .ref sb), (1, .ref (b 0)), (2, .ref (ba 0)), (3, .ref (ba 1)), (4, .ref (ba 2)), (5, .int (zI (n : Int))), (6, .int (zI 1)), (7, .int (zI (e : Int))), (9, .int (zI z)), (10, .int (zI (sr : Int))), (11, .int (zI hd))] [.int (zI f), .int (zI (sr : Int)), .ref (b 0)] := by
                                intro f hf
                                refine j_callVX0 hJ (c_X4_setOneWay hfl hX ⟨by omega, by omega⟩ (by omega)) mx_L_139 k_X4_setOneWay (q0 := 0) (by rw [gw_get (by decide)]; rfl) rfl ⟨(Nat.le_of_ble_eq_true rfl), (Nat.le_of_ble_eq_true rfl)⟩ ⟨by dsimp only; omega, by dsimp only; omega⟩ (Nat.le_of_ble_eq_true rfl) dL_holds_327 (by rintro q u ⟨_, _, ⟨_, h⟩, _⟩; exact h ⟨by omega, by omega⟩) rfl ?_
                                intro v37 u38 hv39
                                obtain ⟨q327, μ11, rfl, rfl, h327⟩ := hv39
                                show J (gw 105 XSh cy b μ11 ++ (gw 3 ASh cy ba ν3 ++ [])) _ _ 330 [(0, .ref sb), (1, .ref (b 0)), (2, .ref (ba 0)), (3, .ref (ba 1)), (4, .ref (ba 2)), (5, .int (zI (n : Int))), (6, .int (zI 1)), (7, .int (zI (e : Int))), (9, .int (zI z)), (10, .int (zI (sr : Int))), (11, .int (zI hd))] [.int (zI q327)]
                                rw [Int.toNat_natCast] at h327
                                have hSa := hS.way (ν' := ν3) (f := f) hsn (by rw [hv9, hf]) h327.2.2.1 h327.2.2.2
                                refine j_iload hJ (j := 10) rfl dL_holds_330 ?_
                                refine j_icmp_ne hJ (tgt := 339) ⟨by omega, by omega⟩ ⟨by omega, by omega⟩ (by decide) dL_holds_332 ?_ ?_
                                · intro h332
                                  exact absurd (h327.2.1.trans hhd.symm) h332
                                · intro h332
                                  refine j_iconst hJ dL_holds_335 ?_
                                  refine j_goto hJ (tgt := 340) (by decide) dL_holds_336 ?_
                                  refine j_istore hJ (lv' := [(6, .int (zI 1)), (0, .ref sb), (1, .ref (b 0)), (2, .ref (ba 0)), (3, .ref (ba 1)), (4, .ref (ba 2)), (5, .int (zI (n : Int))), (7, .int (zI (e : Int))), (9, .int (zI z)), (10, .int (zI (sr : Int))), (11, .int (zI hd))]) (by decide) rfl dL_holds_340 ?_
                                  refine j_goto hJ (tgt := 411) (by decide) dL_holds_342 ?_
                                  refine j_locs hJ [1, 2, 3, 4, 5, 6, 0, 7, 8, 9] rfl ?_
                                  refine j_widen hJ (ce' := 200 + 100 * e + 10000 * (e / 5) + 50) (sl' := 4000 + 200 * e + 400000 * (e / 5) + 100) (by (try dsimp only); omega) (by (try dsimp only); omega) ?_
                                  exact j411 μ11 ν3 n _ _ _ _ (by exact hSa) (by omega)
                              refine j_aload_n hJ (j := 2) rfl rfl dL_holds_311 ?_
                              refine j_iload hJ (j := 10) rfl dL_holds_312 ?_
                              refine j_iload hJ (j := 9) rfl dL_holds_314 ?_
                              refine j_iconst hJ dL_holds_316 ?_
                              refine j_irem hJ (by omega) (by omega) (by omega) (by omega) dL_holds_317 ?_
                              refine j_iconst hJ dL_holds_318 ?_
                              refine j_icmp_ne hJ (tgt := 326) ⟨by omega, by omega⟩ ⟨by omega, by omega⟩ (by decide) dL_holds_319 ?_ ?_
                              · intro h319
                                refine j_iconst hJ dL_holds_326 ?_
                                refine j_locs hJ [1, 2, 3, 4, 5, 6, 7, 8, 9, 10, 0] rfl ?_
                                refine j_widen hJ (ce' := 200 + 100 * e + 10000 * (e / 5)) (sl' := 4000 + 200 * e + 400000 * (e / 5)) (by (try dsimp only); omega) (by (try dsimp only); omega) ?_
                                exact j327 0 (by omega)
                              · intro h319
                                refine j_iconst hJ dL_holds_322 ?_
                                refine j_goto hJ (tgt := 327) (by decide) dL_holds_323 ?_
                                refine j_locs hJ [1, 2, 3, 4, 5, 6, 7, 8, 9, 10, 0] rfl ?_
                                refine j_widen hJ (ce' := 200 + 100 * e + 10000 * (e / 5)) (sl' := 4000 + 200 * e + 400000 * (e / 5)) (by (try dsimp only); omega) (by (try dsimp only); omega) ?_
                                exact j327 1 (by omega)
                            refine j_aload hJ (j := 5) rfl dL_holds_274 ?_
                            refine j_bipush hJ (v := 7) (by decide) dL_holds_276 ?_
                            refine j_iload hJ (j := 0) rfl dL_holds_278 ?_
                            refine j_imul hJ dL_holds_280 ?_
                            refine j_bipush hJ (v := 6) (by decide) dL_holds_281 ?_
                            refine j_iadd hJ dL_holds_283 ?_
                            refine w2_iald hJ (by decide) rfl (by decide) (by omega) (by omega) dL_holds_284 ?_
                            refine j_topi (y := zI (ow sr)) (by rw [hOs]) ?_
                            refine j_iconst hJ dL_holds_285 ?_
                            refine j_icmp_ne hJ (tgt := 293) ⟨by omega, by omega⟩ ⟨by omega, by omega⟩ (by decide) dL_holds_286 ?_ ?_
                            · intro h286
                              refine j_iconst hJ dL_holds_293 ?_
                              refine j_locs hJ [1, 2, 3, 4, 5, 6, 7, 8, 10, 0] rfl ?_
                              refine j_widen hJ (ce' := 200 + 100 * e + 10000 * (e / 5)) (sl' := 4000 + 200 * e + 400000 * (e / 5)) (by (try dsimp only); omega) (by (try dsimp only); omega) ?_
                              exact j294 0 (by omega)
                            · intro h286
                              refine j_iconst hJ dL_holds_289 ?_
                              refine j_goto hJ (tgt := 294) (by decide) dL_holds_290 ?_
                              refine j_locs hJ [1, 2, 3, 4, 5, 6, 7, 8, 10, 0] rfl ?_
                              refine j_widen hJ (ce' := 200 + 100 * e + 10000 * (e / 5)) (sl' := 4000 + 200 * e + 400000 * (e / 5)) (by (try dsimp only); omega) (by (try dsimp only); omega) ?_
                              exact j294 1 (by omega)
                        · intro h211
                          have hdr := (dr_Drw z).rng
                          have hn1 : 1 ≤ n := by omega
                          have hsn := hsr.1 hn1
                          refine j_aload_n hJ (j := 3) rfl rfl dL_holds_214 ?_
                          refine j_iload hJ (j := 10) rfl dL_holds_215 ?_
                          refine j_callS0 hJ (c_L_drawn hfl ⟨by omega, by omega⟩) m_L_110 k_L_drawn ⟨(Nat.le_of_ble_eq_true rfl), (Nat.le_of_ble_eq_true rfl)⟩ ⟨by dsimp only; omega, by dsimp only; omega⟩ (Nat.le_of_ble_eq_true rfl) dL_holds_217 rfl ?_
                          intro v40 u41 hv42
                          obtain ⟨_, rfl, rfl, rfl⟩ := hv42
                          show J (gw 105 XSh cy b μe ++ (gw 3 ASh cy ba νe ++ [])) _ _ 220 [(10, .int (zI (sr : Int))), (0, .ref sb), (1, .ref (b 0)), (2, .ref (ba 0)), (3, .ref (ba 1)), (4, .ref (ba 2)), (5, .int (zI (n : Int))), (6, .int (zI 1)), (7, .int (zI (e : Int))), (8, .int (zI wy)), (9, .int (zI z))] [.int (zI (dr z)), .ref (ba 0)]
                          refine w2_iald hJ (by decide) rfl (by decide) (by omega) (by omega) dL_holds_220 ?_
                          have hkd := (hK _ hdr.1 hdr.2).2
                          refine j_topi (y := zI (μe 1 (dr z))) (by rw [(hK _ hdr.1 hdr.2).1]) ?_
                          refine j_istore hJ (lv' := [(11, .int (zI (μe 1 (dr z)))), (10, .int (zI (sr : Int))), (0, .ref sb), (1, .ref (b 0)), (2, .ref (ba 0)), (3, .ref (ba 1)), (4, .ref (ba 2)), (5, .int (zI (n : Int))), (6, .int (zI 1)), (7, .int (zI (e : Int))), (8, .int (zI wy)), (9, .int (zI z))]) (by decide) rfl dL_holds_221 ?_
                          refine j_aload_n hJ (j := 4) rfl rfl dL_holds_223 ?_
                          refine j_iload hJ (j := 11) rfl dL_holds_224 ?_
                          refine j_callS0 hJ (c_L_drawn hfl ⟨by omega, by omega⟩) m_L_110 k_L_drawn ⟨(Nat.le_of_ble_eq_true rfl), (Nat.le_of_ble_eq_true rfl)⟩ ⟨by dsimp only; omega, by dsimp only; omega⟩ (Nat.le_of_ble_eq_true rfl) dL_holds_226 rfl ?_
                          intro v43 u44 hv45
                          obtain ⟨_, rfl, rfl, rfl⟩ := hv45
                          show J (gw 105 XSh cy b μe ++ (gw 3 ASh cy ba νe ++ [])) _ _ 229 [(11, .int (zI (μe 1 (dr z)))), (10, .int (zI (sr : Int))), (0, .ref sb), (1, .ref (b 0)), (2, .ref (ba 0)), (3, .ref (ba 1)), (4, .ref (ba 2)), (5, .int (zI (n : Int))), (6, .int (zI 1)), (7, .int (zI (e : Int))), (8, .int (zI wy)), (9, .int (zI z))] [.int (zI (dr z)), .ref (ba 0)]
                          refine j_iload hJ (j := 11) rfl dL_holds_229 ?_
                          refine j_bipush hJ (v := 8) (by decide) dL_holds_231 ?_
                          refine j_idiv hJ (by omega) (by omega) (by omega) (by omega) dL_holds_233 ?_
                          refine j_iconst hJ dL_holds_234 ?_
                          refine j_irem hJ (by omega) (by omega) (by omega) (by omega) dL_holds_235 ?_
                          refine w2_iast hJ (by decide) rfl (by decide) (by omega) (by omega) dL_holds_236 ?_
                          intro ν12 hν12
                          have hv9 := hν12
                          refine j_aload_n hJ (j := 3) rfl rfl dL_holds_237 ?_
                          refine j_iload hJ (j := 11) rfl dL_holds_238 ?_
                          refine j_callS0 hJ (c_L_drawn hfl ⟨by omega, by omega⟩) m_L_110 k_L_drawn ⟨(Nat.le_of_ble_eq_true rfl), (Nat.le_of_ble_eq_true rfl)⟩ ⟨by dsimp only; omega, by dsimp only; omega⟩ (Nat.le_of_ble_eq_true rfl) dL_holds_240 rfl ?_
                          intro v46 u47 hv48
                          obtain ⟨_, rfl, rfl, rfl⟩ := hv48
                          show J (gw 105 XSh cy b μe ++ (gw 3 ASh cy ba ν12 ++ [])) _ _ 243 [(11, .int (zI (μe 1 (dr z)))), (10, .int (zI (sr : Int))), (0, .ref sb), (1, .ref (b 0)), (2, .ref (ba 0)), (3, .ref (ba 1)), (4, .ref (ba 2)), (5, .int (zI (n : Int))), (6, .int (zI 1)), (7, .int (zI (e : Int))), (8, .int (zI wy)), (9, .int (zI z))] [.int (zI (dr z)), .ref (b 0)]
                          refine j_iload hJ (j := 11) rfl dL_holds_243 ?_
                          refine j_bipush hJ (v := 8) (by decide) dL_holds_245 ?_
                          refine j_idiv hJ (by omega) (by omega) (by omega) (by omega) dL_holds_247 ?_
                          refine j_iconst hJ dL_holds_248 ?_
                          refine j_irem hJ (by omega) (by omega) (by omega) (by omega) dL_holds_249 ?_
                          refine j_callVX0 hJ (c_X4_setKind hfl hX ⟨by omega, by omega⟩ ⟨by omega, by omega⟩) mx_L_136 k_X4_setKind (q0 := 0) (by rw [gw_get (by decide)]; rfl) rfl ⟨(Nat.le_of_ble_eq_true rfl), (Nat.le_of_ble_eq_true rfl)⟩ ⟨by dsimp only; omega, by dsimp only; omega⟩ (Nat.le_of_ble_eq_true rfl) dL_holds_250 (by rintro q u ⟨_, _, h, _⟩; rcases h with ⟨_, h⟩ | ⟨_, _, h⟩; exact h hdr; exact h ⟨by omega, by omega⟩) rfl ?_
                          intro v49 u50 hv51
                          obtain ⟨q250, μ13, rfl, rfl, h250⟩ := hv51
                          show J (gw 105 XSh cy b μ13 ++ (gw 3 ASh cy ba ν12 ++ [])) _ _ 253 [(11, .int (zI (μe 1 (dr z)))), (10, .int (zI (sr : Int))), (0, .ref sb), (1, .ref (b 0)), (2, .ref (ba 0)), (3, .ref (ba 1)), (4, .ref (ba 2)), (5, .int (zI (n : Int))), (6, .int (zI 1)), (7, .int (zI (e : Int))), (8, .int (zI wy)), (9, .int (zI z))] [.int (zI q250)]
                          have hSa := hS.kind hdr ⟨by omega, by omega⟩ hv9 h250.2.2.2.1 h250.2.2.2.2
                          refine j_iload hJ (j := 0) rfl dL_holds_253 ?_
                          refine j_icmp_ne hJ (tgt := 262) ⟨by omega, by omega⟩ ⟨by omega, by omega⟩ (by decide) dL_holds_255 ?_ ?_
                          · intro h255
                            exact absurd h250.2.2.1 h255
                          · intro h255
                            refine j_iconst hJ dL_holds_258 ?_
                            refine j_goto hJ (tgt := 263) (by decide) dL_holds_259 ?_
                            refine j_istore hJ (lv' := [(6, .int (zI 1)), (11, .int (zI (μe 1 (dr z)))), (10, .int (zI (sr : Int))), (0, .ref sb), (1, .ref (b 0)), (2, .ref (ba 0)), (3, .ref (ba 1)), (4, .ref (ba 2)), (5, .int (zI (n : Int))), (7, .int (zI (e : Int))), (8, .int (zI wy)), (9, .int (zI z))]) (by decide) rfl dL_holds_263 ?_
                            refine j_goto hJ (tgt := 411) (by decide) dL_holds_265 ?_
                            refine j_locs hJ [3, 4, 5, 6, 7, 8, 0, 9, 11, 2] rfl ?_
                            refine j_widen hJ (ce' := 200 + 100 * e + 10000 * (e / 5) + 50) (sl' := 4000 + 200 * e + 400000 * (e / 5) + 100) (by (try dsimp only); omega) (by (try dsimp only); omega) ?_
                            exact j411 μ13 ν12 n _ _ _ _ (by exact hSa) (by omega)
                      · intro h178
                        have hn1 : 1 ≤ n := by omega
                        have hsn := hsr.1 hn1
                        refine j_aload_n hJ (j := 4) rfl rfl dL_holds_181 ?_
                        refine j_iload hJ (j := 0) rfl dL_holds_182 ?_
                        refine j_iload hJ (j := 10) rfl dL_holds_184 ?_
                        refine j_perm hJ (perm3 _ _ _) ?_
                        show J (gw 3 ASh cy ba νe ++ (gw 105 XSh cy b μe ++ [])) (200 + 100 * e + 10000 * (e / 5)) (4000 + 200 * e + 400000 * (e / 5)) 186 [(10, .int (zI (sr : Int))), (0, .ref sb), (1, .ref (b 0)), (2, .ref (ba 0)), (3, .ref (ba 1)), (4, .ref (ba 2)), (5, .int (zI (n : Int))), (6, .int (zI 1)), (7, .int (zI (e : Int))), (8, .int (zI wy)), (9, .int (zI z))] [.int (zI z), .int (zI (sr : Int)), .ref (ba 1)]
                        refine j_callS0 hJ (c_L_named hfl (i := sr) (by omega) hA hz) m_L_126 k_L_named ⟨(Nat.le_of_ble_eq_true rfl), (Nat.le_of_ble_eq_true rfl)⟩ ⟨by dsimp only; omega, by dsimp only; omega⟩ (Nat.le_of_ble_eq_true rfl) dL_holds_186 rfl ?_
                        intro v52 u53 hv54
                        obtain ⟨q186, ν14, rfl, rfl, h186⟩ := hv54
                        show J (gw 3 ASh cy ba ν14 ++ (gw 105 XSh cy b μe ++ [])) _ _ 189 [(10, .int (zI (sr : Int))), (0, .ref sb), (1, .ref (b 0)), (2, .ref (ba 0)), (3, .ref (ba 1)), (4, .ref (ba 2)), (5, .int (zI (n : Int))), (6, .int (zI 1)), (7, .int (zI (e : Int))), (8, .int (zI wy)), (9, .int (zI z))] [.int (zI q186)]
                        refine j_perm hJ (perm3 _ _ _) ?_
                        show J (gw 105 XSh cy b μe ++ (gw 3 ASh cy ba ν14 ++ [])) _ _ 189 [(10, .int (zI (sr : Int))), (0, .ref sb), (1, .ref (b 0)), (2, .ref (ba 0)), (3, .ref (ba 1)), (4, .ref (ba 2)), (5, .int (zI (n : Int))), (6, .int (zI 1)), (7, .int (zI (e : Int))), (8, .int (zI wy)), (9, .int (zI z))] [.int (zI q186)]
                        obtain ⟨L9, g1, g2, g3, g4, g5, g6⟩ := h186
                        refine j_istore hJ (lv' := [(11, .int (zI q186)), (10, .int (zI (sr : Int))), (0, .ref sb), (1, .ref (b 0)), (2, .ref (ba 0)), (3, .ref (ba 1)), (4, .ref (ba 2)), (5, .int (zI (n : Int))), (6, .int (zI 1)), (7, .int (zI (e : Int))), (8, .int (zI wy)), (9, .int (zI z))]) (by decide) rfl dL_holds_189 ?_
                        refine j_aload_n hJ (j := 3) rfl rfl dL_holds_191 ?_
                        refine j_iload hJ (j := 1) rfl dL_holds_192 ?_
                        refine j_aload_n hJ (j := 5) rfl rfl dL_holds_194 ?_
                        refine j_iconst hJ dL_holds_195 ?_
                        refine j_iload hJ (j := 1) rfl dL_holds_196 ?_
                        refine j_imul hJ dL_holds_198 ?_
                        refine w2_iald hJ (by decide) rfl (by decide) (by omega) (by omega) dL_holds_199 ?_
                        have gl := g1.2.2.1
                        refine j_topi (y := zI (L9.length : Int)) (by rw [g1.1]) ?_
                        refine j_iload hJ (j := 0) rfl dL_holds_200 ?_
                        refine j_callVX0 hJ (c_X4_rename hfl hX ⟨by omega, by omega⟩ ⟨by omega, by omega⟩) mx_L_132 k_X4_rename (q0 := 0) (by rw [gw_get (by decide)]; rfl) rfl ⟨(Nat.le_of_ble_eq_true rfl), (Nat.le_of_ble_eq_true rfl)⟩ ⟨by dsimp only; omega, by dsimp only; omega⟩ (Nat.le_of_ble_eq_true rfl) dL_holds_202 (by rintro q u ⟨_, _, h, _⟩; rcases h with ⟨_, h⟩ | ⟨_, _, h⟩; exact h ⟨by omega, by omega⟩; exact h g3) rfl ?_
                        intro v55 u56 hv57
                        obtain ⟨μ15, rfl, rfl, h202⟩ := hv57
                        show J (gw 105 XSh cy b μ15 ++ (gw 3 ASh cy ba ν14 ++ [])) _ _ 205 [(11, .int (zI q186)), (10, .int (zI (sr : Int))), (0, .ref sb), (1, .ref (b 0)), (2, .ref (ba 0)), (3, .ref (ba 1)), (4, .ref (ba 2)), (5, .int (zI (n : Int))), (6, .int (zI 1)), (7, .int (zI (e : Int))), (8, .int (zI wy)), (9, .int (zI z))] []
                        rw [Int.toNat_natCast, Int.toNat_natCast] at h202
                        have hSa := hS.ren hsn g1 g4 g5 g6 h202.2.2.1 g2 h202.2.2.2
                        refine j_goto hJ (tgt := 411) (by decide) dL_holds_205 ?_
                        refine j_locs hJ [2, 3, 4, 5, 6, 7, 8, 9, 11, 1] rfl ?_
                        refine j_widen hJ (ce' := 200 + 100 * e + 10000 * (e / 5) + 50) (sl' := 4000 + 200 * e + 400000 * (e / 5) + 100) (by (try dsimp only); omega) (by (try dsimp only); omega) ?_
                        exact j411 μ15 ν14 n _ _ _ _ (by exact hSa) (by omega)
                    · intro h126
                      refine j_iload hJ (j := 6) rfl dL_holds_129 ?_
                      refine j_iconst hJ dL_holds_131 ?_
                      refine j_icmp_ge hJ (tgt := 175) ⟨by omega, by omega⟩ ⟨by omega, by omega⟩ (by decide) dL_holds_132 ?_ ?_
                      · intro h132
                        refine j_iload hJ (j := 9) rfl dL_holds_175 ?_
                        refine j_iconst hJ dL_holds_177 ?_
                        refine j_icmp_ne hJ (tgt := 208) ⟨by omega, by omega⟩ ⟨by omega, by omega⟩ (by decide) dL_holds_178 ?_ ?_
                        · intro h178
                          refine j_iload hJ (j := 9) rfl dL_holds_208 ?_
                          refine j_iconst hJ dL_holds_210 ?_
                          refine j_icmp_ne hJ (tgt := 268) ⟨by omega, by omega⟩ ⟨by omega, by omega⟩ (by decide) dL_holds_211 ?_ ?_
                          · intro h211
                            have j345 : ∀  (hw3 : wy ≠ 3), J (gw 105 XSh cy b μe ++ (gw 3 ASh cy ba νe ++ [])) (200 + 100 * e + 10000 * (e / 5)) (4000 + 200 * e + 400000 * (e / 5)) 345 [(0, .ref sb), (1, .ref (b 0)), (2, .ref (ba 0)), (3, .ref (ba 1)), (4, .ref (ba 2)), (5, .int (zI (n : Int))), (6, .int (zI 1)), (7, .int (zI (e : Int))), (8, .int (zI wy)), (9, .int (zI z)), (10, .int (zI (sr : Int)))] [] := by
                              intro hw3
                              refine j_iload hJ (j := 8) rfl dL_holds_345 ?_
                              refine j_iconst hJ dL_holds_347 ?_
                              refine j_icmp_ne hJ (tgt := 399) ⟨by omega, by omega⟩ ⟨by omega, by omega⟩ (by decide) dL_holds_348 ?_ ?_
                              · intro h348
                                have hn1 : 1 ≤ n := by omega
                                have hsn := hsr.1 hn1
                                refine j_aload_n hJ (j := 1) rfl rfl dL_holds_399 ?_
                                refine j_aload hJ (j := 4) rfl dL_holds_400 ?_
                                refine j_iload hJ (j := 10) rfl dL_holds_402 ?_
                                refine j_iload hJ (j := 9) rfl dL_holds_404 ?_
                                refine j_callS0 hJ (c_L_isPointed hfl hS hsn hz) m_L_146 k_L_isPointed ⟨(Nat.le_of_ble_eq_true rfl), (Nat.le_of_ble_eq_true rfl)⟩ ⟨by dsimp only; omega, by dsimp only; omega⟩ (Nat.le_of_ble_eq_true rfl) dL_holds_406 rfl ?_
                                intro v58 u59 hv60
                                obtain ⟨q406, μ16, ν17, rfl, rfl, h406⟩ := hv60
                                show J (gw 105 XSh cy b μ16 ++ (gw 3 ASh cy ba ν17 ++ [])) _ _ 409 [(0, .ref sb), (1, .ref (b 0)), (2, .ref (ba 0)), (3, .ref (ba 1)), (4, .ref (ba 2)), (5, .int (zI (n : Int))), (6, .int (zI 1)), (7, .int (zI (e : Int))), (8, .int (zI wy)), (9, .int (zI z)), (10, .int (zI (sr : Int)))] [.int (zI q406)]
                                obtain ⟨e406, m9, p9, hSa⟩ := h406
                                refine j_topi (y := zI 1) (by rw [e406]) ?_
                                refine j_istore hJ (lv' := [(6, .int (zI 1)), (0, .ref sb), (1, .ref (b 0)), (2, .ref (ba 0)), (3, .ref (ba 1)), (4, .ref (ba 2)), (5, .int (zI (n : Int))), (7, .int (zI (e : Int))), (8, .int (zI wy)), (9, .int (zI z)), (10, .int (zI (sr : Int)))]) (by decide) rfl dL_holds_409 ?_
                                refine j_locs hJ [1, 2, 3, 4, 5, 6, 0, 7, 9, 10] rfl ?_
                                refine j_widen hJ (ce' := 200 + 100 * e + 10000 * (e / 5) + 50) (sl' := 4000 + 200 * e + 400000 * (e / 5) + 100) (by (try dsimp only); omega) (by (try dsimp only); omega) ?_
                                exact j411 μ16 ν17 n _ _ _ _ (by exact hSa) (by omega)
                              · intro h348
                                have hn1 : 1 ≤ n := by omega
                                have hsn := hsr.1 hn1
                                obtain ⟨hPs, hOs⟩ := hP sr (by omega)
                                obtain ⟨p1, p2, p3, p4⟩ := id hPs
                                refine j_aload hJ (j := 4) rfl dL_holds_351 ?_
                                refine j_bipush hJ (v := 7) (by decide) dL_holds_353 ?_
                                refine j_iload hJ (j := 10) rfl dL_holds_355 ?_
                                refine j_imul hJ dL_holds_357 ?_
                                refine w2_iald hJ (by decide) rfl (by decide) (by omega) (by omega) dL_holds_358 ?_
                                refine j_topi (y := zI (m sr : Int)) (by rw [p1]) ?_
                                refine j_if_le hJ (tgt := 399) ⟨by omega, by omega⟩ (by decide) dL_holds_359 ?_ ?_
                                · intro h359
                                  have hn1 : 1 ≤ n := by omega
                                  have hsn := hsr.1 hn1
                                  refine j_aload_n hJ (j := 1) rfl rfl dL_holds_399 ?_
                                  refine j_aload hJ (j := 4) rfl dL_holds_400 ?_
                                  refine j_iload hJ (j := 10) rfl dL_holds_402 ?_
                                  refine j_iload hJ (j := 9) rfl dL_holds_404 ?_
                                  refine j_callS0 hJ (c_L_isPointed hfl hS hsn hz) m_L_146 k_L_isPointed ⟨(Nat.le_of_ble_eq_true rfl), (Nat.le_of_ble_eq_true rfl)⟩ ⟨by dsimp only; omega, by dsimp only; omega⟩ (Nat.le_of_ble_eq_true rfl) dL_holds_406 rfl ?_
                                  intro v61 u62 hv63
                                  obtain ⟨q406, μ18, ν19, rfl, rfl, h406⟩ := hv63
                                  show J (gw 105 XSh cy b μ18 ++ (gw 3 ASh cy ba ν19 ++ [])) _ _ 409 [(0, .ref sb), (1, .ref (b 0)), (2, .ref (ba 0)), (3, .ref (ba 1)), (4, .ref (ba 2)), (5, .int (zI (n : Int))), (6, .int (zI 1)), (7, .int (zI (e : Int))), (8, .int (zI wy)), (9, .int (zI z)), (10, .int (zI (sr : Int)))] [.int (zI q406)]
                                  obtain ⟨e406, m9, p9, hSa⟩ := h406
                                  refine j_topi (y := zI 1) (by rw [e406]) ?_
                                  refine j_istore hJ (lv' := [(6, .int (zI 1)), (0, .ref sb), (1, .ref (b 0)), (2, .ref (ba 0)), (3, .ref (ba 1)), (4, .ref (ba 2)), (5, .int (zI (n : Int))), (7, .int (zI (e : Int))), (8, .int (zI wy)), (9, .int (zI z)), (10, .int (zI (sr : Int)))]) (by decide) rfl dL_holds_409 ?_
                                  refine j_locs hJ [1, 2, 3, 4, 5, 6, 0, 7, 9, 10] rfl ?_
                                  refine j_widen hJ (ce' := 200 + 100 * e + 10000 * (e / 5) + 50) (sl' := 4000 + 200 * e + 400000 * (e / 5) + 100) (by (try dsimp only); omega) (by (try dsimp only); omega) ?_
                                  exact j411 μ18 ν19 n _ _ _ _ (by exact hSa) (by omega)
                                · intro h359
                                  refine j_aload hJ (j := 4) rfl dL_holds_362 ?_
                                  refine j_bipush hJ (v := 7) (by decide) dL_holds_364 ?_
                                  refine j_iload hJ (j := 10) rfl dL_holds_366 ?_
                                  refine j_imul hJ dL_holds_368 ?_
                                  refine j_dup2 hJ rfl rfl dL_holds_369 ?_
                                  refine w2_iald hJ (by decide) rfl (by decide) (by omega) (by omega) dL_holds_370 ?_
                                  refine j_topi (y := zI (m sr : Int)) (by rw [p1]) ?_
                                  refine j_iconst hJ dL_holds_371 ?_
                                  refine j_isub hJ dL_holds_372 ?_
                                  refine w2_iast hJ (by decide) rfl (by decide) (by omega) (by omega) dL_holds_373 ?_
                                  intro ν20 hν20
                                  have hv9 := hν20
                                  refine j_aload_n hJ (j := 1) rfl rfl dL_holds_374 ?_
                                  refine j_iload hJ (j := 10) rfl dL_holds_375 ?_
                                  refine j_callVX0 hJ (c_X4_dropPoint hfl hX ⟨by omega, by omega⟩) mx_L_143 k_X4_dropPoint (q0 := 0) (by rw [gw_get (by decide)]; rfl) rfl ⟨(Nat.le_of_ble_eq_true rfl), (Nat.le_of_ble_eq_true rfl)⟩ ⟨by dsimp only; omega, by dsimp only; omega⟩ (Nat.le_of_ble_eq_true rfl) dL_holds_377 (by rintro q u ⟨_, _, h, _⟩; rcases h with ⟨_, h⟩ | ⟨_, _, h⟩; exact h ⟨by omega, by omega⟩; (rw [Int.toNat_natCast] at h; omega)) rfl ?_
                                  intro v64 u65 hv66
                                  obtain ⟨q377, μ21, rfl, rfl, h377⟩ := hv66
                                  show J (gw 105 XSh cy b μ21 ++ (gw 3 ASh cy ba ν20 ++ [])) _ _ 380 [(0, .ref sb), (1, .ref (b 0)), (2, .ref (ba 0)), (3, .ref (ba 1)), (4, .ref (ba 2)), (5, .int (zI (n : Int))), (6, .int (zI 1)), (7, .int (zI (e : Int))), (8, .int (zI wy)), (9, .int (zI z)), (10, .int (zI (sr : Int)))] [.int (zI q377)]
                                  rw [Int.toNat_natCast] at h377
                                  have hSa := hS.drop hsn (by omega) hv9 h377.2.2.2.1 h377.2.2.2.2
                                  have hln9 := (trk_len (p4.less (k := m sr - 1) (by omega))).1
                                  refine j_aload_n hJ (j := 1) rfl rfl dL_holds_380 ?_
                                  refine j_iload hJ (j := 10) rfl dL_holds_381 ?_
                                  refine j_callVX0 hJ (c_X4_trackLength hfl hSa.1 ⟨by omega, by omega⟩) mx_L_63 k_X4_trackLength (q0 := 0) (by rw [gw_get (by decide)]; rfl) rfl ⟨(Nat.le_of_ble_eq_true rfl), (Nat.le_of_ble_eq_true rfl)⟩ ⟨by dsimp only; omega, by dsimp only; omega⟩ (Nat.le_of_ble_eq_true rfl) dL_holds_383 (by rintro q u ⟨_, _, ⟨_, h⟩, _⟩; exact h ⟨by omega, by omega⟩) rfl ?_
                                  intro v67 u68 hv69
                                  obtain ⟨q383, rfl, rfl, h383⟩ := hv69
                                  show J (gw 105 XSh cy b μ21 ++ (gw 3 ASh cy ba ν20 ++ [])) _ _ 386 [(0, .ref sb), (1, .ref (b 0)), (2, .ref (ba 0)), (3, .ref (ba 1)), (4, .ref (ba 2)), (5, .int (zI (n : Int))), (6, .int (zI 1)), (7, .int (zI (e : Int))), (8, .int (zI wy)), (9, .int (zI z)), (10, .int (zI (sr : Int)))] [.int (zI q383), .int (zI q377)]
                                  have e383 := h383.2
                                  rw [Int.toNat_natCast, fset_at] at e383
                                  refine j_icmp_ne hJ (tgt := 393) ⟨by omega, by omega⟩ ⟨by omega, by omega⟩ (by decide) dL_holds_386 ?_ ?_
                                  · intro h386
                                    exfalso; have := h377.2.2.1; omega
                                  · intro h386
                                    refine j_iconst hJ dL_holds_389 ?_
                                    refine j_goto hJ (tgt := 394) (by decide) dL_holds_390 ?_
                                    refine j_istore hJ (lv' := [(6, .int (zI 1)), (0, .ref sb), (1, .ref (b 0)), (2, .ref (ba 0)), (3, .ref (ba 1)), (4, .ref (ba 2)), (5, .int (zI (n : Int))), (7, .int (zI (e : Int))), (8, .int (zI wy)), (9, .int (zI z)), (10, .int (zI (sr : Int)))]) (by decide) rfl dL_holds_394 ?_
                                    refine j_goto hJ (tgt := 411) (by decide) dL_holds_396 ?_
                                    refine j_locs hJ [1, 2, 3, 4, 5, 6, 0, 7, 9, 10] rfl ?_
                                    refine j_widen hJ (ce' := 200 + 100 * e + 10000 * (e / 5) + 50) (sl' := 4000 + 200 * e + 400000 * (e / 5) + 100) (by (try dsimp only); omega) (by (try dsimp only); omega) ?_
                                    exact j411 μ21 ν20 n _ _ _ _ (by exact hSa) (by omega)
                            refine j_iload hJ (j := 9) rfl dL_holds_268 ?_
                            refine j_iconst hJ dL_holds_270 ?_
                            refine j_icmp_ne hJ (tgt := 345) ⟨by omega, by omega⟩ ⟨by omega, by omega⟩ (by decide) dL_holds_271 ?_ ?_
                            · intro h271
                              refine j_locs hJ [1, 2, 3, 4, 5, 6, 7, 8, 9, 10, 0] rfl ?_
                              refine j_widen hJ (ce' := 200 + 100 * e + 10000 * (e / 5)) (sl' := 4000 + 200 * e + 400000 * (e / 5)) (by (try dsimp only); omega) (by (try dsimp only); omega) ?_
                              exact j345 (by omega)
                            · intro h271
                              have hn1 : 1 ≤ n := by omega
                              have hsn := hsr.1 hn1
                              obtain ⟨hPs, hOs⟩ := hP sr (by omega)
                              have hows := (x5 sr (by omega)).2
                              have j294 : ∀ (hd : Int) (hhd : hd = ow sr), J (gw 105 XSh cy b μe ++ (gw 3 ASh cy ba νe ++ [])) (200 + 100 * e + 10000 * (e / 5)) (4000 + 200 * e + 400000 * (e / 5)) 294 [(0, .ref sb), (1, .ref (b 0)), (2, .ref (ba 0)), (3, .ref (ba 1)), (4, .ref (ba 2)), (5, .int (zI (n : Int))), (6, .int (zI 1)), (7, .int (zI (e : Int))), (9, .int (zI z)), (10, .int (zI (sr : Int)))] [.int (zI hd)] := by
                                intro hd hhd
                                refine j_istore hJ (lv' := [(11, .int (zI hd)), (0, .ref sb), (1, .ref (b 0)), (2, .ref (ba 0)), (3, .ref (ba 1)), (4, .ref (ba 2)), (5, .int (zI (n : Int))), (6, .int (zI 1)), (7, .int (zI (e : Int))), (9, .int (zI z)), (10, .int (zI (sr : Int)))]) (by decide) rfl dL_holds_294 ?_
                                refine j_aload hJ (j := 5) rfl dL_holds_296 ?_
                                refine j_bipush hJ (v := 7) (by decide) dL_holds_298 ?_
                                refine j_iload hJ (j := 10) rfl dL_holds_300 ?_
                                refine j_imul hJ dL_holds_302 ?_
                                refine j_bipush hJ (v := 6) (by decide) dL_holds_303 ?_
                                refine j_iadd hJ dL_holds_305 ?_
                                refine j_iload hJ (j := 9) rfl dL_holds_306 ?_
                                refine j_iconst hJ dL_holds_308 ?_
                                refine j_irem hJ (by omega) (by omega) (by omega) (by omega) dL_holds_309 ?_
                                refine w2_iast hJ (by decide) rfl (by decide) (by omega) (by omega) dL_holds_310 ?_
                                intro ν3 hν3
                                have hv9 := hν3
                                have j327 : ∀ (f : Int) (hf : f = z % 2), J (gw 105 XSh cy b μe ++ (gw 3 ASh cy ba ν3 ++ [])) (200 + 100 * e + 10000 * (e / 5)) (4000 + 200 * e + 400000 * (e / 5)) 327 [(0, .ref sb), (1, .ref (b 0)), (2, .ref (ba 0)), (3, .ref (ba 1)), (4, .ref (ba 2)), (5, .int (zI (n : Int))), (6, .int (zI 1)), (7, .int (zI (e : Int))), (9, .int (zI z)), (10, .int (zI (sr : Int))), (11, .int (zI hd))] [.int (zI f), .int (zI (sr : Int)), .ref (b 0)] := by
                                  intro f hf
                                  refine j_callVX0 hJ (c_X4_setOneWay hfl hX ⟨by omega, by omega⟩ (by omega)) mx_L_139 k_X4_setOneWay (q0 := 0) (by rw [gw_get (by decide)]; rfl) rfl ⟨(Nat.le_of_ble_eq_true rfl), (Nat.le_of_ble_eq_true rfl)⟩ ⟨by dsimp only; omega, by dsimp only; omega⟩ (Nat.le_of_ble_eq_true rfl) dL_holds_327 (by rintro q u ⟨_, _, ⟨_, h⟩, _⟩; exact h ⟨by omega, by omega⟩) rfl ?_
                                  intro v70 u71 hv72
                                  obtain ⟨q327, μ23, rfl, rfl, h327⟩ := hv72
                                  show J (gw 105 XSh cy b μ23 ++ (gw 3 ASh cy ba ν3 ++ [])) _ _ 330 [(0, .ref sb), (1, .ref (b 0)), (2, .ref (ba 0)), (3, .ref (ba 1)), (4, .ref (ba 2)), (5, .int (zI (n : Int))), (6, .int (zI 1)), (7, .int (zI (e : Int))), (9, .int (zI z)), (10, .int (zI (sr : Int))), (11, .int (zI hd))] [.int (zI q327)]
                                  rw [Int.toNat_natCast] at h327
                                  have hSa := hS.way (ν' := ν3) (f := f) hsn (by rw [hv9, hf]) h327.2.2.1 h327.2.2.2
                                  refine j_iload hJ (j := 10) rfl dL_holds_330 ?_
                                  refine j_icmp_ne hJ (tgt := 339) ⟨by omega, by omega⟩ ⟨by omega, by omega⟩ (by decide) dL_holds_332 ?_ ?_
                                  · intro h332
                                    exact absurd (h327.2.1.trans hhd.symm) h332
                                  · intro h332
                                    refine j_iconst hJ dL_holds_335 ?_
                                    refine j_goto hJ (tgt := 340) (by decide) dL_holds_336 ?_
                                    refine j_istore hJ (lv' := [(6, .int (zI 1)), (0, .ref sb), (1, .ref (b 0)), (2, .ref (ba 0)), (3, .ref (ba 1)), (4, .ref (ba 2)), (5, .int (zI (n : Int))), (7, .int (zI (e : Int))), (9, .int (zI z)), (10, .int (zI (sr : Int))), (11, .int (zI hd))]) (by decide) rfl dL_holds_340 ?_
                                    refine j_goto hJ (tgt := 411) (by decide) dL_holds_342 ?_
                                    refine j_locs hJ [1, 2, 3, 4, 5, 6, 0, 7, 8, 9] rfl ?_
                                    refine j_widen hJ (ce' := 200 + 100 * e + 10000 * (e / 5) + 50) (sl' := 4000 + 200 * e + 400000 * (e / 5) + 100) (by (try dsimp only); omega) (by (try dsimp only); omega) ?_
                                    exact j411 μ23 ν3 n _ _ _ _ (by exact hSa) (by omega)
                                refine j_aload_n hJ (j := 2) rfl rfl dL_holds_311 ?_
                                refine j_iload hJ (j := 10) rfl dL_holds_312 ?_
                                refine j_iload hJ (j := 9) rfl dL_holds_314 ?_
                                refine j_iconst hJ dL_holds_316 ?_
                                refine j_irem hJ (by omega) (by omega) (by omega) (by omega) dL_holds_317 ?_
                                refine j_iconst hJ dL_holds_318 ?_
                                refine j_icmp_ne hJ (tgt := 326) ⟨by omega, by omega⟩ ⟨by omega, by omega⟩ (by decide) dL_holds_319 ?_ ?_
                                · intro h319
                                  refine j_iconst hJ dL_holds_326 ?_
                                  refine j_locs hJ [1, 2, 3, 4, 5, 6, 7, 8, 9, 10, 0] rfl ?_
                                  refine j_widen hJ (ce' := 200 + 100 * e + 10000 * (e / 5)) (sl' := 4000 + 200 * e + 400000 * (e / 5)) (by (try dsimp only); omega) (by (try dsimp only); omega) ?_
                                  exact j327 0 (by omega)
                                · intro h319
                                  refine j_iconst hJ dL_holds_322 ?_
                                  refine j_goto hJ (tgt := 327) (by decide) dL_holds_323 ?_
                                  refine j_locs hJ [1, 2, 3, 4, 5, 6, 7, 8, 9, 10, 0] rfl ?_
                                  refine j_widen hJ (ce' := 200 + 100 * e + 10000 * (e / 5)) (sl' := 4000 + 200 * e + 400000 * (e / 5)) (by (try dsimp only); omega) (by (try dsimp only); omega) ?_
                                  exact j327 1 (by omega)
                              refine j_aload hJ (j := 5) rfl dL_holds_274 ?_
                              refine j_bipush hJ (v := 7) (by decide) dL_holds_276 ?_
                              refine j_iload hJ (j := 0) rfl dL_holds_278 ?_
                              refine j_imul hJ dL_holds_280 ?_
                              refine j_bipush hJ (v := 6) (by decide) dL_holds_281 ?_
                              refine j_iadd hJ dL_holds_283 ?_
                              refine w2_iald hJ (by decide) rfl (by decide) (by omega) (by omega) dL_holds_284 ?_
                              refine j_topi (y := zI (ow sr)) (by rw [hOs]) ?_
                              refine j_iconst hJ dL_holds_285 ?_
                              refine j_icmp_ne hJ (tgt := 293) ⟨by omega, by omega⟩ ⟨by omega, by omega⟩ (by decide) dL_holds_286 ?_ ?_
                              · intro h286
                                refine j_iconst hJ dL_holds_293 ?_
                                refine j_locs hJ [1, 2, 3, 4, 5, 6, 7, 8, 10, 0] rfl ?_
                                refine j_widen hJ (ce' := 200 + 100 * e + 10000 * (e / 5)) (sl' := 4000 + 200 * e + 400000 * (e / 5)) (by (try dsimp only); omega) (by (try dsimp only); omega) ?_
                                exact j294 0 (by omega)
                              · intro h286
                                refine j_iconst hJ dL_holds_289 ?_
                                refine j_goto hJ (tgt := 294) (by decide) dL_holds_290 ?_
                                refine j_locs hJ [1, 2, 3, 4, 5, 6, 7, 8, 10, 0] rfl ?_
                                refine j_widen hJ (ce' := 200 + 100 * e + 10000 * (e / 5)) (sl' := 4000 + 200 * e + 400000 * (e / 5)) (by (try dsimp only); omega) (by (try dsimp only); omega) ?_
                                exact j294 1 (by omega)
                          · intro h211
                            have hdr := (dr_Drw z).rng
                            have hn1 : 1 ≤ n := by omega
                            have hsn := hsr.1 hn1
                            refine j_aload_n hJ (j := 3) rfl rfl dL_holds_214 ?_
                            refine j_iload hJ (j := 10) rfl dL_holds_215 ?_
                            refine j_callS0 hJ (c_L_drawn hfl ⟨by omega, by omega⟩) m_L_110 k_L_drawn ⟨(Nat.le_of_ble_eq_true rfl), (Nat.le_of_ble_eq_true rfl)⟩ ⟨by dsimp only; omega, by dsimp only; omega⟩ (Nat.le_of_ble_eq_true rfl) dL_holds_217 rfl ?_
                            intro v73 u74 hv75
                            obtain ⟨_, rfl, rfl, rfl⟩ := hv75
                            show J (gw 105 XSh cy b μe ++ (gw 3 ASh cy ba νe ++ [])) _ _ 220 [(10, .int (zI (sr : Int))), (0, .ref sb), (1, .ref (b 0)), (2, .ref (ba 0)), (3, .ref (ba 1)), (4, .ref (ba 2)), (5, .int (zI (n : Int))), (6, .int (zI 1)), (7, .int (zI (e : Int))), (8, .int (zI wy)), (9, .int (zI z))] [.int (zI (dr z)), .ref (ba 0)]
                            refine w2_iald hJ (by decide) rfl (by decide) (by omega) (by omega) dL_holds_220 ?_
                            have hkd := (hK _ hdr.1 hdr.2).2
                            refine j_topi (y := zI (μe 1 (dr z))) (by rw [(hK _ hdr.1 hdr.2).1]) ?_
                            refine j_istore hJ (lv' := [(11, .int (zI (μe 1 (dr z)))), (10, .int (zI (sr : Int))), (0, .ref sb), (1, .ref (b 0)), (2, .ref (ba 0)), (3, .ref (ba 1)), (4, .ref (ba 2)), (5, .int (zI (n : Int))), (6, .int (zI 1)), (7, .int (zI (e : Int))), (8, .int (zI wy)), (9, .int (zI z))]) (by decide) rfl dL_holds_221 ?_
                            refine j_aload_n hJ (j := 4) rfl rfl dL_holds_223 ?_
                            refine j_iload hJ (j := 11) rfl dL_holds_224 ?_
                            refine j_callS0 hJ (c_L_drawn hfl ⟨by omega, by omega⟩) m_L_110 k_L_drawn ⟨(Nat.le_of_ble_eq_true rfl), (Nat.le_of_ble_eq_true rfl)⟩ ⟨by dsimp only; omega, by dsimp only; omega⟩ (Nat.le_of_ble_eq_true rfl) dL_holds_226 rfl ?_
                            intro v76 u77 hv78
                            obtain ⟨_, rfl, rfl, rfl⟩ := hv78
                            show J (gw 105 XSh cy b μe ++ (gw 3 ASh cy ba νe ++ [])) _ _ 229 [(11, .int (zI (μe 1 (dr z)))), (10, .int (zI (sr : Int))), (0, .ref sb), (1, .ref (b 0)), (2, .ref (ba 0)), (3, .ref (ba 1)), (4, .ref (ba 2)), (5, .int (zI (n : Int))), (6, .int (zI 1)), (7, .int (zI (e : Int))), (8, .int (zI wy)), (9, .int (zI z))] [.int (zI (dr z)), .ref (ba 0)]
                            refine j_iload hJ (j := 11) rfl dL_holds_229 ?_
                            refine j_bipush hJ (v := 8) (by decide) dL_holds_231 ?_
                            refine j_idiv hJ (by omega) (by omega) (by omega) (by omega) dL_holds_233 ?_
                            refine j_iconst hJ dL_holds_234 ?_
                            refine j_irem hJ (by omega) (by omega) (by omega) (by omega) dL_holds_235 ?_
                            refine w2_iast hJ (by decide) rfl (by decide) (by omega) (by omega) dL_holds_236 ?_
                            intro ν24 hν24
                            have hv9 := hν24
                            refine j_aload_n hJ (j := 3) rfl rfl dL_holds_237 ?_
                            refine j_iload hJ (j := 11) rfl dL_holds_238 ?_
                            refine j_callS0 hJ (c_L_drawn hfl ⟨by omega, by omega⟩) m_L_110 k_L_drawn ⟨(Nat.le_of_ble_eq_true rfl), (Nat.le_of_ble_eq_true rfl)⟩ ⟨by dsimp only; omega, by dsimp only; omega⟩ (Nat.le_of_ble_eq_true rfl) dL_holds_240 rfl ?_
                            intro v79 u80 hv81
                            obtain ⟨_, rfl, rfl, rfl⟩ := hv81
                            show J (gw 105 XSh cy b μe ++ (gw 3 ASh cy ba ν24 ++ [])) _ _ 243 [(11, .int (zI (μe 1 (dr z)))), (10, .int (zI (sr : Int))), (0, .ref sb), (1, .ref (b 0)), (2, .ref (ba 0)), (3, .ref (ba 1)), (4, .ref (ba 2)), (5, .int (zI (n : Int))), (6, .int (zI 1)), (7, .int (zI (e : Int))), (8, .int (zI wy)), (9, .int (zI z))] [.int (zI (dr z)), .ref (b 0)]
                            refine j_iload hJ (j := 11) rfl dL_holds_243 ?_
                            refine j_bipush hJ (v := 8) (by decide) dL_holds_245 ?_
                            refine j_idiv hJ (by omega) (by omega) (by omega) (by omega) dL_holds_247 ?_
                            refine j_iconst hJ dL_holds_248 ?_
                            refine j_irem hJ (by omega) (by omega) (by omega) (by omega) dL_holds_249 ?_
                            refine j_callVX0 hJ (c_X4_setKind hfl hX ⟨by omega, by omega⟩ ⟨by omega, by omega⟩) mx_L_136 k_X4_setKind (q0 := 0) (by rw [gw_get (by decide)]; rfl) rfl ⟨(Nat.le_of_ble_eq_true rfl), (Nat.le_of_ble_eq_true rfl)⟩ ⟨by dsimp only; omega, by dsimp only; omega⟩ (Nat.le_of_ble_eq_true rfl) dL_holds_250 (by rintro q u ⟨_, _, h, _⟩; rcases h with ⟨_, h⟩ | ⟨_, _, h⟩; exact h hdr; exact h ⟨by omega, by omega⟩) rfl ?_
                            intro v82 u83 hv84
                            obtain ⟨q250, μ25, rfl, rfl, h250⟩ := hv84
                            show J (gw 105 XSh cy b μ25 ++ (gw 3 ASh cy ba ν24 ++ [])) _ _ 253 [(11, .int (zI (μe 1 (dr z)))), (10, .int (zI (sr : Int))), (0, .ref sb), (1, .ref (b 0)), (2, .ref (ba 0)), (3, .ref (ba 1)), (4, .ref (ba 2)), (5, .int (zI (n : Int))), (6, .int (zI 1)), (7, .int (zI (e : Int))), (8, .int (zI wy)), (9, .int (zI z))] [.int (zI q250)]
                            have hSa := hS.kind hdr ⟨by omega, by omega⟩ hv9 h250.2.2.2.1 h250.2.2.2.2
                            refine j_iload hJ (j := 0) rfl dL_holds_253 ?_
                            refine j_icmp_ne hJ (tgt := 262) ⟨by omega, by omega⟩ ⟨by omega, by omega⟩ (by decide) dL_holds_255 ?_ ?_
                            · intro h255
                              exact absurd h250.2.2.1 h255
                            · intro h255
                              refine j_iconst hJ dL_holds_258 ?_
                              refine j_goto hJ (tgt := 263) (by decide) dL_holds_259 ?_
                              refine j_istore hJ (lv' := [(6, .int (zI 1)), (11, .int (zI (μe 1 (dr z)))), (10, .int (zI (sr : Int))), (0, .ref sb), (1, .ref (b 0)), (2, .ref (ba 0)), (3, .ref (ba 1)), (4, .ref (ba 2)), (5, .int (zI (n : Int))), (7, .int (zI (e : Int))), (8, .int (zI wy)), (9, .int (zI z))]) (by decide) rfl dL_holds_263 ?_
                              refine j_goto hJ (tgt := 411) (by decide) dL_holds_265 ?_
                              refine j_locs hJ [3, 4, 5, 6, 7, 8, 0, 9, 11, 2] rfl ?_
                              refine j_widen hJ (ce' := 200 + 100 * e + 10000 * (e / 5) + 50) (sl' := 4000 + 200 * e + 400000 * (e / 5) + 100) (by (try dsimp only); omega) (by (try dsimp only); omega) ?_
                              exact j411 μ25 ν24 n _ _ _ _ (by exact hSa) (by omega)
                        · intro h178
                          have hn1 : 1 ≤ n := by omega
                          have hsn := hsr.1 hn1
                          refine j_aload_n hJ (j := 4) rfl rfl dL_holds_181 ?_
                          refine j_iload hJ (j := 0) rfl dL_holds_182 ?_
                          refine j_iload hJ (j := 10) rfl dL_holds_184 ?_
                          refine j_perm hJ (perm3 _ _ _) ?_
                          show J (gw 3 ASh cy ba νe ++ (gw 105 XSh cy b μe ++ [])) (200 + 100 * e + 10000 * (e / 5)) (4000 + 200 * e + 400000 * (e / 5)) 186 [(10, .int (zI (sr : Int))), (0, .ref sb), (1, .ref (b 0)), (2, .ref (ba 0)), (3, .ref (ba 1)), (4, .ref (ba 2)), (5, .int (zI (n : Int))), (6, .int (zI 1)), (7, .int (zI (e : Int))), (8, .int (zI wy)), (9, .int (zI z))] [.int (zI z), .int (zI (sr : Int)), .ref (ba 1)]
                          refine j_callS0 hJ (c_L_named hfl (i := sr) (by omega) hA hz) m_L_126 k_L_named ⟨(Nat.le_of_ble_eq_true rfl), (Nat.le_of_ble_eq_true rfl)⟩ ⟨by dsimp only; omega, by dsimp only; omega⟩ (Nat.le_of_ble_eq_true rfl) dL_holds_186 rfl ?_
                          intro v85 u86 hv87
                          obtain ⟨q186, ν26, rfl, rfl, h186⟩ := hv87
                          show J (gw 3 ASh cy ba ν26 ++ (gw 105 XSh cy b μe ++ [])) _ _ 189 [(10, .int (zI (sr : Int))), (0, .ref sb), (1, .ref (b 0)), (2, .ref (ba 0)), (3, .ref (ba 1)), (4, .ref (ba 2)), (5, .int (zI (n : Int))), (6, .int (zI 1)), (7, .int (zI (e : Int))), (8, .int (zI wy)), (9, .int (zI z))] [.int (zI q186)]
                          refine j_perm hJ (perm3 _ _ _) ?_
                          show J (gw 105 XSh cy b μe ++ (gw 3 ASh cy ba ν26 ++ [])) _ _ 189 [(10, .int (zI (sr : Int))), (0, .ref sb), (1, .ref (b 0)), (2, .ref (ba 0)), (3, .ref (ba 1)), (4, .ref (ba 2)), (5, .int (zI (n : Int))), (6, .int (zI 1)), (7, .int (zI (e : Int))), (8, .int (zI wy)), (9, .int (zI z))] [.int (zI q186)]
                          obtain ⟨L9, g1, g2, g3, g4, g5, g6⟩ := h186
                          refine j_istore hJ (lv' := [(11, .int (zI q186)), (10, .int (zI (sr : Int))), (0, .ref sb), (1, .ref (b 0)), (2, .ref (ba 0)), (3, .ref (ba 1)), (4, .ref (ba 2)), (5, .int (zI (n : Int))), (6, .int (zI 1)), (7, .int (zI (e : Int))), (8, .int (zI wy)), (9, .int (zI z))]) (by decide) rfl dL_holds_189 ?_
                          refine j_aload_n hJ (j := 3) rfl rfl dL_holds_191 ?_
                          refine j_iload hJ (j := 1) rfl dL_holds_192 ?_
                          refine j_aload_n hJ (j := 5) rfl rfl dL_holds_194 ?_
                          refine j_iconst hJ dL_holds_195 ?_
                          refine j_iload hJ (j := 1) rfl dL_holds_196 ?_
                          refine j_imul hJ dL_holds_198 ?_
                          refine w2_iald hJ (by decide) rfl (by decide) (by omega) (by omega) dL_holds_199 ?_
                          have gl := g1.2.2.1
                          refine j_topi (y := zI (L9.length : Int)) (by rw [g1.1]) ?_
                          refine j_iload hJ (j := 0) rfl dL_holds_200 ?_
                          refine j_callVX0 hJ (c_X4_rename hfl hX ⟨by omega, by omega⟩ ⟨by omega, by omega⟩) mx_L_132 k_X4_rename (q0 := 0) (by rw [gw_get (by decide)]; rfl) rfl ⟨(Nat.le_of_ble_eq_true rfl), (Nat.le_of_ble_eq_true rfl)⟩ ⟨by dsimp only; omega, by dsimp only; omega⟩ (Nat.le_of_ble_eq_true rfl) dL_holds_202 (by rintro q u ⟨_, _, h, _⟩; rcases h with ⟨_, h⟩ | ⟨_, _, h⟩; exact h ⟨by omega, by omega⟩; exact h g3) rfl ?_
                          intro v88 u89 hv90
                          obtain ⟨μ27, rfl, rfl, h202⟩ := hv90
                          show J (gw 105 XSh cy b μ27 ++ (gw 3 ASh cy ba ν26 ++ [])) _ _ 205 [(11, .int (zI q186)), (10, .int (zI (sr : Int))), (0, .ref sb), (1, .ref (b 0)), (2, .ref (ba 0)), (3, .ref (ba 1)), (4, .ref (ba 2)), (5, .int (zI (n : Int))), (6, .int (zI 1)), (7, .int (zI (e : Int))), (8, .int (zI wy)), (9, .int (zI z))] []
                          rw [Int.toNat_natCast, Int.toNat_natCast] at h202
                          have hSa := hS.ren hsn g1 g4 g5 g6 h202.2.2.1 g2 h202.2.2.2
                          refine j_goto hJ (tgt := 411) (by decide) dL_holds_205 ?_
                          refine j_locs hJ [2, 3, 4, 5, 6, 7, 8, 9, 11, 1] rfl ?_
                          refine j_widen hJ (ce' := 200 + 100 * e + 10000 * (e / 5) + 50) (sl' := 4000 + 200 * e + 400000 * (e / 5) + 100) (by (try dsimp only); omega) (by (try dsimp only); omega) ?_
                          exact j411 μ27 ν26 n _ _ _ _ (by exact hSa) (by omega)
                      · intro h132
                        have hn4 : n < 5 := by omega
                        refine j_aload_n hJ (j := 4) rfl rfl dL_holds_135 ?_
                        refine j_iload hJ (j := 6) rfl dL_holds_136 ?_
                        refine j_iload hJ (j := 10) rfl dL_holds_138 ?_
                        refine j_perm hJ (perm3 _ _ _) ?_
                        show J (gw 3 ASh cy ba νe ++ (gw 105 XSh cy b μe ++ [])) (200 + 100 * e + 10000 * (e / 5)) (4000 + 200 * e + 400000 * (e / 5)) 140 [(10, .int (zI (sr : Int))), (0, .ref sb), (1, .ref (b 0)), (2, .ref (ba 0)), (3, .ref (ba 1)), (4, .ref (ba 2)), (5, .int (zI (n : Int))), (6, .int (zI 1)), (7, .int (zI (e : Int))), (8, .int (zI wy)), (9, .int (zI z))] [.int (zI z), .int (zI (n : Int)), .ref (ba 1)]
                        refine j_callS0 hJ (c_L_named hfl (i := n) (by omega) hA hz) m_L_126 k_L_named ⟨(Nat.le_of_ble_eq_true rfl), (Nat.le_of_ble_eq_true rfl)⟩ ⟨by dsimp only; omega, by dsimp only; omega⟩ (Nat.le_of_ble_eq_true rfl) dL_holds_140 rfl ?_
                        intro v91 u92 hv93
                        obtain ⟨q140, ν28, rfl, rfl, h140⟩ := hv93
                        show J (gw 3 ASh cy ba ν28 ++ (gw 105 XSh cy b μe ++ [])) _ _ 143 [(10, .int (zI (sr : Int))), (0, .ref sb), (1, .ref (b 0)), (2, .ref (ba 0)), (3, .ref (ba 1)), (4, .ref (ba 2)), (5, .int (zI (n : Int))), (6, .int (zI 1)), (7, .int (zI (e : Int))), (8, .int (zI wy)), (9, .int (zI z))] [.int (zI q140)]
                        refine j_perm hJ (perm3 _ _ _) ?_
                        show J (gw 105 XSh cy b μe ++ (gw 3 ASh cy ba ν28 ++ [])) _ _ 143 [(10, .int (zI (sr : Int))), (0, .ref sb), (1, .ref (b 0)), (2, .ref (ba 0)), (3, .ref (ba 1)), (4, .ref (ba 2)), (5, .int (zI (n : Int))), (6, .int (zI 1)), (7, .int (zI (e : Int))), (8, .int (zI wy)), (9, .int (zI z))] [.int (zI q140)]
                        obtain ⟨L9, g1, g2, g3, g4, g5, g6⟩ := h140
                        refine j_istore hJ (lv' := [(11, .int (zI q140)), (10, .int (zI (sr : Int))), (0, .ref sb), (1, .ref (b 0)), (2, .ref (ba 0)), (3, .ref (ba 1)), (4, .ref (ba 2)), (5, .int (zI (n : Int))), (6, .int (zI 1)), (7, .int (zI (e : Int))), (8, .int (zI wy)), (9, .int (zI z))]) (by decide) rfl dL_holds_143 ?_
                        refine j_aload_n hJ (j := 3) rfl rfl dL_holds_145 ?_
                        refine j_aload_n hJ (j := 5) rfl rfl dL_holds_146 ?_
                        refine j_iconst hJ dL_holds_147 ?_
                        refine j_iload hJ (j := 7) rfl dL_holds_148 ?_
                        refine j_imul hJ dL_holds_150 ?_
                        refine w2_iald hJ (by decide) rfl (by decide) (by omega) (by omega) dL_holds_151 ?_
                        have gl := g1.2.2.1
                        refine j_topi (y := zI (L9.length : Int)) (by rw [g1.1]) ?_
                        refine j_iload hJ (j := 0) rfl dL_holds_152 ?_
                        refine j_callVX0 hJ (c_X4_addStreet hfl hX ⟨by omega, by omega⟩) mx_L_129 k_X4_addStreet (q0 := 0) (by rw [gw_get (by decide)]; rfl) rfl ⟨(Nat.le_of_ble_eq_true rfl), (Nat.le_of_ble_eq_true rfl)⟩ ⟨by dsimp only; omega, by dsimp only; omega⟩ (Nat.le_of_ble_eq_true rfl) dL_holds_154 (by rintro q u ⟨_, _, h, _⟩; rcases h with ⟨_, h⟩ | ⟨_, _, h⟩; exact h g3; omega) rfl ?_
                        intro v94 u95 hv96
                        obtain ⟨q154, μ29, rfl, rfl, h154⟩ := hv96
                        show J (gw 105 XSh cy b μ29 ++ (gw 3 ASh cy ba ν28 ++ [])) _ _ 157 [(11, .int (zI q140)), (10, .int (zI (sr : Int))), (0, .ref sb), (1, .ref (b 0)), (2, .ref (ba 0)), (3, .ref (ba 1)), (4, .ref (ba 2)), (5, .int (zI (n : Int))), (6, .int (zI 1)), (7, .int (zI (e : Int))), (8, .int (zI wy)), (9, .int (zI z))] [.int (zI q154)]
                        rw [Int.toNat_natCast] at h154
                        have hSa := hS.addS hn4 g1 g4 g5 g6 h154.2.2.2.1 g2 h154.2.2.2.2
                        refine j_iload hJ (j := 7) rfl dL_holds_157 ?_
                        refine j_icmp_ne hJ (tgt := 166) ⟨by omega, by omega⟩ ⟨by omega, by omega⟩ (by decide) dL_holds_159 ?_ ?_
                        · intro h159
                          exact absurd h154.1 h159
                        · intro h159
                          refine j_iconst hJ dL_holds_162 ?_
                          refine j_goto hJ (tgt := 167) (by decide) dL_holds_163 ?_
                          refine j_istore hJ (lv' := [(6, .int (zI 1)), (11, .int (zI q140)), (10, .int (zI (sr : Int))), (0, .ref sb), (1, .ref (b 0)), (2, .ref (ba 0)), (3, .ref (ba 1)), (4, .ref (ba 2)), (5, .int (zI (n : Int))), (7, .int (zI (e : Int))), (8, .int (zI wy)), (9, .int (zI z))]) (by decide) rfl dL_holds_167 ?_
                          refine j_iinc hJ (lv' := [(5, .int (zI ((n : Int) + 1))), (6, .int (zI 1)), (11, .int (zI q140)), (10, .int (zI (sr : Int))), (0, .ref sb), (1, .ref (b 0)), (2, .ref (ba 0)), (3, .ref (ba 1)), (4, .ref (ba 2)), (7, .int (zI (e : Int))), (8, .int (zI wy)), (9, .int (zI z))]) (j := 8) rfl (by omega) (by decide) rfl dL_holds_169 ?_
                          refine j_goto hJ (tgt := 411) (by decide) dL_holds_172 ?_
                          refine j_locs hJ [4, 5, 6, 7, 8, 0, 1, 9, 11, 3] rfl ?_
                          refine j_widen hJ (ce' := 200 + 100 * e + 10000 * (e / 5) + 50) (sl' := 4000 + 200 * e + 400000 * (e / 5) + 100) (by (try dsimp only); omega) (by (try dsimp only); omega) ?_
                          exact j411 μ29 ν28 (n + 1) _ _ _ _ (by exact hSa) (by omega)
                  refine j_iload hJ (j := 7) rfl dL_holds_101 ?_
                  refine j_if_ne hJ (tgt := 110) ⟨by omega, by omega⟩ (by decide) dL_holds_103 ?_ ?_
                  · intro h103
                    refine j_aload_n hJ (j := 2) rfl rfl dL_holds_110 ?_
                    refine j_iconst hJ dL_holds_111 ?_
                    refine j_iload hJ (j := 9) rfl dL_holds_112 ?_
                    refine j_imul hJ dL_holds_114 ?_
                    refine j_iconst hJ dL_holds_115 ?_
                    refine j_iadd hJ dL_holds_116 ?_
                    refine j_iload hJ (j := 7) rfl dL_holds_117 ?_
                    refine j_callSC XSL.mv hJ (c_L_from hfl hL ⟨by omega, by omega⟩ ⟨by omega, by omega⟩) mx_L_122 k_L_from ⟨(Nat.le_of_ble_eq_true rfl), (Nat.le_of_ble_eq_true rfl)⟩ ⟨by dsimp only; omega, by dsimp only; omega⟩ (Nat.le_of_ble_eq_true rfl) dL_holds_119 rfl ?_
                    intro v97 u98 hv99
                    obtain ⟨q119, rfl, rfl, hq119⟩ := hv99
                    show J (gw 105 XSh cy b μe ++ (gw 3 ASh cy ba νe ++ [])) _ _ 122 [(9, .int (zI z)), (8, .int (zI wy)), (0, .ref sb), (1, .ref (b 0)), (2, .ref (ba 0)), (3, .ref (ba 1)), (4, .ref (ba 2)), (5, .int (zI (n : Int))), (6, .int (zI 1)), (7, .int (zI (e : Int)))] [.int (zI q119)]
                    obtain ⟨sr, hsr9⟩ : ∃ sr : Nat, q119 = (sr : Int) := ⟨q119.toNat, by omega⟩
                    refine j_topi (y := zI (sr : Int)) (by rw [hsr9]) ?_
                    refine j_locs hJ [2, 3, 4, 5, 6, 7, 8, 9, 1, 0] rfl ?_
                    refine j_widen hJ (ce' := 200 + 100 * e + 10000 * (e / 5)) (sl' := 4000 + 200 * e + 400000 * (e / 5)) (by (try dsimp only); omega) (by (try dsimp only); omega) ?_
                    exact j122 sr (by omega)
                  · intro h103
                    refine j_iconst hJ dL_holds_106 ?_
                    refine j_goto hJ (tgt := 122) (by decide) dL_holds_107 ?_
                    refine j_locs hJ [2, 3, 4, 5, 6, 7, 8, 9, 1, 0] rfl ?_
                    refine j_widen hJ (ce' := 200 + 100 * e + 10000 * (e / 5)) (sl' := 4000 + 200 * e + 400000 * (e / 5)) (by (try dsimp only); omega) (by (try dsimp only); omega) ?_
                    exact j122 0 (by omega)
                refine j_iload hJ (j := 7) rfl dL_holds_65 ?_
                refine j_iconst hJ dL_holds_67 ?_
                refine j_icmp_ge hJ (tgt := 75) ⟨by omega, by omega⟩ ⟨by omega, by omega⟩ (by decide) dL_holds_68 ?_ ?_
                · intro h68
                  refine j_aload_n hJ (j := 0) rfl rfl dL_holds_75 ?_
                  refine j_iconst hJ dL_holds_76 ?_
                  refine j_iload hJ (j := 7) rfl dL_holds_77 ?_
                  refine j_imul hJ dL_holds_79 ?_
                  refine j_bipush hJ (v := 12) (by decide) dL_holds_80 ?_
                  refine j_callSC XSL.mv hJ (c_L_from hfl hL ⟨by omega, by omega⟩ ⟨by omega, by omega⟩) mx_L_122 k_L_from ⟨(Nat.le_of_ble_eq_true rfl), (Nat.le_of_ble_eq_true rfl)⟩ ⟨by dsimp only; omega, by dsimp only; omega⟩ (Nat.le_of_ble_eq_true rfl) dL_holds_82 rfl ?_
                  intro v100 u101 hv102
                  obtain ⟨q82, rfl, rfl, hq82⟩ := hv102
                  show J (gw 105 XSh cy b μe ++ (gw 3 ASh cy ba νe ++ [])) _ _ 85 [(0, .ref sb), (1, .ref (b 0)), (2, .ref (ba 0)), (3, .ref (ba 1)), (4, .ref (ba 2)), (5, .int (zI (n : Int))), (6, .int (zI 1)), (7, .int (zI (e : Int)))] [.int (zI q82)]
                  refine j_widen hJ (ce' := 200 + 100 * e + 10000 * (e / 5)) (sl' := 4000 + 200 * e + 400000 * (e / 5)) (by (try dsimp only); omega) (by (try dsimp only); omega) ?_
                  exact j85 q82 (by omega)
                · intro h68
                  refine j_iconst hJ dL_holds_71 ?_
                  refine j_goto hJ (tgt := 85) (by decide) dL_holds_72 ?_
                  refine j_widen hJ (ce' := 200 + 100 * e + 10000 * (e / 5)) (sl' := 4000 + 200 * e + 400000 * (e / 5)) (by (try dsimp only); omega) (by (try dsimp only); omega) ?_
                  exact j85 0 (by omega)
        refine j_locs hJ [3, 4, 5, 6, 7, 2, 1, 0] rfl ?_
        refine j_widen hJ (ce' := 200 + 100 * 0 + 10000 * (0 / 5)) (sl' := 4000 + 200 * 0 + 400000 * (0 / 5)) (by (try dsimp only); omega) (by (try dsimp only); omega) ?_
        exact lp53 (71 - 0 + 1) mu0 νk 0 _ _ _ _ 0 (by omega) (by omega) (by exact hS0) (by omega)
      · intro h30
        refine j_aload_n hJ (j := 2) rfl rfl dL_holds_33 ?_
        refine j_iload hJ (j := 5) rfl dL_holds_34 ?_
        refine j_iconst hJ dL_holds_36 ?_
        refine w2_iast hJ (by decide) rfl (by decide) (by omega) (by omega) dL_holds_37 ?_
        intro ν30 hν30
        refine j_iinc hJ (lv' := [(5, .int (zI ((k : Int) + 1))), (0, .ref sb), (1, .ref (b 0)), (2, .ref (ba 0)), (3, .ref (ba 1)), (4, .ref (ba 2))]) (j := 5) rfl (by omega) (by decide) rfl dL_holds_38 ?_
        refine j_goto hJ (tgt := 27) (by decide) dL_holds_41 ?_
        refine j_locs hJ [1, 2, 3, 4, 5, 0] rfl ?_
        exact ih27 ν30 (k + 1) (by omega) (by omega) (by rw [hν30, hν, nu0_step])
  refine j_locs hJ [1, 2, 3, 4, 5, 0] rfl ?_
  exact lp27 (5 - 0 + 1) (fun _ _ => 0) 0 (by omega) (by omega) (by exact nu0_0)
end
