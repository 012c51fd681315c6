
set_option maxRecDepth 20000 in
theorem f_X5_13 : FF RX5 13 5 1 (.array .int) true := ⟨RX5, TX5, 17, tyX5, rfl, by decide, lays_X5, tyX5_ok, rfl, rfl, nmX5, Or.inl (List.mem_of_getElem? (i := 877) (by decide +kernel))⟩
set_option maxRecDepth 20000 in
theorem f_X5_38 : FF RX5 38 5 11 (.array .int) true := ⟨RX5, TX5, 17, tyX5, rfl, by decide, lays_X5, tyX5_ok, rfl, rfl, nmX5, Or.inl (List.mem_of_getElem? (i := 887) (by decide +kernel))⟩
set_option maxRecDepth 20000 in
theorem m_X5_65 : MF RX5 65 0 yX5_keyOf 2 := ⟨Or.inl (List.mem_of_getElem? (i := 1009) (by decide +kernel)), (List.mem_of_getElem? (i := 63) (by decide +kernel)), ⟨by decide +kernel, by decide +kernel⟩, by decide +kernel, fun _ => ⟨(List.mem_of_getElem? (i := 1011) (by decide +kernel)), (List.mem_of_getElem? (i := 48) (by decide +kernel))⟩, fun h => by omega, fun h => by omega⟩
set_option maxRecDepth 20000 in
theorem k_X5_keyOf : Cond.code yX5_keyOf cX5_keyOf 6 (some .int) ∈ GT := (List.mem_of_getElem? (i := 1012) (by decide +kernel))
set_option maxRecDepth 20000 in
theorem f_X5_41 : FF RX5 41 5 12 (.array .int) true := ⟨RX5, TX5, 17, tyX5, rfl, by decide, lays_X5, tyX5_ok, rfl, rfl, nmX5, Or.inl (List.mem_of_getElem? (i := 888) (by decide +kernel))⟩
set_option maxRecDepth 20000 in
theorem m_X5_69 : MF RX5 69 0 yX5_compareWords 2 := ⟨Or.inl (List.mem_of_getElem? (i := 1013) (by decide +kernel)), (List.mem_of_getElem? (i := 63) (by decide +kernel)), ⟨by decide +kernel, by decide +kernel⟩, by decide +kernel, fun _ => ⟨(List.mem_of_getElem? (i := 1015) (by decide +kernel)), (List.mem_of_getElem? (i := 49) (by decide +kernel))⟩, fun h => by omega, fun h => by omega⟩
set_option maxRecDepth 20000 in
theorem k_X5_compareWords : Cond.code yX5_compareWords cX5_compareWords 5 (some .int) ∈ GT := (List.mem_of_getElem? (i := 1016) (by decide +kernel))
set_option maxRecDepth 20000 in
theorem m_X5_73 : MF RX5 73 0 yX5_compareOf 2 := ⟨Or.inl (List.mem_of_getElem? (i := 1005) (by decide +kernel)), (List.mem_of_getElem? (i := 63) (by decide +kernel)), ⟨by decide +kernel, by decide +kernel⟩, by decide +kernel, fun _ => ⟨(List.mem_of_getElem? (i := 1007) (by decide +kernel)), (List.mem_of_getElem? (i := 47) (by decide +kernel))⟩, fun h => by omega, fun h => by omega⟩
set_option maxRecDepth 20000 in
theorem k_X5_compareOf : Cond.code yX5_compareOf cX5_compareOf 7 (some .int) ∈ GT := (List.mem_of_getElem? (i := 1008) (by decide +kernel))
set_option maxRecDepth 20000 in
theorem m_X5_76 : MF RX5 76 0 yX5_isAhead 2 := ⟨Or.inl (List.mem_of_getElem? (i := 1001) (by decide +kernel)), (List.mem_of_getElem? (i := 63) (by decide +kernel)), ⟨by decide +kernel, by decide +kernel⟩, by decide +kernel, fun _ => ⟨(List.mem_of_getElem? (i := 1003) (by decide +kernel)), (List.mem_of_getElem? (i := 46) (by decide +kernel))⟩, fun h => by omega, fun h => by omega⟩
set_option maxRecDepth 20000 in
theorem k_X5_isAhead : Cond.code yX5_isAhead cX5_isAhead 5 (some .boolean) ∈ GT := (List.mem_of_getElem? (i := 1004) (by decide +kernel))
section
variable {l : Launch} {D : va_G} {cy : Nat → ClassId} {n0 : Nat} {ad : Nat → Nat} {b : Nat → Nat} {E : va_W} {ws : va_W}
set_option maxHeartbeats 4000000 in
set_option maxRecDepth 100000 in
theorem c_X5_keyOf {ν : Nat → Int → Int} {kd : Int → Int} {i kc : Nat} {N : List Int} (hfl : l.stackTraces = false) (hi : i < 16) (hkc0 : kc < 14) (hkc : MSh kc = .inr (.inl (0, 4))) (hkn : 8 ≤ kc) (hN : NmM ν i N) (hkr : KdM ν kd) : CT l D cy n0 ad yX5_keyOf (.code yX5_keyOf cX5_keyOf 6 (some .int)) ({ frames := 0, cells := 0, slots := 0, locals := 0 }) [.ref (b 0), .int (zI (i : Int)), .ref (b kc)] (gw 14 MSh cy b ν ++ E) (fun vv uu => ∃ q μ', vv = some (.int (zI q)) ∧ uu = (gw 14 MSh cy b μ' ++ E) ∧ (q = ((keyL kd N).length : Nat) ∧ ArrL (μ' kc) (keyL kd N) ∧ ∀ a, a ≠ kc → μ' a = ν a)) := by
  obtain ⟨h1, h2, h3, h4, h5⟩ := id hN
  have hsum := filK_sum (kd := kd) (N := N)
  have hkl := keyL_len (kd := kd) (N := N) ⟨h2, h3⟩
  refine CT.walk hfl (by decide) (Nat.le_of_ble_eq_true rfl) ?_
  intro A J hJ
  show J (gw 14 MSh cy b ν ++ E) 0 0 0 [(0, .ref (b 0)), (1, .int (zI (i : Int))), (2, .ref (b kc))] []
  refine j_iconst hJ dX5_keyOf_0 ?_
  refine j_istore_n hJ (lv' := [(3, .int (zI 0)), (0, .ref (b 0)), (1, .int (zI (i : Int))), (2, .ref (b kc))]) rfl (by decide) rfl dX5_keyOf_1 ?_
  refine j_iconst hJ dX5_keyOf_2 ?_
  refine j_istore hJ (lv' := [(4, .int (zI 0)), (3, .int (zI 0)), (0, .ref (b 0)), (1, .int (zI (i : Int))), (2, .ref (b kc))]) (by decide) rfl dX5_keyOf_3 ?_
  have lp5 : ∀ (nn5 : Nat) (νk : Nat → Int → Int) (c : Int) (g : Int) (hmeas5 : ((6 : Int) - g).toNat < nn5) (hg : g = 0 ∨ g = 2 ∨ g = 4) (hn : c = ((kyP kd N g).length : Nat)) (hA : ArrL (νk kc) (kyP kd N g)) (hF : ∀ a, a ≠ kc → νk a = ν a), J (gw 14 MSh cy b νk ++ E) 0 0 5 [(0, .ref (b 0)), (1, .int (zI (i : Int))), (2, .ref (b kc)), (3, .int (zI c)), (4, .int (zI g))] [] := by
    intro nn5
    induction nn5 with
    | zero => intro νk c g hmeas5 hg hn hA hF; omega
    | succ nn5 ih5 =>
      intro νk c g hmeas5 hg hn hA hF
      refine j_iload hJ (j := 4) rfl dX5_keyOf_5 ?_
      refine j_iconst hJ dX5_keyOf_7 ?_
      refine j_icmp_ge hJ (tgt := 75) ⟨by omega, by omega⟩ ⟨by omega, by omega⟩ (by decide) dX5_keyOf_8 ?_ ?_
      · intro h8
        have hg4 : g = 4 := by omega
        subst hg4
        have eP : kyP kd N 4 = filK kd 0 N ++ filK kd 2 N := by simp [kyP]
        rw [eP] at hn hA
        have hPl : (filK kd 0 N ++ filK kd 2 N).length ≤ 4 := by rw [List.length_append]; omega
        refine j_iconst hJ dX5_keyOf_75 ?_
        refine j_istore hJ (lv' := [(4, .int (zI 0)), (0, .ref (b 0)), (1, .int (zI (i : Int))), (2, .ref (b kc)), (3, .int (zI c))]) (by decide) rfl dX5_keyOf_76 ?_
        have lp78 : ∀ (nn78 : Nat) (νz : Nat → Int → Int) (k : Int) (hmeas78 : ((N.length : Int) - k).toNat < nn78) (hk : 0 ≤ k ∧ k ≤ N.length) (hz : c = 0 → ArrL (νz kc) (N.take k.toNat)) (hz2 : c ≠ 0 → ArrL (νz kc) (filK kd 0 N ++ filK kd 2 N)) (hFz : ∀ a, a ≠ kc → νz a = ν a), J (gw 14 MSh cy b νz ++ E) 0 0 78 [(0, .ref (b 0)), (1, .int (zI (i : Int))), (2, .ref (b kc)), (3, .int (zI c)), (4, .int (zI k))] [] := by
          intro nn78
          induction nn78 with
          | zero => intro νz k hmeas78 hk hz hz2 hFz; omega
          | succ nn78 ih78 =>
            intro νz k hmeas78 hk hz hz2 hFz
            refine j_iload hJ (j := 4) rfl dX5_keyOf_78 ?_
            refine j_aload_n hJ (j := 0) rfl rfl dX5_keyOf_80 ?_
            refine w_getr hJ (by omega) rfl rfl f_X5_19 dX5_keyOf_81 ?_
            refine j_iload_n hJ (j := 1) rfl rfl dX5_keyOf_84 ?_
            refine w_iald hJ (by omega) rfl (by first | decide | omega) (by omega) (by omega) dX5_keyOf_85 ?_
            refine j_topi (y := zI (N.length : Int)) (by rw [hFz _ (by omega), h1]) ?_
            refine j_icmp_ge hJ (tgt := 114) ⟨by omega, by omega⟩ ⟨by omega, by omega⟩ (by decide) dX5_keyOf_86 ?_ ?_
            · intro h86
              refine j_iload_n hJ (j := 3) rfl rfl dX5_keyOf_114 ?_
              refine j_if_ne hJ (tgt := 127) ⟨by omega, by omega⟩ (by decide) dX5_keyOf_115 ?_ ?_
              · intro h115
                refine j_iload_n hJ (j := 3) rfl rfl dX5_keyOf_127 ?_
                refine j_iret hJ rfl rfl (rfl) (Nat.le_of_ble_eq_true rfl) (Nat.le_of_ble_eq_true rfl) dX5_keyOf_128 ⟨c, νz, rfl, rfl, ?_⟩
                have hnn : ¬ filK kd 0 N ++ filK kd 2 N = [] := fun e => by rw [e] at hn; simp at hn; omega
                unfold keyL
                rw [if_neg hnn]
                exact ⟨hn, hz2 (by omega), hFz⟩
              · intro h115
                refine j_aload_n hJ (j := 0) rfl rfl dX5_keyOf_118 ?_
                refine w_getr hJ (by omega) rfl rfl f_X5_19 dX5_keyOf_119 ?_
                refine j_iload_n hJ (j := 1) rfl rfl dX5_keyOf_122 ?_
                refine w_iald hJ (by omega) rfl (by first | decide | omega) (by omega) (by omega) dX5_keyOf_123 ?_
                refine j_topi (y := zI (N.length : Int)) (by rw [hFz _ (by omega), h1]) ?_
                refine j_goto hJ (tgt := 128) (by decide) dX5_keyOf_124 ?_
                refine j_iret hJ rfl rfl (rfl) (Nat.le_of_ble_eq_true rfl) (Nat.le_of_ble_eq_true rfl) dX5_keyOf_128 ⟨(N.length : Int), νz, rfl, rfl, ?_⟩
                have hnil : filK kd 0 N ++ filK kd 2 N = [] := List.eq_nil_of_length_eq_zero (by omega)
                unfold keyL
                rw [if_pos hnil]
                have := hz (by omega)
                rw [show k.toNat = N.length by omega, List.take_length] at this
                exact ⟨rfl, this, hFz⟩
            · intro h86
              refine j_iload_n hJ (j := 3) rfl rfl dX5_keyOf_89 ?_
              refine j_if_ne hJ (tgt := 114) ⟨by omega, by omega⟩ (by decide) dX5_keyOf_90 ?_ ?_
              · intro h90
                refine j_iload_n hJ (j := 3) rfl rfl dX5_keyOf_114 ?_
                refine j_if_ne hJ (tgt := 127) ⟨by omega, by omega⟩ (by decide) dX5_keyOf_115 ?_ ?_
                · intro h115
                  refine j_iload_n hJ (j := 3) rfl rfl dX5_keyOf_127 ?_
                  refine j_iret hJ rfl rfl (rfl) (Nat.le_of_ble_eq_true rfl) (Nat.le_of_ble_eq_true rfl) dX5_keyOf_128 ⟨c, νz, rfl, rfl, ?_⟩
                  have hnn : ¬ filK kd 0 N ++ filK kd 2 N = [] := fun e => by rw [e] at hn; simp at hn; omega
                  unfold keyL
                  rw [if_neg hnn]
                  exact ⟨hn, hz2 (by omega), hFz⟩
                · intro h115
                  refine j_aload_n hJ (j := 0) rfl rfl dX5_keyOf_118 ?_
                  refine w_getr hJ (by omega) rfl rfl f_X5_19 dX5_keyOf_119 ?_
                  refine j_iload_n hJ (j := 1) rfl rfl dX5_keyOf_122 ?_
                  refine w_iald hJ (by omega) rfl (by first | decide | omega) (by omega) (by omega) dX5_keyOf_123 ?_
                  refine j_topi (y := zI (N.length : Int)) (by rw [hFz _ (by omega), h1]) ?_
                  refine j_goto hJ (tgt := 128) (by decide) dX5_keyOf_124 ?_
                  refine j_iret hJ rfl rfl (rfl) (Nat.le_of_ble_eq_true rfl) (Nat.le_of_ble_eq_true rfl) dX5_keyOf_128 ⟨(N.length : Int), νz, rfl, rfl, ?_⟩
                  exfalso; omega
              · intro h90
                obtain ⟨x, e1x, e2x, e3x, e4x⟩ := hN.at (z := k) hk.1 h86
                refine j_aload_n hJ (j := 2) rfl rfl dX5_keyOf_93 ?_
                refine j_iload hJ (j := 4) rfl dX5_keyOf_94 ?_
                refine j_aload_n hJ (j := 0) rfl rfl dX5_keyOf_96 ?_
                refine w_getr hJ (by omega) rfl rfl f_X5_16 dX5_keyOf_97 ?_
                refine j_iconst hJ dX5_keyOf_100 ?_
                refine j_iload_n hJ (j := 1) rfl rfl dX5_keyOf_101 ?_
                refine j_imul hJ dX5_keyOf_102 ?_
                refine j_iload hJ (j := 4) rfl dX5_keyOf_103 ?_
                refine j_iadd hJ dX5_keyOf_105 ?_
                refine w_iald hJ (by omega) rfl (by first | decide | omega) (by omega) (by omega) dX5_keyOf_106 ?_
                refine j_topi (y := zI x) (by rw [hFz _ (by omega), e2x]) ?_
                refine w_iast hJ (by omega) hkc (by first | decide | omega) (by omega) (by omega) dX5_keyOf_107 ?_
                intro ν1 hν1
                have hM2 := hν1
                refine j_iinc hJ (lv' := [(4, .int (zI (k + 1))), (0, .ref (b 0)), (1, .int (zI (i : Int))), (2, .ref (b kc)), (3, .int (zI c))]) (j := 4) rfl (by omega) (by decide) rfl dX5_keyOf_108 ?_
                refine j_goto hJ (tgt := 78) (by decide) dX5_keyOf_111 ?_
                refine j_locs hJ [1, 2, 3, 4, 0] rfl ?_
                refine ih78 ν1 (k + 1) (by omega) (by omega) ?_ (by exact fun g => absurd h90 g) (by exact fun a a1 => by rw [hM2, up_rowf a1, hFz a a1])
                · intro _
                  rw [show (k + 1).toNat = k.toNat + 1 by omega, List.take_succ, e1x, hM2]
                  exact (hz h90).snoc (fun q q0 q1 => by rw [List.length_take] at q1; rw [up_at (by omega)]) (by rw [List.length_take, show ((min k.toNat N.length : Nat) : Int) = k by omega, up_self])
        refine j_locs hJ [1, 2, 3, 4, 0] rfl ?_
        exact lp78 (((N.length : Int) - 0).toNat + 1) νk 0 (by omega) (by omega) (by intro _ k x hx; simp at hx) (by exact fun _ => hA) (by exact hF)
      · intro h8
        have hkl2 := kyP_len (kd := kd) (N := N) (g := g) (by omega)
        refine j_iconst hJ dX5_keyOf_11 ?_
        refine j_istore hJ (lv' := [(5, .int (zI 0)), (0, .ref (b 0)), (1, .int (zI (i : Int))), (2, .ref (b kc)), (3, .int (zI c)), (4, .int (zI g))]) (by decide) rfl dX5_keyOf_12 ?_
        have lp14 : ∀ (nn14 : Nat) (νj : Nat → Int → Int) (cj : Int) (k : Int) (hmeas14 : ((N.length : Int) - k).toNat < nn14) (hk : 0 ≤ k ∧ k ≤ N.length) (hcj : cj = ((kyP kd N g ++ filK kd g (N.take k.toNat)).length : Nat)) (hAj : ArrL (νj kc) (kyP kd N g ++ filK kd g (N.take k.toNat))) (hFj : ∀ a, a ≠ kc → νj a = ν a), J (gw 14 MSh cy b νj ++ E) 0 0 14 [(0, .ref (b 0)), (1, .int (zI (i : Int))), (2, .ref (b kc)), (3, .int (zI cj)), (4, .int (zI g)), (5, .int (zI k))] [] := by
          intro nn14
          induction nn14 with
          | zero => intro νj cj k hmeas14 hk hcj hAj hFj; omega
          | succ nn14 ih14 =>
            intro νj cj k hmeas14 hk hcj hAj hFj
            refine j_iload hJ (j := 5) rfl dX5_keyOf_14 ?_
            refine j_aload_n hJ (j := 0) rfl rfl dX5_keyOf_16 ?_
            refine w_getr hJ (by omega) rfl rfl f_X5_19 dX5_keyOf_17 ?_
            refine j_iload_n hJ (j := 1) rfl rfl dX5_keyOf_20 ?_
            refine w_iald hJ (by omega) rfl (by first | decide | omega) (by omega) (by omega) dX5_keyOf_21 ?_
            refine j_topi (y := zI (N.length : Int)) (by rw [hFj _ (by omega), h1]) ?_
            refine j_icmp_ge hJ (tgt := 69) ⟨by omega, by omega⟩ ⟨by omega, by omega⟩ (by decide) dX5_keyOf_22 ?_ ?_
            · intro h22
              refine j_iinc hJ (lv' := [(4, .int (zI (g + 2))), (0, .ref (b 0)), (1, .int (zI (i : Int))), (2, .ref (b kc)), (3, .int (zI cj)), (5, .int (zI k))]) (j := 4) rfl (by omega) (by decide) rfl dX5_keyOf_69 ?_
              refine j_goto hJ (tgt := 5) (by decide) dX5_keyOf_72 ?_
              refine j_locs hJ [1, 2, 3, 4, 0] rfl ?_
              refine ih5 νj cj (g + 2) (by omega) (by omega) (by rw [kyP_next (by omega), hcj, show k.toNat = N.length by omega, List.take_length]) ?_ (by exact hFj)
              · rw [kyP_next (by omega)]
                rw [show k.toNat = N.length by omega, List.take_length] at hAj
                exact hAj
            · intro h22
              obtain ⟨x, e1x, e2x, e3x, e4x⟩ := hN.at (z := k) hk.1 h22
              have hx6 := hkr x e3x e4x
              have hft := filK_take (kd := kd) (k := g) (N := N) (k.toNat + 1)
              rw [filK_step e1x] at hft
              refine j_aload_n hJ (j := 0) rfl rfl dX5_keyOf_25 ?_
              refine w_getr hJ (by omega) rfl rfl f_X5_13 dX5_keyOf_26 ?_
              refine j_aload_n hJ (j := 0) rfl rfl dX5_keyOf_29 ?_
              refine w_getr hJ (by omega) rfl rfl f_X5_16 dX5_keyOf_30 ?_
              refine j_iconst hJ dX5_keyOf_33 ?_
              refine j_iload_n hJ (j := 1) rfl rfl dX5_keyOf_34 ?_
              refine j_imul hJ dX5_keyOf_35 ?_
              refine j_iload hJ (j := 5) rfl dX5_keyOf_36 ?_
              refine j_iadd hJ dX5_keyOf_38 ?_
              refine w_iald hJ (by omega) rfl (by first | decide | omega) (by omega) (by omega) dX5_keyOf_39 ?_
              refine j_topi (y := zI x) (by rw [hFj _ (by omega), e2x]) ?_
              refine w_iald hJ (by omega) rfl (by first | decide | omega) (by omega) (by omega) dX5_keyOf_40 ?_
              refine j_topi (y := zI (kd x)) (by rw [hFj _ (by omega), hx6.1]) ?_
              refine j_iload hJ (j := 4) rfl dX5_keyOf_41 ?_
              refine j_icmp_ne hJ (tgt := 63) ⟨by omega, by omega⟩ ⟨by omega, by omega⟩ (by decide) dX5_keyOf_43 ?_ ?_
              · intro h43
                have h43n := h43
                refine j_iinc hJ (lv' := [(5, .int (zI (k + 1))), (0, .ref (b 0)), (1, .int (zI (i : Int))), (2, .ref (b kc)), (3, .int (zI cj)), (4, .int (zI g))]) (j := 5) rfl (by omega) (by decide) rfl dX5_keyOf_63 ?_
                refine j_goto hJ (tgt := 14) (by decide) dX5_keyOf_66 ?_
                refine j_locs hJ [1, 2, 3, 4, 5, 0] rfl ?_
                refine ih14 νj cj (k + 1) (by omega) (by omega) (by rw [show (k + 1).toNat = k.toNat + 1 by omega, filK_step e1x]; (first | rw [if_pos h43p] | rw [if_neg h43n]); simp at hcj ⊢; omega) ?_ (by first | exact fun a a1 => by rw [hM, up_rowf a1, hFj a a1] | exact hFj)
                · rw [show (k + 1).toNat = k.toNat + 1 by omega, filK_step e1x]
                  first
                  | (rw [if_neg h43n, List.append_nil]; exact hAj)
                  | (rw [if_pos h43p, ← List.append_assoc, hM]; exact hAj.snoc (fun q q0 q1 => by rw [up_at (by omega)]) (by rw [← hcj0, up_self]))
              · intro h43
                have h43p := h43
                have hcj0 := hcj
                rw [if_pos h43] at hft
                simp at hft hcj
                refine j_aload_n hJ (j := 2) rfl rfl dX5_keyOf_46 ?_
                refine j_iload_n hJ (j := 3) rfl rfl dX5_keyOf_47 ?_
                refine j_aload_n hJ (j := 0) rfl rfl dX5_keyOf_48 ?_
                refine w_getr hJ (by omega) rfl rfl f_X5_16 dX5_keyOf_49 ?_
                refine j_iconst hJ dX5_keyOf_52 ?_
                refine j_iload_n hJ (j := 1) rfl rfl dX5_keyOf_53 ?_
                refine j_imul hJ dX5_keyOf_54 ?_
                refine j_iload hJ (j := 5) rfl dX5_keyOf_55 ?_
                refine j_iadd hJ dX5_keyOf_57 ?_
                refine w_iald hJ (by omega) rfl (by first | decide | omega) (by omega) (by omega) dX5_keyOf_58 ?_
                refine j_topi (y := zI x) (by rw [hFj _ (by omega), e2x]) ?_
                refine w_iast hJ (by omega) hkc (by first | decide | omega) (by omega) (by omega) dX5_keyOf_59 ?_
                intro ν2 hν2
                have hM := hν2
                refine j_iinc hJ (lv' := [(3, .int (zI (cj + 1))), (0, .ref (b 0)), (1, .int (zI (i : Int))), (2, .ref (b kc)), (4, .int (zI g)), (5, .int (zI k))]) (j := 3) rfl (by omega) (by decide) rfl dX5_keyOf_60 ?_
                refine j_iinc hJ (lv' := [(5, .int (zI (k + 1))), (3, .int (zI (cj + 1))), (0, .ref (b 0)), (1, .int (zI (i : Int))), (2, .ref (b kc)), (4, .int (zI g))]) (j := 5) rfl (by omega) (by decide) rfl dX5_keyOf_63 ?_
                refine j_goto hJ (tgt := 14) (by decide) dX5_keyOf_66 ?_
                refine j_locs hJ [2, 3, 4, 1, 5, 0] rfl ?_
                refine ih14 ν2 (cj + 1) (k + 1) (by omega) (by omega) (by rw [show (k + 1).toNat = k.toNat + 1 by omega, filK_step e1x]; (first | rw [if_pos h43p] | rw [if_neg h43n]); simp at hcj ⊢; omega) ?_ (by first | exact fun a a1 => by rw [hM, up_rowf a1, hFj a a1] | exact hFj)
                · rw [show (k + 1).toNat = k.toNat + 1 by omega, filK_step e1x]
                  first
                  | (rw [if_neg h43n, List.append_nil]; exact hAj)
                  | (rw [if_pos h43p, ← List.append_assoc, hM]; exact hAj.snoc (fun q q0 q1 => by rw [up_at (by omega)]) (by rw [← hcj0, up_self]))
        refine j_locs hJ [1, 2, 3, 4, 5, 0] rfl ?_
        exact lp14 (((N.length : Int) - 0).toNat + 1) νk c 0 (by omega) (by omega) (by simp [filK, hn]) (by simpa [filK] using hA) (by exact hF)
  refine j_locs hJ [2, 3, 4, 1, 0] rfl ?_
  exact lp5 (((6 : Int) - 0).toNat + 1) ν 0 0 (by omega) (by omega) (by rfl) (by intro k x hx; simp [kyP] at hx) (by exact fun _ _ => rfl)
set_option maxHeartbeats 4000000 in
set_option maxRecDepth 100000 in
theorem c_X5_compareOf {ν : Nat → Int → Int} {kd : Int → Int} {n : Nat} {N : Nat → List Int} {ow : Nat → Int} {m : Nat → Nat} {p : Nat → Nat → Int} {i j : Nat} (hfl : l.stackTraces = false) (hX : MI ν kd n N ow m p) (hi : i < n) (hj : j < n) : CT l D cy n0 ad yX5_compareOf (.code yX5_compareOf cX5_compareOf 7 (some .int)) ({ frames := 1, cells := 0, slots := 0, locals := 25 }) [.ref (b 0), .int (zI (i : Int)), .int (zI (j : Int))] (gw 14 MSh cy b ν ++ E) (fun vv uu => ∃ q μ', vv = some (.int (zI q)) ∧ uu = (gw 14 MSh cy b μ' ++ E) ∧ (q = ko kd N i j ∧ ∀ a, a ≠ 10 → a ≠ 11 → μ' a = ν a)) := by
  obtain ⟨x1, x2, x3, x4, x5, x6, x7, x8⟩ := id hX
  have ni := x5 i hi
  have nj := x5 j hj
  have k1 := keyL_len (kd := kd) (N := N i) ⟨ni.2.1, ni.2.2.1⟩
  have k2 := keyL_len (kd := kd) (N := N j) ⟨nj.2.1, nj.2.2.1⟩
  have hwr := wo_rng (keyL kd (N i)) (keyL kd (N j))
  refine CT.walk hfl (by decide) (Nat.le_of_ble_eq_true rfl) ?_
  intro A J hJ
  show J (gw 14 MSh cy b ν ++ E) 0 0 0 [(0, .ref (b 0)), (1, .int (zI (i : Int))), (2, .int (zI (j : Int)))] []
  refine j_aload_n hJ (j := 0) rfl rfl dX5_compareOf_0 ?_
  refine j_iload_n hJ (j := 1) rfl rfl dX5_compareOf_1 ?_
  refine j_aload_n hJ (j := 0) rfl rfl dX5_compareOf_2 ?_
  refine w_getr hJ (by omega) rfl rfl f_X5_38 dX5_compareOf_3 ?_
  refine j_callV0 hJ (c_X5_keyOf hfl (i := i) (kc := 10) (N := N i) (kd := kd) (by omega) (by decide) rfl (by decide) ni x3) m_X5_65 k_X5_keyOf (q0 := 0) (by rw [gw_get (by decide)]; rfl) rfl ⟨(Nat.le_of_ble_eq_true rfl), (Nat.le_of_ble_eq_true rfl)⟩ ⟨(Nat.le_of_ble_eq_true rfl), (Nat.le_of_ble_eq_true rfl)⟩ (Nat.le_of_ble_eq_true rfl) dX5_compareOf_6 rfl ?_
  intro v1 u2 hv3
  obtain ⟨q6, ν1, rfl, rfl, h6⟩ := hv3
  show J (gw 14 MSh cy b ν1 ++ E) 0 0 9 [(0, .ref (b 0)), (1, .int (zI (i : Int))), (2, .int (zI (j : Int)))] [.int (zI q6)]
  obtain ⟨e6, a6, f6⟩ := h6
  refine j_topi (y := zI ((keyL kd (N i)).length : Nat)) (by rw [e6]) ?_
  refine j_istore_n hJ (lv' := [(3, .int (zI ((keyL kd (N i)).length : Nat))), (0, .ref (b 0)), (1, .int (zI (i : Int))), (2, .int (zI (j : Int)))]) rfl (by decide) rfl dX5_compareOf_9 ?_
  refine j_aload_n hJ (j := 1) rfl rfl dX5_compareOf_10 ?_
  refine j_iload_n hJ (j := 3) rfl rfl dX5_compareOf_11 ?_
  refine j_aload_n hJ (j := 1) rfl rfl dX5_compareOf_12 ?_
  refine w_getr hJ (by omega) rfl rfl f_X5_41 dX5_compareOf_13 ?_
  refine j_callV0 hJ (c_X5_keyOf hfl (i := j) (kc := 11) (N := N j) (kd := kd) (by omega) (by decide) rfl (by decide) (nj.same (f6 3 (by decide)) (f6 4 (by decide))) (by unfold KdM; rw [f6 2 (by decide)]; exact x3)) m_X5_65 k_X5_keyOf (q0 := 0) (by rw [gw_get (by decide)]; rfl) rfl ⟨(Nat.le_of_ble_eq_true rfl), (Nat.le_of_ble_eq_true rfl)⟩ ⟨(Nat.le_of_ble_eq_true rfl), (Nat.le_of_ble_eq_true rfl)⟩ (Nat.le_of_ble_eq_true rfl) dX5_compareOf_16 rfl ?_
  intro v4 u5 hv6
  obtain ⟨q16, ν2, rfl, rfl, h16⟩ := hv6
  show J (gw 14 MSh cy b ν2 ++ E) 0 0 19 [(3, .int (zI ((keyL kd (N i)).length : Nat))), (0, .ref (b 0)), (1, .int (zI (i : Int))), (2, .int (zI (j : Int)))] [.int (zI q16)]
  obtain ⟨e16, a16, f16⟩ := h16
  have F2 : ∀ a, a ≠ 10 → a ≠ 11 → ν2 a = ν a := fun a g1 g2 => (f16 a g2).trans (f6 a g1)
  have b10 : ArrL (ν2 10) (keyL kd (N i)) := by rw [f16 10 (by decide)]; exact a6
  have hL : LtM ν2 := by unfold LtM; rw [F2 1 (by decide) (by decide)]; exact x4
  refine j_topi (y := zI ((keyL kd (N j)).length : Nat)) (by rw [e16]) ?_
  refine j_istore hJ (lv' := [(4, .int (zI ((keyL kd (N j)).length : Nat))), (3, .int (zI ((keyL kd (N i)).length : Nat))), (0, .ref (b 0)), (1, .int (zI (i : Int))), (2, .int (zI (j : Int)))]) (by decide) rfl dX5_compareOf_19 ?_
  refine j_iconst hJ dX5_compareOf_21 ?_
  refine j_istore hJ (lv' := [(5, .int (zI 0)), (4, .int (zI ((keyL kd (N j)).length : Nat))), (3, .int (zI ((keyL kd (N i)).length : Nat))), (0, .ref (b 0)), (1, .int (zI (i : Int))), (2, .int (zI (j : Int)))]) (by decide) rfl dX5_compareOf_22 ?_
  have j85 : ∀ (z : Int) (hz : sg z = wo (keyL kd (N i)) (keyL kd (N j)) ∧ -128 ≤ z ∧ z ≤ 128), J (gw 14 MSh cy b ν2 ++ E) 0 0 85 [(0, .ref (b 0)), (1, .int (zI (i : Int))), (2, .int (zI (j : Int)))] [.int (zI z)] := by
    intro z hz
    refine j_istore hJ (lv' := [(5, .int (zI z)), (0, .ref (b 0)), (1, .int (zI (i : Int))), (2, .int (zI (j : Int)))]) (by decide) rfl dX5_compareOf_85 ?_
    refine j_iload hJ (j := 0) rfl dX5_compareOf_87 ?_
    refine j_if_ge hJ (tgt := 96) ⟨by omega, by omega⟩ (by decide) dX5_compareOf_89 ?_ ?_
    · intro h89
      refine j_iload hJ (j := 0) rfl dX5_compareOf_96 ?_
      refine j_if_le hJ (tgt := 105) ⟨by omega, by omega⟩ (by decide) dX5_compareOf_98 ?_ ?_
      · intro h98
        refine j_iconst hJ dX5_compareOf_105 ?_
        have hzs := sg_cases z
        refine j_iret hJ rfl rfl (rfl) (Nat.le_of_ble_eq_true rfl) (Nat.le_of_ble_eq_true rfl) dX5_compareOf_106 ⟨0, ν2, rfl, rfl, ?_⟩
        exact ⟨by unfold ko; omega, F2⟩
      · intro h98
        refine j_iconst hJ dX5_compareOf_101 ?_
        refine j_goto hJ (tgt := 106) (by decide) dX5_compareOf_102 ?_
        have hzs := sg_cases z
        refine j_iret hJ rfl rfl (rfl) (Nat.le_of_ble_eq_true rfl) (Nat.le_of_ble_eq_true rfl) dX5_compareOf_106 ⟨1, ν2, rfl, rfl, ?_⟩
        exact ⟨by unfold ko; omega, F2⟩
    · intro h89
      refine j_iconst hJ dX5_compareOf_92 ?_
      refine j_goto hJ (tgt := 106) (by decide) dX5_compareOf_93 ?_
      have hzs := sg_cases z
      refine j_iret hJ rfl rfl (rfl) (Nat.le_of_ble_eq_true rfl) (Nat.le_of_ble_eq_true rfl) dX5_compareOf_106 ⟨(-1), ν2, rfl, rfl, ?_⟩
      exact ⟨by unfold ko; omega, F2⟩
  refine j_iconst hJ dX5_compareOf_24 ?_
  refine j_istore hJ (lv' := [(6, .int (zI 0)), (5, .int (zI 0)), (4, .int (zI ((keyL kd (N j)).length : Nat))), (3, .int (zI ((keyL kd (N i)).length : Nat))), (0, .ref (b 0)), (1, .int (zI (i : Int))), (2, .int (zI (j : Int)))]) (by decide) rfl dX5_compareOf_25 ?_
  have lp27 : ∀ (nn27 : Nat) (y : Int) (k : Nat) (hmeas27 : 4 - k < nn27) (hk : (k ≤ (keyL kd (N i)).length ∧ k ≤ (keyL kd (N j)).length) ∧ -128 ≤ y ∧ y ≤ 128) (hy : (y = 0 ∧ wo (keyL kd (N i)) (keyL kd (N j)) = wo ((keyL kd (N i)).drop k) ((keyL kd (N j)).drop k)) ∨ (y ≠ 0 ∧ sg y = wo (keyL kd (N i)) (keyL kd (N j)))), J (gw 14 MSh cy b ν2 ++ E) 0 0 27 [(0, .ref (b 0)), (1, .int (zI (i : Int))), (2, .int (zI (j : Int))), (3, .int (zI ((keyL kd (N i)).length : Nat))), (4, .int (zI ((keyL kd (N j)).length : Nat))), (5, .int (zI y)), (6, .int (zI (k : Int)))] [] := by
    intro nn27
    induction nn27 with
    | zero => intro y k hmeas27 hk hy; omega
    | succ nn27 ih27 =>
      intro y k hmeas27 hk hy
      refine j_iload hJ (j := 6) rfl dX5_compareOf_27 ?_
      refine j_iload_n hJ (j := 3) rfl rfl dX5_compareOf_29 ?_
      refine j_icmp_ge hJ (tgt := 71) ⟨by omega, by omega⟩ ⟨by omega, by omega⟩ (by decide) dX5_compareOf_30 ?_ ?_
      · intro h30
        refine j_iload hJ (j := 5) rfl dX5_compareOf_71 ?_
        refine j_if_ne hJ (tgt := 83) ⟨by omega, by omega⟩ (by decide) dX5_compareOf_73 ?_ ?_
        · intro h73
          refine j_iload hJ (j := 5) rfl dX5_compareOf_83 ?_
          refine j_locs hJ [0, 1, 2] rfl ?_
          refine j85 y ?_
          · rcases hy with ⟨e, g⟩ | ⟨e, g⟩
            · first
              | (exfalso; omega)
              | exact ⟨by rw [g, wo_end (by omega)], by omega, by omega⟩
            · first
              | (exfalso; omega)
              | exact ⟨g, by omega, by omega⟩
        · intro h73
          refine j_iload_n hJ (j := 3) rfl rfl dX5_compareOf_76 ?_
          refine j_iload hJ (j := 4) rfl dX5_compareOf_77 ?_
          refine j_isub hJ dX5_compareOf_79 ?_
          refine j_goto hJ (tgt := 85) (by decide) dX5_compareOf_80 ?_
          refine j_locs hJ [0, 1, 2] rfl ?_
          refine j85 (((keyL kd (N i)).length : Nat) - ((keyL kd (N j)).length : Nat)) ?_
          · rcases hy with ⟨e, g⟩ | ⟨e, g⟩
            · first
              | (exfalso; omega)
              | exact ⟨by rw [g, wo_end (by omega)], by omega, by omega⟩
            · first
              | (exfalso; omega)
              | exact ⟨g, by omega, by omega⟩
      · intro h30
        refine j_iload hJ (j := 6) rfl dX5_compareOf_33 ?_
        refine j_iload hJ (j := 4) rfl dX5_compareOf_35 ?_
        refine j_icmp_ge hJ (tgt := 71) ⟨by omega, by omega⟩ ⟨by omega, by omega⟩ (by decide) dX5_compareOf_37 ?_ ?_
        · intro h37
          refine j_iload hJ (j := 5) rfl dX5_compareOf_71 ?_
          refine j_if_ne hJ (tgt := 83) ⟨by omega, by omega⟩ (by decide) dX5_compareOf_73 ?_ ?_
          · intro h73
            refine j_iload hJ (j := 5) rfl dX5_compareOf_83 ?_
            refine j_locs hJ [0, 1, 2] rfl ?_
            refine j85 y ?_
            · rcases hy with ⟨e, g⟩ | ⟨e, g⟩
              · first
                | (exfalso; omega)
                | exact ⟨by rw [g, wo_end (by omega)], by omega, by omega⟩
              · first
                | (exfalso; omega)
                | exact ⟨g, by omega, by omega⟩
          · intro h73
            refine j_iload_n hJ (j := 3) rfl rfl dX5_compareOf_76 ?_
            refine j_iload hJ (j := 4) rfl dX5_compareOf_77 ?_
            refine j_isub hJ dX5_compareOf_79 ?_
            refine j_goto hJ (tgt := 85) (by decide) dX5_compareOf_80 ?_
            refine j_locs hJ [0, 1, 2] rfl ?_
            refine j85 (((keyL kd (N i)).length : Nat) - ((keyL kd (N j)).length : Nat)) ?_
            · rcases hy with ⟨e, g⟩ | ⟨e, g⟩
              · first
                | (exfalso; omega)
                | exact ⟨by rw [g, wo_end (by omega)], by omega, by omega⟩
              · first
                | (exfalso; omega)
                | exact ⟨g, by omega, by omega⟩
        · intro h37
          refine j_iload hJ (j := 5) rfl dX5_compareOf_40 ?_
          refine j_if_ne hJ (tgt := 71) ⟨by omega, by omega⟩ (by decide) dX5_compareOf_42 ?_ ?_
          · intro h42
            refine j_iload hJ (j := 5) rfl dX5_compareOf_71 ?_
            refine j_if_ne hJ (tgt := 83) ⟨by omega, by omega⟩ (by decide) dX5_compareOf_73 ?_ ?_
            · intro h73
              refine j_iload hJ (j := 5) rfl dX5_compareOf_83 ?_
              refine j_locs hJ [0, 1, 2] rfl ?_
              refine j85 y ?_
              · rcases hy with ⟨e, g⟩ | ⟨e, g⟩
                · first
                  | (exfalso; omega)
                  | exact ⟨by rw [g, wo_end (by omega)], by omega, by omega⟩
                · first
                  | (exfalso; omega)
                  | exact ⟨g, by omega, by omega⟩
            · intro h73
              refine j_iload_n hJ (j := 3) rfl rfl dX5_compareOf_76 ?_
              refine j_iload hJ (j := 4) rfl dX5_compareOf_77 ?_
              refine j_isub hJ dX5_compareOf_79 ?_
              refine j_goto hJ (tgt := 85) (by decide) dX5_compareOf_80 ?_
              refine j_locs hJ [0, 1, 2] rfl ?_
              refine j85 (((keyL kd (N i)).length : Nat) - ((keyL kd (N j)).length : Nat)) ?_
              · rcases hy with ⟨e, g⟩ | ⟨e, g⟩
                · first
                  | (exfalso; omega)
                  | exact ⟨by rw [g, wo_end (by omega)], by omega, by omega⟩
                · first
                  | (exfalso; omega)
                  | exact ⟨g, by omega, by omega⟩
          · intro h42
            obtain ⟨wa, hwa⟩ : ∃ x, (keyL kd (N i))[k]? = some x := ⟨_, List.getElem?_eq_getElem (by omega)⟩
            obtain ⟨wb, hwb⟩ : ∃ x, (keyL kd (N j))[k]? = some x := ⟨_, List.getElem?_eq_getElem (by omega)⟩
            have ra := ni.2.2.2.2 wa (keyL_mem (List.mem_of_getElem? hwa))
            have rb := nj.2.2.2.2 wb (keyL_mem (List.mem_of_getElem? hwb))
            have ea := b10 k wa hwa
            have eb := a16 k wb hwb
            refine j_aload_n hJ (j := 0) rfl rfl dX5_compareOf_45 ?_
            refine j_aload_n hJ (j := 0) rfl rfl dX5_compareOf_46 ?_
            refine w_getr hJ (by omega) rfl rfl f_X5_38 dX5_compareOf_47 ?_
            refine j_iload hJ (j := 6) rfl dX5_compareOf_50 ?_
            refine w_iald hJ (by omega) rfl (by first | decide | omega) (by omega) (by omega) dX5_compareOf_52 ?_
            refine j_topi (y := zI (wa.toNat : Int)) (by rw [ea, Int.toNat_of_nonneg ra.1]) ?_
            refine j_aload_n hJ (j := 0) rfl rfl dX5_compareOf_53 ?_
            refine w_getr hJ (by omega) rfl rfl f_X5_41 dX5_compareOf_54 ?_
            refine j_iload hJ (j := 6) rfl dX5_compareOf_57 ?_
            refine w_iald hJ (by omega) rfl (by first | decide | omega) (by omega) (by omega) dX5_compareOf_59 ?_
            refine j_topi (y := zI (wb.toNat : Int)) (by rw [eb, Int.toNat_of_nonneg rb.1]) ?_
            refine j_callV0 hJ (c_X5_compareWords hfl (i := wa.toNat) (j := wb.toNat) (by omega) (by omega) hL) m_X5_69 k_X5_compareWords (q0 := 0) (by rw [gw_get (by decide)]; rfl) rfl ⟨(Nat.le_of_ble_eq_true rfl), (Nat.le_of_ble_eq_true rfl)⟩ ⟨(Nat.le_of_ble_eq_true rfl), (Nat.le_of_ble_eq_true rfl)⟩ (Nat.le_of_ble_eq_true rfl) dX5_compareOf_60 rfl ?_
            intro v7 u8 hv9
            obtain ⟨q60, rfl, rfl, h60⟩ := hv9
            show J (gw 14 MSh cy b ν2 ++ E) 0 0 63 [(0, .ref (b 0)), (1, .int (zI (i : Int))), (2, .int (zI (j : Int))), (3, .int (zI ((keyL kd (N i)).length : Nat))), (4, .int (zI ((keyL kd (N j)).length : Nat))), (5, .int (zI y)), (6, .int (zI (k : Int)))] [.int (zI q60)]
            obtain ⟨h60a, h60b⟩ := id h60
            refine j_istore hJ (lv' := [(5, .int (zI q60)), (0, .ref (b 0)), (1, .int (zI (i : Int))), (2, .int (zI (j : Int))), (3, .int (zI ((keyL kd (N i)).length : Nat))), (4, .int (zI ((keyL kd (N j)).length : Nat))), (6, .int (zI (k : Int)))]) (by decide) rfl dX5_compareOf_63 ?_
            refine j_iinc hJ (lv' := [(6, .int (zI ((k : Int) + 1))), (5, .int (zI q60)), (0, .ref (b 0)), (1, .int (zI (i : Int))), (2, .int (zI (j : Int))), (3, .int (zI ((keyL kd (N i)).length : Nat))), (4, .int (zI ((keyL kd (N j)).length : Nat)))]) (j := 6) rfl (by omega) (by decide) rfl dX5_compareOf_65 ?_
            refine j_goto hJ (tgt := 27) (by decide) dX5_compareOf_68 ?_
            refine j_locs hJ [2, 3, 4, 5, 6, 1, 0] rfl ?_
            refine ih27 q60 (k + 1) (by omega) (by omega) ?_
            · rcases hy with ⟨e, g⟩ | ⟨e, g⟩
              · by_cases e2 : rk wa = rk wb
                · have e3 : wRk wa.toNat = wRk wb.toNat := e2
                  have e4 := sg_cases q60
                  have e5 := sg_cases (wRk wa.toNat - wRk wb.toNat)
                  exact Or.inl ⟨by omega, by rw [g, wo_drop hwa hwb, if_pos e2]⟩
                · have e3 : ¬ wRk wa.toNat = wRk wb.toNat := e2
                  have e4 := sg_cases q60
                  have e5 := sg_cases (wRk wa.toNat - wRk wb.toNat)
                  exact Or.inr ⟨by omega, by rw [g, wo_drop hwa hwb, if_neg e2]; exact h60.1⟩
              · exact absurd h42 e
  refine j_locs hJ [4, 5, 6, 3, 2, 1, 0] rfl ?_
  exact lp27 (4 - 0 + 1) 0 0 (by omega) (by omega) (by exact Or.inl ⟨rfl, rfl⟩)
set_option maxHeartbeats 4000000 in
set_option maxRecDepth 100000 in
theorem c_X5_isAhead {ν : Nat → Int → Int} {kd : Int → Int} {n : Nat} {N : Nat → List Int} {ow : Nat → Int} {m : Nat → Nat} {p : Nat → Nat → Int} {i j : Nat} (hfl : l.stackTraces = false) (hX : MI ν kd n N ow m p) (hi : i < n) (hj : j < n) : CT l D cy n0 ad yX5_isAhead (.code yX5_isAhead cX5_isAhead 5 (some .boolean)) ({ frames := 2, cells := 0, slots := 0, locals := 51 }) [.ref (b 0), .int (zI (i : Int)), .int (zI (j : Int))] (gw 14 MSh cy b ν ++ E) (fun vv uu => ∃ q μ', vv = some (.int (zI q)) ∧ uu = (gw 14 MSh cy b μ' ++ E) ∧ (((q = 1 ∧ io kd N i j < 0) ∨ (q = 0 ∧ ¬ io kd N i j < 0)) ∧ ∀ a, a ≠ 10 → a ≠ 11 → μ' a = ν a)) := by
  obtain ⟨x1, x2, x3, x4, x5, x6, x7, x8⟩ := id hX
  have ni := x5 i hi
  have nj := x5 j hj
  have nil := ni.2.2.1
  have njl := nj.2.2.1
  have hkr := wo_rng (keyL kd (N i)) (keyL kd (N j))
  have hwr := wo_rng (N i) (N j)
  have ekr : ko kd N i j = wo (keyL kd (N i)) (keyL kd (N j)) := rfl
  have eT := io_T kd N i j
  have tT : (ko kd N i j = 0 ∧ ioT kd N i j = wo (N i) (N j)) ∨ (ko kd N i j ≠ 0 ∧ ioT kd N i j = ko kd N i j) := by
    unfold ioT
    by_cases e : ko kd N i j = 0
    · exact Or.inl ⟨e, if_pos e⟩
    · exact Or.inr ⟨e, if_neg e⟩
  have hsij := sg_cases ((i : Int) - j)
  refine CT.walk hfl (by decide) (Nat.le_of_ble_eq_true rfl) ?_
  intro A J hJ
  show J (gw 14 MSh cy b ν ++ E) 0 0 0 [(0, .ref (b 0)), (1, .int (zI (i : Int))), (2, .int (zI (j : Int)))] []
  refine j_aload_n hJ (j := 0) rfl rfl dX5_isAhead_0 ?_
  refine j_iload_n hJ (j := 1) rfl rfl dX5_isAhead_1 ?_
  refine j_iload_n hJ (j := 2) rfl rfl dX5_isAhead_2 ?_
  refine j_callV0 hJ (c_X5_compareOf hfl hX hi hj) m_X5_73 k_X5_compareOf (q0 := 0) (by rw [gw_get (by decide)]; rfl) rfl ⟨(Nat.le_of_ble_eq_true rfl), (Nat.le_of_ble_eq_true rfl)⟩ ⟨(Nat.le_of_ble_eq_true rfl), (Nat.le_of_ble_eq_true rfl)⟩ (Nat.le_of_ble_eq_true rfl) dX5_isAhead_3 rfl ?_
  intro v1 u2 hv3
  obtain ⟨q3, ν1, rfl, rfl, h3⟩ := hv3
  show J (gw 14 MSh cy b ν1 ++ E) 0 0 6 [(0, .ref (b 0)), (1, .int (zI (i : Int))), (2, .int (zI (j : Int)))] [.int (zI q3)]
  obtain ⟨e3, F3⟩ := h3
  have X3 := hX.scratch (FrM.of F3)
  have ni3 := X3.2.2.2.2.1 i hi
  have nj3 := X3.2.2.2.2.1 j hj
  refine j_topi (y := zI (ko kd N i j)) (by rw [e3]) ?_
  refine j_istore_n hJ (lv' := [(3, .int (zI (ko kd N i j))), (0, .ref (b 0)), (1, .int (zI (i : Int))), (2, .int (zI (j : Int)))]) rfl (by decide) rfl dX5_isAhead_6 ?_
  have j90 : ∀ (z : Int) (hz : sg z = ioT kd N i j ∧ -128 ≤ z ∧ z ≤ 128), J (gw 14 MSh cy b ν1 ++ E) 0 0 90 [(0, .ref (b 0)), (1, .int (zI (i : Int))), (2, .int (zI (j : Int)))] [.int (zI z)] := by
    intro z hz
    refine j_istore_n hJ (lv' := [(3, .int (zI z)), (0, .ref (b 0)), (1, .int (zI (i : Int))), (2, .int (zI (j : Int)))]) rfl (by decide) rfl dX5_isAhead_90 ?_
    have hzs := sg_cases z
    refine j_iload_n hJ (j := 0) rfl rfl dX5_isAhead_91 ?_
    refine j_if_lt hJ (tgt := 104) ⟨by omega, by omega⟩ (by decide) dX5_isAhead_92 ?_ ?_
    · intro h92
      refine j_iconst hJ dX5_isAhead_104 ?_
      refine j_goto hJ (tgt := 109) (by decide) dX5_isAhead_105 ?_
      refine j_iret hJ rfl rfl (rfl) (Nat.le_of_ble_eq_true rfl) (Nat.le_of_ble_eq_true rfl) dX5_isAhead_109 ⟨1, ν1, rfl, rfl, ?_⟩
      refine ⟨Or.inl ⟨rfl, ?_⟩, F3⟩
      rw [eT, if_neg (by omega)]; omega
    · intro h92
      refine j_iload_n hJ (j := 0) rfl rfl dX5_isAhead_95 ?_
      refine j_if_ne hJ (tgt := 108) ⟨by omega, by omega⟩ (by decide) dX5_isAhead_96 ?_ ?_
      · intro h96
        refine j_iconst hJ dX5_isAhead_108 ?_
        refine j_iret hJ rfl rfl (rfl) (Nat.le_of_ble_eq_true rfl) (Nat.le_of_ble_eq_true rfl) dX5_isAhead_109 ⟨0, ν1, rfl, rfl, ?_⟩
        refine ⟨Or.inr ⟨rfl, ?_⟩, F3⟩
        rw [eT, if_neg (by omega)]; omega
      · intro h96
        refine j_iload_n hJ (j := 2) rfl rfl dX5_isAhead_99 ?_
        refine j_iload_n hJ (j := 3) rfl rfl dX5_isAhead_100 ?_
        refine j_icmp_ge hJ (tgt := 108) ⟨by omega, by omega⟩ ⟨by omega, by omega⟩ (by decide) dX5_isAhead_101 ?_ ?_
        · intro h101
          refine j_iconst hJ dX5_isAhead_108 ?_
          refine j_iret hJ rfl rfl (rfl) (Nat.le_of_ble_eq_true rfl) (Nat.le_of_ble_eq_true rfl) dX5_isAhead_109 ⟨0, ν1, rfl, rfl, ?_⟩
          refine ⟨Or.inr ⟨rfl, ?_⟩, F3⟩
          rw [eT, if_pos (by omega)]; omega
        · intro h101
          refine j_iconst hJ dX5_isAhead_104 ?_
          refine j_goto hJ (tgt := 109) (by decide) dX5_isAhead_105 ?_
          refine j_iret hJ rfl rfl (rfl) (Nat.le_of_ble_eq_true rfl) (Nat.le_of_ble_eq_true rfl) dX5_isAhead_109 ⟨1, ν1, rfl, rfl, ?_⟩
          refine ⟨Or.inl ⟨rfl, ?_⟩, F3⟩
          rw [eT, if_pos (by omega)]; omega
  refine j_iconst hJ dX5_isAhead_7 ?_
  refine j_istore hJ (lv' := [(4, .int (zI 0)), (3, .int (zI (ko kd N i j))), (0, .ref (b 0)), (1, .int (zI (i : Int))), (2, .int (zI (j : Int)))]) (by decide) rfl dX5_isAhead_8 ?_
  have lp10 : ∀ (nn10 : Nat) (y : Int) (k : Nat) (hmeas10 : 4 - k < nn10) (hk : (k ≤ (N i).length ∧ k ≤ (N j).length) ∧ -128 ≤ y ∧ y ≤ 128) (hy : (y = 0 ∧ ko kd N i j = 0 ∧ wo (N i) (N j) = wo ((N i).drop k) ((N j).drop k)) ∨ (y ≠ 0 ∧ sg y = ioT kd N i j)), J (gw 14 MSh cy b ν1 ++ E) 0 0 10 [(0, .ref (b 0)), (1, .int (zI (i : Int))), (2, .int (zI (j : Int))), (3, .int (zI y)), (4, .int (zI (k : Int)))] [] := by
    intro nn10
    induction nn10 with
    | zero => intro y k hmeas10 hk hy; omega
    | succ nn10 ih10 =>
      intro y k hmeas10 hk hy
      refine j_iload hJ (j := 4) rfl dX5_isAhead_10 ?_
      refine j_aload_n hJ (j := 0) rfl rfl dX5_isAhead_12 ?_
      refine w_getr hJ (by omega) rfl rfl f_X5_19 dX5_isAhead_13 ?_
      refine j_iload_n hJ (j := 1) rfl rfl dX5_isAhead_16 ?_
      refine w_iald hJ (by omega) rfl (by first | decide | omega) (by omega) (by omega) dX5_isAhead_17 ?_
      refine j_topi (y := zI ((N i).length : Nat)) (by rw [ni3.1]) ?_
      refine j_icmp_ge hJ (tgt := 69) ⟨by omega, by omega⟩ ⟨by omega, by omega⟩ (by decide) dX5_isAhead_18 ?_ ?_
      · intro h18
        refine j_iload_n hJ (j := 3) rfl rfl dX5_isAhead_69 ?_
        refine j_if_ne hJ (tgt := 89) ⟨by omega, by omega⟩ (by decide) dX5_isAhead_70 ?_ ?_
        · intro h70
          refine j_iload_n hJ (j := 3) rfl rfl dX5_isAhead_89 ?_
          refine j_locs hJ [0, 1, 2] rfl ?_
          refine j90 y ?_
          · rcases hy with ⟨e, e9, g⟩ | ⟨e, g⟩
            · first
              | (exfalso; omega)
              | (rw [wo_end (by omega)] at g; exact ⟨by omega, by omega, by omega⟩)
            · first
              | (exfalso; omega)
              | exact ⟨g, by omega, by omega⟩
        · intro h70
          refine j_aload_n hJ (j := 0) rfl rfl dX5_isAhead_73 ?_
          refine w_getr hJ (by omega) rfl rfl f_X5_19 dX5_isAhead_74 ?_
          refine j_iload_n hJ (j := 1) rfl rfl dX5_isAhead_77 ?_
          refine w_iald hJ (by omega) rfl (by first | decide | omega) (by omega) (by omega) dX5_isAhead_78 ?_
          refine j_topi (y := zI ((N i).length : Nat)) (by rw [ni3.1]) ?_
          refine j_aload_n hJ (j := 0) rfl rfl dX5_isAhead_79 ?_
          refine w_getr hJ (by omega) rfl rfl f_X5_19 dX5_isAhead_80 ?_
          refine j_iload_n hJ (j := 2) rfl rfl dX5_isAhead_83 ?_
          refine w_iald hJ (by omega) rfl (by first | decide | omega) (by omega) (by omega) dX5_isAhead_84 ?_
          refine j_topi (y := zI ((N j).length : Nat)) (by rw [nj3.1]) ?_
          refine j_isub hJ dX5_isAhead_85 ?_
          refine j_goto hJ (tgt := 90) (by decide) dX5_isAhead_86 ?_
          refine j_locs hJ [0, 1, 2] rfl ?_
          refine j90 (((N i).length : Nat) - ((N j).length : Nat)) ?_
          · rcases hy with ⟨e, e9, g⟩ | ⟨e, g⟩
            · first
              | (exfalso; omega)
              | (rw [wo_end (by omega)] at g; exact ⟨by omega, by omega, by omega⟩)
            · first
              | (exfalso; omega)
              | exact ⟨g, by omega, by omega⟩
      · intro h18
        refine j_iload hJ (j := 4) rfl dX5_isAhead_21 ?_
        refine j_aload_n hJ (j := 0) rfl rfl dX5_isAhead_23 ?_
        refine w_getr hJ (by omega) rfl rfl f_X5_19 dX5_isAhead_24 ?_
        refine j_iload_n hJ (j := 2) rfl rfl dX5_isAhead_27 ?_
        refine w_iald hJ (by omega) rfl (by first | decide | omega) (by omega) (by omega) dX5_isAhead_28 ?_
        refine j_topi (y := zI ((N j).length : Nat)) (by rw [nj3.1]) ?_
        refine j_icmp_ge hJ (tgt := 69) ⟨by omega, by omega⟩ ⟨by omega, by omega⟩ (by decide) dX5_isAhead_29 ?_ ?_
        · intro h29
          refine j_iload_n hJ (j := 3) rfl rfl dX5_isAhead_69 ?_
          refine j_if_ne hJ (tgt := 89) ⟨by omega, by omega⟩ (by decide) dX5_isAhead_70 ?_ ?_
          · intro h70
            refine j_iload_n hJ (j := 3) rfl rfl dX5_isAhead_89 ?_
            refine j_locs hJ [0, 1, 2] rfl ?_
            refine j90 y ?_
            · rcases hy with ⟨e, e9, g⟩ | ⟨e, g⟩
              · first
                | (exfalso; omega)
                | (rw [wo_end (by omega)] at g; exact ⟨by omega, by omega, by omega⟩)
              · first
                | (exfalso; omega)
                | exact ⟨g, by omega, by omega⟩
          · intro h70
            refine j_aload_n hJ (j := 0) rfl rfl dX5_isAhead_73 ?_
            refine w_getr hJ (by omega) rfl rfl f_X5_19 dX5_isAhead_74 ?_
            refine j_iload_n hJ (j := 1) rfl rfl dX5_isAhead_77 ?_
            refine w_iald hJ (by omega) rfl (by first | decide | omega) (by omega) (by omega) dX5_isAhead_78 ?_
            refine j_topi (y := zI ((N i).length : Nat)) (by rw [ni3.1]) ?_
            refine j_aload_n hJ (j := 0) rfl rfl dX5_isAhead_79 ?_
            refine w_getr hJ (by omega) rfl rfl f_X5_19 dX5_isAhead_80 ?_
            refine j_iload_n hJ (j := 2) rfl rfl dX5_isAhead_83 ?_
            refine w_iald hJ (by omega) rfl (by first | decide | omega) (by omega) (by omega) dX5_isAhead_84 ?_
            refine j_topi (y := zI ((N j).length : Nat)) (by rw [nj3.1]) ?_
            refine j_isub hJ dX5_isAhead_85 ?_
            refine j_goto hJ (tgt := 90) (by decide) dX5_isAhead_86 ?_
            refine j_locs hJ [0, 1, 2] rfl ?_
            refine j90 (((N i).length : Nat) - ((N j).length : Nat)) ?_
            · rcases hy with ⟨e, e9, g⟩ | ⟨e, g⟩
              · first
                | (exfalso; omega)
                | (rw [wo_end (by omega)] at g; exact ⟨by omega, by omega, by omega⟩)
              · first
                | (exfalso; omega)
                | exact ⟨g, by omega, by omega⟩
        · intro h29
          refine j_iload_n hJ (j := 3) rfl rfl dX5_isAhead_32 ?_
          refine j_if_ne hJ (tgt := 69) ⟨by omega, by omega⟩ (by decide) dX5_isAhead_33 ?_ ?_
          · intro h33
            refine j_iload_n hJ (j := 3) rfl rfl dX5_isAhead_69 ?_
            refine j_if_ne hJ (tgt := 89) ⟨by omega, by omega⟩ (by decide) dX5_isAhead_70 ?_ ?_
            · intro h70
              refine j_iload_n hJ (j := 3) rfl rfl dX5_isAhead_89 ?_
              refine j_locs hJ [0, 1, 2] rfl ?_
              refine j90 y ?_
              · rcases hy with ⟨e, e9, g⟩ | ⟨e, g⟩
                · first
                  | (exfalso; omega)
                  | (rw [wo_end (by omega)] at g; exact ⟨by omega, by omega, by omega⟩)
                · first
                  | (exfalso; omega)
                  | exact ⟨g, by omega, by omega⟩
            · intro h70
              refine j_aload_n hJ (j := 0) rfl rfl dX5_isAhead_73 ?_
              refine w_getr hJ (by omega) rfl rfl f_X5_19 dX5_isAhead_74 ?_
              refine j_iload_n hJ (j := 1) rfl rfl dX5_isAhead_77 ?_
              refine w_iald hJ (by omega) rfl (by first | decide | omega) (by omega) (by omega) dX5_isAhead_78 ?_
              refine j_topi (y := zI ((N i).length : Nat)) (by rw [ni3.1]) ?_
              refine j_aload_n hJ (j := 0) rfl rfl dX5_isAhead_79 ?_
              refine w_getr hJ (by omega) rfl rfl f_X5_19 dX5_isAhead_80 ?_
              refine j_iload_n hJ (j := 2) rfl rfl dX5_isAhead_83 ?_
              refine w_iald hJ (by omega) rfl (by first | decide | omega) (by omega) (by omega) dX5_isAhead_84 ?_
              refine j_topi (y := zI ((N j).length : Nat)) (by rw [nj3.1]) ?_
              refine j_isub hJ dX5_isAhead_85 ?_
              refine j_goto hJ (tgt := 90) (by decide) dX5_isAhead_86 ?_
              refine j_locs hJ [0, 1, 2] rfl ?_
              refine j90 (((N i).length : Nat) - ((N j).length : Nat)) ?_
              · rcases hy with ⟨e, e9, g⟩ | ⟨e, g⟩
                · first
                  | (exfalso; omega)
                  | (rw [wo_end (by omega)] at g; exact ⟨by omega, by omega, by omega⟩)
                · first
                  | (exfalso; omega)
                  | exact ⟨g, by omega, by omega⟩
          · intro h33
            obtain ⟨wa, hwa, ea, ra1, ra2⟩ := ni3.at (z := (k : Int)) (by omega) (by omega)
            obtain ⟨wb, hwb, eb, rb1, rb2⟩ := nj3.at (z := (k : Int)) (by omega) (by omega)
            rw [Int.toNat_natCast] at hwa hwb
            refine j_aload_n hJ (j := 0) rfl rfl dX5_isAhead_36 ?_
            refine j_aload_n hJ (j := 0) rfl rfl dX5_isAhead_37 ?_
            refine w_getr hJ (by omega) rfl rfl f_X5_16 dX5_isAhead_38 ?_
            refine j_iconst hJ dX5_isAhead_41 ?_
            refine j_iload_n hJ (j := 1) rfl rfl dX5_isAhead_42 ?_
            refine j_imul hJ dX5_isAhead_43 ?_
            refine j_iload hJ (j := 4) rfl dX5_isAhead_44 ?_
            refine j_iadd hJ dX5_isAhead_46 ?_
            refine w_iald hJ (by omega) rfl (by first | decide | omega) (by omega) (by omega) dX5_isAhead_47 ?_
            refine j_topi (y := zI (wa.toNat : Int)) (by rw [ea, Int.toNat_of_nonneg ra1]) ?_
            refine j_aload_n hJ (j := 0) rfl rfl dX5_isAhead_48 ?_
            refine w_getr hJ (by omega) rfl rfl f_X5_16 dX5_isAhead_49 ?_
            refine j_iconst hJ dX5_isAhead_52 ?_
            refine j_iload_n hJ (j := 2) rfl rfl dX5_isAhead_53 ?_
            refine j_imul hJ dX5_isAhead_54 ?_
            refine j_iload hJ (j := 4) rfl dX5_isAhead_55 ?_
            refine j_iadd hJ dX5_isAhead_57 ?_
            refine w_iald hJ (by omega) rfl (by first | decide | omega) (by omega) (by omega) dX5_isAhead_58 ?_
            refine j_topi (y := zI (wb.toNat : Int)) (by rw [eb, Int.toNat_of_nonneg rb1]) ?_
            refine j_callV0 hJ (c_X5_compareWords hfl (i := wa.toNat) (j := wb.toNat) (by omega) (by omega) X3.2.2.2.1) m_X5_69 k_X5_compareWords (q0 := 0) (by rw [gw_get (by decide)]; rfl) rfl ⟨(Nat.le_of_ble_eq_true rfl), (Nat.le_of_ble_eq_true rfl)⟩ ⟨(Nat.le_of_ble_eq_true rfl), (Nat.le_of_ble_eq_true rfl)⟩ (Nat.le_of_ble_eq_true rfl) dX5_isAhead_59 rfl ?_
            intro v4 u5 hv6
            obtain ⟨q59, rfl, rfl, h59⟩ := hv6
            show J (gw 14 MSh cy b ν1 ++ E) 0 0 62 [(0, .ref (b 0)), (1, .int (zI (i : Int))), (2, .int (zI (j : Int))), (3, .int (zI y)), (4, .int (zI (k : Int)))] [.int (zI q59)]
            obtain ⟨h59a, h59b⟩ := id h59
            refine j_istore_n hJ (lv' := [(3, .int (zI q59)), (0, .ref (b 0)), (1, .int (zI (i : Int))), (2, .int (zI (j : Int))), (4, .int (zI (k : Int)))]) rfl (by decide) rfl dX5_isAhead_62 ?_
            refine j_iinc hJ (lv' := [(4, .int (zI ((k : Int) + 1))), (3, .int (zI q59)), (0, .ref (b 0)), (1, .int (zI (i : Int))), (2, .int (zI (j : Int)))]) (j := 4) rfl (by omega) (by decide) rfl dX5_isAhead_63 ?_
            refine j_goto hJ (tgt := 10) (by decide) dX5_isAhead_66 ?_
            refine j_locs hJ [2, 3, 4, 1, 0] rfl ?_
            refine ih10 q59 (k + 1) (by omega) (by omega) ?_
            · rcases hy with ⟨e, e9, g⟩ | ⟨e, g⟩
              · by_cases e2 : rk wa = rk wb
                · have e3 : wRk wa.toNat = wRk wb.toNat := e2
                  have e4 := sg_cases q59
                  have e5 := sg_cases (wRk wa.toNat - wRk wb.toNat)
                  exact Or.inl ⟨by omega, e9, by rw [g, wo_drop hwa hwb, if_pos e2]⟩
                · have e3 : ¬ wRk wa.toNat = wRk wb.toNat := e2
                  have e4 := sg_cases q59
                  have e5 := sg_cases (wRk wa.toNat - wRk wb.toNat)
                  refine Or.inr ⟨by omega, ?_⟩
                  have e6 : wo (N i) (N j) = sg q59 := by rw [g, wo_drop hwa hwb, if_neg e2]; exact h59a.symm
                  omega
              · exact absurd h33 e
  refine j_locs hJ [2, 3, 4, 1, 0] rfl ?_
  refine lp10 (4 - 0 + 1) (ko kd N i j) 0 (by omega) (by omega) ?_
  · by_cases e : ko kd N i j = 0
    · exact Or.inl ⟨e, e, rfl⟩
    · refine Or.inr ⟨e, ?_⟩
      have := sg_cases (ko kd N i j)
      omega
set_option maxHeartbeats 4000000 in
set_option maxRecDepth 100000 in
theorem c_X5_countAhead {ν : Nat → Int → Int} {kd : Int → Int} {n : Nat} {N : Nat → List Int} {ow : Nat → Int} {m : Nat → Nat} {p : Nat → Nat → Int} {t : Nat} (hfl : l.stackTraces = false) (hX : MI ν kd n N ow m p) (ht : t < n) : CT l D cy n0 ad yX5_countAhead (.code yX5_countAhead cX5_countAhead 4 (some .int)) ({ frames := 3, cells := 0, slots := 0, locals := 75 }) [.ref (b 0), .int (zI (t : Int))] (gw 14 MSh cy b ν ++ E) (fun vv uu => ∃ q μ', vv = some (.int (zI q)) ∧ uu = (gw 14 MSh cy b μ' ++ E) ∧ (q = (cnt kd N n t : Nat) ∧ ∀ a, a ≠ 10 → a ≠ 11 → μ' a = ν a)) := by
  obtain ⟨x1, x2, x3, x4, x5, x6, x7, x8⟩ := id hX
  refine CT.walk hfl (by decide) (Nat.le_of_ble_eq_true rfl) ?_
  intro A J hJ
  show J (gw 14 MSh cy b ν ++ E) 0 0 0 [(0, .ref (b 0)), (1, .int (zI (t : Int)))] []
  refine j_iconst hJ dX5_countAhead_0 ?_
  refine j_istore_n hJ (lv' := [(2, .int (zI 0)), (0, .ref (b 0)), (1, .int (zI (t : Int)))]) rfl (by decide) rfl dX5_countAhead_1 ?_
  refine j_iconst hJ dX5_countAhead_2 ?_
  refine j_istore_n hJ (lv' := [(3, .int (zI 0)), (2, .int (zI 0)), (0, .ref (b 0)), (1, .int (zI (t : Int)))]) rfl (by decide) rfl dX5_countAhead_3 ?_
  have lp4 : ∀ (nn4 : Nat) (νk : Nat → Int → Int) (c : Int) (k : Nat) (hmeas4 : n - k < nn4) (hk : k ≤ n) (hF : ∀ a, a ≠ 10 → a ≠ 11 → νk a = ν a) (hc : c = (cnt kd N k t : Nat)), J (gw 14 MSh cy b νk ++ E) 0 0 4 [(0, .ref (b 0)), (1, .int (zI (t : Int))), (2, .int (zI c)), (3, .int (zI (k : Int)))] [] := by
    intro nn4
    induction nn4 with
    | zero => intro νk c k hmeas4 hk hF hc; omega
    | succ nn4 ih4 =>
      intro νk c k hmeas4 hk hF hc
      refine j_iload_n hJ (j := 3) rfl rfl dX5_countAhead_4 ?_
      refine j_aload_n hJ (j := 0) rfl rfl dX5_countAhead_5 ?_
      have X4 := hX.scratch (FrM.of hF)
      refine w_geti hJ (fi := 7) rfl (by omega) rfl rfl f_X5_58 dX5_countAhead_6 ?_
      refine j_topi (y := zI (n : Int)) (by rw [X4.1]) ?_
      refine j_icmp_ge hJ (tgt := 40) ⟨by omega, by omega⟩ ⟨by omega, by omega⟩ (by decide) dX5_countAhead_9 ?_ ?_
      · intro h9
        refine j_iload_n hJ (j := 2) rfl rfl dX5_countAhead_40 ?_
        refine j_iret hJ rfl rfl (rfl) (Nat.le_of_ble_eq_true rfl) (Nat.le_of_ble_eq_true rfl) dX5_countAhead_41 ⟨c, νk, rfl, rfl, ?_⟩
        exact ⟨by rw [hc, show k = n by omega], hF⟩
      · intro h9
        refine j_iload_n hJ (j := 2) rfl rfl dX5_countAhead_12 ?_
        refine j_iload_n hJ (j := 3) rfl rfl dX5_countAhead_13 ?_
        refine j_iload_n hJ (j := 1) rfl rfl dX5_countAhead_14 ?_
        refine j_icmp_eq hJ (tgt := 31) ⟨by omega, by omega⟩ ⟨by omega, by omega⟩ (by decide) dX5_countAhead_15 ?_ ?_
        · intro h15
          refine j_iconst hJ dX5_countAhead_31 ?_
          refine j_iadd hJ dX5_countAhead_32 ?_
          refine j_istore_n hJ (lv' := [(2, .int (zI (c + 0))), (0, .ref (b 0)), (1, .int (zI (t : Int))), (3, .int (zI (k : Int)))]) rfl (by decide) rfl dX5_countAhead_33 ?_
          refine j_iinc hJ (lv' := [(3, .int (zI ((k : Int) + 1))), (2, .int (zI (c + 0))), (0, .ref (b 0)), (1, .int (zI (t : Int)))]) (j := 3) rfl (by omega) (by decide) rfl dX5_countAhead_34 ?_
          refine j_goto hJ (tgt := 4) (by decide) dX5_countAhead_37 ?_
          refine j_locs hJ [2, 3, 1, 0] rfl ?_
          refine ih4 νk (c + 0) (k + 1) (by omega) (by omega) (by first | exact fun a g1 g2 => (F21 a g1 g2).trans (hF a g1 g2) | exact hF) ?_
          · rw [cnt_succ]
            first
            | (have e7 : k = t := by omega
               rw [if_neg (by rw [e7, io_self]; omega)]; omega)
            | (by_cases g : io kd N k t < 0
               · rw [if_pos g]; omega
               · rw [if_neg g]; omega)
        · intro h15
          refine j_aload_n hJ (j := 0) rfl rfl dX5_countAhead_18 ?_
          refine j_iload_n hJ (j := 3) rfl rfl dX5_countAhead_19 ?_
          refine j_iload_n hJ (j := 1) rfl rfl dX5_countAhead_20 ?_
          refine j_callV0 hJ (c_X5_isAhead hfl X4 (i := k) (j := t) (by omega) ht) m_X5_76 k_X5_isAhead (q0 := 0) (by rw [gw_get (by decide)]; rfl) rfl ⟨(Nat.le_of_ble_eq_true rfl), (Nat.le_of_ble_eq_true rfl)⟩ ⟨(Nat.le_of_ble_eq_true rfl), (Nat.le_of_ble_eq_true rfl)⟩ (Nat.le_of_ble_eq_true rfl) dX5_countAhead_21 rfl ?_
          intro v1 u2 hv3
          obtain ⟨q21, ν1, rfl, rfl, h21⟩ := hv3
          show J (gw 14 MSh cy b ν1 ++ E) 0 0 24 [(0, .ref (b 0)), (1, .int (zI (t : Int))), (2, .int (zI c)), (3, .int (zI (k : Int)))] [.int (zI q21), .int (zI c)]
          obtain ⟨e21, F21⟩ := h21
          refine j_if_eq hJ (tgt := 31) ⟨by omega, by omega⟩ (by decide) dX5_countAhead_24 ?_ ?_
          · intro h24
            refine j_iconst hJ dX5_countAhead_31 ?_
            refine j_iadd hJ dX5_countAhead_32 ?_
            refine j_istore_n hJ (lv' := [(2, .int (zI (c + 0))), (0, .ref (b 0)), (1, .int (zI (t : Int))), (3, .int (zI (k : Int)))]) rfl (by decide) rfl dX5_countAhead_33 ?_
            refine j_iinc hJ (lv' := [(3, .int (zI ((k : Int) + 1))), (2, .int (zI (c + 0))), (0, .ref (b 0)), (1, .int (zI (t : Int)))]) (j := 3) rfl (by omega) (by decide) rfl dX5_countAhead_34 ?_
            refine j_goto hJ (tgt := 4) (by decide) dX5_countAhead_37 ?_
            refine j_locs hJ [2, 3, 1, 0] rfl ?_
            refine ih4 ν1 (c + 0) (k + 1) (by omega) (by omega) (by first | exact fun a g1 g2 => (F21 a g1 g2).trans (hF a g1 g2) | exact hF) ?_
            · rw [cnt_succ]
              first
              | (have e7 : k = t := by omega
                 rw [if_neg (by rw [e7, io_self]; omega)]; omega)
              | (by_cases g : io kd N k t < 0
                 · rw [if_pos g]; omega
                 · rw [if_neg g]; omega)
          · intro h24
            refine j_iconst hJ dX5_countAhead_27 ?_
            refine j_goto hJ (tgt := 32) (by decide) dX5_countAhead_28 ?_
            refine j_iadd hJ dX5_countAhead_32 ?_
            refine j_istore_n hJ (lv' := [(2, .int (zI (c + 1))), (0, .ref (b 0)), (1, .int (zI (t : Int))), (3, .int (zI (k : Int)))]) rfl (by decide) rfl dX5_countAhead_33 ?_
            refine j_iinc hJ (lv' := [(3, .int (zI ((k : Int) + 1))), (2, .int (zI (c + 1))), (0, .ref (b 0)), (1, .int (zI (t : Int)))]) (j := 3) rfl (by omega) (by decide) rfl dX5_countAhead_34 ?_
            refine j_goto hJ (tgt := 4) (by decide) dX5_countAhead_37 ?_
            refine j_locs hJ [2, 3, 1, 0] rfl ?_
            refine ih4 ν1 (c + 1) (k + 1) (by omega) (by omega) (by first | exact fun a g1 g2 => (F21 a g1 g2).trans (hF a g1 g2) | exact hF) ?_
            · rw [cnt_succ]
              first
              | (have e7 : k = t := by omega
                 rw [if_neg (by rw [e7, io_self]; omega)]; omega)
              | (by_cases g : io kd N k t < 0
                 · rw [if_pos g]; omega
                 · rw [if_neg g]; omega)
  refine j_locs hJ [2, 3, 1, 0] rfl ?_
  exact lp4 (n - 0 + 1) ν 0 0 (by omega) (by omega) (by exact fun _ _ _ => rfl) (by rfl)
set_option maxHeartbeats 4000000 in
set_option maxRecDepth 100000 in
theorem c_X5_way {v w : Int} (hfl : l.stackTraces = false) (hvR : -2147483648 ≤ v ∧ v < 2147483648) (hwR : -2147483648 ≤ w ∧ w < 2147483648) : CT l D cy n0 ad yX5_way (.code yX5_way cX5_way 2 (some .int)) ({ frames := 0, cells := 0, slots := 0, locals := 0 }) [.int (zI v), .int (zI w)] ws (fun vv uu => ∃ q, vv = some (.int (zI q)) ∧ uu = ws ∧ (q = sg (w - v))) := by
  refine CT.walk hfl (by decide) (Nat.le_of_ble_eq_true rfl) ?_
  intro A J hJ
  show J ws 0 0 0 [(0, .int (zI v)), (1, .int (zI w))] []
  refine j_iload_n hJ (j := 0) rfl rfl dX5_way_0 ?_
  refine j_iload_n hJ (j := 1) rfl rfl dX5_way_1 ?_
  refine j_icmp_ge hJ (tgt := 9) ⟨by omega, by omega⟩ ⟨by omega, by omega⟩ (by decide) dX5_way_2 ?_ ?_
  · intro h2
    refine j_iload_n hJ (j := 0) rfl rfl dX5_way_9 ?_
    refine j_iload_n hJ (j := 1) rfl rfl dX5_way_10 ?_
    refine j_icmp_le hJ (tgt := 18) ⟨by omega, by omega⟩ ⟨by omega, by omega⟩ (by decide) dX5_way_11 ?_ ?_
    · intro h11
      refine j_iconst hJ dX5_way_18 ?_
      refine j_iret hJ rfl rfl (rfl) (Nat.le_of_ble_eq_true rfl) (Nat.le_of_ble_eq_true rfl) dX5_way_19 ⟨0, rfl, rfl, ?_⟩
      have := sg_cases (w - v); omega
    · intro h11
      refine j_iconst hJ dX5_way_14 ?_
      refine j_goto hJ (tgt := 19) (by decide) dX5_way_15 ?_
      refine j_iret hJ rfl rfl (rfl) (Nat.le_of_ble_eq_true rfl) (Nat.le_of_ble_eq_true rfl) dX5_way_19 ⟨(-1), rfl, rfl, ?_⟩
      have := sg_cases (w - v); omega
  · intro h2
    refine j_iconst hJ dX5_way_5 ?_
    refine j_goto hJ (tgt := 19) (by decide) dX5_way_6 ?_
    refine j_iret hJ rfl rfl (rfl) (Nat.le_of_ble_eq_true rfl) (Nat.le_of_ble_eq_true rfl) dX5_way_19 ⟨1, rfl, rfl, ?_⟩
    have := sg_cases (w - v); omega
end
