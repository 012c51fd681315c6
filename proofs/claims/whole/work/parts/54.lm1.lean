
set_option maxRecDepth 20000 in
theorem f_X5_44 : FF RX5 44 5 13 (.array .int) true := ⟨RX5, TX5, 17, tyX5, rfl, by decide, lays_X5, tyX5_ok, rfl, rfl, nmX5, Or.inl (List.mem_of_getElem? (i := 889) (by decide +kernel))⟩
set_option maxRecDepth 20000 in
theorem f_X5_115 : FF RX5 115 5 14 .int false := ⟨RX5, TX5, 17, tyX5, rfl, by decide, lays_X5, tyX5_ok, rfl, rfl, nmX5, Or.inl (List.mem_of_getElem? (i := 890) (by decide +kernel))⟩
set_option maxRecDepth 20000 in
theorem m_X5_118 : MF RX5 118 0 yX5_sign 1 := ⟨Or.inl (List.mem_of_getElem? (i := 1037) (by decide +kernel)), (List.mem_of_getElem? (i := 63) (by decide +kernel)), ⟨by decide +kernel, by decide +kernel⟩, by decide +kernel, fun _ => ⟨(List.mem_of_getElem? (i := 1039) (by decide +kernel)), (List.mem_of_getElem? (i := 52) (by decide +kernel))⟩, fun h => by omega, fun h => by omega⟩
set_option maxRecDepth 20000 in
theorem k_X5_sign : Cond.code yX5_sign cX5_sign 2 none ∈ GT := (List.mem_of_getElem? (i := 1040) (by decide +kernel))
section
variable {l : Launch} {D : va_G} {cy : Nat → ClassId} {n0 : Nat} {ad : Nat → Nat} {b : Nat → Nat} {E : va_W} {ws : va_W}
set_option maxHeartbeats 4000000 in
set_option maxRecDepth 100000 in
theorem c_X5_sign {ν : Nat → Int → Int} {T T' : List Int} {c : Int} (hfl : l.stackTraces = false) (hS : LnM ν T) (hT : T' = T ++ [c]) (hL : T'.length ≤ 800) : CT l D cy n0 ad yX5_sign (.code yX5_sign cX5_sign 2 none) ({ frames := 0, cells := 0, slots := 0, locals := 0 }) [.ref (b 0), .int (zI c)] (gw 14 MSh cy b ν ++ E) (fun vv uu => ∃ μ', vv = none ∧ uu = (gw 14 MSh cy b μ' ++ E) ∧ (LnM μ' T' ∧ FrL ν μ')) := by
  have hl : T'.length = T.length + 1 := by rw [hT]; simp
  obtain ⟨s1, s2⟩ := id hS
  refine CT.walk hfl (by decide) (Nat.le_of_ble_eq_true rfl) ?_
  intro A J hJ
  show J (gw 14 MSh cy b ν ++ E) 0 0 0 [(0, .ref (b 0)), (1, .int (zI c))] []
  refine j_aload_n hJ (j := 0) rfl rfl dX5_sign_0 ?_
  refine w_getr hJ (by omega) rfl rfl f_X5_44 dX5_sign_1 ?_
  refine j_aload_n hJ (j := 0) rfl rfl dX5_sign_4 ?_
  refine w_geti hJ (fi := 14) rfl (by omega) rfl rfl f_X5_115 dX5_sign_5 ?_
  refine j_topi (y := zI (T.length : Int)) (by rw [s1]) ?_
  refine j_iload_n hJ (j := 1) rfl rfl dX5_sign_8 ?_
  refine w_iast hJ (by omega) rfl (by first | decide | omega) (by omega) (by omega) dX5_sign_9 ?_
  intro ν1 hν1
  have hM := hν1
  refine j_aload_n hJ (j := 0) rfl rfl dX5_sign_10 ?_
  refine j_dup hJ rfl dX5_sign_11 ?_
  refine w_geti hJ (fi := 14) rfl (by omega) rfl rfl f_X5_115 dX5_sign_12 ?_
  refine j_topi (y := zI (T.length : Int)) (by rw [hM, up_row (by omega), s1]) ?_
  refine j_iconst hJ dX5_sign_15 ?_
  refine j_iadd hJ dX5_sign_16 ?_
  refine w_puti hJ (fi := 14) rfl (by omega) rfl rfl f_X5_115 rfl rfl dX5_sign_17 ?_
  intro ν2 hν2
  have hM2 := hν2
  refine j_vret hJ rfl rfl (Nat.le_of_ble_eq_true rfl) (Nat.le_of_ble_eq_true rfl) dX5_sign_20 ⟨ν2, rfl, rfl, ?_⟩
  refine ⟨⟨by rw [hM2, up_self, hl]; rfl, ?_⟩, fun a h1 h2 => by rw [hM2, up_rowf (by omega), hM, up_rowf (by omega)], fun j h1 => by rw [hM2, up_at h1, hM, up_row (by omega)]⟩
  rw [hT]
  exact s2.snoc (fun k k0 k1 => by rw [hM2, up_row (by omega), hM, up_at (by omega)]) (by rw [hM2, up_row (by omega), hM, up_self])
set_option maxHeartbeats 4000000 in
set_option maxRecDepth 100000 in
theorem c_X5_number {ν : Nat → Int → Int} {T T' : List Int} {z : Int} (hfl : l.stackTraces = false) (hS : LnM ν T) (hz : 1 ≤ z ∧ z ≤ 12) (hT : T' = T ++ numT z) (hL : T'.length ≤ 800) : CT l D cy n0 ad yX5_number (.code yX5_number cX5_number 2 none) ({ frames := 1, cells := 0, slots := 0, locals := 21 }) [.ref (b 0), .int (zI z)] (gw 14 MSh cy b ν ++ E) (fun vv uu => ∃ μ', vv = none ∧ uu = (gw 14 MSh cy b μ' ++ E) ∧ (LnM μ' T' ∧ FrL ν μ')) := by
  unfold numT at hT
  refine CT.walk hfl (by decide) (Nat.le_of_ble_eq_true rfl) ?_
  intro A J hJ
  show J (gw 14 MSh cy b ν ++ E) 0 0 0 [(0, .ref (b 0)), (1, .int (zI z))] []
  refine j_iload_n hJ (j := 1) rfl rfl dX5_number_0 ?_
  refine j_bipush hJ (v := 9) (by decide) dX5_number_1 ?_
  refine j_icmp_le hJ (tgt := 17) ⟨by omega, by omega⟩ ⟨by omega, by omega⟩ (by decide) dX5_number_3 ?_ ?_
  · intro h3
    rw [if_pos (by omega)] at hT
    refine j_aload_n hJ (j := 0) rfl rfl dX5_number_17 ?_
    refine j_bipush hJ (v := 48) (by decide) dX5_number_18 ?_
    refine j_iload_n hJ (j := 1) rfl rfl dX5_number_20 ?_
    refine j_bipush hJ (v := 10) (by decide) dX5_number_21 ?_
    refine j_irem hJ (by omega) (by omega) (by omega) (by omega) dX5_number_23 ?_
    refine j_iadd hJ dX5_number_24 ?_
    refine j_callV0 hJ (c_X5_sign hfl hS hT (by omega)) m_X5_118 k_X5_sign (q0 := 0) (by rw [gw_get (by decide)]; rfl) rfl ⟨(Nat.le_of_ble_eq_true rfl), (Nat.le_of_ble_eq_true rfl)⟩ ⟨(Nat.le_of_ble_eq_true rfl), (Nat.le_of_ble_eq_true rfl)⟩ (Nat.le_of_ble_eq_true rfl) dX5_number_25 rfl ?_
    intro v1 u2 hv3
    obtain ⟨ν1, rfl, rfl, S25⟩ := hv3
    show J (gw 14 MSh cy b ν1 ++ E) 0 0 28 [(0, .ref (b 0)), (1, .int (zI z))] []
    refine j_vret hJ rfl rfl (Nat.le_of_ble_eq_true rfl) (Nat.le_of_ble_eq_true rfl) dX5_number_28 ⟨ν1, rfl, rfl, ?_⟩
    exact S25
  · intro h3
    rw [if_neg (by omega)] at hT
    obtain ⟨T1, hT1⟩ : ∃ T1, T1 = T ++ [48 + z / 10] := ⟨_, rfl⟩
    have hT2 : T' = T1 ++ [48 + z % 10] := by rw [hT, hT1]; simp
    have n1 : T'.length = T1.length + 1 := by rw [hT2]; simp
    refine j_aload_n hJ (j := 0) rfl rfl dX5_number_6 ?_
    refine j_bipush hJ (v := 48) (by decide) dX5_number_7 ?_
    refine j_iload_n hJ (j := 1) rfl rfl dX5_number_9 ?_
    refine j_bipush hJ (v := 10) (by decide) dX5_number_10 ?_
    refine j_idiv hJ (by omega) (by omega) (by omega) (by omega) dX5_number_12 ?_
    refine j_iadd hJ dX5_number_13 ?_
    refine j_callV0 hJ (c_X5_sign hfl hS hT1 (by omega)) m_X5_118 k_X5_sign (q0 := 0) (by rw [gw_get (by decide)]; rfl) rfl ⟨(Nat.le_of_ble_eq_true rfl), (Nat.le_of_ble_eq_true rfl)⟩ ⟨(Nat.le_of_ble_eq_true rfl), (Nat.le_of_ble_eq_true rfl)⟩ (Nat.le_of_ble_eq_true rfl) dX5_number_14 rfl ?_
    intro v4 u5 hv6
    obtain ⟨ν2, rfl, rfl, S14⟩ := hv6
    show J (gw 14 MSh cy b ν2 ++ E) 0 0 17 [(0, .ref (b 0)), (1, .int (zI z))] []
    refine j_aload_n hJ (j := 0) rfl rfl dX5_number_17 ?_
    refine j_bipush hJ (v := 48) (by decide) dX5_number_18 ?_
    refine j_iload_n hJ (j := 1) rfl rfl dX5_number_20 ?_
    refine j_bipush hJ (v := 10) (by decide) dX5_number_21 ?_
    refine j_irem hJ (by omega) (by omega) (by omega) (by omega) dX5_number_23 ?_
    refine j_iadd hJ dX5_number_24 ?_
    refine j_callV0 hJ (c_X5_sign hfl S14.1 hT2 (by omega)) m_X5_118 k_X5_sign (q0 := 0) (by rw [gw_get (by decide)]; rfl) rfl ⟨(Nat.le_of_ble_eq_true rfl), (Nat.le_of_ble_eq_true rfl)⟩ ⟨(Nat.le_of_ble_eq_true rfl), (Nat.le_of_ble_eq_true rfl)⟩ (Nat.le_of_ble_eq_true rfl) dX5_number_25 rfl ?_
    intro v7 u8 hv9
    obtain ⟨ν3, rfl, rfl, S25⟩ := hv9
    show J (gw 14 MSh cy b ν3 ++ E) 0 0 28 [(0, .ref (b 0)), (1, .int (zI z))] []
    refine j_vret hJ rfl rfl (Nat.le_of_ble_eq_true rfl) (Nat.le_of_ble_eq_true rfl) dX5_number_28 ⟨ν3, rfl, rfl, ?_⟩
    exact ⟨S25.1, S14.2.tr S25.2⟩
set_option maxHeartbeats 4000000 in
set_option maxRecDepth 100000 in
theorem c_X5_writes {ν : Nat → Int → Int} {T T' : List Int} {kd : Int → Int} {i : Nat} {v a : Int} {N : List Int} (hfl : l.stackTraces = false) (hi : i < 16) (hN : NmM ν i N) (hkr : KdM ν kd) (hLt : LtM ν) (hS : LnM ν T) (hv : v = 0 ∨ v = 1) (ha : a = 0 ∨ a = 1) (hT : T' = T ++ joinT (selA a kd v N)) (hL : T'.length ≤ 700) : CT l D cy n0 ad yX5_writes (.code yX5_writes cX5_writes 8 none) ({ frames := 1, cells := 0, slots := 0, locals := 21 }) [.ref (b 0), .int (zI (i : Int)), .int (zI v), .int (zI a)] (gw 14 MSh cy b ν ++ E) (fun vv uu => ∃ μ', vv = none ∧ uu = (gw 14 MSh cy b μ' ++ E) ∧ (LnM μ' T' ∧ FrL ν μ')) := by
  obtain ⟨h1, h2, h3, h4, h5⟩ := id hN
  obtain ⟨F, hF⟩ : ∃ F : Nat → List Int, F = fun k => T ++ joinT (selA a kd v (N.take k)) := ⟨_, rfl⟩
  have F0 : F 0 = T := by rw [hF]; simp [selA, joinT]
  have FN : F N.length = T' := by rw [hF, hT]; simp
  have Fs : ∀ (k : Nat) (x : Int), N[k]? = some x → F (k + 1) = if a = 1 ∨ mvd kd x = v then F k ++ ((if selA a kd v (N.take k) = [] then [] else [32]) ++ wordT x.toNat) else F k := by
    intro k x hx
    rw [hF]
    show T ++ joinT (selA a kd v (N.take (k + 1))) = _
    rw [selA_step hx]
    split
    · rw [joinT_snoc, List.append_assoc]
    · rw [List.append_nil]
  have Fm : ∀ k, k < N.length → (F k).length ≤ (F (k + 1)).length := by
    intro k hk
    rw [Fs k _ (List.getElem?_eq_getElem hk)]
    split
    · rw [List.length_append]; omega
    · exact Nat.le_refl _
  have Fe : ∀ d k, k + d = N.length → (F k).length ≤ T'.length := by
    intro d
    induction d with
    | zero => intro k hk; rw [← FN, show k = N.length by omega]; exact Nat.le_refl _
    | succ d ih => intro k hk; exact Nat.le_trans (Fm k (by omega)) (ih (k + 1) (by omega))
  refine CT.walk hfl (by decide) (Nat.le_of_ble_eq_true rfl) ?_
  intro A J hJ
  show J (gw 14 MSh cy b ν ++ E) 0 0 0 [(0, .ref (b 0)), (1, .int (zI (i : Int))), (2, .int (zI v)), (3, .int (zI a))] []
  refine j_iconst hJ dX5_writes_0 ?_
  refine j_istore hJ (lv' := [(4, .int (zI 0)), (0, .ref (b 0)), (1, .int (zI (i : Int))), (2, .int (zI v)), (3, .int (zI a))]) (by decide) rfl dX5_writes_1 ?_
  refine j_iconst hJ dX5_writes_3 ?_
  refine j_istore hJ (lv' := [(5, .int (zI 0)), (4, .int (zI 0)), (0, .ref (b 0)), (1, .int (zI (i : Int))), (2, .int (zI v)), (3, .int (zI a))]) (by decide) rfl dX5_writes_4 ?_
  have lp6 : ∀ (nn6 : Nat) (νk : Nat → Int → Int) (y : Int) (k : Nat) (hmeas6 : N.length - k < nn6) (hk : k ≤ N.length) (hy : y = ((selA a kd v (N.take k)).length : Nat)) (hS1 : LnM νk (F k)) (hF1 : FrL ν νk), J (gw 14 MSh cy b νk ++ E) 0 0 6 [(0, .ref (b 0)), (1, .int (zI (i : Int))), (2, .int (zI v)), (3, .int (zI a)), (4, .int (zI y)), (5, .int (zI (k : Int)))] [] := by
    intro nn6
    induction nn6 with
    | zero => intro νk y k hmeas6 hk hy hS1 hF1; omega
    | succ nn6 ih6 =>
      intro νk y k hmeas6 hk hy hS1 hF1
      refine j_iload hJ (j := 5) rfl dX5_writes_6 ?_
      refine j_aload_n hJ (j := 0) rfl rfl dX5_writes_8 ?_
      refine w_getr hJ (by omega) rfl rfl f_X5_19 dX5_writes_9 ?_
      refine j_iload_n hJ (j := 1) rfl rfl dX5_writes_12 ?_
      refine w_iald hJ (by omega) rfl (by first | decide | omega) (by omega) (by omega) dX5_writes_13 ?_
      refine j_topi (y := zI (N.length : Int)) (by rw [hF1.1 4 (by omega) (by omega), h1]) ?_
      refine j_icmp_ge hJ (tgt := 116) ⟨by omega, by omega⟩ ⟨by omega, by omega⟩ (by decide) dX5_writes_14 ?_ ?_
      · intro h14
        obtain rfl : k = N.length := by omega
        rw [FN] at hS1
        refine j_vret hJ rfl rfl (Nat.le_of_ble_eq_true rfl) (Nat.le_of_ble_eq_true rfl) dX5_writes_116 ⟨νk, rfl, rfl, ?_⟩
        exact ⟨hS1, hF1⟩
      · intro h14
        have hk2 : k < N.length := by omega
        obtain ⟨x, hx⟩ : ∃ x, N[k]? = some x := ⟨_, List.getElem?_eq_getElem hk2⟩
        have hxr := h5 x (List.mem_of_getElem? hx)
        have hkx := hkr x hxr.1 hxr.2
        have nE := Fe (N.length - (k + 1)) (k + 1) (by omega)
        have hyk : (selA a kd v (N.take k)).length ≤ k := Nat.le_trans (List.length_filter_le _ _) (by rw [List.length_take]; omega)
        refine j_aload_n hJ (j := 0) rfl rfl dX5_writes_17 ?_
        refine w_getr hJ (by omega) rfl rfl f_X5_16 dX5_writes_18 ?_
        refine j_iconst hJ dX5_writes_21 ?_
        refine j_iload_n hJ (j := 1) rfl rfl dX5_writes_22 ?_
        refine j_imul hJ dX5_writes_23 ?_
        refine j_iload hJ (j := 5) rfl dX5_writes_24 ?_
        refine j_iadd hJ dX5_writes_26 ?_
        refine w_iald hJ (by omega) rfl (by first | decide | omega) (by omega) (by omega) dX5_writes_27 ?_
        refine j_topi (y := zI x) (by rw [hF1.1 3 (by omega) (by omega), h4 k x hx]) ?_
        refine j_istore hJ (lv' := [(6, .int (zI x)), (0, .ref (b 0)), (1, .int (zI (i : Int))), (2, .int (zI v)), (3, .int (zI a)), (4, .int (zI y)), (5, .int (zI (k : Int)))]) (by decide) rfl dX5_writes_28 ?_
        have j54 : ∀  (hsel : a = 1 ∨ mvd kd x = v), J (gw 14 MSh cy b νk ++ E) 0 0 54 [(6, .int (zI x)), (0, .ref (b 0)), (1, .int (zI (i : Int))), (2, .int (zI v)), (3, .int (zI a)), (4, .int (zI y)), (5, .int (zI (k : Int)))] [] := by
          intro hsel
          have hFx := Fs k x hx
          rw [if_pos hsel] at hFx
          refine j_iload hJ (j := 5) rfl dX5_writes_54 ?_
          refine j_if_le hJ (tgt := 65) ⟨by omega, by omega⟩ (by decide) dX5_writes_56 ?_ ?_
          · intro h56
            have hK : selA a kd v (N.take k) = [] := List.length_eq_zero_iff.mp (by omega)
            rw [if_pos hK, List.nil_append] at hFx
            obtain ⟨T1, hT1⟩ : ∃ T1, T1 = F k := ⟨_, rfl⟩
            rw [← hT1] at hFx
            have n2 : (F (k + 1)).length = T1.length + (wordT x.toNat).length := by rw [hFx]; simp
            have hS2 : LnM νk T1 := by rw [hT1]; exact hS1
            have hF2 : FrL ν νk := hF1
            refine j_iconst hJ dX5_writes_65 ?_
            refine j_istore hJ (lv' := [(7, .int (zI 0)), (6, .int (zI x)), (0, .ref (b 0)), (1, .int (zI (i : Int))), (2, .int (zI v)), (3, .int (zI a)), (4, .int (zI y)), (5, .int (zI (k : Int)))]) (by decide) rfl dX5_writes_66 ?_
            have lp68 : ∀ (nn68 : Nat) (νj : Nat → Int → Int) (j : Nat) (hmeas68 : wL x.toNat - j < nn68) (hj : j ≤ wL x.toNat) (hSj : LnM νj (T1 ++ (wordT x.toNat).take j)) (hFj : FrL ν νj), J (gw 14 MSh cy b νj ++ E) 0 0 68 [(6, .int (zI x)), (7, .int (zI (j : Int))), (0, .ref (b 0)), (1, .int (zI (i : Int))), (2, .int (zI v)), (3, .int (zI a)), (4, .int (zI y)), (5, .int (zI (k : Int)))] [] := by
              intro nn68
              induction nn68 with
              | zero => intro νj j hmeas68 hj hSj hFj; omega
              | succ nn68 ih68 =>
                intro νj j hmeas68 hj hSj hFj
                refine j_aload_n hJ (j := 2) rfl rfl dX5_writes_68 ?_
                have hw8 := wL_lt x.toNat
                have hl1 : νj 1 (8 * x + j) = ltr x.toNat j := by
                  have := hLt x.toNat j (by omega) (by omega)
                  rw [Int.toNat_of_nonneg hxr.1] at this
                  rw [hFj.1 1 (by omega) (by omega)]; exact this
                have hl2 := ltr_tab x.toNat (by omega) j (by omega)
                have hl3 := (l_ord (i := x.toNat) (j := x.toNat) (by omega) (by omega)).2.2 j (by omega)
                refine w_getr hJ (by omega) rfl rfl f_X5_7 dX5_writes_69 ?_
                refine j_bipush hJ (v := 8) (by decide) dX5_writes_72 ?_
                refine j_iload hJ (j := 0) rfl dX5_writes_74 ?_
                refine j_imul hJ dX5_writes_76 ?_
                refine j_iload hJ (j := 1) rfl dX5_writes_77 ?_
                refine j_iadd hJ dX5_writes_79 ?_
                refine w_iald hJ (by omega) rfl (by first | decide | omega) (by omega) (by omega) dX5_writes_80 ?_
                refine j_topi (y := zI (ltr x.toNat j)) (by rw [hl1]) ?_
                refine j_if_le hJ (tgt := 107) ⟨by omega, by omega⟩ (by decide) dX5_writes_81 ?_ ?_
                · intro h81
                  have hj2 : j = wL x.toNat := by omega
                  rw [hj2, word_all, ← hFx] at hSj
                  have hS3 := hSj
                  have hF2 := hFj
                  refine j_iinc hJ (lv' := [(4, .int (zI (y + 1))), (6, .int (zI x)), (7, .int (zI (j : Int))), (0, .ref (b 0)), (1, .int (zI (i : Int))), (2, .int (zI v)), (3, .int (zI a)), (5, .int (zI (k : Int)))]) (j := 6) rfl (by omega) (by decide) rfl dX5_writes_107 ?_
                  refine j_iinc hJ (lv' := [(5, .int (zI ((k : Int) + 1))), (4, .int (zI (y + 1))), (6, .int (zI x)), (7, .int (zI (j : Int))), (0, .ref (b 0)), (1, .int (zI (i : Int))), (2, .int (zI v)), (3, .int (zI a))]) (j := 7) rfl (by omega) (by decide) rfl dX5_writes_110 ?_
                  refine j_goto hJ (tgt := 6) (by decide) dX5_writes_113 ?_
                  refine j_locs hJ [4, 5, 6, 7, 1, 0] rfl ?_
                  refine ih6 νj (y + 1) (k + 1) (by omega) (by omega) ?_ ?_ ?_
                  · rw [selA_step hx]
                    first
                    | (rw [if_neg hno, List.append_nil]; exact hy)
                    | (rw [if_pos hsel, List.length_append, hy]; rfl)
                  · first
                    | exact hS3
                    | (rw [Fs k x hx, if_neg hno]; exact hS1)
                  · first
                    | exact hF2
                    | exact hF1
                · intro h81
                  have hj2 : j < wL x.toNat := hl2.mp (by omega)
                  have hTj : T1 ++ (wordT x.toNat).take (j + 1) = (T1 ++ (wordT x.toNat).take j) ++ [ltr x.toNat j] := by rw [word_take hj2, ltr_at hj2, List.append_assoc]
                  have nj : (T1 ++ (wordT x.toNat).take (j + 1)).length ≤ (F (k + 1)).length := by rw [n2, List.length_append, List.length_take]; omega
                  refine j_aload_n hJ (j := 2) rfl rfl dX5_writes_84 ?_
                  refine j_aload_n hJ (j := 2) rfl rfl dX5_writes_85 ?_
                  refine w_getr hJ (by omega) rfl rfl f_X5_7 dX5_writes_86 ?_
                  refine j_bipush hJ (v := 8) (by decide) dX5_writes_89 ?_
                  refine j_iload hJ (j := 0) rfl dX5_writes_91 ?_
                  refine j_imul hJ dX5_writes_93 ?_
                  refine j_iload hJ (j := 1) rfl dX5_writes_94 ?_
                  refine j_iadd hJ dX5_writes_96 ?_
                  refine w_iald hJ (by omega) rfl (by first | decide | omega) (by omega) (by omega) dX5_writes_97 ?_
                  refine j_topi (y := zI (ltr x.toNat j)) (by rw [hl1]) ?_
                  refine j_callV0 hJ (c_X5_sign hfl hSj hTj (by omega)) m_X5_118 k_X5_sign (q0 := 0) (by rw [gw_get (by decide)]; rfl) rfl ⟨(Nat.le_of_ble_eq_true rfl), (Nat.le_of_ble_eq_true rfl)⟩ ⟨(Nat.le_of_ble_eq_true rfl), (Nat.le_of_ble_eq_true rfl)⟩ (Nat.le_of_ble_eq_true rfl) dX5_writes_98 rfl ?_
                  intro v1 u2 hv3
                  obtain ⟨ν1, rfl, rfl, S98⟩ := hv3
                  show J (gw 14 MSh cy b ν1 ++ E) 0 0 101 [(6, .int (zI x)), (7, .int (zI (j : Int))), (0, .ref (b 0)), (1, .int (zI (i : Int))), (2, .int (zI v)), (3, .int (zI a)), (4, .int (zI y)), (5, .int (zI (k : Int)))] []
                  refine j_iinc hJ (lv' := [(7, .int (zI ((j : Int) + 1))), (6, .int (zI x)), (0, .ref (b 0)), (1, .int (zI (i : Int))), (2, .int (zI v)), (3, .int (zI a)), (4, .int (zI y)), (5, .int (zI (k : Int)))]) (j := 1) rfl (by omega) (by decide) rfl dX5_writes_101 ?_
                  refine j_goto hJ (tgt := 68) (by decide) dX5_writes_104 ?_
                  refine j_locs hJ [1, 0, 2, 3, 4, 5, 6, 7] rfl ?_
                  exact ih68 ν1 (j + 1) (by omega) (by omega) (by exact S98.1) (by exact hFj.tr S98.2)
            refine j_locs hJ [1, 0, 2, 3, 4, 5, 6, 7] rfl ?_
            exact lp68 (wL x.toNat - 0 + 1) νk 0 (by omega) (by omega) (by rw [List.take_zero, List.append_nil]; exact hS2) (by exact hF2)
          · intro h56
            have hK : ¬ selA a kd v (N.take k) = [] := fun e => by rw [e] at hy; simp at hy; omega
            rw [if_neg hK] at hFx
            obtain ⟨T1, hT1⟩ : ∃ T1, T1 = F k ++ [32] := ⟨_, rfl⟩
            rw [← List.append_assoc, ← hT1] at hFx
            have n2 : (F (k + 1)).length = T1.length + (wordT x.toNat).length := by rw [hFx]; simp
            refine j_aload_n hJ (j := 1) rfl rfl dX5_writes_59 ?_
            refine j_bipush hJ (v := 32) (by decide) dX5_writes_60 ?_
            refine j_callV0 hJ (c_X5_sign hfl hS1 hT1 (by omega)) m_X5_118 k_X5_sign (q0 := 0) (by rw [gw_get (by decide)]; rfl) rfl ⟨(Nat.le_of_ble_eq_true rfl), (Nat.le_of_ble_eq_true rfl)⟩ ⟨(Nat.le_of_ble_eq_true rfl), (Nat.le_of_ble_eq_true rfl)⟩ (Nat.le_of_ble_eq_true rfl) dX5_writes_62 rfl ?_
            intro v4 u5 hv6
            obtain ⟨ν2, rfl, rfl, S62⟩ := hv6
            show J (gw 14 MSh cy b ν2 ++ E) 0 0 65 [(6, .int (zI x)), (0, .ref (b 0)), (1, .int (zI (i : Int))), (2, .int (zI v)), (3, .int (zI a)), (4, .int (zI y)), (5, .int (zI (k : Int)))] []
            have hS2 := S62.1
            have hF2 := hF1.tr S62.2
            refine j_iconst hJ dX5_writes_65 ?_
            refine j_istore hJ (lv' := [(7, .int (zI 0)), (6, .int (zI x)), (0, .ref (b 0)), (1, .int (zI (i : Int))), (2, .int (zI v)), (3, .int (zI a)), (4, .int (zI y)), (5, .int (zI (k : Int)))]) (by decide) rfl dX5_writes_66 ?_
            have lp68 : ∀ (nn68 : Nat) (νj : Nat → Int → Int) (j : Nat) (hmeas68 : wL x.toNat - j < nn68) (hj : j ≤ wL x.toNat) (hSj : LnM νj (T1 ++ (wordT x.toNat).take j)) (hFj : FrL ν νj), J (gw 14 MSh cy b νj ++ E) 0 0 68 [(6, .int (zI x)), (7, .int (zI (j : Int))), (0, .ref (b 0)), (1, .int (zI (i : Int))), (2, .int (zI v)), (3, .int (zI a)), (4, .int (zI y)), (5, .int (zI (k : Int)))] [] := by
              intro nn68
              induction nn68 with
              | zero => intro νj j hmeas68 hj hSj hFj; omega
              | succ nn68 ih68 =>
                intro νj j hmeas68 hj hSj hFj
                refine j_aload_n hJ (j := 2) rfl rfl dX5_writes_68 ?_
                have hw8 := wL_lt x.toNat
                have hl1 : νj 1 (8 * x + j) = ltr x.toNat j := by
                  have := hLt x.toNat j (by omega) (by omega)
                  rw [Int.toNat_of_nonneg hxr.1] at this
                  rw [hFj.1 1 (by omega) (by omega)]; exact this
                have hl2 := ltr_tab x.toNat (by omega) j (by omega)
                have hl3 := (l_ord (i := x.toNat) (j := x.toNat) (by omega) (by omega)).2.2 j (by omega)
                refine w_getr hJ (by omega) rfl rfl f_X5_7 dX5_writes_69 ?_
                refine j_bipush hJ (v := 8) (by decide) dX5_writes_72 ?_
                refine j_iload hJ (j := 0) rfl dX5_writes_74 ?_
                refine j_imul hJ dX5_writes_76 ?_
                refine j_iload hJ (j := 1) rfl dX5_writes_77 ?_
                refine j_iadd hJ dX5_writes_79 ?_
                refine w_iald hJ (by omega) rfl (by first | decide | omega) (by omega) (by omega) dX5_writes_80 ?_
                refine j_topi (y := zI (ltr x.toNat j)) (by rw [hl1]) ?_
                refine j_if_le hJ (tgt := 107) ⟨by omega, by omega⟩ (by decide) dX5_writes_81 ?_ ?_
                · intro h81
                  have hj2 : j = wL x.toNat := by omega
                  rw [hj2, word_all, ← hFx] at hSj
                  have hS3 := hSj
                  have hF2 := hFj
                  refine j_iinc hJ (lv' := [(4, .int (zI (y + 1))), (6, .int (zI x)), (7, .int (zI (j : Int))), (0, .ref (b 0)), (1, .int (zI (i : Int))), (2, .int (zI v)), (3, .int (zI a)), (5, .int (zI (k : Int)))]) (j := 6) rfl (by omega) (by decide) rfl dX5_writes_107 ?_
                  refine j_iinc hJ (lv' := [(5, .int (zI ((k : Int) + 1))), (4, .int (zI (y + 1))), (6, .int (zI x)), (7, .int (zI (j : Int))), (0, .ref (b 0)), (1, .int (zI (i : Int))), (2, .int (zI v)), (3, .int (zI a))]) (j := 7) rfl (by omega) (by decide) rfl dX5_writes_110 ?_
                  refine j_goto hJ (tgt := 6) (by decide) dX5_writes_113 ?_
                  refine j_locs hJ [4, 5, 6, 7, 1, 0] rfl ?_
                  refine ih6 νj (y + 1) (k + 1) (by omega) (by omega) ?_ ?_ ?_
                  · rw [selA_step hx]
                    first
                    | (rw [if_neg hno, List.append_nil]; exact hy)
                    | (rw [if_pos hsel, List.length_append, hy]; rfl)
                  · first
                    | exact hS3
                    | (rw [Fs k x hx, if_neg hno]; exact hS1)
                  · first
                    | exact hF2
                    | exact hF1
                · intro h81
                  have hj2 : j < wL x.toNat := hl2.mp (by omega)
                  have hTj : T1 ++ (wordT x.toNat).take (j + 1) = (T1 ++ (wordT x.toNat).take j) ++ [ltr x.toNat j] := by rw [word_take hj2, ltr_at hj2, List.append_assoc]
                  have nj : (T1 ++ (wordT x.toNat).take (j + 1)).length ≤ (F (k + 1)).length := by rw [n2, List.length_append, List.length_take]; omega
                  refine j_aload_n hJ (j := 2) rfl rfl dX5_writes_84 ?_
                  refine j_aload_n hJ (j := 2) rfl rfl dX5_writes_85 ?_
                  refine w_getr hJ (by omega) rfl rfl f_X5_7 dX5_writes_86 ?_
                  refine j_bipush hJ (v := 8) (by decide) dX5_writes_89 ?_
                  refine j_iload hJ (j := 0) rfl dX5_writes_91 ?_
                  refine j_imul hJ dX5_writes_93 ?_
                  refine j_iload hJ (j := 1) rfl dX5_writes_94 ?_
                  refine j_iadd hJ dX5_writes_96 ?_
                  refine w_iald hJ (by omega) rfl (by first | decide | omega) (by omega) (by omega) dX5_writes_97 ?_
                  refine j_topi (y := zI (ltr x.toNat j)) (by rw [hl1]) ?_
                  refine j_callV0 hJ (c_X5_sign hfl hSj hTj (by omega)) m_X5_118 k_X5_sign (q0 := 0) (by rw [gw_get (by decide)]; rfl) rfl ⟨(Nat.le_of_ble_eq_true rfl), (Nat.le_of_ble_eq_true rfl)⟩ ⟨(Nat.le_of_ble_eq_true rfl), (Nat.le_of_ble_eq_true rfl)⟩ (Nat.le_of_ble_eq_true rfl) dX5_writes_98 rfl ?_
                  intro v7 u8 hv9
                  obtain ⟨ν3, rfl, rfl, S98⟩ := hv9
                  show J (gw 14 MSh cy b ν3 ++ E) 0 0 101 [(6, .int (zI x)), (7, .int (zI (j : Int))), (0, .ref (b 0)), (1, .int (zI (i : Int))), (2, .int (zI v)), (3, .int (zI a)), (4, .int (zI y)), (5, .int (zI (k : Int)))] []
                  refine j_iinc hJ (lv' := [(7, .int (zI ((j : Int) + 1))), (6, .int (zI x)), (0, .ref (b 0)), (1, .int (zI (i : Int))), (2, .int (zI v)), (3, .int (zI a)), (4, .int (zI y)), (5, .int (zI (k : Int)))]) (j := 1) rfl (by omega) (by decide) rfl dX5_writes_101 ?_
                  refine j_goto hJ (tgt := 68) (by decide) dX5_writes_104 ?_
                  refine j_locs hJ [1, 0, 2, 3, 4, 5, 6, 7] rfl ?_
                  exact ih68 ν3 (j + 1) (by omega) (by omega) (by exact S98.1) (by exact hFj.tr S98.2)
            refine j_locs hJ [1, 0, 2, 3, 4, 5, 6, 7] rfl ?_
            exact lp68 (wL x.toNat - 0 + 1) ν2 0 (by omega) (by omega) (by rw [List.take_zero, List.append_nil]; exact hS2) (by exact hF2)
        have j50 : ∀ (z : Int) (hz : z = mvd kd x) (ha0 : a = 0), J (gw 14 MSh cy b νk ++ E) 0 0 50 [(6, .int (zI x)), (0, .ref (b 0)), (1, .int (zI (i : Int))), (2, .int (zI v)), (3, .int (zI a)), (4, .int (zI y)), (5, .int (zI (k : Int)))] [.int (zI z)] := by
          intro z hz ha0
          have hz01 : z = 0 ∨ z = 1 := by rw [hz]; unfold mvd; split <;> omega
          refine j_iload_n hJ (j := 3) rfl rfl dX5_writes_50 ?_
          refine j_icmp_ne hJ (tgt := 110) ⟨by omega, by omega⟩ ⟨by omega, by omega⟩ (by decide) dX5_writes_51 ?_ ?_
          · intro h51
            have hno : ¬ (a = 1 ∨ mvd kd x = v) := by rw [← hz]; omega
            refine j_iinc hJ (lv' := [(5, .int (zI ((k : Int) + 1))), (6, .int (zI x)), (0, .ref (b 0)), (1, .int (zI (i : Int))), (2, .int (zI v)), (3, .int (zI a)), (4, .int (zI y))]) (j := 6) rfl (by omega) (by decide) rfl dX5_writes_110 ?_
            refine j_goto hJ (tgt := 6) (by decide) dX5_writes_113 ?_
            refine j_locs hJ [2, 3, 4, 5, 6, 0] rfl ?_
            refine ih6 νk y (k + 1) (by omega) (by omega) ?_ ?_ ?_
            · rw [selA_step hx]
              first
              | (rw [if_neg hno, List.append_nil]; exact hy)
              | (rw [if_pos hsel, List.length_append, hy]; rfl)
            · first
              | exact hS3
              | (rw [Fs k x hx, if_neg hno]; exact hS1)
            · first
              | exact hF2
              | exact hF1
          · intro h51
            have hsel : a = 1 ∨ mvd kd x = v := Or.inr (by rw [← hz]; omega)
            exact j54 (by first | exact hsel | exact Or.inl (by omega))
        refine j_iload_n hJ (j := 4) rfl rfl dX5_writes_30 ?_
        refine j_if_ne hJ (tgt := 54) ⟨by omega, by omega⟩ (by decide) dX5_writes_31 ?_ ?_
        · intro h31
          exact j54 (by first | exact hsel | exact Or.inl (by omega))
        · intro h31
          refine j_aload_n hJ (j := 1) rfl rfl dX5_writes_34 ?_
          refine w_getr hJ (by omega) rfl rfl f_X5_13 dX5_writes_35 ?_
          refine j_iload hJ (j := 0) rfl dX5_writes_38 ?_
          refine w_iald hJ (by omega) rfl (by first | decide | omega) (by omega) (by omega) dX5_writes_40 ?_
          refine j_topi (y := zI (kd x)) (by rw [hF1.1 2 (by omega) (by omega), hkx.1]) ?_
          refine j_iconst hJ dX5_writes_41 ?_
          refine j_icmp_ne hJ (tgt := 49) ⟨by omega, by omega⟩ ⟨by omega, by omega⟩ (by decide) dX5_writes_42 ?_ ?_
          · intro h42
            refine j_iconst hJ dX5_writes_49 ?_
            refine j50 0 ?_ (by omega)
            · unfold mvd
              split <;> omega
          · intro h42
            refine j_iconst hJ dX5_writes_45 ?_
            refine j_goto hJ (tgt := 50) (by decide) dX5_writes_46 ?_
            refine j50 1 ?_ (by omega)
            · unfold mvd
              split <;> omega
  refine j_locs hJ [2, 3, 4, 5, 1, 0] rfl ?_
  exact lp6 (N.length - 0 + 1) ν 0 0 (by omega) (by omega) (by simp [selA]) (by rw [F0]; exact hS) (by exact FrL.rf)
end
