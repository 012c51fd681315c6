
set_option maxRecDepth 20000 in
theorem m_X5_128 : MF RX5 128 0 yX5_number 1 := ⟨Or.inl (List.mem_of_getElem? (i := 1045) (by decide +kernel)), (List.mem_of_getElem? (i := 63) (by decide +kernel)), ⟨by decide +kernel, by decide +kernel⟩, by decide +kernel, fun _ => ⟨(List.mem_of_getElem? (i := 1047) (by decide +kernel)), (List.mem_of_getElem? (i := 54) (by decide +kernel))⟩, fun h => by omega, fun h => by omega⟩
set_option maxRecDepth 20000 in
theorem k_X5_number : Cond.code yX5_number cX5_number 2 none ∈ GT := (List.mem_of_getElem? (i := 1048) (by decide +kernel))
set_option maxRecDepth 20000 in
theorem m_X5_121 : MF RX5 121 0 yX5_writes 3 := ⟨Or.inl (List.mem_of_getElem? (i := 1033) (by decide +kernel)), (List.mem_of_getElem? (i := 63) (by decide +kernel)), ⟨by decide +kernel, by decide +kernel⟩, by decide +kernel, fun _ => ⟨(List.mem_of_getElem? (i := 1035) (by decide +kernel)), (List.mem_of_getElem? (i := 51) (by decide +kernel))⟩, fun h => by omega, fun h => by omega⟩
set_option maxRecDepth 20000 in
theorem k_X5_writes : Cond.code yX5_writes cX5_writes 8 none ∈ GT := (List.mem_of_getElem? (i := 1036) (by decide +kernel))
set_option maxRecDepth 20000 in
theorem m_X5_131 : MF RX5 131 0 yX5_writeLine 1 := ⟨Or.inl (List.mem_of_getElem? (i := 1029) (by decide +kernel)), (List.mem_of_getElem? (i := 63) (by decide +kernel)), ⟨by decide +kernel, by decide +kernel⟩, by decide +kernel, fun _ => ⟨(List.mem_of_getElem? (i := 1031) (by decide +kernel)), (List.mem_of_getElem? (i := 50) (by decide +kernel))⟩, fun h => by omega, fun h => by omega⟩
set_option maxRecDepth 20000 in
theorem k_X5_writeLine : Cond.code yX5_writeLine cX5_writeLine 6 none ∈ GT := (List.mem_of_getElem? (i := 1032) (by decide +kernel))
section
variable {l : Launch} {D : va_G} {cy : Nat → ClassId} {n0 : Nat} {ad : Nat → Nat} {b : Nat → Nat} {E : va_W} {ws : va_W}
set_option maxHeartbeats 4000000 in
set_option maxRecDepth 100000 in
theorem c_X5_writeLine {ν : Nat → Int → Int} {kd : Int → Int} {n : Nat} {N : Nat → List Int} {ow : Nat → Int} {m : Nat → Nat} {p : Nat → Nat → Int} {i : Nat} (hfl : l.stackTraces = false) (hX : MI ν kd n N ow m p) (hi : i < n) : CT l D cy n0 ad yX5_writeLine (.code yX5_writeLine cX5_writeLine 6 none) ({ frames := 2, cells := 0, slots := 0, locals := 48 }) [.ref (b 0), .int (zI (i : Int))] (gw 14 MSh cy b ν ++ E) (fun vv uu => ∃ μ', vv = none ∧ uu = (gw 14 MSh cy b μ' ++ E) ∧ (LnM μ' (lineT kd (N i) (trk (p i) (m i))) ∧ FrX ν μ')) := by
  obtain ⟨x1, x2, x3, x4, x5, x6, x7, x8⟩ := id hX
  have hN := x5 i hi
  obtain ⟨h1, h2, h3, h4, h5⟩ := id hN
  have hP := x7 i (by omega)
  have htl := (trk_len hP.2.2.1).1
  have hm10 := hP.2.1
  obtain ⟨T', hT'⟩ : ∃ T', T' = lineT kd (N i) (trk (p i) (m i)) := ⟨_, rfl⟩
  rw [← hT']
  have hL : T'.length ≤ 600 := by rw [hT']; exact lineT_le h3
  obtain ⟨T1, hT1⟩ : ∃ T1, T1 = nameT kd (N i) := ⟨_, rfl⟩
  have n1 : T1.length ≤ 34 := by rw [hT1]; exact nameT_le h3
  obtain ⟨T2, hT2⟩ : ∃ T2, T2 = T1 ++ (if 0 < (trk (p i) (m i)).length then [58] else []) := ⟨_, rfl⟩
  have n2 : T2.length ≤ 35 := by
    rw [hT2, List.length_append]
    split <;> simp <;> omega
  have hTT : T' = T2 ++ runsT (trk (p i) (m i)) 144 := by rw [hT', hT2, hT1, List.append_assoc]; rfl
  obtain ⟨F, hF⟩ : ∃ F : Nat → List Int, F = fun k => T2 ++ runsT (trk (p i) (m i)) k := ⟨_, rfl⟩
  have F0 : F 0 = T2 := by rw [hF]; simp [runsT]
  have FN : F 144 = T' := by rw [hF, hTT]
  have Fy : ∀ k : Nat, bgT (trk (p i) (m i)) k = true → F (k + 1) = F k ++ runT (trk (p i) (m i)) k := fun k h => by
    rw [hF]
    show T2 ++ runsT (trk (p i) (m i)) (k + 1) = (T2 ++ runsT (trk (p i) (m i)) k) ++ runT (trk (p i) (m i)) k
    rw [runsT_yes h, List.append_assoc]
  have Fn : ∀ k : Nat, ¬ bgT (trk (p i) (m i)) k = true → F (k + 1) = F k := fun k h => by
    rw [hF]
    show T2 ++ runsT (trk (p i) (m i)) (k + 1) = T2 ++ runsT (trk (p i) (m i)) k
    rw [runsT_no h]
  have Fm : ∀ k, (F k).length ≤ (F (k + 1)).length := by
    intro k
    by_cases h : bgT (trk (p i) (m i)) k = true
    · rw [Fy k h, List.length_append]; omega
    · rw [Fn k h]; exact Nat.le_refl _
  have Fe : ∀ d k, k + d = 144 → (F k).length ≤ T'.length := by
    intro d
    induction d with
    | zero => intro k hk; rw [← FN, show k = 144 by omega]; exact Nat.le_refl _
    | succ d ih => intro k hk; exact Nat.le_trans (Fm k) (ih (k + 1) (by omega))
  refine CT.walk hfl (by decide) (Nat.le_of_ble_eq_true rfl) ?_
  intro A J hJ
  show J (gw 14 MSh cy b ν ++ E) 0 0 0 [(0, .ref (b 0)), (1, .int (zI (i : Int)))] []
  refine j_aload_n hJ (j := 0) rfl rfl dX5_writeLine_0 ?_
  refine j_iconst hJ dX5_writeLine_1 ?_
  refine w_puti hJ (fi := 14) rfl (by omega) rfl rfl f_X5_115 rfl rfl dX5_writeLine_2 ?_
  intro ν1 hν1
  have hM := hν1
  have hS0 : LnM ν1 [] := ⟨by rw [hM, up_self]; rfl, fun k x hx => by simp at hx⟩
  have hF0 : FrX ν ν1 := ⟨fun a g1 _ _ _ => by rw [hM, up_rowf g1], fun j _ g2 => by rw [hM, up_at g2]⟩
  have hN1 : NmM ν1 i (N i) := hN.same (by rw [hM, up_rowf (by omega)]) (by rw [hM, up_rowf (by omega)])
  have hK1 : KdM ν1 kd := by unfold KdM; rw [hM, up_rowf (by omega)]; exact x3
  have hL1 : LtM ν1 := by unfold LtM; rw [hM, up_rowf (by omega)]; exact x4
  refine j_iconst hJ dX5_writeLine_5 ?_
  refine j_istore_n hJ (lv' := [(2, .int (zI 0)), (0, .ref (b 0)), (1, .int (zI (i : Int)))]) rfl (by decide) rfl dX5_writeLine_6 ?_
  refine j_iconst hJ dX5_writeLine_7 ?_
  refine j_istore_n hJ (lv' := [(3, .int (zI 0)), (2, .int (zI 0)), (0, .ref (b 0)), (1, .int (zI (i : Int)))]) rfl (by decide) rfl dX5_writeLine_8 ?_
  have lp9 : ∀ (nn9 : Nat) (mv : Int) (k : Nat) (hmeas9 : (N i).length - k < nn9) (hk : k ≤ (N i).length) (hmv : mv = ((filK kd 2 ((N i).take k)).length : Nat)), J (gw 14 MSh cy b ν1 ++ E) 0 0 9 [(0, .ref (b 0)), (1, .int (zI (i : Int))), (2, .int (zI mv)), (3, .int (zI (k : Int)))] [] := by
    intro nn9
    induction nn9 with
    | zero => intro mv k hmeas9 hk hmv; omega
    | succ nn9 ih9 =>
      intro mv k hmeas9 hk hmv
      refine j_iload_n hJ (j := 3) rfl rfl dX5_writeLine_9 ?_
      refine j_aload_n hJ (j := 0) rfl rfl dX5_writeLine_10 ?_
      refine w_getr hJ (by omega) rfl rfl f_X5_19 dX5_writeLine_11 ?_
      refine j_iload_n hJ (j := 1) rfl rfl dX5_writeLine_14 ?_
      refine w_iald hJ (by omega) rfl (by first | decide | omega) (by omega) (by omega) dX5_writeLine_15 ?_
      refine j_topi (y := zI ((N i).length : Int)) (by rw [hN1.1]) ?_
      refine j_icmp_ge hJ (tgt := 52) ⟨by omega, by omega⟩ ⟨by omega, by omega⟩ (by decide) dX5_writeLine_16 ?_ ?_
      · intro h16
        obtain rfl : k = (N i).length := by omega
        rw [List.take_length] at hmv
        have hmr : (filK kd 2 (N i)).length ≤ (N i).length := List.length_filter_le _ _
        have j120 : ∀ (νr : Nat → Int → Int) (hSr : LnM νr T2) (hTr : TrM νr (trk (p i) (m i))) (hFr : FrX ν νr), J (gw 14 MSh cy b νr ++ E) 0 0 120 [(0, .ref (b 0)), (1, .int (zI (i : Int)))] [] := by
          intro νr hSr hTr hFr
          refine j_iconst hJ dX5_writeLine_120 ?_
          refine j_istore hJ (lv' := [(4, .int (zI 0)), (0, .ref (b 0)), (1, .int (zI (i : Int)))]) (by decide) rfl dX5_writeLine_121 ?_
          have lp123 : ∀ (nn123 : Nat) (νk : Nat → Int → Int) (k : Nat) (hmeas123 : 144 - k < nn123) (hk : k ≤ 144) (hSk : LnM νk (F k)) (hTk : TrM νk (trk (p i) (m i))) (hFk : FrX ν νk), J (gw 14 MSh cy b νk ++ E) 0 0 123 [(0, .ref (b 0)), (1, .int (zI (i : Int))), (4, .int (zI (k : Int)))] [] := by
            intro nn123
            induction nn123 with
            | zero => intro νk k hmeas123 hk hSk hTk hFk; omega
            | succ nn123 ih123 =>
              intro νk k hmeas123 hk hSk hTk hFk
              refine j_iload hJ (j := 2) rfl dX5_writeLine_123 ?_
              refine j_sipush hJ (v := 144) (by decide) dX5_writeLine_125 ?_
              refine j_icmp_ge hJ (tgt := 231) ⟨by omega, by omega⟩ ⟨by omega, by omega⟩ (by decide) dX5_writeLine_128 ?_ ?_
              · intro h128
                obtain rfl : k = 144 := by omega
                rw [FN] at hSk
                refine j_vret hJ rfl rfl (Nat.le_of_ble_eq_true rfl) (Nat.le_of_ble_eq_true rfl) dX5_writeLine_231 ⟨νk, rfl, rfl, ?_⟩
                exact ⟨hSk, hFk⟩
              · intro h128
                have hk2 : k < 144 := by omega
                have nE := Fe (144 - (k + 1)) (k + 1) (by omega)
                refine j_aload_n hJ (j := 0) rfl rfl dX5_writeLine_131 ?_
                refine j_iload hJ (j := 2) rfl dX5_writeLine_132 ?_
                refine j_callV0 hJ (c_X5_beginsRun hfl hTk (x := (k : Int)) ⟨by omega, by omega⟩) m_X5_125 k_X5_beginsRun (q0 := 0) (by rw [gw_get (by decide)]; rfl) rfl ⟨(Nat.le_of_ble_eq_true rfl), (Nat.le_of_ble_eq_true rfl)⟩ ⟨(Nat.le_of_ble_eq_true rfl), (Nat.le_of_ble_eq_true rfl)⟩ (Nat.le_of_ble_eq_true rfl) dX5_writeLine_134 rfl ?_
                intro v1 u2 hv3
                obtain ⟨q134, rfl, rfl, h134⟩ := hv3
                show J (gw 14 MSh cy b νk ++ E) 0 0 137 [(0, .ref (b 0)), (1, .int (zI (i : Int))), (4, .int (zI (k : Int)))] [.int (zI q134)]
                refine j_if_eq hJ (tgt := 225) ⟨by omega, by omega⟩ (by decide) dX5_writeLine_137 ?_ ?_
                · intro h137
                  have hbg : ¬ bgT (trk (p i) (m i)) (k : Int) = true := by
                    rw [bgT_iff]
                    rcases h134 with g | g
                    · omega
                    · exact g.2
                  refine j_iinc hJ (lv' := [(4, .int (zI ((k : Int) + 1))), (0, .ref (b 0)), (1, .int (zI (i : Int)))]) (j := 2) rfl (by omega) (by decide) rfl dX5_writeLine_225 ?_
                  refine j_goto hJ (tgt := 123) (by decide) dX5_writeLine_228 ?_
                  refine j_locs hJ [1, 2, 0] rfl ?_
                  refine ih123 νk (k + 1) (by omega) (by omega) ?_ (by first | exact hT7 | exact hTk) (by first | exact hF7 | exact hFk)
                  · first
                    | exact hS7
                    | (rw [Fn k hbg]; exact hSk)
                · intro h137
                  have hbg : bgT (trk (p i) (m i)) (k : Int) = true := by
                    rw [bgT_iff]
                    rcases h134 with g | g
                    · exact g.2
                    · omega
                  have j172 : ∀ (e : Int) (he : endT (trk (p i) (m i)) 11 (k : Int) = e) (he2 : (k : Int) ≤ e ∧ e ≤ k + 11 ∧ e / 12 = (k : Int) / 12), J (gw 14 MSh cy b νk ++ E) 0 0 172 [(0, .ref (b 0)), (1, .int (zI (i : Int))), (4, .int (zI (k : Int))), (5, .int (zI e))] [] := by
                    intro e he he2
                    have hFy : F (k + 1) = F k ++ runX ((k : Int) / 12) ((k : Int) % 12) (e % 12) := by
                      rw [Fy k hbg]; unfold runT; rw [he]
                    obtain ⟨U1, hU1⟩ : ∃ U1, U1 = F k ++ [32] := ⟨_, rfl⟩
                    obtain ⟨U2, hU2⟩ : ∃ U2, U2 = U1 ++ [65 + (k : Int) / 12] := ⟨_, rfl⟩
                    obtain ⟨U3, hU3⟩ : ∃ U3, U3 = U2 ++ numT ((k : Int) % 12 + 1) := ⟨_, rfl⟩
                    obtain ⟨U4, hU4⟩ : ∃ U4, U4 = U3 ++ [45] := ⟨_, rfl⟩
                    obtain ⟨U5, hU5⟩ : ∃ U5, U5 = U4 ++ numT (e % 12 + 1) := ⟨_, rfl⟩
                    have hG : F (k + 1) = if (k : Int) % 12 < e % 12 then U5 else U3 := by
                      rw [hFy, hU5, hU4, hU3, hU2, hU1]; unfold runX
                      split <;> simp
                    have u1 : U1.length ≤ U2.length := by rw [hU2, List.length_append]; omega
                    have u2 : U2.length ≤ U3.length := by rw [hU3, List.length_append]; omega
                    have u3 : U3.length ≤ U4.length := by rw [hU4, List.length_append]; omega
                    have u4 : U4.length ≤ U5.length := by rw [hU5, List.length_append]; omega
                    have u5 : U3.length ≤ (F (k + 1)).length := by rw [hG]; split <;> omega
                    refine j_aload_n hJ (j := 0) rfl rfl dX5_writeLine_172 ?_
                    refine j_bipush hJ (v := 32) (by decide) dX5_writeLine_173 ?_
                    refine j_callV0 hJ (c_X5_sign hfl hSk hU1 (by omega)) m_X5_118 k_X5_sign (q0 := 0) (by rw [gw_get (by decide)]; rfl) rfl ⟨(Nat.le_of_ble_eq_true rfl), (Nat.le_of_ble_eq_true rfl)⟩ ⟨(Nat.le_of_ble_eq_true rfl), (Nat.le_of_ble_eq_true rfl)⟩ (Nat.le_of_ble_eq_true rfl) dX5_writeLine_175 rfl ?_
                    intro v4 u5 hv6
                    obtain ⟨ν2, rfl, rfl, S175⟩ := hv6
                    show J (gw 14 MSh cy b ν2 ++ E) 0 0 178 [(0, .ref (b 0)), (1, .int (zI (i : Int))), (4, .int (zI (k : Int))), (5, .int (zI e))] []
                    refine j_aload_n hJ (j := 0) rfl rfl dX5_writeLine_178 ?_
                    refine j_bipush hJ (v := 65) (by decide) dX5_writeLine_179 ?_
                    refine j_iload hJ (j := 2) rfl dX5_writeLine_181 ?_
                    refine j_bipush hJ (v := 12) (by decide) dX5_writeLine_183 ?_
                    refine j_idiv hJ (by omega) (by omega) (by omega) (by omega) dX5_writeLine_185 ?_
                    refine j_iadd hJ dX5_writeLine_186 ?_
                    refine j_callV0 hJ (c_X5_sign hfl S175.1 hU2 (by omega)) m_X5_118 k_X5_sign (q0 := 0) (by rw [gw_get (by decide)]; rfl) rfl ⟨(Nat.le_of_ble_eq_true rfl), (Nat.le_of_ble_eq_true rfl)⟩ ⟨(Nat.le_of_ble_eq_true rfl), (Nat.le_of_ble_eq_true rfl)⟩ (Nat.le_of_ble_eq_true rfl) dX5_writeLine_187 rfl ?_
                    intro v7 u8 hv9
                    obtain ⟨ν3, rfl, rfl, S187⟩ := hv9
                    show J (gw 14 MSh cy b ν3 ++ E) 0 0 190 [(0, .ref (b 0)), (1, .int (zI (i : Int))), (4, .int (zI (k : Int))), (5, .int (zI e))] []
                    refine j_aload_n hJ (j := 0) rfl rfl dX5_writeLine_190 ?_
                    refine j_iload hJ (j := 2) rfl dX5_writeLine_191 ?_
                    refine j_bipush hJ (v := 12) (by decide) dX5_writeLine_193 ?_
                    refine j_irem hJ (by omega) (by omega) (by omega) (by omega) dX5_writeLine_195 ?_
                    refine j_iconst hJ dX5_writeLine_196 ?_
                    refine j_iadd hJ dX5_writeLine_197 ?_
                    refine j_callV0 hJ (c_X5_number hfl S187.1 (by omega) hU3 (by omega)) m_X5_128 k_X5_number (q0 := 0) (by rw [gw_get (by decide)]; rfl) rfl ⟨(Nat.le_of_ble_eq_true rfl), (Nat.le_of_ble_eq_true rfl)⟩ ⟨(Nat.le_of_ble_eq_true rfl), (Nat.le_of_ble_eq_true rfl)⟩ (Nat.le_of_ble_eq_true rfl) dX5_writeLine_198 rfl ?_
                    intro v10 u11 hv12
                    obtain ⟨ν4, rfl, rfl, S198⟩ := hv12
                    show J (gw 14 MSh cy b ν4 ++ E) 0 0 201 [(0, .ref (b 0)), (1, .int (zI (i : Int))), (4, .int (zI (k : Int))), (5, .int (zI e))] []
                    have hG3 := S175.2.tr (S187.2.tr S198.2)
                    refine j_iload hJ (j := 3) rfl dX5_writeLine_201 ?_
                    refine j_iload hJ (j := 2) rfl dX5_writeLine_203 ?_
                    refine j_icmp_le hJ (tgt := 225) ⟨by omega, by omega⟩ ⟨by omega, by omega⟩ (by decide) dX5_writeLine_205 ?_ ?_
                    · intro h205
                      rw [if_neg (by omega)] at hG
                      have hS7 := S198.1
                      rw [← hG] at hS7
                      have hT7 := hTk.ofL hG3
                      have hF7 := hFk.tr hG3.X
                      refine j_iinc hJ (lv' := [(4, .int (zI ((k : Int) + 1))), (0, .ref (b 0)), (1, .int (zI (i : Int))), (5, .int (zI e))]) (j := 2) rfl (by omega) (by decide) rfl dX5_writeLine_225 ?_
                      refine j_goto hJ (tgt := 123) (by decide) dX5_writeLine_228 ?_
                      refine j_locs hJ [1, 2, 0] rfl ?_
                      refine ih123 ν4 (k + 1) (by omega) (by omega) ?_ (by first | exact hT7 | exact hTk) (by first | exact hF7 | exact hFk)
                      · first
                        | exact hS7
                        | (rw [Fn k hbg]; exact hSk)
                    · intro h205
                      rw [if_pos (by omega)] at hG
                      have u6 : U5.length ≤ (F (k + 1)).length := by rw [hG]; exact Nat.le_refl _
                      refine j_aload_n hJ (j := 0) rfl rfl dX5_writeLine_208 ?_
                      refine j_bipush hJ (v := 45) (by decide) dX5_writeLine_209 ?_
                      refine j_callV0 hJ (c_X5_sign hfl S198.1 hU4 (by omega)) m_X5_118 k_X5_sign (q0 := 0) (by rw [gw_get (by decide)]; rfl) rfl ⟨(Nat.le_of_ble_eq_true rfl), (Nat.le_of_ble_eq_true rfl)⟩ ⟨(Nat.le_of_ble_eq_true rfl), (Nat.le_of_ble_eq_true rfl)⟩ (Nat.le_of_ble_eq_true rfl) dX5_writeLine_211 rfl ?_
                      intro v13 u14 hv15
                      obtain ⟨ν5, rfl, rfl, S211⟩ := hv15
                      show J (gw 14 MSh cy b ν5 ++ E) 0 0 214 [(0, .ref (b 0)), (1, .int (zI (i : Int))), (4, .int (zI (k : Int))), (5, .int (zI e))] []
                      refine j_aload_n hJ (j := 0) rfl rfl dX5_writeLine_214 ?_
                      refine j_iload hJ (j := 3) rfl dX5_writeLine_215 ?_
                      refine j_bipush hJ (v := 12) (by decide) dX5_writeLine_217 ?_
                      refine j_irem hJ (by omega) (by omega) (by omega) (by omega) dX5_writeLine_219 ?_
                      refine j_iconst hJ dX5_writeLine_220 ?_
                      refine j_iadd hJ dX5_writeLine_221 ?_
                      refine j_callV0 hJ (c_X5_number hfl S211.1 (by omega) hU5 (by omega)) m_X5_128 k_X5_number (q0 := 0) (by rw [gw_get (by decide)]; rfl) rfl ⟨(Nat.le_of_ble_eq_true rfl), (Nat.le_of_ble_eq_true rfl)⟩ ⟨(Nat.le_of_ble_eq_true rfl), (Nat.le_of_ble_eq_true rfl)⟩ (Nat.le_of_ble_eq_true rfl) dX5_writeLine_222 rfl ?_
                      intro v16 u17 hv18
                      obtain ⟨ν6, rfl, rfl, S222⟩ := hv18
                      show J (gw 14 MSh cy b ν6 ++ E) 0 0 225 [(0, .ref (b 0)), (1, .int (zI (i : Int))), (4, .int (zI (k : Int))), (5, .int (zI e))] []
                      have hG5 := hG3.tr (S211.2.tr S222.2)
                      have hS7 := S222.1
                      rw [← hG] at hS7
                      have hT7 := hTk.ofL hG5
                      have hF7 := hFk.tr hG5.X
                      refine j_iinc hJ (lv' := [(4, .int (zI ((k : Int) + 1))), (0, .ref (b 0)), (1, .int (zI (i : Int))), (5, .int (zI e))]) (j := 2) rfl (by omega) (by decide) rfl dX5_writeLine_225 ?_
                      refine j_goto hJ (tgt := 123) (by decide) dX5_writeLine_228 ?_
                      refine j_locs hJ [1, 2, 0] rfl ?_
                      refine ih123 ν6 (k + 1) (by omega) (by omega) ?_ (by first | exact hT7 | exact hTk) (by first | exact hF7 | exact hFk)
                      · first
                        | exact hS7
                        | (rw [Fn k hbg]; exact hSk)
                  refine j_iload hJ (j := 2) rfl dX5_writeLine_140 ?_
                  refine j_istore hJ (lv' := [(5, .int (zI (k : Int))), (0, .ref (b 0)), (1, .int (zI (i : Int))), (4, .int (zI (k : Int)))]) (by decide) rfl dX5_writeLine_142 ?_
                  have lp144 : ∀ (nn144 : Nat) (e : Int) (hmeas144 : (144 - e).toNat < nn144) (he1 : (k : Int) ≤ e ∧ e ≤ k + 11 ∧ e / 12 = (k : Int) / 12) (he3 : ∀ j, (k : Int) < j → j ≤ e → j ∈ trk (p i) (m i)), J (gw 14 MSh cy b νk ++ E) 0 0 144 [(0, .ref (b 0)), (1, .int (zI (i : Int))), (4, .int (zI (k : Int))), (5, .int (zI e))] [] := by
                    intro nn144
                    induction nn144 with
                    | zero => intro e hmeas144 he1 he3; omega
                    | succ nn144 ih144 =>
                      intro e hmeas144 he1 he3
                      refine j_iload hJ (j := 3) rfl dX5_writeLine_144 ?_
                      refine j_bipush hJ (v := 12) (by decide) dX5_writeLine_146 ?_
                      refine j_irem hJ (by omega) (by omega) (by omega) (by omega) dX5_writeLine_148 ?_
                      refine j_bipush hJ (v := 11) (by decide) dX5_writeLine_149 ?_
                      refine j_icmp_ge hJ (tgt := 172) ⟨by omega, by omega⟩ ⟨by omega, by omega⟩ (by decide) dX5_writeLine_151 ?_ ?_
                      · intro h151
                        have hend : endT (trk (p i) (m i)) 11 (k : Int) = e := by
                          exact endT_uniq 11 (k : Int) e (by omega) (by omega) (by omega) he3 (fun g => by omega)
                        exact j172 e (by exact hend) (by exact he1)
                      · intro h151
                        have hon := hTk.2.2 (e + 1) (by omega) (by omega)
                        refine j_aload_n hJ (j := 0) rfl rfl dX5_writeLine_154 ?_
                        refine w_getr hJ (by omega) rfl rfl f_X5_35 dX5_writeLine_155 ?_
                        refine j_iload hJ (j := 3) rfl dX5_writeLine_158 ?_
                        refine j_iconst hJ dX5_writeLine_160 ?_
                        refine j_iadd hJ dX5_writeLine_161 ?_
                        refine w_zald hJ (by omega) rfl (by first | decide | omega) (by omega) (by omega) dX5_writeLine_162 ?_
                        refine j_if_eq hJ (tgt := 172) ⟨by omega, by omega⟩ (by decide) dX5_writeLine_163 ?_ ?_
                        · intro h163
                          have hend : endT (trk (p i) (m i)) 11 (k : Int) = e := by
                            exact endT_uniq 11 (k : Int) e (by omega) (by omega) (by omega) he3 (fun g => by
                              rcases hon with g5 | g5
                              · omega
                              · exact g5.2 g.2)
                          exact j172 e (by exact hend) (by exact he1)
                        · intro h163
                          refine j_iinc hJ (lv' := [(5, .int (zI (e + 1))), (0, .ref (b 0)), (1, .int (zI (i : Int))), (4, .int (zI (k : Int)))]) (j := 3) rfl (by omega) (by decide) rfl dX5_writeLine_166 ?_
                          refine j_goto hJ (tgt := 144) (by decide) dX5_writeLine_169 ?_
                          refine j_locs hJ [1, 2, 3, 0] rfl ?_
                          refine ih144 (e + 1) (by omega) (by omega) ?_
                          · intro j g1 g2
                            by_cases g : j ≤ e
                            · exact he3 j g1 g
                            · rw [show j = e + 1 by omega]
                              rcases hon with g5 | g5
                              · exact g5.2
                              · omega
                  refine j_locs hJ [1, 2, 3, 0] rfl ?_
                  exact lp144 ((144 - (k : Int)).toNat + 1) (k : Int) (by omega) (by omega) (by intro j g1 g2; omega)
          refine j_locs hJ [1, 2, 0] rfl ?_
          exact lp123 (144 - 0 + 1) νr 0 (by omega) (by omega) (by rw [F0]; exact hSr) (by exact hTr) (by exact hFr)
        have j102 : ∀ (νq : Nat → Int → Int) (hS1 : LnM νq T1) (hFq : FrX ν νq), J (gw 14 MSh cy b νq ++ E) 0 0 102 [(0, .ref (b 0)), (1, .int (zI (i : Int)))] [] := by
          intro νq hS1 hFq
          have hP2 := (hX.scratch hFq.M).2.2.2.2.2.2.1 i (by omega)
          refine j_aload_n hJ (j := 0) rfl rfl dX5_writeLine_102 ?_
          refine j_iload_n hJ (j := 1) rfl rfl dX5_writeLine_103 ?_
          refine j_callV0 hJ (c_X5_tracks hfl (by omega) hP2) m_X5_86 k_X5_tracks (q0 := 0) (by rw [gw_get (by decide)]; rfl) rfl ⟨(Nat.le_of_ble_eq_true rfl), (Nat.le_of_ble_eq_true rfl)⟩ ⟨(Nat.le_of_ble_eq_true rfl), (Nat.le_of_ble_eq_true rfl)⟩ (Nat.le_of_ble_eq_true rfl) dX5_writeLine_104 rfl ?_
          intro v19 u20 hv21
          obtain ⟨ν7, rfl, rfl, S104⟩ := hv21
          show J (gw 14 MSh cy b ν7 ++ E) 0 0 107 [(0, .ref (b 0)), (1, .int (zI (i : Int)))] []
          refine j_aload_n hJ (j := 0) rfl rfl dX5_writeLine_107 ?_
          refine w_geti hJ (fi := 9) rfl (by omega) rfl rfl f_X5_80 dX5_writeLine_108 ?_
          refine j_topi (y := zI ((trk (p i) (m i)).length : Int)) (by rw [S104.1.1]) ?_
          refine j_if_le hJ (tgt := 120) ⟨by omega, by omega⟩ (by decide) dX5_writeLine_111 ?_ ?_
          · intro h111
            rw [if_neg (by omega), List.append_nil] at hT2
            have hS9 := hS1.ofD S104.2
            rw [← hT2] at hS9
            have hT9 := S104.1
            have hF9 := hFq.tr S104.2.X
            exact j120 ν7 (by exact hS9) (by exact hT9) (by exact hF9)
          · intro h111
            rw [if_pos (by omega)] at hT2
            refine j_aload_n hJ (j := 0) rfl rfl dX5_writeLine_114 ?_
            refine j_bipush hJ (v := 58) (by decide) dX5_writeLine_115 ?_
            refine j_callV0 hJ (c_X5_sign hfl (hS1.ofD S104.2) hT2 (by omega)) m_X5_118 k_X5_sign (q0 := 0) (by rw [gw_get (by decide)]; rfl) rfl ⟨(Nat.le_of_ble_eq_true rfl), (Nat.le_of_ble_eq_true rfl)⟩ ⟨(Nat.le_of_ble_eq_true rfl), (Nat.le_of_ble_eq_true rfl)⟩ (Nat.le_of_ble_eq_true rfl) dX5_writeLine_117 rfl ?_
            intro v22 u23 hv24
            obtain ⟨ν8, rfl, rfl, S117⟩ := hv24
            show J (gw 14 MSh cy b ν8 ++ E) 0 0 120 [(0, .ref (b 0)), (1, .int (zI (i : Int)))] []
            have hS9 := S117.1
            have hT9 := S104.1.ofL S117.2
            have hF9 := hFq.tr (S104.2.X.tr S117.2.X)
            exact j120 ν8 (by exact hS9) (by exact hT9) (by exact hF9)
        have j71 : ∀ (al : Int) (hal : (al = 1 ∧ (mv = 0 ∨ mv = (N i).length)) ∨ (al = 0 ∧ ¬ (mv = 0 ∨ mv = (N i).length))), J (gw 14 MSh cy b ν1 ++ E) 0 0 71 [(0, .ref (b 0)), (1, .int (zI (i : Int)))] [.int (zI al)] := by
          intro al hal
          have hal01 : al = 0 ∨ al = 1 := by omega
          obtain ⟨Ta, hTa⟩ : ∃ Ta, Ta = [] ++ joinT (selA al kd 0 (N i)) := ⟨_, rfl⟩
          have hTa1 : al = 1 → Ta = T1 := fun g => by rw [hTa, g, selA_1, List.nil_append, hT1, nameT_all (by omega)]
          have hTa0 : al = 0 → T1 = Ta ++ ([44, 32] ++ joinT (selK kd 1 (N i))) := fun g => by rw [hTa, g, selA_0, List.nil_append, hT1, nameT_some (by omega) (by omega)]
          have nTa : Ta.length ≤ T1.length := by
            rcases hal01 with g | g
            · rw [hTa0 g, List.length_append]; omega
            · rw [hTa1 g]; exact Nat.le_refl _
          refine j_istore_n hJ (lv' := [(3, .int (zI al)), (0, .ref (b 0)), (1, .int (zI (i : Int)))]) rfl (by decide) rfl dX5_writeLine_71 ?_
          refine j_aload_n hJ (j := 1) rfl rfl dX5_writeLine_72 ?_
          refine j_iload_n hJ (j := 2) rfl rfl dX5_writeLine_73 ?_
          refine j_iconst hJ dX5_writeLine_74 ?_
          refine j_iload_n hJ (j := 0) rfl rfl dX5_writeLine_75 ?_
          refine j_callV0 hJ (c_X5_writes hfl (by omega) hN1 hK1 hL1 hS0 (Or.inl rfl) hal01 hTa (by omega)) m_X5_121 k_X5_writes (q0 := 0) (by rw [gw_get (by decide)]; rfl) rfl ⟨(Nat.le_of_ble_eq_true rfl), (Nat.le_of_ble_eq_true rfl)⟩ ⟨(Nat.le_of_ble_eq_true rfl), (Nat.le_of_ble_eq_true rfl)⟩ (Nat.le_of_ble_eq_true rfl) dX5_writeLine_76 rfl ?_
          intro v25 u26 hv27
          obtain ⟨ν9, rfl, rfl, S76⟩ := hv27
          show J (gw 14 MSh cy b ν9 ++ E) 0 0 79 [(3, .int (zI al)), (0, .ref (b 0)), (1, .int (zI (i : Int)))] []
          refine j_iload_n hJ (j := 0) rfl rfl dX5_writeLine_79 ?_
          refine j_if_ne hJ (tgt := 102) ⟨by omega, by omega⟩ (by decide) dX5_writeLine_80 ?_ ?_
          · intro h80
            have hS8 : LnM ν9 T1 := by rw [← hTa1 (by omega)]; exact S76.1
            have hF8 : FrX ν ν9 := hF0.tr S76.2.X
            refine j_locs hJ [1, 2] rfl ?_
            exact j102 ν9 (by exact hS8) (by exact hF8)
          · intro h80
            have hT0 := hTa0 (by omega)
            obtain ⟨Tb, hTb⟩ : ∃ Tb, Tb = Ta ++ [44] := ⟨_, rfl⟩
            obtain ⟨Tc, hTc⟩ : ∃ Tc, Tc = Tb ++ [32] := ⟨_, rfl⟩
            have hT3 : T1 = Tc ++ joinT (selA 0 kd 1 (N i)) := by rw [hT0, hTc, hTb, selA_0]; simp
            have nc : Tc.length ≤ T1.length := by rw [hT3, List.length_append]; omega
            have nb : Tb.length ≤ Tc.length := by rw [hTc, List.length_append]; omega
            refine j_aload_n hJ (j := 1) rfl rfl dX5_writeLine_83 ?_
            refine j_bipush hJ (v := 44) (by decide) dX5_writeLine_84 ?_
            refine j_callV0 hJ (c_X5_sign hfl S76.1 hTb (by omega)) m_X5_118 k_X5_sign (q0 := 0) (by rw [gw_get (by decide)]; rfl) rfl ⟨(Nat.le_of_ble_eq_true rfl), (Nat.le_of_ble_eq_true rfl)⟩ ⟨(Nat.le_of_ble_eq_true rfl), (Nat.le_of_ble_eq_true rfl)⟩ (Nat.le_of_ble_eq_true rfl) dX5_writeLine_86 rfl ?_
            intro v28 u29 hv30
            obtain ⟨ν10, rfl, rfl, S86⟩ := hv30
            show J (gw 14 MSh cy b ν10 ++ E) 0 0 89 [(3, .int (zI al)), (0, .ref (b 0)), (1, .int (zI (i : Int)))] []
            refine j_aload_n hJ (j := 1) rfl rfl dX5_writeLine_89 ?_
            refine j_bipush hJ (v := 32) (by decide) dX5_writeLine_90 ?_
            refine j_callV0 hJ (c_X5_sign hfl S86.1 hTc (by omega)) m_X5_118 k_X5_sign (q0 := 0) (by rw [gw_get (by decide)]; rfl) rfl ⟨(Nat.le_of_ble_eq_true rfl), (Nat.le_of_ble_eq_true rfl)⟩ ⟨(Nat.le_of_ble_eq_true rfl), (Nat.le_of_ble_eq_true rfl)⟩ (Nat.le_of_ble_eq_true rfl) dX5_writeLine_92 rfl ?_
            intro v31 u32 hv33
            obtain ⟨ν11, rfl, rfl, S92⟩ := hv33
            show J (gw 14 MSh cy b ν11 ++ E) 0 0 95 [(3, .int (zI al)), (0, .ref (b 0)), (1, .int (zI (i : Int)))] []
            have hG := S76.2.tr (S86.2.tr S92.2)
            refine j_aload_n hJ (j := 1) rfl rfl dX5_writeLine_95 ?_
            refine j_iload_n hJ (j := 2) rfl rfl dX5_writeLine_96 ?_
            refine j_iconst hJ dX5_writeLine_97 ?_
            refine j_iconst hJ dX5_writeLine_98 ?_
            refine j_callV0 hJ (c_X5_writes hfl (by omega) (hN1.ofL hG) (hK1.ofL hG) (hL1.ofL hG) S92.1 (Or.inr rfl) (Or.inl rfl) hT3 (by omega)) m_X5_121 k_X5_writes (q0 := 0) (by rw [gw_get (by decide)]; rfl) rfl ⟨(Nat.le_of_ble_eq_true rfl), (Nat.le_of_ble_eq_true rfl)⟩ ⟨(Nat.le_of_ble_eq_true rfl), (Nat.le_of_ble_eq_true rfl)⟩ (Nat.le_of_ble_eq_true rfl) dX5_writeLine_99 rfl ?_
            intro v34 u35 hv36
            obtain ⟨ν12, rfl, rfl, S99⟩ := hv36
            show J (gw 14 MSh cy b ν12 ++ E) 0 0 102 [(3, .int (zI al)), (0, .ref (b 0)), (1, .int (zI (i : Int)))] []
            have hS8 := S99.1
            have hF8 := hF0.tr (hG.tr S99.2).X
            refine j_locs hJ [1, 2] rfl ?_
            exact j102 ν12 (by exact hS8) (by exact hF8)
        refine j_iload_n hJ (j := 2) rfl rfl dX5_writeLine_52 ?_
        refine j_if_eq hJ (tgt := 66) ⟨by omega, by omega⟩ (by decide) dX5_writeLine_53 ?_ ?_
        · intro h53
          refine j_iconst hJ dX5_writeLine_66 ?_
          refine j_goto hJ (tgt := 71) (by decide) dX5_writeLine_67 ?_
          refine j_locs hJ [0, 1] rfl ?_
          exact j71 1 (by omega)
        · intro h53
          refine j_iload_n hJ (j := 2) rfl rfl dX5_writeLine_56 ?_
          refine j_aload_n hJ (j := 0) rfl rfl dX5_writeLine_57 ?_
          refine w_getr hJ (by omega) rfl rfl f_X5_19 dX5_writeLine_58 ?_
          refine j_iload_n hJ (j := 1) rfl rfl dX5_writeLine_61 ?_
          refine w_iald hJ (by omega) rfl (by first | decide | omega) (by omega) (by omega) dX5_writeLine_62 ?_
          refine j_topi (y := zI ((N i).length : Int)) (by rw [hN1.1]) ?_
          refine j_icmp_ne hJ (tgt := 70) ⟨by omega, by omega⟩ ⟨by omega, by omega⟩ (by decide) dX5_writeLine_63 ?_ ?_
          · intro h63
            refine j_iconst hJ dX5_writeLine_70 ?_
            refine j_locs hJ [0, 1] rfl ?_
            exact j71 0 (by omega)
          · intro h63
            refine j_iconst hJ dX5_writeLine_66 ?_
            refine j_goto hJ (tgt := 71) (by decide) dX5_writeLine_67 ?_
            refine j_locs hJ [0, 1] rfl ?_
            exact j71 1 (by omega)
      · intro h16
        have hk2 : k < (N i).length := by omega
        obtain ⟨x, hx⟩ : ∃ x, (N i)[k]? = some x := ⟨_, List.getElem?_eq_getElem hk2⟩
        have hxr := h5 x (List.mem_of_getElem? hx)
        have hkx := hK1 x hxr.1 hxr.2
        have hmr : (filK kd 2 ((N i).take k)).length ≤ k := Nat.le_trans (List.length_filter_le _ _) (by rw [List.length_take]; omega)
        refine j_iload_n hJ (j := 2) rfl rfl dX5_writeLine_19 ?_
        refine j_aload_n hJ (j := 0) rfl rfl dX5_writeLine_20 ?_
        refine w_getr hJ (by omega) rfl rfl f_X5_13 dX5_writeLine_21 ?_
        refine j_aload_n hJ (j := 0) rfl rfl dX5_writeLine_24 ?_
        refine w_getr hJ (by omega) rfl rfl f_X5_16 dX5_writeLine_25 ?_
        refine j_iconst hJ dX5_writeLine_28 ?_
        refine j_iload_n hJ (j := 1) rfl rfl dX5_writeLine_29 ?_
        refine j_imul hJ dX5_writeLine_30 ?_
        refine j_iload_n hJ (j := 3) rfl rfl dX5_writeLine_31 ?_
        refine j_iadd hJ dX5_writeLine_32 ?_
        refine w_iald hJ (by omega) rfl (by first | decide | omega) (by omega) (by omega) dX5_writeLine_33 ?_
        refine j_topi (y := zI x) (by rw [hN1.2.2.2.1 k x hx]) ?_
        refine w_iald hJ (by omega) rfl (by first | decide | omega) (by omega) (by omega) dX5_writeLine_34 ?_
        refine j_topi (y := zI (kd x)) (by rw [hkx.1]) ?_
        refine j_iconst hJ dX5_writeLine_35 ?_
        refine j_icmp_ne hJ (tgt := 43) ⟨by omega, by omega⟩ ⟨by omega, by omega⟩ (by decide) dX5_writeLine_36 ?_ ?_
        · intro h36
          refine j_iconst hJ dX5_writeLine_43 ?_
          refine j_iadd hJ dX5_writeLine_44 ?_
          refine j_istore_n hJ (lv' := [(2, .int (zI (mv + 0))), (0, .ref (b 0)), (1, .int (zI (i : Int))), (3, .int (zI (k : Int)))]) rfl (by decide) rfl dX5_writeLine_45 ?_
          refine j_iinc hJ (lv' := [(3, .int (zI ((k : Int) + 1))), (2, .int (zI (mv + 0))), (0, .ref (b 0)), (1, .int (zI (i : Int)))]) (j := 3) rfl (by omega) (by decide) rfl dX5_writeLine_46 ?_
          refine j_goto hJ (tgt := 9) (by decide) dX5_writeLine_49 ?_
          refine j_locs hJ [2, 3, 1, 0] rfl ?_
          refine ih9 (mv + 0) (k + 1) (by omega) (by omega) ?_
          · rw [filK_step hx]
            first
            | (rw [if_pos h36, List.length_append, hmv]; rfl)
            | (rw [if_neg h36, List.append_nil, hmv]; omega)
        · intro h36
          refine j_iconst hJ dX5_writeLine_39 ?_
          refine j_goto hJ (tgt := 44) (by decide) dX5_writeLine_40 ?_
          refine j_iadd hJ dX5_writeLine_44 ?_
          refine j_istore_n hJ (lv' := [(2, .int (zI (mv + 1))), (0, .ref (b 0)), (1, .int (zI (i : Int))), (3, .int (zI (k : Int)))]) rfl (by decide) rfl dX5_writeLine_45 ?_
          refine j_iinc hJ (lv' := [(3, .int (zI ((k : Int) + 1))), (2, .int (zI (mv + 1))), (0, .ref (b 0)), (1, .int (zI (i : Int)))]) (j := 3) rfl (by omega) (by decide) rfl dX5_writeLine_46 ?_
          refine j_goto hJ (tgt := 9) (by decide) dX5_writeLine_49 ?_
          refine j_locs hJ [2, 3, 1, 0] rfl ?_
          refine ih9 (mv + 1) (k + 1) (by omega) (by omega) ?_
          · rw [filK_step hx]
            first
            | (rw [if_pos h36, List.length_append, hmv]; rfl)
            | (rw [if_neg h36, List.append_nil, hmv]; omega)
  refine j_locs hJ [2, 3, 1, 0] rfl ?_
  exact lp9 ((N i).length - 0 + 1) 0 0 (by omega) (by omega) (by simp [filK])
set_option maxHeartbeats 4000000 in
set_option maxRecDepth 100000 in
theorem c_X5_lineLength {ν : Nat → Int → Int} {kd : Int → Int} {n : Nat} {N : Nat → List Int} {ow : Nat → Int} {m : Nat → Nat} {p : Nat → Nat → Int} {s : Int} (hfl : l.stackTraces = false) (hX : MI ν kd n N ow m p) (hsR : -2147483648 ≤ s ∧ s < 2147483648) : CT l D cy n0 ad yX5_lineLength (.code yX5_lineLength cX5_lineLength 2 (some .int)) ({ frames := 3, cells := 0, slots := 0, locals := 73 }) [.ref (b 0), .int (zI s)] (gw 14 MSh cy b ν ++ E) (fun vv uu => ∃ q μ', vv = some (.int (zI q)) ∧ uu = (gw 14 MSh cy b μ' ++ E) ∧ ((StOK n s ∧ μ' 0 16 = 0 ∧ q = ((lineT kd (N s.toNat) (trk (p s.toNat) (m s.toNat))).length : Nat) ∧ MI μ' kd n N ow m p) ∨ (μ' 0 16 = 1 ∧ ¬ StOK n s ∧ MI μ' kd n N ow m p))) := by
  obtain ⟨x1, x2, x3, x4, x5, x6, x7, x8⟩ := id hX
  refine CT.walk hfl (by decide) (Nat.le_of_ble_eq_true rfl) ?_
  intro A J hJ
  show J (gw 14 MSh cy b ν ++ E) 0 0 0 [(0, .ref (b 0)), (1, .int (zI s))] []
  refine j_aload_n hJ (j := 0) rfl rfl dX5_lineLength_0 ?_
  refine j_aload_n hJ (j := 0) rfl rfl dX5_lineLength_1 ?_
  refine j_iload_n hJ (j := 1) rfl rfl dX5_lineLength_2 ?_
  refine j_callV0 hJ (c_X5_isStreet hfl (n := n) hsR x1 x2) m_X5_97 k_X5_isStreet (q0 := 0) (by rw [gw_get (by decide)]; rfl) rfl ⟨(Nat.le_of_ble_eq_true rfl), (Nat.le_of_ble_eq_true rfl)⟩ ⟨(Nat.le_of_ble_eq_true rfl), (Nat.le_of_ble_eq_true rfl)⟩ (Nat.le_of_ble_eq_true rfl) dX5_lineLength_3 rfl ?_
  intro v1 u2 hv3
  obtain ⟨q3, rfl, rfl, h3⟩ := hv3
  show J (gw 14 MSh cy b ν ++ E) 0 0 6 [(0, .ref (b 0)), (1, .int (zI s))] [.int (zI q3), .ref (b 0)]
  have hq3 : q3 = 0 ∨ q3 = 1 := by omega
  refine j_iconst hJ dX5_lineLength_6 ?_
  refine j_iconst hJ dX5_lineLength_7 ?_
  refine j_callV0 hJ (c_X5_goes hfl hq3 (Or.inr rfl) (Or.inr rfl)) m_X5_104 k_X5_goes (q0 := 0) (by rw [gw_get (by decide)]; rfl) rfl ⟨(Nat.le_of_ble_eq_true rfl), (Nat.le_of_ble_eq_true rfl)⟩ ⟨(Nat.le_of_ble_eq_true rfl), (Nat.le_of_ble_eq_true rfl)⟩ (Nat.le_of_ble_eq_true rfl) dX5_lineLength_8 rfl ?_
  intro v4 u5 hv6
  obtain ⟨q8, ν1, rfl, rfl, h8⟩ := hv6
  show J (gw 14 MSh cy b ν1 ++ E) 0 0 11 [(0, .ref (b 0)), (1, .int (zI s))] [.int (zI q8)]
  obtain ⟨hM, hq8⟩ := h8
  have hS := hX.scratch (ν' := ν1) (by rw [hM]; exact FrM.last)
  have h11 : (1 : Int) = 0 ∨ (1 : Int) = 1 := Or.inr rfl
  have hq8' : (goC q3 1 1 = 0 ∧ q8 = 1) ∨ (goC q3 1 1 ≠ 0 ∧ q8 = 0) := by
    by_cases e : goC q3 1 1 = 0
    · rw [if_pos e] at hq8; exact Or.inl ⟨e, hq8⟩
    · rw [if_neg e] at hq8; exact Or.inr ⟨e, hq8⟩
  have hg := goC_c hq3 h11 h11
  refine j_if_ne hJ (tgt := 16) ⟨by omega, by omega⟩ (by decide) dX5_lineLength_11 ?_ ?_
  · intro h11
    have hs : StOK n s := h3.elim (fun g => g.2) (fun g => by exfalso; omega)
    obtain ⟨hs1, hs2⟩ := id hs
    have hP := hS.2.2.2.2.2.2.1 s.toNat (by omega)
    refine j_aload_n hJ (j := 0) rfl rfl dX5_lineLength_16 ?_
    refine j_iload_n hJ (j := 1) rfl rfl dX5_lineLength_17 ?_
    refine j_topi (y := zI (s.toNat : Int)) (by rw [Int.toNat_of_nonneg hs1]) ?_
    refine j_callV0 hJ (c_X5_writeLine hfl hS (i := s.toNat) (by omega)) m_X5_131 k_X5_writeLine (q0 := 0) (by rw [gw_get (by decide)]; rfl) rfl ⟨(Nat.le_of_ble_eq_true rfl), (Nat.le_of_ble_eq_true rfl)⟩ ⟨(Nat.le_of_ble_eq_true rfl), (Nat.le_of_ble_eq_true rfl)⟩ (Nat.le_of_ble_eq_true rfl) dX5_lineLength_18 rfl ?_
    intro v7 u8 hv9
    obtain ⟨ν2, rfl, rfl, h18⟩ := hv9
    show J (gw 14 MSh cy b ν2 ++ E) 0 0 21 [(0, .ref (b 0)), (1, .int (zI s))] []
    refine j_aload_n hJ (j := 0) rfl rfl dX5_lineLength_21 ?_
    refine w_geti hJ (fi := 14) rfl (by omega) rfl rfl f_X5_115 dX5_lineLength_22 ?_
    refine j_topi (y := zI ((lineT kd (N s.toNat) (trk (p s.toNat) (m s.toNat))).length : Int)) (by rw [h18.1.1]) ?_
    refine j_iret hJ rfl rfl (rfl) (Nat.le_of_ble_eq_true rfl) (Nat.le_of_ble_eq_true rfl) dX5_lineLength_25 ⟨((lineT kd (N s.toNat) (trk (p s.toNat) (m s.toNat))).length : Int), ν2, rfl, rfl, ?_⟩
    refine Or.inl ⟨hs, ?_, rfl, hS.scratch h18.2.M⟩
    rw [h18.2.2 16 (by omega) (by omega), hM, up_self]; omega
  · intro h11
    have hno : ¬ StOK n s := h3.elim (fun g => by exfalso; omega) (fun g => g.2)
    refine j_iconst hJ dX5_lineLength_14 ?_
    refine j_iret hJ rfl rfl (rfl) (Nat.le_of_ble_eq_true rfl) (Nat.le_of_ble_eq_true rfl) dX5_lineLength_15 ⟨0, ν1, rfl, rfl, ?_⟩
    refine Or.inr ⟨?_, hno, hS⟩
    rw [hM, up_self]; omega
set_option maxHeartbeats 4000000 in
set_option maxRecDepth 100000 in
theorem c_X5_lineChar {ν : Nat → Int → Int} {kd : Int → Int} {n : Nat} {N : Nat → List Int} {ow : Nat → Int} {m : Nat → Nat} {p : Nat → Nat → Int} {s k : Int} (hfl : l.stackTraces = false) (hX : MI ν kd n N ow m p) (hsR : -2147483648 ≤ s ∧ s < 2147483648) (hkR : -2147483648 ≤ k ∧ k < 2147483648) : CT l D cy n0 ad yX5_lineChar (.code yX5_lineChar cX5_lineChar 3 (some .char)) ({ frames := 3, cells := 0, slots := 0, locals := 73 }) [.ref (b 0), .int (zI s), .int (zI k)] (gw 14 MSh cy b ν ++ E) (fun vv uu => ∃ q μ', vv = some (.int (zI q)) ∧ uu = (gw 14 MSh cy b μ' ++ E) ∧ (((StOK n s ∧ 0 ≤ k ∧ k < ((lineT kd (N s.toNat) (trk (p s.toNat) (m s.toNat))).length : Nat)) ∧ μ' 0 16 = 0 ∧ (lineT kd (N s.toNat) (trk (p s.toNat) (m s.toNat)))[k.toNat]? = some q ∧ MI μ' kd n N ow m p) ∨ (μ' 0 16 = 1 ∧ ¬ (StOK n s ∧ 0 ≤ k ∧ k < ((lineT kd (N s.toNat) (trk (p s.toNat) (m s.toNat))).length : Nat)) ∧ MI μ' kd n N ow m p))) := by
  obtain ⟨x1, x2, x3, x4, x5, x6, x7, x8⟩ := id hX
  refine CT.walk hfl (by decide) (Nat.le_of_ble_eq_true rfl) ?_
  intro A J hJ
  show J (gw 14 MSh cy b ν ++ E) 0 0 0 [(0, .ref (b 0)), (1, .int (zI s)), (2, .int (zI k))] []
  refine j_aload_n hJ (j := 0) rfl rfl dX5_lineChar_0 ?_
  refine j_aload_n hJ (j := 0) rfl rfl dX5_lineChar_1 ?_
  refine j_iload_n hJ (j := 1) rfl rfl dX5_lineChar_2 ?_
  refine j_callV0 hJ (c_X5_isStreet hfl (n := n) hsR x1 x2) m_X5_97 k_X5_isStreet (q0 := 0) (by rw [gw_get (by decide)]; rfl) rfl ⟨(Nat.le_of_ble_eq_true rfl), (Nat.le_of_ble_eq_true rfl)⟩ ⟨(Nat.le_of_ble_eq_true rfl), (Nat.le_of_ble_eq_true rfl)⟩ (Nat.le_of_ble_eq_true rfl) dX5_lineChar_3 rfl ?_
  intro v1 u2 hv3
  obtain ⟨q3, rfl, rfl, h3⟩ := hv3
  show J (gw 14 MSh cy b ν ++ E) 0 0 6 [(0, .ref (b 0)), (1, .int (zI s)), (2, .int (zI k))] [.int (zI q3), .ref (b 0)]
  have hq3 : q3 = 0 ∨ q3 = 1 := by omega
  refine j_iconst hJ dX5_lineChar_6 ?_
  refine j_iconst hJ dX5_lineChar_7 ?_
  refine j_callV0 hJ (c_X5_goes hfl hq3 (Or.inr rfl) (Or.inr rfl)) m_X5_104 k_X5_goes (q0 := 0) (by rw [gw_get (by decide)]; rfl) rfl ⟨(Nat.le_of_ble_eq_true rfl), (Nat.le_of_ble_eq_true rfl)⟩ ⟨(Nat.le_of_ble_eq_true rfl), (Nat.le_of_ble_eq_true rfl)⟩ (Nat.le_of_ble_eq_true rfl) dX5_lineChar_8 rfl ?_
  intro v4 u5 hv6
  obtain ⟨q8, ν1, rfl, rfl, h8⟩ := hv6
  show J (gw 14 MSh cy b ν1 ++ E) 0 0 11 [(0, .ref (b 0)), (1, .int (zI s)), (2, .int (zI k))] [.int (zI q8)]
  obtain ⟨hM, hq8⟩ := h8
  have hS := hX.scratch (ν' := ν1) (by rw [hM]; exact FrM.last)
  have h11 : (1 : Int) = 0 ∨ (1 : Int) = 1 := Or.inr rfl
  have hq8' : (goC q3 1 1 = 0 ∧ q8 = 1) ∨ (goC q3 1 1 ≠ 0 ∧ q8 = 0) := by
    by_cases e : goC q3 1 1 = 0
    · rw [if_pos e] at hq8; exact Or.inl ⟨e, hq8⟩
    · rw [if_neg e] at hq8; exact Or.inr ⟨e, hq8⟩
  have hg := goC_c hq3 h11 h11
  refine j_if_ne hJ (tgt := 16) ⟨by omega, by omega⟩ (by decide) dX5_lineChar_11 ?_ ?_
  · intro h11
    have hs : StOK n s := h3.elim (fun g => g.2) (fun g => by exfalso; omega)
    obtain ⟨hs1, hs2⟩ := id hs
    have hP := hS.2.2.2.2.2.2.1 s.toNat (by omega)
    refine j_aload_n hJ (j := 0) rfl rfl dX5_lineChar_16 ?_
    refine j_iload_n hJ (j := 1) rfl rfl dX5_lineChar_17 ?_
    refine j_topi (y := zI (s.toNat : Int)) (by rw [Int.toNat_of_nonneg hs1]) ?_
    refine j_callV0 hJ (c_X5_writeLine hfl hS (i := s.toNat) (by omega)) m_X5_131 k_X5_writeLine (q0 := 0) (by rw [gw_get (by decide)]; rfl) rfl ⟨(Nat.le_of_ble_eq_true rfl), (Nat.le_of_ble_eq_true rfl)⟩ ⟨(Nat.le_of_ble_eq_true rfl), (Nat.le_of_ble_eq_true rfl)⟩ (Nat.le_of_ble_eq_true rfl) dX5_lineChar_18 rfl ?_
    intro v7 u8 hv9
    obtain ⟨ν2, rfl, rfl, h18⟩ := hv9
    show J (gw 14 MSh cy b ν2 ++ E) 0 0 21 [(0, .ref (b 0)), (1, .int (zI s)), (2, .int (zI k))] []
    have hll : (lineT kd (N s.toNat) (trk (p s.toNat) (m s.toNat))).length ≤ 600 := lineT_le (x5 s.toNat (by omega)).2.2.1
    have hlat : Lat (lineT kd (N s.toNat) (trk (p s.toNat) (m s.toNat))) := Lat.line (x5 s.toNat (by omega)).2.2.2.2
    refine j_aload_n hJ (j := 0) rfl rfl dX5_lineChar_21 ?_
    refine j_iload_n hJ (j := 2) rfl rfl dX5_lineChar_22 ?_
    refine j_iconst hJ dX5_lineChar_23 ?_
    refine j_aload_n hJ (j := 0) rfl rfl dX5_lineChar_24 ?_
    refine w_geti hJ (fi := 14) rfl (by omega) rfl rfl f_X5_115 dX5_lineChar_25 ?_
    refine j_topi (y := zI ((lineT kd (N s.toNat) (trk (p s.toNat) (m s.toNat))).length : Int)) (by rw [h18.1.1]) ?_
    refine j_iconst hJ dX5_lineChar_28 ?_
    refine j_isub hJ dX5_lineChar_29 ?_
    refine j_callS0 hJ (c_X5_in hfl hkR ⟨by omega, by omega⟩ ⟨by omega, by omega⟩) m_X5_61 k_X5_in ⟨(Nat.le_of_ble_eq_true rfl), (Nat.le_of_ble_eq_true rfl)⟩ ⟨(Nat.le_of_ble_eq_true rfl), (Nat.le_of_ble_eq_true rfl)⟩ (Nat.le_of_ble_eq_true rfl) dX5_lineChar_30 rfl ?_
    intro v10 u11 hv12
    obtain ⟨q30, rfl, rfl, h30⟩ := hv12
    show J (gw 14 MSh cy b ν2 ++ E) 0 0 33 [(0, .ref (b 0)), (1, .int (zI s)), (2, .int (zI k))] [.int (zI q30), .ref (b 0)]
    refine j_if_eq hJ (tgt := 40) ⟨by omega, by omega⟩ (by decide) dX5_lineChar_33 ?_ ?_
    · intro h33
      refine j_iconst hJ dX5_lineChar_40 ?_
      refine w_puti hJ (fi := 16) rfl (by omega) rfl rfl f_X5_54 rfl rfl dX5_lineChar_41 ?_
      intro ν3 hν3
      have hM3 := hν3
      refine j_aload_n hJ (j := 0) rfl rfl dX5_lineChar_44 ?_
      refine w_geti hJ (fi := 16) rfl (by omega) rfl rfl f_X5_54 dX5_lineChar_45 ?_
      refine j_topi (y := zI 1) (by rw [hM3, up_self]) ?_
      refine j_if_ne hJ (tgt := 61) ⟨by omega, by omega⟩ (by decide) dX5_lineChar_48 ?_ ?_
      · intro h48
        refine j_iconst hJ dX5_lineChar_61 ?_
        refine j_iret hJ rfl rfl (rfl) (Nat.le_of_ble_eq_true rfl) (Nat.le_of_ble_eq_true rfl) dX5_lineChar_62 ⟨0, ν3, rfl, rfl, ?_⟩
        refine Or.inr ⟨?_, fun g => ?_, ?_⟩
        · rw [hM3, up_self]
        · omega
        · rw [hM3]; exact (hS.scratch h18.2.M).scratch FrM.last
      · intro h48
        omega
    · intro h33
      refine j_iconst hJ dX5_lineChar_36 ?_
      refine j_goto hJ (tgt := 41) (by decide) dX5_lineChar_37 ?_
      refine w_puti hJ (fi := 16) rfl (by omega) rfl rfl f_X5_54 rfl rfl dX5_lineChar_41 ?_
      intro ν4 hν4
      have hM3 := hν4
      refine j_aload_n hJ (j := 0) rfl rfl dX5_lineChar_44 ?_
      refine w_geti hJ (fi := 16) rfl (by omega) rfl rfl f_X5_54 dX5_lineChar_45 ?_
      refine j_topi (y := zI 0) (by rw [hM3, up_self]) ?_
      refine j_if_ne hJ (tgt := 61) ⟨by omega, by omega⟩ (by decide) dX5_lineChar_48 ?_ ?_
      · intro h48
        omega
      · intro h48
        refine j_aload_n hJ (j := 0) rfl rfl dX5_lineChar_51 ?_
        refine w_getr hJ (by omega) rfl rfl f_X5_44 dX5_lineChar_52 ?_
        refine j_iload_n hJ (j := 2) rfl rfl dX5_lineChar_55 ?_
        have hk1 : k.toNat < (lineT kd (N s.toNat) (trk (p s.toNat) (m s.toNat))).length := by omega
        have hke := List.getElem?_eq_getElem hk1
        obtain ⟨z, hz⟩ : ∃ z, z = (lineT kd (N s.toNat) (trk (p s.toNat) (m s.toNat)))[k.toNat] := ⟨_, rfl⟩
        rw [← hz] at hke
        have hzr := hlat z (List.mem_of_getElem? hke)
        have hzl := h18.1.2 k.toNat z hke
        rw [Int.toNat_of_nonneg (by omega)] at hzl
        refine w_iald hJ (by omega) rfl (by first | decide | omega) (by omega) (by omega) dX5_lineChar_56 ?_
        refine j_topi (y := zI z) (by rw [hM3, up_row (by omega), hzl]) ?_
        refine j_i2c hJ (v := z) (i2cC hzr.1 hzr.2) dX5_lineChar_57 ?_
        refine j_goto hJ (tgt := 62) (by decide) dX5_lineChar_58 ?_
        refine j_iret hJ rfl rfl (narC hzr.1 hzr.2) (Nat.le_of_ble_eq_true rfl) (Nat.le_of_ble_eq_true rfl) dX5_lineChar_62 ⟨z, ν4, rfl, rfl, ?_⟩
        refine Or.inl ⟨⟨hs, by omega, by omega⟩, ?_, hke, ?_⟩
        · rw [hM3, up_self]
        · rw [hM3]; exact (hS.scratch h18.2.M).scratch FrM.last
  · intro h11
    have hno : ¬ StOK n s := h3.elim (fun g => by exfalso; omega) (fun g => g.2)
    refine j_iconst hJ dX5_lineChar_14 ?_
    refine j_iret hJ rfl rfl (rfl) (Nat.le_of_ble_eq_true rfl) (Nat.le_of_ble_eq_true rfl) dX5_lineChar_15 ⟨0, ν1, rfl, rfl, ?_⟩
    refine Or.inr ⟨?_, fun g => hno g.1, hS⟩
    rw [hM, up_self]; omega
end
