/-! the law: isLine -/
theorem ite01 {P : Prop} [Decidable P] {q : Int} (h : q = if P then 1 else 0) : (q = 1 ↔ P) ∧ (q = 0 ∨ q = 1) := by
  by_cases g : P
  · rw [if_pos g] at h; exact ⟨⟨fun _ => g, fun _ => h⟩, Or.inr h⟩
  · rw [if_neg g] at h; exact ⟨⟨fun e => absurd (h.symm.trans e) (by decide), fun e => absurd e g⟩, Or.inl h⟩
theorem PT_len {kd : Int → Int} {N L : List Int} (hN : 1 ≤ N.length ∧ N.length ≤ 4) {k : Nat} (hk : k ≤ 8) : (PT kd N k).length ≤ (lineT kd N L).length := by
  obtain ⟨R, hR⟩ := PT_pre (kd := kd) hN (8 - k) k (by omega)
  rw [PT_8 hN] at hR
  have := congrArg List.length hR
  rw [List.length_append] at this
  unfold lineT
  rw [List.length_append]
  omega
theorem pn_le {kd : Int → Int} {N : List Int} {k : Nat} (hN : N.length ≤ 4) : pn kd N k ≤ 8 := by
  unfold pn PA PB
  have h1 : ((N.take (min k 4)).filter (fun w => !ltb kd N w)).length ≤ N.length := Nat.le_trans (List.length_filter_le _ _) (by rw [List.length_take]; omega)
  have h2 : ((N.take (k - 4)).filter (fun w => ltb kd N w)).length ≤ N.length := Nat.le_trans (List.length_filter_le _ _) (by rw [List.length_take]; omega)
  omega
theorem bgc_nil : ∀ {k : Nat}, bgc [] k = 0
  | 0 => rfl
  | k + 1 => by
    have := bgc_nil (k := k)
    unfold bgc at *
    rw [cntN, this]
    simp [bgT]
theorem cnt_nil : ∀ {k : Nat}, cntN (fun j => decide ((j : Int) ∈ ([] : List Int))) k = 0
  | 0 => rfl
  | k + 1 => by rw [cntN, cnt_nil]; simp
theorem lAt_nil {kd : Int → Int} {N : List Int} {k : Nat} : lAt kd N [] k = (nameT kd N).length := by
  unfold lAt
  rw [if_pos bgc_nil, Nat.add_zero]
theorem lAt_le {kd : Int → Int} {N L : List Int} (hR : ∀ x ∈ L, 0 ≤ x ∧ x < 144) {k : Nat} (hk : k < 144) : lAt kd N L k ≤ (lineT kd N L).length := by
  unfold lAt lineT
  rw [List.length_append, List.length_append]
  obtain ⟨R, hR9⟩ := runsT_pre (L := L) (n := 144) (k := k) (by omega)
  have := congrArg List.length hR9
  rw [List.length_append] at this
  by_cases g : bgc L k = 0
  · rw [if_pos g]; omega
  · rw [if_neg g]
    have hL : 0 < L.length := by
      rcases Nat.eq_zero_or_pos L.length with q | q
      · rw [List.length_eq_zero_iff.mp q, bgc_nil] at g; exact absurd rfl g
      · exact q
    rw [if_pos hL]
    simp; omega
theorem bgc_cnt {L : List Int} : bgc L 144 = cntN (fun k => decide ((k : Int) ∈ L) && (k % 12 == 0 || !decide ((k : Int) - 1 ∈ L))) 144 := by
  unfold bgc
  refine cntN_congr fun k _ => ?_
  unfold bgT
  congr 2
  rw [Bool.eq_iff_iff, decide_eq_true_eq, beq_iff_eq]
  omega
set_option maxRecDepth 20000 in
theorem mx_L_54 : MX RL 54 0 yX4_runs 1 := ⟨(List.mem_of_getElem? (i := 795) (by decide +kernel)), (List.mem_of_getElem? (i := 40) (by decide +kernel)), ⟨by decide +kernel, by decide +kernel⟩, by decide +kernel, fun _ => ⟨(List.mem_of_getElem? (i := 796) (by decide +kernel)), (List.mem_of_getElem? (i := 797) (by decide +kernel))⟩, fun h => by omega⟩
set_option maxRecDepth 20000 in
theorem k_X4_runs : Cond.code yX4_runs cX4_runs 2 (some .int) ∈ GT := (List.mem_of_getElem? (i := 798) (by decide +kernel))
set_option maxRecDepth 20000 in
theorem mx_L_57 : MX RL 57 0 yX4_squares 1 := ⟨(List.mem_of_getElem? (i := 809) (by decide +kernel)), (List.mem_of_getElem? (i := 40) (by decide +kernel)), ⟨by decide +kernel, by decide +kernel⟩, by decide +kernel, fun _ => ⟨(List.mem_of_getElem? (i := 810) (by decide +kernel)), (List.mem_of_getElem? (i := 811) (by decide +kernel))⟩, fun h => by omega⟩
set_option maxRecDepth 20000 in
theorem k_X4_squares : Cond.code yX4_squares cX4_squares 2 (some .int) ∈ GT := (List.mem_of_getElem? (i := 812) (by decide +kernel))
set_option maxRecDepth 20000 in
theorem m_L_51 : MF RL 51 1 yL_number 4 := ⟨Or.inl (List.mem_of_getElem? (i := 792) (by decide +kernel)), (List.mem_of_getElem? (i := 39) (by decide +kernel)), ⟨by decide +kernel, by decide +kernel⟩, by decide +kernel, fun h => by omega, fun _ => (List.mem_of_getElem? (i := 793) (by decide +kernel)), fun h => by omega⟩
set_option maxRecDepth 20000 in
theorem k_L_number : Cond.code yL_number cL_number 5 (some .int) ∈ GT := (List.mem_of_getElem? (i := 794) (by decide +kernel))
set_option maxRecDepth 20000 in
theorem m_L_44 : MF RL 44 1 yL_word 4 := ⟨Or.inl (List.mem_of_getElem? (i := 783) (by decide +kernel)), (List.mem_of_getElem? (i := 39) (by decide +kernel)), ⟨by decide +kernel, by decide +kernel⟩, by decide +kernel, fun h => by omega, fun _ => (List.mem_of_getElem? (i := 784) (by decide +kernel)), fun h => by omega⟩
set_option maxRecDepth 20000 in
theorem k_L_word : Cond.code yL_word cL_word 6 (some .int) ∈ GT := (List.mem_of_getElem? (i := 785) (by decide +kernel))
section
variable {l : Launch} {D : va_G} {cy : Nat → ClassId} {n0 : Nat} {ad : Nat → Nat} {b ba : Nat → Nat} {E : va_W} {ws : va_W}
set_option maxHeartbeats 4000000 in
set_option maxRecDepth 100000 in
theorem c_L_isLine {μ ν : Nat → Int → Int} {n : Nat} {N : Nat → List Int} {ow : Nat → Int} {m : Nat → Nat} {p : Nat → Nat → Int} {i : Nat} (hfl : l.stackTraces = false) (hX : XI μ n N ow m p) (hn : n ≤ 5) (hi : i < n) (hK : AK ν (μ 1)) (hA : AWr ν) (hN : ANm ν i (N i)) (hP : APt ν i (p i) (m i)) (hl0 : (lineT (μ 1) (N i) (trk (p i) (m i))).length ≤ 142) : CT l D cy n0 ad yL_isLine (.code yL_isLine cL_isLine 14 (some .boolean)) ({ frames := 12, cells := 1900, slots := 79000, locals := 277 }) [.ref (b 0), .ref (ba 0), .ref (ba 1), .ref (ba 2), .int (zI (i : Int))] (gw 105 XSh cy b μ ++ (gw 3 ASh cy ba ν ++ E)) (fun vv uu => ∃ q, vv = some (.int (zI q)) ∧ uu = (gw 105 XSh cy b μ ++ (gw 3 ASh cy ba ν ++ E)) ∧ (q = 1)) := by
  obtain ⟨n1, n2, n3, n4, n5⟩ := id hN
  obtain ⟨p1, p2, p3, p4⟩ := id hP
  obtain ⟨x1, x2, -⟩ := id hX
  obtain ⟨L, hL⟩ : ∃ L, L = trk (p i) (m i) := ⟨_, rfl⟩
  have hLr : ∀ x ∈ L, 0 ≤ x ∧ x < 144 := by rw [hL]; exact trk_rng p4
  have hLl := trk_len p4
  rw [← hL] at hLl
  obtain ⟨T, hT⟩ : ∃ T, T = lineT (μ 1) (N i) L := ⟨_, rfl⟩
  have hTe : lineT (μ 1) (N i) (trk (p i) (m i)) = T := by rw [hT, hL]
  have hl : T.length ≤ 142 := by rw [← hTe]; exact hl0
  have hst : StOK n (i : Int) := ⟨by omega, by omega⟩
  have hmv4 := mvc_le (μ 1) (N i)
  have hle := line_end (kd := μ 1) (N := N i) hLr
  refine CT.walk hfl (by decide) (Nat.le_of_ble_eq_true rfl) ?_
  intro A J hJ
  show J (gw 105 XSh cy b μ ++ (gw 3 ASh cy ba ν ++ E)) 0 0 0 [(0, .ref (b 0)), (1, .ref (ba 0)), (2, .ref (ba 1)), (3, .ref (ba 2)), (4, .int (zI (i : Int)))] []
  refine j_iconst hJ dL_isLine_0 ?_
  refine j_istore hJ (lv' := [(5, .int (zI 0)), (0, .ref (b 0)), (1, .ref (ba 0)), (2, .ref (ba 1)), (3, .ref (ba 2)), (4, .int (zI (i : Int)))]) (by decide) rfl dL_isLine_1 ?_
  refine j_aload_n hJ (j := 3) rfl rfl dL_isLine_3 ?_
  refine j_iconst hJ dL_isLine_4 ?_
  refine j_iload hJ (j := 5) rfl dL_isLine_5 ?_
  refine j_imul hJ dL_isLine_7 ?_
  refine w2_iald hJ (by decide) rfl (by decide) (by omega) (by omega) dL_isLine_8 ?_
  refine j_topi (y := zI ((N i).length : Int)) (by rw [n1]) ?_
  refine j_istore hJ (lv' := [(6, .int (zI ((N i).length : Int))), (5, .int (zI 0)), (0, .ref (b 0)), (1, .ref (ba 0)), (2, .ref (ba 1)), (3, .ref (ba 2)), (4, .int (zI (i : Int)))]) (by decide) rfl dL_isLine_9 ?_
  refine j_iconst hJ dL_isLine_11 ?_
  refine j_istore hJ (lv' := [(7, .int (zI 0)), (6, .int (zI ((N i).length : Int))), (5, .int (zI 0)), (0, .ref (b 0)), (1, .ref (ba 0)), (2, .ref (ba 1)), (3, .ref (ba 2)), (4, .int (zI (i : Int)))]) (by decide) rfl dL_isLine_12 ?_
  have lp14 : ∀ (nn14 : Nat) (mv : Int) (k : Nat) (hmeas14 : (N i).length + 1 - k < nn14) (hk : k ≤ (N i).length) (hmv : mv = ((filK (μ 1) 2 ((N i).take k)).length : Nat)), J (gw 105 XSh cy b μ ++ (gw 3 ASh cy ba ν ++ E)) 0 0 14 [(0, .ref (b 0)), (1, .ref (ba 0)), (2, .ref (ba 1)), (3, .ref (ba 2)), (4, .int (zI (i : Int))), (5, .int (zI mv)), (6, .int (zI ((N i).length : Int))), (7, .int (zI (k : Int)))] [] := by
    intro nn14
    induction nn14 with
    | zero => intro mv k hmeas14 hk hmv; omega
    | succ nn14 ih14 =>
      intro mv k hmeas14 hk hmv
      refine j_iload hJ (j := 7) rfl dL_isLine_14 ?_
      refine j_iload hJ (j := 6) rfl dL_isLine_16 ?_
      refine j_icmp_ge hJ (tgt := 54) ⟨by omega, by omega⟩ ⟨by omega, by omega⟩ (by decide) dL_isLine_18 ?_ ?_
      · intro h18
        have hke : k = (N i).length := by omega
        rw [hke, List.take_length] at hmv
        have hmvc : mv = ((mvc (μ 1) (N i) : Nat) : Int) := hmv
        have ha0 : (PT (μ 1) (N i) 0).length = 0 := by rw [PA_0.1]; rfl
        refine j_iconst hJ dL_isLine_54 ?_
        refine j_istore hJ (lv' := [(7, .int (zI 0)), (0, .ref (b 0)), (1, .ref (ba 0)), (2, .ref (ba 1)), (3, .ref (ba 2)), (4, .int (zI (i : Int))), (5, .int (zI mv)), (6, .int (zI ((N i).length : Int)))]) (by decide) rfl dL_isLine_55 ?_
        refine j_iconst hJ dL_isLine_57 ?_
        refine j_istore hJ (lv' := [(8, .int (zI 0)), (7, .int (zI 0)), (0, .ref (b 0)), (1, .ref (ba 0)), (2, .ref (ba 1)), (3, .ref (ba 2)), (4, .int (zI (i : Int))), (5, .int (zI mv)), (6, .int (zI ((N i).length : Int)))]) (by decide) rfl dL_isLine_58 ?_
        refine j_iconst hJ dL_isLine_60 ?_
        refine j_istore hJ (lv' := [(9, .int (zI 0)), (8, .int (zI 0)), (7, .int (zI 0)), (0, .ref (b 0)), (1, .ref (ba 0)), (2, .ref (ba 1)), (3, .ref (ba 2)), (4, .int (zI (i : Int))), (5, .int (zI mv)), (6, .int (zI ((N i).length : Int)))]) (by decide) rfl dL_isLine_61 ?_
        have lp63 : ∀ (nn63 : Nat) (a : Nat) (pv : Nat) (k : Nat) (hmeas63 : 9 - k < nn63) (hk : k ≤ 8) (ha : a = (PT (μ 1) (N i) k).length) (hpv : pv = pn (μ 1) (N i) k), J (gw 105 XSh cy b μ ++ (gw 3 ASh cy ba ν ++ E)) (13 * a) (550 * a) 63 [(0, .ref (b 0)), (1, .ref (ba 0)), (2, .ref (ba 1)), (3, .ref (ba 2)), (4, .int (zI (i : Int))), (5, .int (zI mv)), (6, .int (zI ((N i).length : Int))), (7, .int (zI (a : Int))), (8, .int (zI (pv : Int))), (9, .int (zI (k : Int)))] [] := by
          intro nn63
          induction nn63 with
          | zero => intro a pv k hmeas63 hk ha hpv; omega
          | succ nn63 ih63 =>
            intro a pv k hmeas63 hk ha hpv
            refine j_iload hJ (j := 9) rfl dL_isLine_63 ?_
            refine j_bipush hJ (v := 8) (by decide) dL_isLine_65 ?_
            refine j_icmp_ge hJ (tgt := 211) ⟨by omega, by omega⟩ ⟨by omega, by omega⟩ (by decide) dL_isLine_67 ?_ ?_
            · intro h67
              have hk8 : k = 8 := by omega
              rw [hk8, PT_8 ⟨n2, n3⟩] at ha
              refine j_iconst hJ dL_isLine_211 ?_
              refine j_istore hJ (lv' := [(9, .int (zI 0)), (0, .ref (b 0)), (1, .ref (ba 0)), (2, .ref (ba 1)), (3, .ref (ba 2)), (4, .int (zI (i : Int))), (5, .int (zI mv)), (6, .int (zI ((N i).length : Int))), (7, .int (zI (a : Int))), (8, .int (zI (pv : Int)))]) (by decide) rfl dL_isLine_212 ?_
              refine j_iconst hJ dL_isLine_214 ?_
              refine j_istore hJ (lv' := [(10, .int (zI 0)), (9, .int (zI 0)), (0, .ref (b 0)), (1, .ref (ba 0)), (2, .ref (ba 1)), (3, .ref (ba 2)), (4, .int (zI (i : Int))), (5, .int (zI mv)), (6, .int (zI ((N i).length : Int))), (7, .int (zI (a : Int))), (8, .int (zI (pv : Int)))]) (by decide) rfl dL_isLine_215 ?_
              refine j_iconst hJ dL_isLine_217 ?_
              refine j_istore hJ (lv' := [(11, .int (zI 0)), (10, .int (zI 0)), (9, .int (zI 0)), (0, .ref (b 0)), (1, .ref (ba 0)), (2, .ref (ba 1)), (3, .ref (ba 2)), (4, .int (zI (i : Int))), (5, .int (zI mv)), (6, .int (zI ((N i).length : Int))), (7, .int (zI (a : Int))), (8, .int (zI (pv : Int)))]) (by decide) rfl dL_isLine_218 ?_
              have lp220 : ∀ (nn220 : Nat) (a : Nat) (rn : Nat) (sq : Nat) (k : Nat) (hmeas220 : 145 - k < nn220) (hk : k ≤ 144) (ha : a = lAt (μ 1) (N i) L k) (hrn : rn = bgc L k) (hsq : sq = cntN (fun j => decide ((j : Int) ∈ L)) k), J (gw 105 XSh cy b μ ++ (gw 3 ASh cy ba ν ++ E)) (13 * a) (550 * a) 220 [(0, .ref (b 0)), (1, .ref (ba 0)), (2, .ref (ba 1)), (3, .ref (ba 2)), (4, .int (zI (i : Int))), (7, .int (zI (a : Int))), (9, .int (zI (rn : Int))), (10, .int (zI (sq : Int))), (11, .int (zI (k : Int)))] [] := by
                intro nn220
                induction nn220 with
                | zero => intro a rn sq k hmeas220 hk ha hrn hsq; omega
                | succ nn220 ih220 =>
                  intro a rn sq k hmeas220 hk ha hrn hsq
                  refine j_iload hJ (j := 8) rfl dL_isLine_220 ?_
                  have j433 : ∀ (a : Nat) (rn : Nat) (sq : Nat) (ha : a = T.length) (hrn : rn = bgc L 144) (hsq : sq = cntN (fun j => decide ((j : Int) ∈ L)) 144), J (gw 105 XSh cy b μ ++ (gw 3 ASh cy ba ν ++ E)) (13 * a) (550 * a) 433 [(0, .ref (b 0)), (1, .ref (ba 0)), (2, .ref (ba 1)), (3, .ref (ba 2)), (4, .int (zI (i : Int))), (7, .int (zI (a : Int))), (9, .int (zI (rn : Int))), (10, .int (zI (sq : Int)))] [] := by
                    intro a rn sq ha hrn hsq
                    have hcl9 : cntN (fun j => decide ((j : Int) ∈ L)) 144 ≤ 144 := cntN_le _ _
                    have hbl9 : bgc L 144 ≤ 144 := cntN_le _ _
                    refine j_iload hJ (j := 5) rfl dL_isLine_433 ?_
                    refine j_aload_n hJ (j := 0) rfl rfl dL_isLine_435 ?_
                    refine j_iload hJ (j := 4) rfl dL_isLine_436 ?_
                    refine j_callVX0 hJ (c_X4_lineLength_s hfl hX ⟨by omega, by omega⟩ (by rw [Int.toNat_natCast, hTe]; exact hl)) mx_L_27 k_X4_lineLength (q0 := 0) (by rw [gw_get (by decide)]; rfl) rfl ⟨(Nat.le_of_ble_eq_true rfl), (Nat.le_of_ble_eq_true rfl)⟩ ⟨by dsimp only; omega, by dsimp only; omega⟩ (Nat.le_of_ble_eq_true rfl) dL_isLine_438 (by rintro q u ⟨_, _, ⟨_, h⟩, _⟩; exact h hst) rfl ?_
                    intro v1 u2 hv3
                    obtain ⟨q438, rfl, rfl, h438⟩ := hv3
                    show J (gw 105 XSh cy b μ ++ (gw 3 ASh cy ba ν ++ E)) _ _ 441 [(0, .ref (b 0)), (1, .ref (ba 0)), (2, .ref (ba 1)), (3, .ref (ba 2)), (4, .int (zI (i : Int))), (7, .int (zI (a : Int))), (9, .int (zI (rn : Int))), (10, .int (zI (sq : Int)))] [.int (zI q438), .int (zI (a : Int))]
                    have e438 := h438.2
                    rw [Int.toNat_natCast, hTe] at e438
                    refine j_icmp_ne hJ (tgt := 470) ⟨by omega, by omega⟩ ⟨by omega, by omega⟩ (by decide) dL_isLine_441 ?_ ?_
                    · intro h441
                      exfalso; omega
                    · intro h441
                      refine j_aload_n hJ (j := 0) rfl rfl dL_isLine_444 ?_
                      refine j_iload hJ (j := 4) rfl dL_isLine_445 ?_
                      refine j_callVX0 hJ (c_X4_runs hfl hX ⟨by omega, by omega⟩) mx_L_54 k_X4_runs (q0 := 0) (by rw [gw_get (by decide)]; rfl) rfl ⟨(Nat.le_of_ble_eq_true rfl), (Nat.le_of_ble_eq_true rfl)⟩ ⟨by dsimp only; omega, by dsimp only; omega⟩ (Nat.le_of_ble_eq_true rfl) dL_isLine_447 (by rintro q u ⟨_, _, ⟨_, h⟩, _⟩; exact h hst) rfl ?_
                      intro v4 u5 hv6
                      obtain ⟨q447, rfl, rfl, h447⟩ := hv6
                      show J (gw 105 XSh cy b μ ++ (gw 3 ASh cy ba ν ++ E)) _ _ 450 [(0, .ref (b 0)), (1, .ref (ba 0)), (2, .ref (ba 1)), (3, .ref (ba 2)), (4, .int (zI (i : Int))), (7, .int (zI (a : Int))), (9, .int (zI (rn : Int))), (10, .int (zI (sq : Int)))] [.int (zI q447)]
                      have e447 := h447.2
                      rw [Int.toNat_natCast, ← hL, ← bgc_cnt] at e447
                      refine j_iload hJ (j := 6) rfl dL_isLine_450 ?_
                      refine j_icmp_ne hJ (tgt := 470) ⟨by omega, by omega⟩ ⟨by omega, by omega⟩ (by decide) dL_isLine_452 ?_ ?_
                      · intro h452
                        exfalso; omega
                      · intro h452
                        refine j_aload_n hJ (j := 0) rfl rfl dL_isLine_455 ?_
                        refine j_iload hJ (j := 4) rfl dL_isLine_456 ?_
                        refine j_callVX0 hJ (c_X4_squares hfl hX ⟨by omega, by omega⟩) mx_L_57 k_X4_squares (q0 := 0) (by rw [gw_get (by decide)]; rfl) rfl ⟨(Nat.le_of_ble_eq_true rfl), (Nat.le_of_ble_eq_true rfl)⟩ ⟨by dsimp only; omega, by dsimp only; omega⟩ (Nat.le_of_ble_eq_true rfl) dL_isLine_458 (by rintro q u ⟨_, _, ⟨_, h⟩, _⟩; exact h hst) rfl ?_
                        intro v7 u8 hv9
                        obtain ⟨q458, rfl, rfl, h458⟩ := hv9
                        show J (gw 105 XSh cy b μ ++ (gw 3 ASh cy ba ν ++ E)) _ _ 461 [(0, .ref (b 0)), (1, .ref (ba 0)), (2, .ref (ba 1)), (3, .ref (ba 2)), (4, .int (zI (i : Int))), (7, .int (zI (a : Int))), (9, .int (zI (rn : Int))), (10, .int (zI (sq : Int)))] [.int (zI q458)]
                        have e458 := h458.2
                        rw [Int.toNat_natCast, ← hL] at e458
                        refine j_iload hJ (j := 7) rfl dL_isLine_461 ?_
                        refine j_icmp_ne hJ (tgt := 470) ⟨by omega, by omega⟩ ⟨by omega, by omega⟩ (by decide) dL_isLine_463 ?_ ?_
                        · intro h463
                          exfalso; omega
                        · intro h463
                          refine j_iconst hJ dL_isLine_466 ?_
                          refine j_goto hJ (tgt := 471) (by decide) dL_isLine_467 ?_
                          refine j_iret hJ rfl rfl (rfl) (by dsimp only; omega) (by dsimp only; omega) dL_isLine_471 ⟨1, rfl, rfl, ?_⟩
                          rfl
                  refine j_sipush hJ (v := 144) (by decide) dL_isLine_222 ?_
                  refine j_icmp_ge hJ (tgt := 433) ⟨by omega, by omega⟩ ⟨by omega, by omega⟩ (by decide) dL_isLine_225 ?_ ?_
                  · intro h225
                    have hk4 : k = 144 := by omega
                    rw [hk4] at ha hrn hsq
                    have hLe : (L = [] → lAt (μ 1) (N i) L 144 = (nameT (μ 1) (N i)).length) := fun g => by rw [g]; exact lAt_nil
                    refine j_locs hJ [0, 1, 2, 3, 4, 5, 6, 7] rfl ?_
                    refine j_widen hJ (ce' := 13 * a) (sl' := 550 * a) (by (try dsimp only); omega) (by (try dsimp only); omega) ?_
                    refine j433 a rn sq ?_ (by first | exact hrn | (rw [hrn, hL0, bgc_nil]; done)) (by first | exact hsq | (rw [hsq, hL0, cnt_nil]; done))
                    · first
                      | (rw [ha, hT]; exact hle.2 hL0)
                      | (rw [ha, hT]
                         rcases Nat.eq_zero_or_pos L.length with g | g
                         · have g := List.length_eq_zero_iff.mp g; rw [hLe g, hle.2 g]
                         · exact hle.1 g)
                  · intro h225
                    have hk4 : k < 144 := by omega
                    have hcl : cntN (fun j => decide ((j : Int) ∈ L)) k ≤ k := cntN_le _ _
                    have hbl : bgc L k ≤ k := cntN_le _ _
                    have hal : a ≤ T.length := by rw [ha, hT]; exact lAt_le hLr hk4
                    refine j_aload_n hJ (j := 3) rfl rfl dL_isLine_228 ?_
                    refine j_bipush hJ (v := 7) (by decide) dL_isLine_229 ?_
                    refine j_iload hJ (j := 4) rfl dL_isLine_231 ?_
                    refine j_imul hJ dL_isLine_233 ?_
                    refine w2_iald hJ (by decide) rfl (by decide) (by omega) (by omega) dL_isLine_234 ?_
                    refine j_topi (y := zI (m i : Int)) (by rw [p1]) ?_
                    refine j_if_le hJ (tgt := 433) ⟨by omega, by omega⟩ (by decide) dL_isLine_235 ?_ ?_
                    · intro h235
                      have hm0 : m i = 0 := by omega
                      have hL0 : L = [] := List.length_eq_zero_iff.mp (hLl.2.1 hm0)
                      rw [hL0] at ha hrn hsq
                      rw [lAt_nil] at ha
                      rw [bgc_nil] at hrn
                      rw [cnt_nil] at hsq
                      refine j_locs hJ [0, 1, 2, 3, 4, 5, 6, 7] rfl ?_
                      refine j_widen hJ (ce' := 13 * a) (sl' := 550 * a) (by (try dsimp only); omega) (by (try dsimp only); omega) ?_
                      refine j433 a rn sq ?_ (by first | exact hrn | (rw [hrn, hL0, bgc_nil]; done)) (by first | exact hsq | (rw [hsq, hL0, cnt_nil]; done))
                      · first
                        | (rw [ha, hT]; exact hle.2 hL0)
                        | (rw [ha, hT]
                           rcases Nat.eq_zero_or_pos L.length with g | g
                           · have g := List.length_eq_zero_iff.mp g; rw [hLe g, hle.2 g]
                           · exact hle.1 g)
                    · intro h235
                      have hL1 : 0 < L.length := hLl.2.2 (by omega)
                      refine j_aload_n hJ (j := 3) rfl rfl dL_isLine_238 ?_
                      refine j_iload hJ (j := 4) rfl dL_isLine_239 ?_
                      refine j_iload hJ (j := 8) rfl dL_isLine_241 ?_
                      refine j_perm hJ (perm3 _ _ _) ?_
                      show J (gw 3 ASh cy ba ν ++ (gw 105 XSh cy b μ ++ E)) (13 * a) (550 * a) 243 [(0, .ref (b 0)), (1, .ref (ba 0)), (2, .ref (ba 1)), (3, .ref (ba 2)), (4, .int (zI (i : Int))), (7, .int (zI (a : Int))), (9, .int (zI (rn : Int))), (10, .int (zI (sq : Int))), (11, .int (zI (k : Int)))] [.int (zI (k : Int)), .int (zI (i : Int)), .ref (ba 2)]
                      refine j_callS0 hJ (c_L_isOn hfl (by omega) hP ⟨by omega, by omega⟩) m_L_47 k_L_isOn ⟨(Nat.le_of_ble_eq_true rfl), (Nat.le_of_ble_eq_true rfl)⟩ ⟨by dsimp only; omega, by dsimp only; omega⟩ (Nat.le_of_ble_eq_true rfl) dL_isLine_243 rfl ?_
                      intro v10 u11 hv12
                      obtain ⟨on, rfl, rfl, hon⟩ := hv12
                      show J (gw 3 ASh cy ba ν ++ (gw 105 XSh cy b μ ++ E)) _ _ 246 [(0, .ref (b 0)), (1, .ref (ba 0)), (2, .ref (ba 1)), (3, .ref (ba 2)), (4, .int (zI (i : Int))), (7, .int (zI (a : Int))), (9, .int (zI (rn : Int))), (10, .int (zI (sq : Int))), (11, .int (zI (k : Int)))] [.int (zI on)]
                      refine j_perm hJ (perm3 _ _ _) ?_
                      show J (gw 105 XSh cy b μ ++ (gw 3 ASh cy ba ν ++ E)) _ _ 246 [(0, .ref (b 0)), (1, .ref (ba 0)), (2, .ref (ba 1)), (3, .ref (ba 2)), (4, .int (zI (i : Int))), (7, .int (zI (a : Int))), (9, .int (zI (rn : Int))), (10, .int (zI (sq : Int))), (11, .int (zI (k : Int)))] [.int (zI on)]
                      rw [← hL] at hon
                      obtain ⟨hon2, hon1⟩ := ite01 hon
                      obtain ⟨sq1, hsq1⟩ : ∃ sq1, sq1 = cntN (fun j => decide ((j : Int) ∈ L)) (k + 1) := ⟨_, rfl⟩
                      have hsq2 : (sq : Int) + on = ((sq1 : Nat) : Int) := by
                        rw [hsq1, cntN, ← hsq, hon]
                        by_cases g : (k : Int) ∈ L <;> simp [g]
                      refine j_istore hJ (lv' := [(12, .int (zI on)), (0, .ref (b 0)), (1, .ref (ba 0)), (2, .ref (ba 1)), (3, .ref (ba 2)), (4, .int (zI (i : Int))), (7, .int (zI (a : Int))), (9, .int (zI (rn : Int))), (10, .int (zI (sq : Int))), (11, .int (zI (k : Int)))]) (by decide) rfl dL_isLine_246 ?_
                      have j427 : ∀ (a9 : Nat) (rn9 : Nat) (sq9 : Nat) (ha9 : a9 = lAt (μ 1) (N i) L (k + 1)) (hrn9 : rn9 = bgc L (k + 1)) (hsq9 : sq9 = cntN (fun j => decide ((j : Int) ∈ L)) (k + 1)), J (gw 105 XSh cy b μ ++ (gw 3 ASh cy ba ν ++ E)) (13 * a9) (550 * a9) 427 [(0, .ref (b 0)), (1, .ref (ba 0)), (2, .ref (ba 1)), (3, .ref (ba 2)), (4, .int (zI (i : Int))), (7, .int (zI (a9 : Int))), (9, .int (zI (rn9 : Int))), (10, .int (zI (sq9 : Int))), (11, .int (zI (k : Int)))] [] := by
                        intro a9 rn9 sq9 ha9 hrn9 hsq9
                        refine j_iinc hJ (lv' := [(11, .int (zI ((k : Int) + 1))), (0, .ref (b 0)), (1, .ref (ba 0)), (2, .ref (ba 1)), (3, .ref (ba 2)), (4, .int (zI (i : Int))), (7, .int (zI (a9 : Int))), (9, .int (zI (rn9 : Int))), (10, .int (zI (sq9 : Int)))]) (j := 8) rfl (by omega) (by decide) rfl dL_isLine_427 ?_
                        refine j_goto hJ (tgt := 220) (by decide) dL_isLine_430 ?_
                        refine j_locs hJ [1, 2, 3, 4, 5, 6, 7, 8, 0] rfl ?_
                        refine j_widen hJ (ce' := 13 * a9) (sl' := 550 * a9) (by (try dsimp only); omega) (by (try dsimp only); omega) ?_
                        exact ih220 a9 rn9 sq9 (k + 1) (by omega) (by omega) (by exact ha9) (by exact hrn9) (by exact hsq9)
                      have j260 : ∀ (z : Int) (hz : z = on), J (gw 105 XSh cy b μ ++ (gw 3 ASh cy ba ν ++ E)) (13 * a) (550 * a) 260 [(0, .ref (b 0)), (1, .ref (ba 0)), (2, .ref (ba 1)), (3, .ref (ba 2)), (4, .int (zI (i : Int))), (7, .int (zI (a : Int))), (9, .int (zI (rn : Int))), (10, .int (zI (sq : Int))), (11, .int (zI (k : Int))), (12, .int (zI on))] [.int (zI z), .int (zI (sq : Int))] := by
                        intro z hz
                        refine j_iadd hJ dL_isLine_260 ?_
                        refine j_topi (y := zI ((sq1 : Nat) : Int)) (by rw [hz, hsq2]) ?_
                        refine j_istore hJ (lv' := [(10, .int (zI ((sq1 : Nat) : Int))), (0, .ref (b 0)), (1, .ref (ba 0)), (2, .ref (ba 1)), (3, .ref (ba 2)), (4, .int (zI (i : Int))), (7, .int (zI (a : Int))), (9, .int (zI (rn : Int))), (11, .int (zI (k : Int))), (12, .int (zI on))]) (by decide) rfl dL_isLine_261 ?_
                        have j289 : ∀  (hbg : bgT L (k : Int) = true), J (gw 105 XSh cy b μ ++ (gw 3 ASh cy ba ν ++ E)) (13 * a) (550 * a) 289 [(0, .ref (b 0)), (1, .ref (ba 0)), (2, .ref (ba 1)), (3, .ref (ba 2)), (4, .int (zI (i : Int))), (7, .int (zI (a : Int))), (9, .int (zI (rn : Int))), (10, .int (zI ((sq1 : Nat) : Int))), (11, .int (zI (k : Int)))] [] := by
                          intro hbg
                          have hin2 : (k : Int) ∈ L := (bgT_iff.mp hbg).1
                          obtain ⟨hRn, hLn, hBn⟩ := line_run (kd := μ 1) (N := N i) hk4 hbg
                          rw [← hT, ← ha] at hRn
                          refine j_iload hJ (j := 8) rfl dL_isLine_289 ?_
                          have j322 : ∀ (e : Nat) (hend : endT L 11 (k : Int) = (e : Int)) (hke : k ≤ e ∧ e / 12 = k / 12), J (gw 105 XSh cy b μ ++ (gw 3 ASh cy ba ν ++ E)) (13 * a) (550 * a) 322 [(0, .ref (b 0)), (1, .ref (ba 0)), (2, .ref (ba 1)), (3, .ref (ba 2)), (4, .int (zI (i : Int))), (7, .int (zI (a : Int))), (9, .int (zI (rn : Int))), (10, .int (zI ((sq1 : Nat) : Int))), (11, .int (zI (k : Int))), (13, .int (zI (e : Int)))] [] := by
                            intro e hend hke
                            refine j_iload hJ (j := 6) rfl dL_isLine_322 ?_
                            have j342 : ∀ (a2 : Nat) (ha2 : a2 + (runT L k).length = lAt (μ 1) (N i) L (k + 1)) (hat2 : Has T a2 (runT L k)), J (gw 105 XSh cy b μ ++ (gw 3 ASh cy ba ν ++ E)) (13 * a2) (550 * a2) 342 [(0, .ref (b 0)), (1, .ref (ba 0)), (2, .ref (ba 1)), (3, .ref (ba 2)), (4, .int (zI (i : Int))), (9, .int (zI (rn : Int))), (10, .int (zI ((sq1 : Nat) : Int))), (11, .int (zI (k : Int))), (13, .int (zI (e : Int)))] [.int (zI (a2 : Int))] := by
                              intro a2 ha2 hat2
                              rw [runT_eq hend] at hat2 ha2
                              have hl9 := hat2.len (by simp)
                              have g1 := (show Has T a2 (32 :: ([65 + (k : Int) / 12] ++ _)) from hat2).head
                              have g2 := (show Has T a2 (32 :: ((65 + (k : Int) / 12) :: _)) from hat2).tail.head
                              have g3 := (hat2.app).2.app
                              have nl1 := numT_le ((k : Int) % 12 + 1)
                              simp only [List.length_append, List.length_cons, List.length_nil] at hl9 ha2 g3
                              refine j_istore hJ (lv' := [(7, .int (zI (a2 : Int))), (0, .ref (b 0)), (1, .ref (ba 0)), (2, .ref (ba 1)), (3, .ref (ba 2)), (4, .int (zI (i : Int))), (9, .int (zI (rn : Int))), (10, .int (zI ((sq1 : Nat) : Int))), (11, .int (zI (k : Int))), (13, .int (zI (e : Int)))]) (by decide) rfl dL_isLine_342 ?_
                              refine j_aload_n hJ (j := 1) rfl rfl dL_isLine_344 ?_
                              refine j_iload hJ (j := 5) rfl dL_isLine_345 ?_
                              refine j_aload_n hJ (j := 1) rfl rfl dL_isLine_347 ?_
                              refine j_iload hJ (j := 5) rfl dL_isLine_348 ?_
                              refine j_iload hJ (j := 0) rfl dL_isLine_350 ?_
                              refine j_bipush hJ (v := 32) (by decide) dL_isLine_352 ?_
                              refine j_callS0 hJ (c_L_sign hfl hX hi hTe hl (a := a2) (g1) ⟨by omega, by omega⟩) m_L_36 k_L_sign ⟨(Nat.le_of_ble_eq_true rfl), (Nat.le_of_ble_eq_true rfl)⟩ ⟨by dsimp only; omega, by dsimp only; omega⟩ (Nat.le_of_ble_eq_true rfl) dL_isLine_354 rfl ?_
                              intro v13 u14 hv15
                              obtain ⟨_, rfl, rfl, rfl⟩ := hv15
                              show J (gw 105 XSh cy b μ ++ (gw 3 ASh cy ba ν ++ E)) _ _ 357 [(7, .int (zI (a2 : Int))), (0, .ref (b 0)), (1, .ref (ba 0)), (2, .ref (ba 1)), (3, .ref (ba 2)), (4, .int (zI (i : Int))), (9, .int (zI (rn : Int))), (10, .int (zI ((sq1 : Nat) : Int))), (11, .int (zI (k : Int))), (13, .int (zI (e : Int)))] [.int (zI ((a2 + 1 : Nat) : Int)), .int (zI (i : Int)), .ref (b 0)]
                              refine j_bipush hJ (v := 65) (by decide) dL_isLine_357 ?_
                              refine j_iload hJ (j := 8) rfl dL_isLine_359 ?_
                              refine j_bipush hJ (v := 12) (by decide) dL_isLine_361 ?_
                              refine j_idiv hJ (by omega) (by omega) (by omega) (by omega) dL_isLine_363 ?_
                              refine j_iadd hJ dL_isLine_364 ?_
                              refine j_callS0 hJ (c_L_sign hfl hX hi hTe hl (a := a2 + 1) (g2) ⟨by omega, by omega⟩) m_L_36 k_L_sign ⟨(Nat.le_of_ble_eq_true rfl), (Nat.le_of_ble_eq_true rfl)⟩ ⟨by dsimp only; omega, by dsimp only; omega⟩ (Nat.le_of_ble_eq_true rfl) dL_isLine_365 rfl ?_
                              intro v16 u17 hv18
                              obtain ⟨_, rfl, rfl, rfl⟩ := hv18
                              show J (gw 105 XSh cy b μ ++ (gw 3 ASh cy ba ν ++ E)) _ _ 368 [(7, .int (zI (a2 : Int))), (0, .ref (b 0)), (1, .ref (ba 0)), (2, .ref (ba 1)), (3, .ref (ba 2)), (4, .int (zI (i : Int))), (9, .int (zI (rn : Int))), (10, .int (zI ((sq1 : Nat) : Int))), (11, .int (zI (k : Int))), (13, .int (zI (e : Int)))] [.int (zI ((a2 + 2 : Nat) : Int))]
                              refine j_istore hJ (lv' := [(7, .int (zI ((a2 + 2 : Nat) : Int))), (0, .ref (b 0)), (1, .ref (ba 0)), (2, .ref (ba 1)), (3, .ref (ba 2)), (4, .int (zI (i : Int))), (9, .int (zI (rn : Int))), (10, .int (zI ((sq1 : Nat) : Int))), (11, .int (zI (k : Int))), (13, .int (zI (e : Int)))]) (by decide) rfl dL_isLine_368 ?_
                              refine j_aload_n hJ (j := 1) rfl rfl dL_isLine_370 ?_
                              refine j_iload hJ (j := 5) rfl dL_isLine_371 ?_
                              refine j_iload hJ (j := 0) rfl dL_isLine_373 ?_
                              refine j_iload hJ (j := 8) rfl dL_isLine_375 ?_
                              refine j_bipush hJ (v := 12) (by decide) dL_isLine_377 ?_
                              refine j_irem hJ (by omega) (by omega) (by omega) (by omega) dL_isLine_379 ?_
                              refine j_iconst hJ dL_isLine_380 ?_
                              refine j_iadd hJ dL_isLine_381 ?_
                              refine j_callS0 hJ (c_L_number hfl hX hi hTe hl (a := a2 + 2) (g3.1) ⟨by omega, by omega⟩) m_L_51 k_L_number ⟨(Nat.le_of_ble_eq_true rfl), (Nat.le_of_ble_eq_true rfl)⟩ ⟨by dsimp only; omega, by dsimp only; omega⟩ (Nat.le_of_ble_eq_true rfl) dL_isLine_382 rfl ?_
                              intro v19 u20 hv21
                              obtain ⟨_, rfl, rfl, rfl⟩ := hv21
                              show J (gw 105 XSh cy b μ ++ (gw 3 ASh cy ba ν ++ E)) _ _ 385 [(7, .int (zI ((a2 + 2 : Nat) : Int))), (0, .ref (b 0)), (1, .ref (ba 0)), (2, .ref (ba 1)), (3, .ref (ba 2)), (4, .int (zI (i : Int))), (9, .int (zI (rn : Int))), (10, .int (zI ((sq1 : Nat) : Int))), (11, .int (zI (k : Int))), (13, .int (zI (e : Int)))] [.int (zI ((a2 + 2 + (numT ((k : Int) % 12 + 1)).length : Nat) : Int))]
                              refine j_istore hJ (lv' := [(7, .int (zI ((a2 + 2 + (numT ((k : Int) % 12 + 1)).length : Nat) : Int))), (0, .ref (b 0)), (1, .ref (ba 0)), (2, .ref (ba 1)), (3, .ref (ba 2)), (4, .int (zI (i : Int))), (9, .int (zI (rn : Int))), (10, .int (zI ((sq1 : Nat) : Int))), (11, .int (zI (k : Int))), (13, .int (zI (e : Int)))]) (by decide) rfl dL_isLine_385 ?_
                              have j422 : ∀ (a4 : Nat) (ha4 : a4 = lAt (μ 1) (N i) L (k + 1)), J (gw 105 XSh cy b μ ++ (gw 3 ASh cy ba ν ++ E)) (13 * a4) (550 * a4) 422 [(0, .ref (b 0)), (1, .ref (ba 0)), (2, .ref (ba 1)), (3, .ref (ba 2)), (4, .int (zI (i : Int))), (9, .int (zI (rn : Int))), (10, .int (zI ((sq1 : Nat) : Int))), (11, .int (zI (k : Int)))] [.int (zI (a4 : Int))] := by
                                intro a4 ha4
                                refine j_istore hJ (lv' := [(7, .int (zI (a4 : Int))), (0, .ref (b 0)), (1, .ref (ba 0)), (2, .ref (ba 1)), (3, .ref (ba 2)), (4, .int (zI (i : Int))), (9, .int (zI (rn : Int))), (10, .int (zI ((sq1 : Nat) : Int))), (11, .int (zI (k : Int)))]) (by decide) rfl dL_isLine_422 ?_
                                refine j_iinc hJ (lv' := [(9, .int (zI ((rn : Int) + 1))), (7, .int (zI (a4 : Int))), (0, .ref (b 0)), (1, .ref (ba 0)), (2, .ref (ba 1)), (3, .ref (ba 2)), (4, .int (zI (i : Int))), (10, .int (zI ((sq1 : Nat) : Int))), (11, .int (zI (k : Int)))]) (j := 6) rfl (by omega) (by decide) rfl dL_isLine_424 ?_
                                refine j_locs hJ [2, 3, 4, 5, 6, 1, 0, 7, 8] rfl ?_
                                refine j_widen hJ (ce' := 13 * a4) (sl' := 550 * a4) (by (try dsimp only); omega) (by (try dsimp only); omega) ?_
                                exact j427 a4 (rn + 1) sq1 (by first | (rw [ha, hno.1]; done) | exact ha4) (by first | (rw [hrn, hno.2]; done) | (rw [hBn, hrn]; done)) (by exact hsq1)
                              refine j_iload hJ (j := 9) rfl dL_isLine_387 ?_
                              refine j_iload hJ (j := 8) rfl dL_isLine_389 ?_
                              refine j_icmp_le hJ (tgt := 420) ⟨by omega, by omega⟩ ⟨by omega, by omega⟩ (by decide) dL_isLine_391 ?_ ?_
                              · intro h391
                                rw [if_neg (by omega)] at ha2 hl9
                                refine j_iload hJ (j := 0) rfl dL_isLine_420 ?_
                                refine j_locs hJ [1, 2, 3, 4, 5, 6, 7, 8] rfl ?_
                                refine j_widen hJ (ce' := 13 * (a2 + 2 + (numT ((k : Int) % 12 + 1)).length)) (sl' := 550 * (a2 + 2 + (numT ((k : Int) % 12 + 1)).length)) (by (try dsimp only); omega) (by (try dsimp only); omega) ?_
                                exact j422 (a2 + 2 + (numT ((k : Int) % 12 + 1)).length) (by first | omega | (simp at ha2; omega))
                              · intro h391
                                have g4 := g3.2
                                rw [if_pos (by omega)] at ha2 hl9 g4
                                have nl2 := numT_le ((e : Int) % 12 + 1)
                                simp only [List.length_append, List.length_cons, List.length_nil] at ha2 hl9
                                refine j_aload_n hJ (j := 1) rfl rfl dL_isLine_394 ?_
                                refine j_iload hJ (j := 5) rfl dL_isLine_395 ?_
                                refine j_aload_n hJ (j := 1) rfl rfl dL_isLine_397 ?_
                                refine j_iload hJ (j := 5) rfl dL_isLine_398 ?_
                                refine j_iload hJ (j := 0) rfl dL_isLine_400 ?_
                                refine j_bipush hJ (v := 45) (by decide) dL_isLine_402 ?_
                                refine j_callS0 hJ (c_L_sign hfl hX hi hTe hl (a := a2 + 2 + (numT ((k : Int) % 12 + 1)).length) ((show Has T _ (45 :: numT ((e : Int) % 12 + 1)) from g4).head) ⟨by omega, by omega⟩) m_L_36 k_L_sign ⟨(Nat.le_of_ble_eq_true rfl), (Nat.le_of_ble_eq_true rfl)⟩ ⟨by dsimp only; omega, by dsimp only; omega⟩ (Nat.le_of_ble_eq_true rfl) dL_isLine_404 rfl ?_
                                intro v22 u23 hv24
                                obtain ⟨_, rfl, rfl, rfl⟩ := hv24
                                show J (gw 105 XSh cy b μ ++ (gw 3 ASh cy ba ν ++ E)) _ _ 407 [(7, .int (zI ((a2 + 2 + (numT ((k : Int) % 12 + 1)).length : Nat) : Int))), (0, .ref (b 0)), (1, .ref (ba 0)), (2, .ref (ba 1)), (3, .ref (ba 2)), (4, .int (zI (i : Int))), (9, .int (zI (rn : Int))), (10, .int (zI ((sq1 : Nat) : Int))), (11, .int (zI (k : Int))), (13, .int (zI (e : Int)))] [.int (zI ((a2 + 2 + (numT ((k : Int) % 12 + 1)).length + 1 : Nat) : Int)), .int (zI (i : Int)), .ref (b 0)]
                                refine j_iload hJ (j := 9) rfl dL_isLine_407 ?_
                                refine j_bipush hJ (v := 12) (by decide) dL_isLine_409 ?_
                                refine j_irem hJ (by omega) (by omega) (by omega) (by omega) dL_isLine_411 ?_
                                refine j_iconst hJ dL_isLine_412 ?_
                                refine j_iadd hJ dL_isLine_413 ?_
                                refine j_callS0 hJ (c_L_number hfl hX hi hTe hl (a := a2 + 2 + (numT ((k : Int) % 12 + 1)).length + 1) (show Has T _ (45 :: numT ((e : Int) % 12 + 1)) from g4).tail ⟨by omega, by omega⟩) m_L_51 k_L_number ⟨(Nat.le_of_ble_eq_true rfl), (Nat.le_of_ble_eq_true rfl)⟩ ⟨by dsimp only; omega, by dsimp only; omega⟩ (Nat.le_of_ble_eq_true rfl) dL_isLine_414 rfl ?_
                                intro v25 u26 hv27
                                obtain ⟨_, rfl, rfl, rfl⟩ := hv27
                                show J (gw 105 XSh cy b μ ++ (gw 3 ASh cy ba ν ++ E)) _ _ 417 [(7, .int (zI ((a2 + 2 + (numT ((k : Int) % 12 + 1)).length : Nat) : Int))), (0, .ref (b 0)), (1, .ref (ba 0)), (2, .ref (ba 1)), (3, .ref (ba 2)), (4, .int (zI (i : Int))), (9, .int (zI (rn : Int))), (10, .int (zI ((sq1 : Nat) : Int))), (11, .int (zI (k : Int))), (13, .int (zI (e : Int)))] [.int (zI ((a2 + 2 + (numT ((k : Int) % 12 + 1)).length + 1 + (numT ((e : Int) % 12 + 1)).length : Nat) : Int))]
                                refine j_goto hJ (tgt := 422) (by decide) dL_isLine_417 ?_
                                refine j_locs hJ [1, 2, 3, 4, 5, 6, 7, 8] rfl ?_
                                refine j_widen hJ (ce' := 13 * (a2 + 2 + (numT ((k : Int) % 12 + 1)).length + 1 + (numT ((e : Int) % 12 + 1)).length)) (sl' := 550 * (a2 + 2 + (numT ((k : Int) % 12 + 1)).length + 1 + (numT ((e : Int) % 12 + 1)).length)) (by (try dsimp only); omega) (by (try dsimp only); omega) ?_
                                exact j422 (a2 + 2 + (numT ((k : Int) % 12 + 1)).length + 1 + (numT ((e : Int) % 12 + 1)).length) (by first | omega | (simp at ha2; omega))
                            refine j_if_ne hJ (tgt := 340) ⟨by omega, by omega⟩ (by decide) dL_isLine_324 ?_ ?_
                            · intro h324
                              rw [if_neg (by omega), List.nil_append] at hRn
                              rw [if_neg (by omega), Nat.zero_add] at hLn
                              refine j_iload hJ (j := 5) rfl dL_isLine_340 ?_
                              refine j_locs hJ [0, 1, 2, 3, 4, 6, 7, 8, 9] rfl ?_
                              refine j_widen hJ (ce' := 13 * a) (sl' := 550 * a) (by (try dsimp only); omega) (by (try dsimp only); omega) ?_
                              exact j342 a (by omega) (by first | exact hRn | exact (show Has T a (58 :: runT L (k : Int)) from hRn).tail)
                            · intro h324
                              rw [if_pos (by omega)] at hRn
                              rw [if_pos (by omega)] at hLn
                              have hRl := hRn.len (by simp)
                              simp only [List.length_append, List.length_singleton] at hRl
                              refine j_aload_n hJ (j := 0) rfl rfl dL_isLine_327 ?_
                              refine j_iload hJ (j := 4) rfl dL_isLine_328 ?_
                              refine j_iload hJ (j := 5) rfl dL_isLine_330 ?_
                              refine j_bipush hJ (v := 58) (by decide) dL_isLine_332 ?_
                              refine j_callS0 hJ (c_L_sign hfl hX hi hTe hl (a := a) ((show Has T a (58 :: runT L (k : Int)) from hRn).head) ⟨by omega, by omega⟩) m_L_36 k_L_sign ⟨(Nat.le_of_ble_eq_true rfl), (Nat.le_of_ble_eq_true rfl)⟩ ⟨by dsimp only; omega, by dsimp only; omega⟩ (Nat.le_of_ble_eq_true rfl) dL_isLine_334 rfl ?_
                              intro v28 u29 hv30
                              obtain ⟨_, rfl, rfl, rfl⟩ := hv30
                              show J (gw 105 XSh cy b μ ++ (gw 3 ASh cy ba ν ++ E)) _ _ 337 [(0, .ref (b 0)), (1, .ref (ba 0)), (2, .ref (ba 1)), (3, .ref (ba 2)), (4, .int (zI (i : Int))), (7, .int (zI (a : Int))), (9, .int (zI (rn : Int))), (10, .int (zI ((sq1 : Nat) : Int))), (11, .int (zI (k : Int))), (13, .int (zI (e : Int)))] [.int (zI ((a + 1 : Nat) : Int))]
                              refine j_goto hJ (tgt := 342) (by decide) dL_isLine_337 ?_
                              refine j_locs hJ [0, 1, 2, 3, 4, 6, 7, 8, 9] rfl ?_
                              refine j_widen hJ (ce' := 13 * (a + 1)) (sl' := 550 * (a + 1)) (by (try dsimp only); omega) (by (try dsimp only); omega) ?_
                              exact j342 (a + 1) (by omega) (by first | exact hRn | exact (show Has T a (58 :: runT L (k : Int)) from hRn).tail)
                          refine j_istore hJ (lv' := [(13, .int (zI (k : Int))), (0, .ref (b 0)), (1, .ref (ba 0)), (2, .ref (ba 1)), (3, .ref (ba 2)), (4, .int (zI (i : Int))), (7, .int (zI (a : Int))), (9, .int (zI (rn : Int))), (10, .int (zI ((sq1 : Nat) : Int))), (11, .int (zI (k : Int)))]) (by decide) rfl dL_isLine_291 ?_
                          have lp293 : ∀ (nn293 : Nat) (e : Nat) (hmeas293 : 145 - e < nn293) (he : k ≤ e ∧ e / 12 = k / 12) (hin9 : ∀ j : Int, (k : Int) < j → j ≤ e → j ∈ L), J (gw 105 XSh cy b μ ++ (gw 3 ASh cy ba ν ++ E)) (13 * a) (550 * a) 293 [(0, .ref (b 0)), (1, .ref (ba 0)), (2, .ref (ba 1)), (3, .ref (ba 2)), (4, .int (zI (i : Int))), (7, .int (zI (a : Int))), (9, .int (zI (rn : Int))), (10, .int (zI ((sq1 : Nat) : Int))), (11, .int (zI (k : Int))), (13, .int (zI (e : Int)))] [] := by
                            intro nn293
                            induction nn293 with
                            | zero => intro e hmeas293 he hin9; omega
                            | succ nn293 ih293 =>
                              intro e hmeas293 he hin9
                              refine j_iload hJ (j := 9) rfl dL_isLine_293 ?_
                              refine j_bipush hJ (v := 12) (by decide) dL_isLine_295 ?_
                              refine j_irem hJ (by omega) (by omega) (by omega) (by omega) dL_isLine_297 ?_
                              refine j_bipush hJ (v := 11) (by decide) dL_isLine_298 ?_
                              refine j_icmp_ge hJ (tgt := 322) ⟨by omega, by omega⟩ ⟨by omega, by omega⟩ (by decide) dL_isLine_300 ?_ ?_
                              · intro h300
                                have hend : endT L 11 (k : Int) = (e : Int) := endT_uniq 11 (k : Int) (e : Int) (by omega) (by omega) (by omega) hin9 (fun g => by have := g.1; omega)
                                refine j_widen hJ (ce' := 13 * a) (sl' := 550 * a) (by (try dsimp only); omega) (by (try dsimp only); omega) ?_
                                exact j322 e (by exact hend) (by exact he)
                              · intro h300
                                refine j_aload_n hJ (j := 3) rfl rfl dL_isLine_303 ?_
                                refine j_iload hJ (j := 4) rfl dL_isLine_304 ?_
                                refine j_iload hJ (j := 9) rfl dL_isLine_306 ?_
                                refine j_iconst hJ dL_isLine_308 ?_
                                refine j_iadd hJ dL_isLine_309 ?_
                                refine j_perm hJ (perm3 _ _ _) ?_
                                show J (gw 3 ASh cy ba ν ++ (gw 105 XSh cy b μ ++ E)) (13 * a) (550 * a) 310 [(0, .ref (b 0)), (1, .ref (ba 0)), (2, .ref (ba 1)), (3, .ref (ba 2)), (4, .int (zI (i : Int))), (7, .int (zI (a : Int))), (9, .int (zI (rn : Int))), (10, .int (zI ((sq1 : Nat) : Int))), (11, .int (zI (k : Int))), (13, .int (zI (e : Int)))] [.int (zI ((e : Int) + 1)), .int (zI (i : Int)), .ref (ba 2)]
                                refine j_callS0 hJ (c_L_isOn hfl (by omega) hP ⟨by omega, by omega⟩) m_L_47 k_L_isOn ⟨(Nat.le_of_ble_eq_true rfl), (Nat.le_of_ble_eq_true rfl)⟩ ⟨by dsimp only; omega, by dsimp only; omega⟩ (Nat.le_of_ble_eq_true rfl) dL_isLine_310 rfl ?_
                                intro v31 u32 hv33
                                obtain ⟨on3, rfl, rfl, hon3⟩ := hv33
                                show J (gw 3 ASh cy ba ν ++ (gw 105 XSh cy b μ ++ E)) _ _ 313 [(0, .ref (b 0)), (1, .ref (ba 0)), (2, .ref (ba 1)), (3, .ref (ba 2)), (4, .int (zI (i : Int))), (7, .int (zI (a : Int))), (9, .int (zI (rn : Int))), (10, .int (zI ((sq1 : Nat) : Int))), (11, .int (zI (k : Int))), (13, .int (zI (e : Int)))] [.int (zI on3)]
                                refine j_perm hJ (perm3 _ _ _) ?_
                                show J (gw 105 XSh cy b μ ++ (gw 3 ASh cy ba ν ++ E)) _ _ 313 [(0, .ref (b 0)), (1, .ref (ba 0)), (2, .ref (ba 1)), (3, .ref (ba 2)), (4, .int (zI (i : Int))), (7, .int (zI (a : Int))), (9, .int (zI (rn : Int))), (10, .int (zI ((sq1 : Nat) : Int))), (11, .int (zI (k : Int))), (13, .int (zI (e : Int)))] [.int (zI on3)]
                                rw [← hL] at hon3
                                obtain ⟨hon32, hon31⟩ := ite01 hon3
                                refine j_if_eq hJ (tgt := 322) ⟨by omega, by omega⟩ (by decide) dL_isLine_313 ?_ ?_
                                · intro h313
                                  have hend : endT L 11 (k : Int) = (e : Int) := endT_uniq 11 (k : Int) (e : Int) (by omega) (by omega) (by omega) hin9 (fun g => by have := hon32.mpr g.2; omega)
                                  refine j_widen hJ (ce' := 13 * a) (sl' := 550 * a) (by (try dsimp only); omega) (by (try dsimp only); omega) ?_
                                  exact j322 e (by exact hend) (by exact he)
                                · intro h313
                                  refine j_iinc hJ (lv' := [(13, .int (zI ((e : Int) + 1))), (0, .ref (b 0)), (1, .ref (ba 0)), (2, .ref (ba 1)), (3, .ref (ba 2)), (4, .int (zI (i : Int))), (7, .int (zI (a : Int))), (9, .int (zI (rn : Int))), (10, .int (zI ((sq1 : Nat) : Int))), (11, .int (zI (k : Int)))]) (j := 9) rfl (by omega) (by decide) rfl dL_isLine_316 ?_
                                  refine j_goto hJ (tgt := 293) (by decide) dL_isLine_319 ?_
                                  refine j_locs hJ [1, 2, 3, 4, 5, 6, 7, 8, 9, 0] rfl ?_
                                  refine ih293 (e + 1) (by omega) (by omega) ?_
                                  · intro j h1 h2
                                    by_cases g : j = (e : Int) + 1
                                    · rw [g]; exact hon32.mp (by omega)
                                    · exact hin9 j h1 (by omega)
                          refine j_locs hJ [1, 2, 3, 4, 5, 6, 7, 8, 9, 0] rfl ?_
                          exact lp293 (145 - k + 1) k (by omega) (by omega) (by intro j h1 h2; omega)
                        refine j_iload hJ (j := 9) rfl dL_isLine_263 ?_
                        refine j_if_eq hJ (tgt := 427) ⟨by omega, by omega⟩ (by decide) dL_isLine_265 ?_ ?_
                        · intro h265
                          have hno := line_no (kd := μ 1) (N := N i) (L := L) (k := k) (fun g => by have := hon2.mpr (bgT_iff.mp g).1; omega)
                          refine j_locs hJ [1, 2, 3, 4, 5, 6, 7, 0, 8] rfl ?_
                          refine j_widen hJ (ce' := 13 * a) (sl' := 550 * a) (by (try dsimp only); omega) (by (try dsimp only); omega) ?_
                          exact j427 a rn sq1 (by first | (rw [ha, hno.1]; done) | exact ha4) (by first | (rw [hrn, hno.2]; done) | (rw [hBn, hrn]; done)) (by exact hsq1)
                        · intro h265
                          have hin : (k : Int) ∈ L := hon2.mp (by omega)
                          refine j_iload hJ (j := 8) rfl dL_isLine_268 ?_
                          refine j_bipush hJ (v := 12) (by decide) dL_isLine_270 ?_
                          refine j_irem hJ (by omega) (by omega) (by omega) (by omega) dL_isLine_272 ?_
                          refine j_if_eq hJ (tgt := 289) ⟨by omega, by omega⟩ (by decide) dL_isLine_273 ?_ ?_
                          · intro h273
                            refine j_locs hJ [1, 2, 3, 4, 5, 6, 7, 0, 8] rfl ?_
                            refine j_widen hJ (ce' := 13 * a) (sl' := 550 * a) (by (try dsimp only); omega) (by (try dsimp only); omega) ?_
                            exact j289 (by exact bgT_iff.mpr ⟨hin, by first | exact Or.inl (by omega) | exact Or.inr (fun g => by have := hon22.mpr g; omega)⟩)
                          · intro h273
                            refine j_aload_n hJ (j := 4) rfl rfl dL_isLine_276 ?_
                            refine j_iload hJ (j := 5) rfl dL_isLine_277 ?_
                            refine j_iload hJ (j := 8) rfl dL_isLine_279 ?_
                            refine j_iconst hJ dL_isLine_281 ?_
                            refine j_isub hJ dL_isLine_282 ?_
                            refine j_perm hJ (perm3 _ _ _) ?_
                            show J (gw 3 ASh cy ba ν ++ (gw 105 XSh cy b μ ++ E)) (13 * a) (550 * a) 283 [(10, .int (zI ((sq1 : Nat) : Int))), (0, .ref (b 0)), (1, .ref (ba 0)), (2, .ref (ba 1)), (3, .ref (ba 2)), (4, .int (zI (i : Int))), (7, .int (zI (a : Int))), (9, .int (zI (rn : Int))), (11, .int (zI (k : Int))), (12, .int (zI on))] [.int (zI ((k : Int) - 1)), .int (zI (i : Int)), .ref (ba 2)]
                            refine j_callS0 hJ (c_L_isOn hfl (by omega) hP ⟨by omega, by omega⟩) m_L_47 k_L_isOn ⟨(Nat.le_of_ble_eq_true rfl), (Nat.le_of_ble_eq_true rfl)⟩ ⟨by dsimp only; omega, by dsimp only; omega⟩ (Nat.le_of_ble_eq_true rfl) dL_isLine_283 rfl ?_
                            intro v34 u35 hv36
                            obtain ⟨on2, rfl, rfl, hon2b⟩ := hv36
                            show J (gw 3 ASh cy ba ν ++ (gw 105 XSh cy b μ ++ E)) _ _ 286 [(10, .int (zI ((sq1 : Nat) : Int))), (0, .ref (b 0)), (1, .ref (ba 0)), (2, .ref (ba 1)), (3, .ref (ba 2)), (4, .int (zI (i : Int))), (7, .int (zI (a : Int))), (9, .int (zI (rn : Int))), (11, .int (zI (k : Int))), (12, .int (zI on))] [.int (zI on2)]
                            refine j_perm hJ (perm3 _ _ _) ?_
                            show J (gw 105 XSh cy b μ ++ (gw 3 ASh cy ba ν ++ E)) _ _ 286 [(10, .int (zI ((sq1 : Nat) : Int))), (0, .ref (b 0)), (1, .ref (ba 0)), (2, .ref (ba 1)), (3, .ref (ba 2)), (4, .int (zI (i : Int))), (7, .int (zI (a : Int))), (9, .int (zI (rn : Int))), (11, .int (zI (k : Int))), (12, .int (zI on))] [.int (zI on2)]
                            rw [← hL] at hon2b
                            obtain ⟨hon22, hon21⟩ := ite01 hon2b
                            refine j_if_ne hJ (tgt := 427) ⟨by omega, by omega⟩ (by decide) dL_isLine_286 ?_ ?_
                            · intro h286
                              have hno := line_no (kd := μ 1) (N := N i) (L := L) (k := k) (fun g => by
                                rcases (bgT_iff.mp g).2 with q | q
                                · omega
                                · exact q (hon22.mp (by omega)))
                              refine j_locs hJ [1, 2, 3, 4, 5, 6, 7, 0, 8] rfl ?_
                              refine j_widen hJ (ce' := 13 * a) (sl' := 550 * a) (by (try dsimp only); omega) (by (try dsimp only); omega) ?_
                              exact j427 a rn sq1 (by first | (rw [ha, hno.1]; done) | exact ha4) (by first | (rw [hrn, hno.2]; done) | (rw [hBn, hrn]; done)) (by exact hsq1)
                            · intro h286
                              refine j_locs hJ [1, 2, 3, 4, 5, 6, 7, 0, 8] rfl ?_
                              refine j_widen hJ (ce' := 13 * a) (sl' := 550 * a) (by (try dsimp only); omega) (by (try dsimp only); omega) ?_
                              exact j289 (by exact bgT_iff.mpr ⟨hin, by first | exact Or.inl (by omega) | exact Or.inr (fun g => by have := hon22.mpr g; omega)⟩)
                      refine j_iload hJ (j := 8) rfl dL_isLine_248 ?_
                      refine j_iload hJ (j := 0) rfl dL_isLine_250 ?_
                      refine j_if_eq hJ (tgt := 259) ⟨by omega, by omega⟩ (by decide) dL_isLine_252 ?_ ?_
                      · intro h252
                        refine j_iconst hJ dL_isLine_259 ?_
                        refine j_locs hJ [1, 2, 3, 4, 5, 6, 7, 8, 9, 0] rfl ?_
                        refine j_widen hJ (ce' := 13 * a) (sl' := 550 * a) (by (try dsimp only); omega) (by (try dsimp only); omega) ?_
                        exact j260 0 (by omega)
                      · intro h252
                        refine j_iconst hJ dL_isLine_255 ?_
                        refine j_goto hJ (tgt := 260) (by decide) dL_isLine_256 ?_
                        refine j_locs hJ [1, 2, 3, 4, 5, 6, 7, 8, 9, 0] rfl ?_
                        refine j_widen hJ (ce' := 13 * a) (sl' := 550 * a) (by (try dsimp only); omega) (by (try dsimp only); omega) ?_
                        exact j260 1 (by omega)
              refine j_locs hJ [3, 4, 5, 6, 7, 10, 2, 1, 0] rfl ?_
              refine j_widen hJ (ce' := 13 * a) (sl' := 550 * a) (by (try dsimp only); omega) (by (try dsimp only); omega) ?_
              exact lp220 (145 - 0 + 1) a 0 0 0 (by omega) (by omega) (by rw [lAt_0]; exact ha) (by rfl) (by rfl)
            · intro h67
              have hk8 : k < 8 := by omega
              have hpl := PT_len (L := L) (kd := μ 1) (N := N i) ⟨n2, n3⟩ (k := k) (by omega)
              rw [← hT] at hpl
              have hpn4 : pn (μ 1) (N i) k ≤ 8 := pn_le n3
              refine j_aload_n hJ (j := 2) rfl rfl dL_isLine_70 ?_
              refine j_iconst hJ dL_isLine_71 ?_
              refine j_iload hJ (j := 4) rfl dL_isLine_72 ?_
              refine j_imul hJ dL_isLine_74 ?_
              refine j_iconst hJ dL_isLine_75 ?_
              refine j_iadd hJ dL_isLine_76 ?_
              refine j_iload hJ (j := 9) rfl dL_isLine_77 ?_
              refine j_iconst hJ dL_isLine_79 ?_
              refine j_irem hJ (by omega) (by omega) (by omega) (by omega) dL_isLine_80 ?_
              refine j_iadd hJ dL_isLine_81 ?_
              refine w2_iald hJ (by decide) rfl (by decide) (by omega) (by omega) dL_isLine_82 ?_
              obtain ⟨w, hw⟩ : ∃ w, w = ν 1 (5 * (i : Int) + 1 + (k : Int) % 4) := ⟨_, rfl⟩
              have hwr : 0 ≤ w ∧ w < 24 := by rw [hw]; exact hA _ (by omega) (by omega) (by omega)
              have hkw := hK w hwr.1 hwr.2
              have hxw : k % 4 < (N i).length → (N i)[k % 4]? = some w := fun g => by
                obtain ⟨x, hx⟩ : ∃ x, (N i)[k % 4]? = some x := ⟨_, List.getElem?_eq_getElem g⟩
                have := n4 (k % 4) x hx
                rw [hx, hw, ← this]; rfl
              refine j_topi (y := zI w) (by rw [hw]) ?_
              refine j_istore hJ (lv' := [(10, .int (zI w)), (0, .ref (b 0)), (1, .ref (ba 0)), (2, .ref (ba 1)), (3, .ref (ba 2)), (4, .int (zI (i : Int))), (5, .int (zI mv)), (6, .int (zI ((N i).length : Int))), (7, .int (zI (a : Int))), (8, .int (zI (pv : Int))), (9, .int (zI (k : Int)))]) (by decide) rfl dL_isLine_83 ?_
              have j105 : ∀ (lt : Int) (hlt : lt = if ltb (μ 1) (N i) w = true then 1 else 0), J (gw 105 XSh cy b μ ++ (gw 3 ASh cy ba ν ++ E)) (13 * a) (550 * a) 105 [(0, .ref (b 0)), (1, .ref (ba 0)), (2, .ref (ba 1)), (3, .ref (ba 2)), (4, .int (zI (i : Int))), (5, .int (zI mv)), (6, .int (zI ((N i).length : Int))), (7, .int (zI (a : Int))), (8, .int (zI (pv : Int))), (9, .int (zI (k : Int))), (10, .int (zI w))] [.int (zI lt)] := by
                intro lt hlt
                refine j_istore hJ (lv' := [(11, .int (zI lt)), (0, .ref (b 0)), (1, .ref (ba 0)), (2, .ref (ba 1)), (3, .ref (ba 2)), (4, .int (zI (i : Int))), (5, .int (zI mv)), (6, .int (zI ((N i).length : Int))), (7, .int (zI (a : Int))), (8, .int (zI (pv : Int))), (9, .int (zI (k : Int))), (10, .int (zI w))]) (by decide) rfl dL_isLine_105 ?_
                have hlt01 : lt = 0 ∨ lt = 1 := by rw [hlt]; split <;> omega
                refine j_iload hJ (j := 10) rfl dL_isLine_107 ?_
                refine j_iconst hJ dL_isLine_109 ?_
                refine j_irem hJ (by omega) (by omega) (by omega) (by omega) dL_isLine_110 ?_
                refine j_iload hJ (j := 7) rfl dL_isLine_111 ?_
                refine j_icmp_ge hJ (tgt := 205) ⟨by omega, by omega⟩ ⟨by omega, by omega⟩ (by decide) dL_isLine_113 ?_ ?_
                · intro h113
                  have hsk := PT_skip (kd := μ 1) (N := N i) hk8 (Or.inl (by omega))
                  refine j_iinc hJ (lv' := [(9, .int (zI ((k : Int) + 1))), (11, .int (zI lt)), (0, .ref (b 0)), (1, .ref (ba 0)), (2, .ref (ba 1)), (3, .ref (ba 2)), (4, .int (zI (i : Int))), (5, .int (zI mv)), (6, .int (zI ((N i).length : Int))), (7, .int (zI (a : Int))), (8, .int (zI (pv : Int))), (10, .int (zI w))]) (j := 10) rfl (by omega) (by decide) rfl dL_isLine_205 ?_
                  refine j_goto hJ (tgt := 63) (by decide) dL_isLine_208 ?_
                  refine j_locs hJ [2, 3, 4, 5, 6, 7, 8, 9, 10, 0] rfl ?_
                  refine j_widen hJ (ce' := 13 * a) (sl' := 550 * a) (by (try dsimp only); omega) (by (try dsimp only); omega) ?_
                  refine ih63 a pv (k + 1) (by omega) (by omega) ?_ ?_
                  · first
                    | (rw [ha]; rw [hsk.1]; done)
                    | (rw [ha1]; done)
                  · first
                    | (rw [hpv]; rw [hsk.2]; done)
                    | (rw [htk.1, hpv]; done)
                · intro h113
                  have hlt4 : k % 4 < (N i).length := by omega
                  have hx := hxw hlt4
                  refine j_iload hJ (j := 0) rfl dL_isLine_116 ?_
                  have j129 : ∀ (kk : Int) (hkk : kk = if 3 < k then 1 else 0), J (gw 105 XSh cy b μ ++ (gw 3 ASh cy ba ν ++ E)) (13 * a) (550 * a) 129 [(0, .ref (b 0)), (1, .ref (ba 0)), (2, .ref (ba 1)), (3, .ref (ba 2)), (4, .int (zI (i : Int))), (5, .int (zI mv)), (6, .int (zI ((N i).length : Int))), (7, .int (zI (a : Int))), (8, .int (zI (pv : Int))), (9, .int (zI (k : Int))), (10, .int (zI w)), (11, .int (zI lt))] [.int (zI kk), .int (zI lt)] := by
                    intro kk hkk
                    have hkk01 : kk = 0 ∨ kk = 1 := by rw [hkk]; split <;> omega
                    refine j_icmp_ne hJ (tgt := 205) ⟨by omega, by omega⟩ ⟨by omega, by omega⟩ (by decide) dL_isLine_129 ?_ ?_
                    · intro h129
                      have hsk := PT_skip (kd := μ 1) (N := N i) hk8 (Or.inr ⟨w, hx, fun g => h129 (by rw [hlt, hkk, g]; by_cases q : 3 < k <;> simp [q])⟩)
                      refine j_iinc hJ (lv' := [(9, .int (zI ((k : Int) + 1))), (0, .ref (b 0)), (1, .ref (ba 0)), (2, .ref (ba 1)), (3, .ref (ba 2)), (4, .int (zI (i : Int))), (5, .int (zI mv)), (6, .int (zI ((N i).length : Int))), (7, .int (zI (a : Int))), (8, .int (zI (pv : Int))), (10, .int (zI w)), (11, .int (zI lt))]) (j := 9) rfl (by omega) (by decide) rfl dL_isLine_205 ?_
                      refine j_goto hJ (tgt := 63) (by decide) dL_isLine_208 ?_
                      refine j_locs hJ [1, 2, 3, 4, 5, 6, 7, 8, 9, 0] rfl ?_
                      refine j_widen hJ (ce' := 13 * a) (sl' := 550 * a) (by (try dsimp only); omega) (by (try dsimp only); omega) ?_
                      refine ih63 a pv (k + 1) (by omega) (by omega) ?_ ?_
                      · first
                        | (rw [ha]; rw [hsk.1]; done)
                        | (rw [ha1]; done)
                      · first
                        | (rw [hpv]; rw [hsk.2]; done)
                        | (rw [htk.1, hpv]; done)
                    · intro h129
                      have hle9 : ltb (μ 1) (N i) w = decide (3 < k) := by
                        rw [hlt, hkk] at h129
                        cases e : ltb (μ 1) (N i) w <;> by_cases q : 3 < k <;> simp [e, q] at h129 ⊢
                      have htk := PT_take hk8 ⟨n2, n3⟩ hx hle9
                      have hwd := n5 w (List.mem_of_getElem? hx)
                      have hwl := wordT_len w.toNat
                      have hlt1 : (lt = 1 ↔ 3 < k) := by rw [hlt, hle9]; by_cases q : 3 < k <;> simp [q]
                      have j188 : ∀ (a1 : Nat) (ha1 : a1 + (wordT w.toNat).length = (PT (μ 1) (N i) (k + 1)).length) (hat1 : Has T a1 (wordT w.toNat)), J (gw 105 XSh cy b μ ++ (gw 3 ASh cy ba ν ++ E)) (13 * a1) (550 * a1) 188 [(0, .ref (b 0)), (1, .ref (ba 0)), (2, .ref (ba 1)), (3, .ref (ba 2)), (4, .int (zI (i : Int))), (5, .int (zI mv)), (6, .int (zI ((N i).length : Int))), (8, .int (zI (pv : Int))), (9, .int (zI (k : Int))), (10, .int (zI w)), (11, .int (zI lt))] [.int (zI (a1 : Int))] := by
                        intro a1 ha1 hat1
                        have hHl := hat1.len (by intro e; rw [e] at hwl; have := (hwd.nat (P := fun v => 2 ≤ wL v) (by decide)); simp at hwl; omega)
                        refine j_istore hJ (lv' := [(7, .int (zI (a1 : Int))), (0, .ref (b 0)), (1, .ref (ba 0)), (2, .ref (ba 1)), (3, .ref (ba 2)), (4, .int (zI (i : Int))), (5, .int (zI mv)), (6, .int (zI ((N i).length : Int))), (8, .int (zI (pv : Int))), (9, .int (zI (k : Int))), (10, .int (zI w)), (11, .int (zI lt))]) (by decide) rfl dL_isLine_188 ?_
                        refine j_aload_n hJ (j := 1) rfl rfl dL_isLine_190 ?_
                        refine j_iload hJ (j := 5) rfl dL_isLine_191 ?_
                        refine j_iload hJ (j := 0) rfl dL_isLine_193 ?_
                        refine j_iload hJ (j := 10) rfl dL_isLine_195 ?_
                        refine j_callS0 hJ (c_L_word hfl hX hi hTe hl hat1 hwd) m_L_44 k_L_word ⟨(Nat.le_of_ble_eq_true rfl), (Nat.le_of_ble_eq_true rfl)⟩ ⟨by dsimp only; omega, by dsimp only; omega⟩ (Nat.le_of_ble_eq_true rfl) dL_isLine_197 rfl ?_
                        intro v37 u38 hv39
                        obtain ⟨_, rfl, rfl, rfl⟩ := hv39
                        show J (gw 105 XSh cy b μ ++ (gw 3 ASh cy ba ν ++ E)) _ _ 200 [(7, .int (zI (a1 : Int))), (0, .ref (b 0)), (1, .ref (ba 0)), (2, .ref (ba 1)), (3, .ref (ba 2)), (4, .int (zI (i : Int))), (5, .int (zI mv)), (6, .int (zI ((N i).length : Int))), (8, .int (zI (pv : Int))), (9, .int (zI (k : Int))), (10, .int (zI w)), (11, .int (zI lt))] [.int (zI ((a1 + (wordT w.toNat).length : Nat) : Int))]
                        refine j_istore hJ (lv' := [(7, .int (zI ((a1 + (wordT w.toNat).length : Nat) : Int))), (0, .ref (b 0)), (1, .ref (ba 0)), (2, .ref (ba 1)), (3, .ref (ba 2)), (4, .int (zI (i : Int))), (5, .int (zI mv)), (6, .int (zI ((N i).length : Int))), (8, .int (zI (pv : Int))), (9, .int (zI (k : Int))), (10, .int (zI w)), (11, .int (zI lt))]) (by decide) rfl dL_isLine_200 ?_
                        refine j_iinc hJ (lv' := [(8, .int (zI ((pv : Int) + 1))), (7, .int (zI ((a1 + (wordT w.toNat).length : Nat) : Int))), (0, .ref (b 0)), (1, .ref (ba 0)), (2, .ref (ba 1)), (3, .ref (ba 2)), (4, .int (zI (i : Int))), (5, .int (zI mv)), (6, .int (zI ((N i).length : Int))), (9, .int (zI (k : Int))), (10, .int (zI w)), (11, .int (zI lt))]) (j := 8) rfl (by omega) (by decide) rfl dL_isLine_202 ?_
                        
                        refine j_iinc hJ (lv' := [(9, .int (zI ((k : Int) + 1))), (8, .int (zI ((pv : Int) + 1))), (7, .int (zI ((a1 + (wordT w.toNat).length : Nat) : Int))), (0, .ref (b 0)), (1, .ref (ba 0)), (2, .ref (ba 1)), (3, .ref (ba 2)), (4, .int (zI (i : Int))), (5, .int (zI mv)), (6, .int (zI ((N i).length : Int))), (10, .int (zI w)), (11, .int (zI lt))]) (j := 9) rfl (by omega) (by decide) rfl dL_isLine_205 ?_
                        refine j_goto hJ (tgt := 63) (by decide) dL_isLine_208 ?_
                        refine j_locs hJ [3, 4, 5, 6, 7, 8, 9, 2, 1, 0] rfl ?_
                        refine j_widen hJ (ce' := 13 * (a1 + (wordT w.toNat).length)) (sl' := 550 * (a1 + (wordT w.toNat).length)) (by (try dsimp only); omega) (by (try dsimp only); omega) ?_
                        refine ih63 (a1 + (wordT w.toNat).length) (pv + 1) (k + 1) (by omega) (by omega) ?_ ?_
                        · first
                          | (rw [ha]; rw [hsk.1]; done)
                          | (rw [ha1]; done)
                        · first
                          | (rw [hpv]; rw [hsk.2]; done)
                          | (rw [htk.1, hpv]; done)
                      refine j_iload hJ (j := 8) rfl dL_isLine_132 ?_
                      refine j_if_ne hJ (tgt := 142) ⟨by omega, by omega⟩ (by decide) dL_isLine_134 ?_ ?_
                      · intro h134
                        refine j_iload hJ (j := 8) rfl dL_isLine_142 ?_
                        refine j_iload hJ (j := 6) rfl dL_isLine_144 ?_
                        refine j_iload hJ (j := 5) rfl dL_isLine_146 ?_
                        refine j_isub hJ dL_isLine_148 ?_
                        refine j_icmp_ne hJ (tgt := 178) ⟨by omega, by omega⟩ ⟨by omega, by omega⟩ (by decide) dL_isLine_149 ?_ ?_
                        · intro h149
                          have hPk := htk.2.2.2 (by omega) (fun g => by have := g.2; omega)
                          have hHs := PT_has (L := L) ⟨n2, n3⟩ hk8 hPk
                          rw [← hT, ← ha] at hHs
                          have hPl := congrArg List.length hPk
                          rw [List.length_append, ← ha] at hPl
                          simp at hPl
                          refine j_aload_n hJ (j := 0) rfl rfl dL_isLine_178 ?_
                          refine j_iload hJ (j := 4) rfl dL_isLine_179 ?_
                          refine j_iload hJ (j := 7) rfl dL_isLine_181 ?_
                          refine j_bipush hJ (v := 32) (by decide) dL_isLine_183 ?_
                          have hHl := hHs.len (by simp)
                          simp at hHl
                          refine j_callS0 hJ (c_L_sign hfl hX hi hTe hl (a := a) (hHs.head) ⟨by omega, by omega⟩) m_L_36 k_L_sign ⟨(Nat.le_of_ble_eq_true rfl), (Nat.le_of_ble_eq_true rfl)⟩ ⟨by dsimp only; omega, by dsimp only; omega⟩ (Nat.le_of_ble_eq_true rfl) dL_isLine_185 rfl ?_
                          intro v40 u41 hv42
                          obtain ⟨_, rfl, rfl, rfl⟩ := hv42
                          show J (gw 105 XSh cy b μ ++ (gw 3 ASh cy ba ν ++ E)) _ _ 188 [(0, .ref (b 0)), (1, .ref (ba 0)), (2, .ref (ba 1)), (3, .ref (ba 2)), (4, .int (zI (i : Int))), (5, .int (zI mv)), (6, .int (zI ((N i).length : Int))), (7, .int (zI (a : Int))), (8, .int (zI (pv : Int))), (9, .int (zI (k : Int))), (10, .int (zI w)), (11, .int (zI lt))] [.int (zI ((a + 1 : Nat) : Int))]
                          refine j_locs hJ [0, 1, 2, 3, 4, 5, 6, 8, 9, 10, 11] rfl ?_
                          refine j_widen hJ (ce' := 13 * (a + 1)) (sl' := 550 * (a + 1)) (by (try dsimp only); omega) (by (try dsimp only); omega) ?_
                          exact j188 (a + 1) (by omega) (by first | exact hHs | exact hHs.tail.tail | exact hHs.tail)
                        · intro h149
                          refine j_iload hJ (j := 11) rfl dL_isLine_152 ?_
                          refine j_if_eq hJ (tgt := 178) ⟨by omega, by omega⟩ (by decide) dL_isLine_154 ?_ ?_
                          · intro h154
                            have hPk := htk.2.2.2 (by omega) (fun g => by have := hlt1.mpr g.1; omega)
                            have hHs := PT_has (L := L) ⟨n2, n3⟩ hk8 hPk
                            rw [← hT, ← ha] at hHs
                            have hPl := congrArg List.length hPk
                            rw [List.length_append, ← ha] at hPl
                            simp at hPl
                            refine j_aload_n hJ (j := 0) rfl rfl dL_isLine_178 ?_
                            refine j_iload hJ (j := 4) rfl dL_isLine_179 ?_
                            refine j_iload hJ (j := 7) rfl dL_isLine_181 ?_
                            refine j_bipush hJ (v := 32) (by decide) dL_isLine_183 ?_
                            have hHl := hHs.len (by simp)
                            simp at hHl
                            refine j_callS0 hJ (c_L_sign hfl hX hi hTe hl (a := a) (hHs.head) ⟨by omega, by omega⟩) m_L_36 k_L_sign ⟨(Nat.le_of_ble_eq_true rfl), (Nat.le_of_ble_eq_true rfl)⟩ ⟨by dsimp only; omega, by dsimp only; omega⟩ (Nat.le_of_ble_eq_true rfl) dL_isLine_185 rfl ?_
                            intro v43 u44 hv45
                            obtain ⟨_, rfl, rfl, rfl⟩ := hv45
                            show J (gw 105 XSh cy b μ ++ (gw 3 ASh cy ba ν ++ E)) _ _ 188 [(0, .ref (b 0)), (1, .ref (ba 0)), (2, .ref (ba 1)), (3, .ref (ba 2)), (4, .int (zI (i : Int))), (5, .int (zI mv)), (6, .int (zI ((N i).length : Int))), (7, .int (zI (a : Int))), (8, .int (zI (pv : Int))), (9, .int (zI (k : Int))), (10, .int (zI w)), (11, .int (zI lt))] [.int (zI ((a + 1 : Nat) : Int))]
                            refine j_locs hJ [0, 1, 2, 3, 4, 5, 6, 8, 9, 10, 11] rfl ?_
                            refine j_widen hJ (ce' := 13 * (a + 1)) (sl' := 550 * (a + 1)) (by (try dsimp only); omega) (by (try dsimp only); omega) ?_
                            exact j188 (a + 1) (by omega) (by first | exact hHs | exact hHs.tail.tail | exact hHs.tail)
                          · intro h154
                            have hPk := htk.2.2.1 (by omega) (hlt1.mp (by omega)) (by omega)
                            have hHs := PT_has (L := L) ⟨n2, n3⟩ hk8 hPk
                            rw [← hT, ← ha] at hHs
                            have hPl := congrArg List.length hPk
                            rw [List.length_append, ← ha] at hPl
                            simp at hPl
                            have hHl := hHs.len (by simp)
                            simp at hHl
                            refine j_aload_n hJ (j := 0) rfl rfl dL_isLine_157 ?_
                            refine j_iload hJ (j := 4) rfl dL_isLine_158 ?_
                            refine j_aload_n hJ (j := 0) rfl rfl dL_isLine_160 ?_
                            refine j_iload hJ (j := 4) rfl dL_isLine_161 ?_
                            refine j_iload hJ (j := 7) rfl dL_isLine_163 ?_
                            refine j_bipush hJ (v := 44) (by decide) dL_isLine_165 ?_
                            refine j_callS0 hJ (c_L_sign hfl hX hi hTe hl (a := a) (hHs.head) ⟨by omega, by omega⟩) m_L_36 k_L_sign ⟨(Nat.le_of_ble_eq_true rfl), (Nat.le_of_ble_eq_true rfl)⟩ ⟨by dsimp only; omega, by dsimp only; omega⟩ (Nat.le_of_ble_eq_true rfl) dL_isLine_167 rfl ?_
                            intro v46 u47 hv48
                            obtain ⟨_, rfl, rfl, rfl⟩ := hv48
                            show J (gw 105 XSh cy b μ ++ (gw 3 ASh cy ba ν ++ E)) _ _ 170 [(0, .ref (b 0)), (1, .ref (ba 0)), (2, .ref (ba 1)), (3, .ref (ba 2)), (4, .int (zI (i : Int))), (5, .int (zI mv)), (6, .int (zI ((N i).length : Int))), (7, .int (zI (a : Int))), (8, .int (zI (pv : Int))), (9, .int (zI (k : Int))), (10, .int (zI w)), (11, .int (zI lt))] [.int (zI ((a + 1 : Nat) : Int)), .int (zI (i : Int)), .ref (b 0)]
                            refine j_bipush hJ (v := 32) (by decide) dL_isLine_170 ?_
                            refine j_callS0 hJ (c_L_sign hfl hX hi hTe hl (a := a + 1) (hHs.tail.head) ⟨by omega, by omega⟩) m_L_36 k_L_sign ⟨(Nat.le_of_ble_eq_true rfl), (Nat.le_of_ble_eq_true rfl)⟩ ⟨by dsimp only; omega, by dsimp only; omega⟩ (Nat.le_of_ble_eq_true rfl) dL_isLine_172 rfl ?_
                            intro v49 u50 hv51
                            obtain ⟨_, rfl, rfl, rfl⟩ := hv51
                            show J (gw 105 XSh cy b μ ++ (gw 3 ASh cy ba ν ++ E)) _ _ 175 [(0, .ref (b 0)), (1, .ref (ba 0)), (2, .ref (ba 1)), (3, .ref (ba 2)), (4, .int (zI (i : Int))), (5, .int (zI mv)), (6, .int (zI ((N i).length : Int))), (7, .int (zI (a : Int))), (8, .int (zI (pv : Int))), (9, .int (zI (k : Int))), (10, .int (zI w)), (11, .int (zI lt))] [.int (zI ((a + 2 : Nat) : Int))]
                            refine j_goto hJ (tgt := 188) (by decide) dL_isLine_175 ?_
                            refine j_locs hJ [0, 1, 2, 3, 4, 5, 6, 8, 9, 10, 11] rfl ?_
                            refine j_widen hJ (ce' := 13 * (a + 2)) (sl' := 550 * (a + 2)) (by (try dsimp only); omega) (by (try dsimp only); omega) ?_
                            exact j188 (a + 2) (by omega) (by first | exact hHs | exact hHs.tail.tail | exact hHs.tail)
                      · intro h134
                        have hPk := htk.2.1 (by omega)
                        have hHs := PT_has (L := L) ⟨n2, n3⟩ hk8 hPk
                        rw [← hT, ← ha] at hHs
                        have hPl := congrArg List.length hPk
                        rw [List.length_append, ← ha] at hPl
                        refine j_iload hJ (j := 7) rfl dL_isLine_137 ?_
                        refine j_goto hJ (tgt := 188) (by decide) dL_isLine_139 ?_
                        refine j_locs hJ [0, 1, 2, 3, 4, 5, 6, 8, 9, 10, 11] rfl ?_
                        refine j_widen hJ (ce' := 13 * a) (sl' := 550 * a) (by (try dsimp only); omega) (by (try dsimp only); omega) ?_
                        exact j188 a (by omega) (by first | exact hHs | exact hHs.tail.tail | exact hHs.tail)
                  refine j_iload hJ (j := 10) rfl dL_isLine_118 ?_
                  refine j_iconst hJ dL_isLine_120 ?_
                  refine j_icmp_le hJ (tgt := 128) ⟨by omega, by omega⟩ ⟨by omega, by omega⟩ (by decide) dL_isLine_121 ?_ ?_
                  · intro h121
                    refine j_iconst hJ dL_isLine_128 ?_
                    refine j_locs hJ [1, 2, 3, 4, 5, 6, 7, 8, 9, 10, 11, 0] rfl ?_
                    refine j_widen hJ (ce' := 13 * a) (sl' := 550 * a) (by (try dsimp only); omega) (by (try dsimp only); omega) ?_
                    exact j129 0 (by first | (rw [if_pos (by omega)]; done) | (rw [if_neg (by omega)]; done))
                  · intro h121
                    refine j_iconst hJ dL_isLine_124 ?_
                    refine j_goto hJ (tgt := 129) (by decide) dL_isLine_125 ?_
                    refine j_locs hJ [1, 2, 3, 4, 5, 6, 7, 8, 9, 10, 11, 0] rfl ?_
                    refine j_widen hJ (ce' := 13 * a) (sl' := 550 * a) (by (try dsimp only); omega) (by (try dsimp only); omega) ?_
                    exact j129 1 (by first | (rw [if_pos (by omega)]; done) | (rw [if_neg (by omega)]; done))
              refine j_iload hJ (j := 6) rfl dL_isLine_85 ?_
              refine j_iload hJ (j := 7) rfl dL_isLine_87 ?_
              refine j_icmp_ge hJ (tgt := 104) ⟨by omega, by omega⟩ ⟨by omega, by omega⟩ (by decide) dL_isLine_89 ?_ ?_
              · intro h89
                refine j_iconst hJ dL_isLine_104 ?_
                refine j_locs hJ [1, 2, 3, 4, 5, 6, 7, 8, 9, 10, 0] rfl ?_
                refine j_widen hJ (ce' := 13 * a) (sl' := 550 * a) (by (try dsimp only); omega) (by (try dsimp only); omega) ?_
                exact j105 0 (by unfold ltb; first | (rw [if_pos (by simp; omega)]; done) | (rw [if_neg (by simp; omega)]; done))
              · intro h89
                refine j_aload_n hJ (j := 2) rfl rfl dL_isLine_92 ?_
                refine j_iload hJ (j := 0) rfl dL_isLine_93 ?_
                refine w2_iald hJ (by decide) rfl (by decide) (by omega) (by omega) dL_isLine_95 ?_
                have hkw2 := hkw.2
                refine j_topi (y := zI (μ 1 w)) (by rw [hkw.1]) ?_
                refine j_iconst hJ dL_isLine_96 ?_
                refine j_icmp_ne hJ (tgt := 104) ⟨by omega, by omega⟩ ⟨by omega, by omega⟩ (by decide) dL_isLine_97 ?_ ?_
                · intro h97
                  refine j_iconst hJ dL_isLine_104 ?_
                  refine j_locs hJ [1, 2, 3, 4, 5, 6, 7, 8, 9, 10, 0] rfl ?_
                  refine j_widen hJ (ce' := 13 * a) (sl' := 550 * a) (by (try dsimp only); omega) (by (try dsimp only); omega) ?_
                  exact j105 0 (by unfold ltb; first | (rw [if_pos (by simp; omega)]; done) | (rw [if_neg (by simp; omega)]; done))
                · intro h97
                  refine j_iconst hJ dL_isLine_100 ?_
                  refine j_goto hJ (tgt := 105) (by decide) dL_isLine_101 ?_
                  refine j_locs hJ [1, 2, 3, 4, 5, 6, 7, 8, 9, 10, 0] rfl ?_
                  refine j_widen hJ (ce' := 13 * a) (sl' := 550 * a) (by (try dsimp only); omega) (by (try dsimp only); omega) ?_
                  exact j105 1 (by unfold ltb; first | (rw [if_pos (by simp; omega)]; done) | (rw [if_neg (by simp; omega)]; done))
        refine j_locs hJ [3, 4, 5, 6, 7, 8, 9, 2, 1, 0] rfl ?_
        refine j_widen hJ (ce' := 13 * 0) (sl' := 550 * 0) (by (try dsimp only); omega) (by (try dsimp only); omega) ?_
        exact lp63 (9 - 0 + 1) 0 0 0 (by omega) (by omega) (by exact ha0.symm) (by exact PA_0.2.symm)
      · intro h18
        have hk2 : k < (N i).length := by omega
        obtain ⟨x, hx⟩ : ∃ x, (N i)[k]? = some x := ⟨_, List.getElem?_eq_getElem hk2⟩
        have hxr := (n5 x (List.mem_of_getElem? hx)).rng
        have hmk : (filK (μ 1) 2 ((N i).take k)).length ≤ k := Nat.le_trans (List.length_filter_le _ _) (by rw [List.length_take]; omega)
        have hkx := (hK x hxr.1 hxr.2).2
        refine j_iload hJ (j := 5) rfl dL_isLine_21 ?_
        refine j_aload_n hJ (j := 1) rfl rfl dL_isLine_23 ?_
        refine j_aload_n hJ (j := 2) rfl rfl dL_isLine_24 ?_
        refine j_iconst hJ dL_isLine_25 ?_
        refine j_iload hJ (j := 4) rfl dL_isLine_26 ?_
        refine j_imul hJ dL_isLine_28 ?_
        refine j_iconst hJ dL_isLine_29 ?_
        refine j_iadd hJ dL_isLine_30 ?_
        refine j_iload hJ (j := 7) rfl dL_isLine_31 ?_
        refine j_iadd hJ dL_isLine_33 ?_
        refine w2_iald hJ (by decide) rfl (by decide) (by omega) (by omega) dL_isLine_34 ?_
        refine j_topi (y := zI x) (by rw [n4 k x hx]) ?_
        refine w2_iald hJ (by decide) rfl (by decide) (by omega) (by omega) dL_isLine_35 ?_
        refine j_topi (y := zI (μ 1 x)) (by rw [(hK x hxr.1 hxr.2).1]) ?_
        have j45 : ∀ (z : Int) (hz : z = if μ 1 x = 2 then 1 else 0), J (gw 105 XSh cy b μ ++ (gw 3 ASh cy ba ν ++ E)) 0 0 45 [(0, .ref (b 0)), (1, .ref (ba 0)), (2, .ref (ba 1)), (3, .ref (ba 2)), (4, .int (zI (i : Int))), (5, .int (zI mv)), (6, .int (zI ((N i).length : Int))), (7, .int (zI (k : Int)))] [.int (zI z), .int (zI mv)] := by
          intro z hz
          have hz01 : z = 0 ∨ z = 1 := by rw [hz]; split <;> omega
          refine j_iadd hJ dL_isLine_45 ?_
          refine j_istore hJ (lv' := [(5, .int (zI (mv + z))), (0, .ref (b 0)), (1, .ref (ba 0)), (2, .ref (ba 1)), (3, .ref (ba 2)), (4, .int (zI (i : Int))), (6, .int (zI ((N i).length : Int))), (7, .int (zI (k : Int)))]) (by decide) rfl dL_isLine_46 ?_
          refine j_iinc hJ (lv' := [(7, .int (zI ((k : Int) + 1))), (5, .int (zI (mv + z))), (0, .ref (b 0)), (1, .ref (ba 0)), (2, .ref (ba 1)), (3, .ref (ba 2)), (4, .int (zI (i : Int))), (6, .int (zI ((N i).length : Int)))]) (j := 7) rfl (by omega) (by decide) rfl dL_isLine_48 ?_
          refine j_goto hJ (tgt := 14) (by decide) dL_isLine_51 ?_
          refine j_locs hJ [2, 3, 4, 5, 6, 1, 7, 0] rfl ?_
          refine ih14 (mv + z) (k + 1) (by omega) (by omega) ?_
          · rw [filK_step hx, List.length_append, hmv, hz]
            split <;> simp
        refine j_iconst hJ dL_isLine_36 ?_
        refine j_icmp_ne hJ (tgt := 44) ⟨by omega, by omega⟩ ⟨by omega, by omega⟩ (by decide) dL_isLine_37 ?_ ?_
        · intro h37
          refine j_iconst hJ dL_isLine_44 ?_
          exact j45 0 (by first | (rw [if_pos (by omega)]; done) | (rw [if_neg (by omega)]; done))
        · intro h37
          refine j_iconst hJ dL_isLine_40 ?_
          refine j_goto hJ (tgt := 45) (by decide) dL_isLine_41 ?_
          exact j45 1 (by first | (rw [if_pos (by omega)]; done) | (rw [if_neg (by omega)]; done))
  refine j_locs hJ [3, 4, 5, 6, 7, 2, 1, 0] rfl ?_
  exact lp14 ((N i).length + 1 - 0 + 1) 0 0 (by omega) (by omega) (by simp [filK])
end
