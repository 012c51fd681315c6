
set_option maxRecDepth 20000 in
theorem m_X4_247 : MF RX4 247 0 yX1_beginsRun 2 := ⟨Or.inr (List.mem_of_getElem? (i := 721) (by decide +kernel)), (List.mem_of_getElem? (i := 43) (by decide +kernel)), ⟨by decide +kernel, by decide +kernel⟩, by decide +kernel, fun _ => ⟨(List.mem_of_getElem? (i := 723) (by decide +kernel)), (List.mem_of_getElem? (i := 32) (by decide +kernel))⟩, fun h => by omega, fun h => by omega⟩
set_option maxRecDepth 20000 in
theorem k_X1_beginsRun : Cond.code yX1_beginsRun cX1_beginsRun 3 (some .boolean) ∈ GT := (List.mem_of_getElem? (i := 724) (by decide +kernel))
set_option maxRecDepth 20000 in
theorem m_X4_250 : MF RX4 250 0 yX1_endOfRun 2 := ⟨Or.inr (List.mem_of_getElem? (i := 729) (by decide +kernel)), (List.mem_of_getElem? (i := 43) (by decide +kernel)), ⟨by decide +kernel, by decide +kernel⟩, by decide +kernel, fun _ => ⟨(List.mem_of_getElem? (i := 731) (by decide +kernel)), (List.mem_of_getElem? (i := 34) (by decide +kernel))⟩, fun h => by omega, fun h => by omega⟩
set_option maxRecDepth 20000 in
theorem k_X1_endOfRun : Cond.code yX1_endOfRun cX1_endOfRun 4 (some .int) ∈ GT := (List.mem_of_getElem? (i := 732) (by decide +kernel))
set_option maxRecDepth 20000 in
theorem m_X4_253 : MF RX4 253 1 yX4_appendRun 4 := ⟨Or.inl (List.mem_of_getElem? (i := 733) (by decide +kernel)), (List.mem_of_getElem? (i := 40) (by decide +kernel)), ⟨by decide +kernel, by decide +kernel⟩, by decide +kernel, fun h => by omega, fun _ => (List.mem_of_getElem? (i := 734) (by decide +kernel)), fun h => by omega⟩
set_option maxRecDepth 20000 in
theorem k_X4_appendRun : Cond.code yX4_appendRun cX4_appendRun 4 none ∈ GT := (List.mem_of_getElem? (i := 735) (by decide +kernel))
set_option maxRecDepth 20000 in
theorem m_X4_221 : MF RX4 221 2 yJ4_init_da8c8 0 := ⟨Or.inl (List.mem_of_getElem? (i := 567) (by decide +kernel)), (List.mem_of_getElem? (i := 59) (by decide +kernel)), ⟨by decide +kernel, by decide +kernel⟩, by decide +kernel, fun h => by omega, fun h => by omega, fun _ => ⟨(List.mem_of_getElem? (i := 568) (by decide +kernel)), rfl⟩⟩
set_option maxRecDepth 20000 in
theorem k_J4_init_da8c8 : Cond.code yJ4_init_da8c8 cJ4_init_da8c8 1 none ∈ GT := (List.mem_of_getElem? (i := 569) (by decide +kernel))
set_option maxRecDepth 20000 in
theorem m_X4_222 : MF RX4 222 0 yX4_appendName 2 := ⟨Or.inl (List.mem_of_getElem? (i := 595) (by decide +kernel)), (List.mem_of_getElem? (i := 40) (by decide +kernel)), ⟨by decide +kernel, by decide +kernel⟩, by decide +kernel, fun _ => ⟨(List.mem_of_getElem? (i := 597) (by decide +kernel)), (List.mem_of_getElem? (i := 29) (by decide +kernel))⟩, fun h => by omega, fun h => by omega⟩
set_option maxRecDepth 20000 in
theorem k_X4_appendName : Cond.code yX4_appendName cX4_appendName 5 none ∈ GT := (List.mem_of_getElem? (i := 598) (by decide +kernel))
set_option maxRecDepth 20000 in
theorem m_X4_230 : MF RX4 230 1 yX4_appendRuns 2 := ⟨Or.inl (List.mem_of_getElem? (i := 718) (by decide +kernel)), (List.mem_of_getElem? (i := 40) (by decide +kernel)), ⟨by decide +kernel, by decide +kernel⟩, by decide +kernel, fun h => by omega, fun _ => (List.mem_of_getElem? (i := 719) (by decide +kernel)), fun h => by omega⟩
set_option maxRecDepth 20000 in
theorem k_X4_appendRuns : Cond.code yX4_appendRuns cX4_appendRuns 4 none ∈ GT := (List.mem_of_getElem? (i := 720) (by decide +kernel))
section
variable {l : Launch} {D : va_G} {cy : Nat → ClassId} {n0 : Nat} {ad : Nat → Nat} {b : Nat → Nat} {E : va_W} {ws : va_W}
theorem l_appendRun {μ : Nat → Int → Int} {s : Nat} {T T' : List Int} {w : va_W} {c r e : Int} (hfl : l.stackTraces = false) (hS : SBP cy s T w) (hT : T' = T ++ runX c r e) (hL : T'.length ≤ 1150) (hc : 0 ≤ c ∧ c < 12) (hr : 0 ≤ r ∧ r < 12) (he : r ≤ e ∧ e < 12) : CT l D cy n0 ad yX4_appendRun (.code yX4_appendRun cX4_appendRun 4 none) ({ frames := 6, cells := cpC T'.length - cpC T.length, slots := cpS T'.length - cpS T.length, locals := 135 }) [.ref s, .int (zI c), .int (zI r), .int (zI e)] (gw 105 XSh cy b μ ++ (w ++ E)) (fun vv uu => ∃ w', vv = none ∧ uu = (gw 105 XSh cy b μ ++ (w' ++ E)) ∧ SBP cy s T' w') :=
  (c_X4_appendRun (E := gw 105 XSh cy b μ ++ E) hfl hS hT hL hc hr he).perm (perm_mid _ _ _) (fun v u ⟨w', h1, h2, h3⟩ => ⟨gw 105 XSh cy b μ ++ (w' ++ E), by rw [h2]; exact perm_mid _ _ _, w', h1, rfl, h3⟩)
set_option maxHeartbeats 4000000 in
set_option maxRecDepth 100000 in
theorem c_X4_appendRuns {μ : Nat → Int → Int} {i : Nat} {s : Nat} {T T' : List Int} {w : va_W} {L : List Int} (hfl : l.stackTraces = false) (hi : i < 16) (hOn : RowsOn μ i (fun x => x ∈ L)) (hS : SBP cy s T w) (hT : T' = T ++ runsT L 144) (hL : T'.length ≤ 1150) : CT l D cy n0 ad yX4_appendRuns (.code yX4_appendRuns cX4_appendRuns 4 none) ({ frames := 7, cells := cpC T'.length - cpC T.length, slots := cpS T'.length - cpS T.length, locals := 158 }) [.ref s, .ref (b (9 + 6 * i + 2))] (gw 105 XSh cy b μ ++ (w ++ E)) (fun vv uu => ∃ w', vv = none ∧ uu = (gw 105 XSh cy b μ ++ (w' ++ E)) ∧ (SBP cy s T' w')) := by
  obtain ⟨F, hF⟩ : ∃ F : Nat → List Int, F = fun k => T ++ runsT L k := ⟨_, rfl⟩
  have F0 : F 0 = T := by rw [hF]; simp [runsT]
  have FN : F 144 = T' := by rw [hF, hT]
  have Fy : ∀ k : Nat, bgT L k = true → F (k + 1) = F k ++ runT L k := fun k h => by
    rw [hF]
    show T ++ runsT L (k + 1) = (T ++ runsT L k) ++ runT L k
    rw [runsT_yes h, List.append_assoc]
  have Fn : ∀ k : Nat, ¬ bgT L k = true → F (k + 1) = F k := fun k h => by
    rw [hF]
    show T ++ runsT L (k + 1) = T ++ runsT L k
    rw [runsT_no h]
  have Fm : ∀ k, (F k).length ≤ (F (k + 1)).length := by
    intro k
    by_cases h : bgT L k = true
    · rw [Fy k h, List.length_append]; omega
    · rw [Fn k h]; exact Nat.le_refl _
  have Fe : ∀ d k, k + d = 144 → (F k).length ≤ T'.length := by
    intro d
    induction d with
    | zero => intro k hk; rw [← FN, show k = 144 by omega]; exact Nat.le_refl _
    | succ d ih => intro k hk; exact Nat.le_trans (Fm k) (ih (k + 1) (by omega))
  have Fb : ∀ k, T.length ≤ (F k).length := by
    intro k
    induction k with
    | zero => rw [F0]; exact Nat.le_refl _
    | succ k ih => exact Nat.le_trans ih (Fm k)
  refine CT.walk hfl (by decide) (Nat.le_of_ble_eq_true rfl) ?_
  intro A J hJ
  show J (gw 105 XSh cy b μ ++ (w ++ E)) 0 0 0 [(0, .ref s), (1, .ref (b (9 + 6 * i + 2)))] []
  refine j_iconst hJ dX4_appendRuns_0 ?_
  refine j_istore_n hJ (lv' := [(2, .int (zI 0)), (0, .ref s), (1, .ref (b (9 + 6 * i + 2)))]) rfl (by decide) rfl dX4_appendRuns_1 ?_
  have lp2 : ∀ (nn2 : Nat) (w1 : va_W) (c : Nat) (hmeas2 : 12 - c < nn2) (hc : c ≤ 12) (hS1 : SBP cy s (F (12 * c)) w1), J (gw 105 XSh cy b μ ++ (w1 ++ E)) (cpC (F (12 * c)).length - cpC T.length) (cpS (F (12 * c)).length - cpS T.length) 2 [(0, .ref s), (1, .ref (b (9 + 6 * i + 2))), (2, .int (zI (c : Int)))] [] := by
    intro nn2
    induction nn2 with
    | zero => intro w1 c hmeas2 hc hS1; omega
    | succ nn2 ih2 =>
      intro w1 c hmeas2 hc hS1
      refine j_iload_n hJ (j := 2) rfl rfl dX4_appendRuns_2 ?_
      refine j_bipush hJ (v := 12) (by decide) dX4_appendRuns_3 ?_
      refine j_icmp_ge hJ (tgt := 49) ⟨by omega, by omega⟩ ⟨by omega, by omega⟩ (by decide) dX4_appendRuns_5 ?_ ?_
      · intro h5
        obtain rfl : c = 12 := by omega
        have eC : cpC (F (12 * 12)).length = cpC T'.length := by rw [show 12 * 12 = 144 from rfl, FN]
        have eS : cpS (F (12 * 12)).length = cpS T'.length := by rw [show 12 * 12 = 144 from rfl, FN]
        refine j_vret hJ rfl rfl (by dsimp only; omega) (by dsimp only; omega) dX4_appendRuns_49 ⟨w1, rfl, rfl, ?_⟩
        rw [show 12 * 12 = 144 from rfl, FN] at hS1
        exact hS1
      · intro h5
        have hc2 : c < 12 := by omega
        refine j_iconst hJ dX4_appendRuns_8 ?_
        refine j_istore_n hJ (lv' := [(3, .int (zI 0)), (0, .ref s), (1, .ref (b (9 + 6 * i + 2))), (2, .int (zI (c : Int)))]) rfl (by decide) rfl dX4_appendRuns_9 ?_
        have lp10 : ∀ (nn10 : Nat) (w2 : va_W) (r : Nat) (hmeas10 : 12 - r < nn10) (hr : r ≤ 12) (hS2 : SBP cy s (F (12 * c + r)) w2), J (gw 105 XSh cy b μ ++ (w2 ++ E)) (cpC (F (12 * c + r)).length - cpC T.length) (cpS (F (12 * c + r)).length - cpS T.length) 10 [(0, .ref s), (1, .ref (b (9 + 6 * i + 2))), (2, .int (zI (c : Int))), (3, .int (zI (r : Int)))] [] := by
          intro nn10
          induction nn10 with
          | zero => intro w2 r hmeas10 hr hS2; omega
          | succ nn10 ih10 =>
            intro w2 r hmeas10 hr hS2
            refine j_iload_n hJ (j := 3) rfl rfl dX4_appendRuns_10 ?_
            refine j_bipush hJ (v := 12) (by decide) dX4_appendRuns_11 ?_
            refine j_icmp_ge hJ (tgt := 43) ⟨by omega, by omega⟩ ⟨by omega, by omega⟩ (by decide) dX4_appendRuns_13 ?_ ?_
            · intro h13
              have hr12 : r = 12 := by omega
              refine j_iinc hJ (lv' := [(2, .int (zI ((c : Int) + 1))), (0, .ref s), (1, .ref (b (9 + 6 * i + 2))), (3, .int (zI (r : Int)))]) (j := 2) rfl (by omega) (by decide) rfl dX4_appendRuns_43 ?_
              refine j_goto hJ (tgt := 2) (by decide) dX4_appendRuns_46 ?_
              refine j_locs hJ [1, 2, 0] rfl ?_
              refine j_widen hJ (ce' := cpC (F (12 * (c + 1))).length - cpC T.length) (sl' := cpS (F (12 * (c + 1))).length - cpS T.length) (by (try dsimp only); rw [show 12 * (c + 1) = 12 * c + r by omega]; omega) (by (try dsimp only); rw [show 12 * (c + 1) = 12 * c + r by omega]; omega) ?_
              exact ih2 w2 (c + 1) (by omega) (by omega) (by rw [show 12 * (c + 1) = 12 * c + r by omega]; exact hS2)
            · intro h13
              have hr2 : r < 12 := by omega
              have ek : ((12 * c + r : Nat) : Int) = 12 * (c : Int) + r := by omega
              have mB := cap_mono (Fb (12 * c + r))
              have mk := cap_mono (show (F (12 * c + r)).length ≤ (F (12 * c + (r + 1))).length from Fm (12 * c + r))
              have nE := Fe (144 - (12 * c + (r + 1))) (12 * c + (r + 1)) (by omega)
              have mE := cap_mono nE
              refine j_aload_n hJ (j := 1) rfl rfl dX4_appendRuns_16 ?_
              refine j_iload_n hJ (j := 2) rfl rfl dX4_appendRuns_17 ?_
              refine j_iload_n hJ (j := 3) rfl rfl dX4_appendRuns_18 ?_
              refine j_callV0 hJ (c_X1_beginsRun hfl (On := fun x => x ∈ L) hi ⟨by omega, by omega⟩ ⟨by omega, by omega⟩ hOn) m_X4_247 k_X1_beginsRun (q0 := 9 + 6 * i + 2) (by rw [gw_get (by omega), XS2]; rfl) rfl ⟨(Nat.le_of_ble_eq_true rfl), (Nat.le_of_ble_eq_true rfl)⟩ ⟨by dsimp only; omega, by dsimp only; omega⟩ (Nat.le_of_ble_eq_true rfl) dX4_appendRuns_19 rfl ?_
              intro v1 u2 hv3
              obtain ⟨q19, rfl, rfl, h19⟩ := hv3
              show J (gw 105 XSh cy b μ ++ (w2 ++ E)) _ _ 22 [(0, .ref s), (1, .ref (b (9 + 6 * i + 2))), (2, .int (zI (c : Int))), (3, .int (zI (r : Int)))] [.int (zI q19)]
              have hb := b01 h19
              refine j_if_eq hJ (tgt := 37) ⟨by omega, by omega⟩ (by decide) dX4_appendRuns_22 ?_ ?_
              · intro h22
                have hbg : ¬ bgT L ((12 * c + r : Nat) : Int) = true := by
                  rw [bgT_iff, ek]
                  intro g
                  have := h19.1 ⟨g.1, g.2.elim (fun e => Or.inl (by omega)) Or.inr⟩
                  omega
                refine j_iinc hJ (lv' := [(3, .int (zI ((r : Int) + 1))), (0, .ref s), (1, .ref (b (9 + 6 * i + 2))), (2, .int (zI (c : Int)))]) (j := 3) rfl (by omega) (by decide) rfl dX4_appendRuns_37 ?_
                refine j_goto hJ (tgt := 10) (by decide) dX4_appendRuns_40 ?_
                refine j_locs hJ [1, 2, 3, 0] rfl ?_
                refine j_widen hJ (ce' := cpC (F (12 * c + (r + 1))).length - cpC T.length) (sl' := cpS (F (12 * c + (r + 1))).length - cpS T.length) (by (try dsimp only); omega) (by (try dsimp only); omega) ?_
                refine ih10 w2 (r + 1) (by omega) (by omega) ?_
                · first
                  | exact S34
                  | (show SBP cy s (F (12 * c + r + 1)) w2; rw [Fn _ hbg]; exact hS2)
              · intro h22
                have hbg : bgT L ((12 * c + r : Nat) : Int) = true := by
                  rw [bgT_iff, ek]
                  by_cases g : (12 * (c : Int) + r ∈ L ∧ ((r : Int) = 0 ∨ ¬ 12 * (c : Int) + r - 1 ∈ L))
                  · exact ⟨g.1, g.2.elim (fun e => Or.inl (by omega)) Or.inr⟩
                  · have := h19.2 g
                    omega
                refine j_aload_n hJ (j := 0) rfl rfl dX4_appendRuns_25 ?_
                refine j_iload_n hJ (j := 2) rfl rfl dX4_appendRuns_26 ?_
                refine j_iload_n hJ (j := 3) rfl rfl dX4_appendRuns_27 ?_
                refine j_aload_n hJ (j := 1) rfl rfl dX4_appendRuns_28 ?_
                refine j_iload_n hJ (j := 2) rfl rfl dX4_appendRuns_29 ?_
                refine j_iload_n hJ (j := 3) rfl rfl dX4_appendRuns_30 ?_
                refine j_callV0 hJ (c_X1_endOfRun hfl (On := fun x => x ∈ L) hi ⟨by omega, by omega⟩ ⟨by omega, by omega⟩ hOn) m_X4_250 k_X1_endOfRun (q0 := 9 + 6 * i + 2) (by rw [gw_get (by omega), XS2]; rfl) rfl ⟨(Nat.le_of_ble_eq_true rfl), (Nat.le_of_ble_eq_true rfl)⟩ ⟨by dsimp only; omega, by dsimp only; omega⟩ (Nat.le_of_ble_eq_true rfl) dX4_appendRuns_31 rfl ?_
                intro v4 u5 hv6
                obtain ⟨q31, rfl, rfl, h31⟩ := hv6
                show J (gw 105 XSh cy b μ ++ (w2 ++ E)) _ _ 34 [(0, .ref s), (1, .ref (b (9 + 6 * i + 2))), (2, .int (zI (c : Int))), (3, .int (zI (r : Int)))] [.int (zI q31), .int (zI (r : Int)), .int (zI (c : Int)), .ref s]
                obtain ⟨g1, g2, g3, g4⟩ := h31
                have hFy : F (12 * c + (r + 1)) = F (12 * c + r) ++ runX c r q31 := by
                  show F (12 * c + r + 1) = _
                  rw [Fy _ hbg]
                  congr 1
                  unfold runT
                  rw [ek, endT_uniq 11 (12 * (c : Int) + r) (12 * (c : Int) + q31) (by omega) (by omega) (by omega) (fun j h1 h2 => by
                    have := g3 (j - 12 * (c : Int)) (by omega) (by omega)
                    rwa [show 12 * (c : Int) + (j - 12 * (c : Int)) = j by omega] at this) (fun h => g4.elim (fun e => by omega) (fun e => e h.2)), show (12 * (c : Int) + r) / 12 = c by omega, show (12 * (c : Int) + r) % 12 = r by omega, show (12 * (c : Int) + q31) % 12 = q31 by omega]
                refine j_callS0 hJ (l_appendRun hfl hS2 hFy (by omega) ⟨by omega, by omega⟩ ⟨by omega, by omega⟩ ⟨by omega, by omega⟩) m_X4_253 k_X4_appendRun ⟨(Nat.le_of_ble_eq_true rfl), (Nat.le_of_ble_eq_true rfl)⟩ ⟨by dsimp only; omega, by dsimp only; omega⟩ (Nat.le_of_ble_eq_true rfl) dX4_appendRuns_34 rfl ?_
                intro v7 u8 hv9
                obtain ⟨w10, rfl, rfl, S34⟩ := hv9
                show J (gw 105 XSh cy b μ ++ (w10 ++ E)) _ _ 37 [(0, .ref s), (1, .ref (b (9 + 6 * i + 2))), (2, .int (zI (c : Int))), (3, .int (zI (r : Int)))] []
                refine j_iinc hJ (lv' := [(3, .int (zI ((r : Int) + 1))), (0, .ref s), (1, .ref (b (9 + 6 * i + 2))), (2, .int (zI (c : Int)))]) (j := 3) rfl (by omega) (by decide) rfl dX4_appendRuns_37 ?_
                refine j_goto hJ (tgt := 10) (by decide) dX4_appendRuns_40 ?_
                refine j_locs hJ [1, 2, 3, 0] rfl ?_
                refine j_widen hJ (ce' := cpC (F (12 * c + (r + 1))).length - cpC T.length) (sl' := cpS (F (12 * c + (r + 1))).length - cpS T.length) (by (try dsimp only); omega) (by (try dsimp only); omega) ?_
                refine ih10 w10 (r + 1) (by omega) (by omega) ?_
                · first
                  | exact S34
                  | (show SBP cy s (F (12 * c + r + 1)) w2; rw [Fn _ hbg]; exact hS2)
        refine j_locs hJ [1, 2, 3, 0] rfl ?_
        refine j_widen hJ (ce' := cpC (F (12 * c + 0)).length - cpC T.length) (sl' := cpS (F (12 * c + 0)).length - cpS T.length) (by rw [show 12 * c + 0 = 12 * c from rfl]; exact Nat.le_refl _) (by rw [show 12 * c + 0 = 12 * c from rfl]; exact Nat.le_refl _) ?_
        exact lp10 (12 - 0 + 1) w1 0 (by omega) (by omega) (by exact hS1)
  refine j_locs hJ [1, 2, 0] rfl ?_
  refine j_widen hJ (ce' := cpC (F (12 * 0)).length - cpC T.length) (sl' := cpS (F (12 * 0)).length - cpS T.length) (by rw [show 12 * 0 = 0 from rfl, F0]; omega) (by rw [show 12 * 0 = 0 from rfl, F0]; omega) ?_
  exact lp2 (12 - 0 + 1) w 0 (by omega) (by omega) (by exact F0 ▸ hS)
set_option maxHeartbeats 4000000 in
set_option maxRecDepth 100000 in
theorem c_X4_lineOf {μ : Nat → Int → Int} {i : Nat} {N L : List Int} (hfl : l.stackTraces = false) (hi : i < 16) (hN : NmI μ i N) (hkr : KdR (μ 1)) (hP : TP μ i L) : CT l D cy n0 ad yX4_lineOf (.code yX4_lineOf cX4_lineOf 3 (some (.object "java/lang/StringBuilder"))) ({ frames := 8, cells := 8, slots := 2276, locals := 184 }) [.ref (b 0), .ref (b (9 + 6 * i))] (gw 105 XSh cy b μ ++ E) (fun vv uu => ∃ s w', vv = some (.ref s) ∧ uu = (gw 105 XSh cy b μ ++ (w' ++ E)) ∧ (SBP cy s (lineT (μ 1) N L) w')) := by
  have hN4 : N.length ≤ 4 := hN.2.2.1
  obtain ⟨p1, p2, p3, p4, p5⟩ := id hP
  obtain ⟨T', hT'⟩ : ∃ T', T' = lineT (μ 1) N L := ⟨_, rfl⟩
  rw [← hT']
  have hL : T'.length ≤ 600 := by rw [hT']; exact lineT_le hN4
  obtain ⟨T1, hT1⟩ : ∃ T1, T1 = [] ++ nameT (μ 1) N := ⟨_, rfl⟩
  have hT : T' = T1 ++ ((if 0 < L.length then [58] else []) ++ runsT L 144) := by rw [hT', hT1]; rfl
  have n1 : T1.length ≤ T'.length := by rw [hT, List.length_append]; omega
  have m0 := cap_mono (n := ([] : List Int).length) (k := T1.length) (Nat.zero_le _)
  have m1 := cap_mono n1
  have r1 := cap_rng T'.length
  have z0 : cpC ([] : List Int).length = 0 ∧ cpS ([] : List Int).length = 0 := by decide
  have r0 : ∀ k, runsT ([] : List Int) k = [] := by
    intro k
    induction k with
    | zero => rfl
    | succ k ih => rw [runsT_no (by simp [bgT]), ih]
  refine CT.walk hfl (by decide) (Nat.le_of_ble_eq_true rfl) ?_
  intro A J hJ
  show J (gw 105 XSh cy b μ ++ E) 0 0 0 [(0, .ref (b 0)), (1, .ref (b (9 + 6 * i)))] []
  refine j_new tyJ4 hJ (ci := 0) (fs := [.null, .int (zI 0), .int (zI 0), .int (zI 0)]) rfl lays_J4 tyJ4_ok (List.mem_of_getElem? (i := 565) (by decide +kernel)) (List.mem_of_getElem? (i := 566) (by decide +kernel)) (List.mem_of_getElem? (i := 59) (by decide +kernel)) (fun j hj => by rcases (show j = 0 ∨ j = 1 ∨ j = 2 ∨ j = 3 by omega) with rfl | rfl | rfl | rfl <;> rfl) (Nat.le_of_ble_eq_true rfl) (Nat.le_of_ble_eq_true rfl) dX4_lineOf_0 (fun s => ?_)
  refine j_dup hJ rfl dX4_lineOf_3 ?_
  refine j_perm hJ (ws' := (s, .inr (0, [.null, .int (zI 0), .int (zI 0), .int (zI 0)])) :: (gw 105 XSh cy b μ ++ E)) (List.perm_append_singleton _ _) ?_
  refine j_callI0 hJ (c_J4_init_da8c8 (E := gw 105 XSh cy b μ ++ E) hfl) m_X4_221 k_J4_init_da8c8 ⟨(Nat.le_of_ble_eq_true rfl), (Nat.le_of_ble_eq_true rfl)⟩ ⟨(Nat.le_of_ble_eq_true rfl), (Nat.le_of_ble_eq_true rfl)⟩ (Nat.le_of_ble_eq_true rfl) dX4_lineOf_4 rfl ?_
  intro v0 u0 hv0
  obtain ⟨w0, rfl, rfl, S0⟩ := hv0
  refine j_perm hJ (ws' := gw 105 XSh cy b μ ++ (w0 ++ E)) (perm_mid _ _ _) ?_
  show J (gw 105 XSh cy b μ ++ (w0 ++ E)) 2 20 7 [(0, .ref (b 0)), (1, .ref (b (9 + 6 * i)))] [.ref s]
  refine j_astore_n hJ (lv' := [(2, .ref s), (0, .ref (b 0)), (1, .ref (b (9 + 6 * i)))]) rfl (by decide) rfl dX4_lineOf_7 ?_
  refine j_aload_n hJ (j := 1) rfl rfl dX4_lineOf_8 ?_
  refine j_aload_n hJ (j := 0) rfl rfl dX4_lineOf_9 ?_
  refine j_aload_n hJ (j := 2) rfl rfl dX4_lineOf_10 ?_
  refine j_callV0 hJ (c_X4_appendName hfl hi hN hkr S0 hT1 (by omega)) m_X4_222 k_X4_appendName (q0 := 0) (by rw [gw_get (by decide)]; rfl) rfl ⟨(Nat.le_of_ble_eq_true rfl), (Nat.le_of_ble_eq_true rfl)⟩ ⟨by dsimp only; omega, by dsimp only; omega⟩ (Nat.le_of_ble_eq_true rfl) dX4_lineOf_11 rfl ?_
  intro v1 u2 hv3
  obtain ⟨w4, rfl, rfl, S11⟩ := hv3
  show J (gw 105 XSh cy b μ ++ (w4 ++ E)) _ _ 14 [(2, .ref s), (0, .ref (b 0)), (1, .ref (b (9 + 6 * i)))] []
  refine j_aload_n hJ (j := 2) rfl rfl dX4_lineOf_14 ?_
  refine w_getr hJ (by omega) (XS0 _) rfl f_X4_58 dX4_lineOf_15 ?_
  refine w_geti hJ (fi := 1) rfl (by omega) (XS2 _) rfl f_X4_81 dX4_lineOf_18 ?_
  refine j_topi (y := zI (L.length : Int)) (by rw [p1]) ?_
  refine j_if_le hJ (tgt := 39) ⟨by omega, by omega⟩ (by decide) dX4_lineOf_21 ?_ ?_
  · intro h21
    have hL0 : L = [] := List.length_eq_zero_iff.mp (by omega)
    rw [if_neg (by omega), hL0, r0, List.append_nil, List.append_nil] at hT
    refine j_aload_n hJ (j := 0) rfl rfl dX4_lineOf_39 ?_
    refine j_aret hJ rfl rfl (by dsimp only; omega) (by dsimp only; omega) dX4_lineOf_40 ⟨s, w4, rfl, rfl, ?_⟩
    rw [hT]; exact S11
  · intro h21
    rw [if_pos (by omega)] at hT
    obtain ⟨T2, hT2⟩ : ∃ T2, T2 = T1 ++ [58] := ⟨_, rfl⟩
    have n2 : T2.length = T1.length + 1 := by rw [hT2]; simp
    rw [← List.append_assoc, ← hT2] at hT
    have n3 : T2.length ≤ T'.length := by rw [hT, List.length_append]; omega
    have m2 := cap_mono (n := T1.length) (k := T2.length) (by omega)
    have m3 := cap_mono n3
    refine j_aload_n hJ (j := 0) rfl rfl dX4_lineOf_24 ?_
    refine j_bipush hJ (v := 58) (by decide) dX4_lineOf_25 ?_
    obtain ⟨f27, g27⟩ := S11.recv' (N := 105) (sh := XSh) (b := b) (μ := μ) (E := E)
    refine j_callV0 hJ (l_app_c hfl S11 hT2 (by omega) ⟨by omega, by omega⟩) m_X4_226 k_J4_append_cf468 (q0 := 105) g27 rfl ⟨(Nat.le_of_ble_eq_true rfl), (Nat.le_of_ble_eq_true rfl)⟩ ⟨by dsimp only; omega, by dsimp only; omega⟩ (Nat.le_of_ble_eq_true rfl) dX4_lineOf_27 rfl ?_
    intro v5 u6 hv7
    obtain ⟨w8, rfl, rfl, S27⟩ := hv7
    show J (gw 105 XSh cy b μ ++ (w8 ++ E)) _ _ 30 [(2, .ref s), (0, .ref (b 0)), (1, .ref (b (9 + 6 * i)))] [.ref s]
    refine j_pop hJ rfl dX4_lineOf_30 ?_
    refine j_aload_n hJ (j := 0) rfl rfl dX4_lineOf_31 ?_
    refine j_aload_n hJ (j := 2) rfl rfl dX4_lineOf_32 ?_
    refine w_getr hJ (by omega) (XS0 _) rfl f_X4_58 dX4_lineOf_33 ?_
    refine j_callS0 hJ (c_X4_appendRuns hfl hi p5 S27 hT (by omega)) m_X4_230 k_X4_appendRuns ⟨(Nat.le_of_ble_eq_true rfl), (Nat.le_of_ble_eq_true rfl)⟩ ⟨by dsimp only; omega, by dsimp only; omega⟩ (Nat.le_of_ble_eq_true rfl) dX4_lineOf_36 rfl ?_
    intro v9 u10 hv11
    obtain ⟨w12, rfl, rfl, S36⟩ := hv11
    show J (gw 105 XSh cy b μ ++ (w12 ++ E)) _ _ 39 [(2, .ref s), (0, .ref (b 0)), (1, .ref (b (9 + 6 * i)))] []
    refine j_aload_n hJ (j := 0) rfl rfl dX4_lineOf_39 ?_
    refine j_aret hJ rfl rfl (by dsimp only; omega) (by dsimp only; omega) dX4_lineOf_40 ⟨s, w12, rfl, rfl, ?_⟩
    exact S36
end
