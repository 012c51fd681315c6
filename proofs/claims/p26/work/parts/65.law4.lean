/-! the law: draws, the index, the nearest square -/
def NrB (L : List Int) (k : Nat) (c r q : Int) : Prop := (k = 0 ∧ q = -1) ∨ (∃ j, j < k ∧ q = sqA L j ∧ ∀ j', j' < k → far q c r < far (sqA L j') c r ∨ (far q c r = far (sqA L j') c r ∧ q ≤ sqA L j'))
theorem NrB.rng {L : List Int} {k : Nat} {c r q : Int} (h : NrB L k c r q) (hL : ∀ x ∈ L, 0 ≤ x ∧ x < 144) (hk : k ≤ L.length) : -1 ≤ q ∧ q < 144 ∧ (q < 0 ↔ k = 0) ∧ (q = -1 ↔ k = 0) := by
  rcases h with ⟨h1, h2⟩ | ⟨j, h1, h2, -⟩
  · omega
  · have := hL _ (sqA_mem (L := L) (k := j) (by omega)); omega
theorem NrB.step {L : List Int} {k : Nat} {c r q : Int} (h : NrB L k c r q) (hL : ∀ x ∈ L, 0 ≤ x ∧ x < 144) (hk : k < L.length) : ((q < 0 ∨ far (sqA L k) c r < far q c r ∨ (far (sqA L k) c r = far q c r ∧ sqA L k < q)) → NrB L (k + 1) c r (sqA L k)) ∧ (¬ (q < 0 ∨ far (sqA L k) c r < far q c r ∨ (far (sqA L k) c r = far q c r ∧ sqA L k < q)) → NrB L (k + 1) c r q) := by
  have hq := h.rng hL (by omega)
  refine ⟨fun g => Or.inr ⟨k, by omega, rfl, fun j' hj' => ?_⟩, fun g => ?_⟩
  · by_cases e : j' = k
    · subst e; exact Or.inr ⟨rfl, Int.le_refl _⟩
    · rcases h with ⟨h1, h2⟩ | ⟨j, h1, h2, h3⟩
      · omega
      · have := h3 j' (by omega); omega
  · rcases h with ⟨h1, h2⟩ | ⟨j, h1, h2, h3⟩
    · omega
    · refine Or.inr ⟨j, by omega, h2, fun j' hj' => ?_⟩
      by_cases e : j' = k
      · subst e; omega
      · exact h3 j' (by omega)
theorem NrB.fin {L : List Int} {c r q : Int} (h : NrB L L.length c r q) (hL : ∀ x ∈ L, 0 ≤ x ∧ x < 144) : IsNear (fun x => x ∈ L) c r 144 q := by
  rcases h with ⟨h1, h2⟩ | ⟨j, h1, h2, h3⟩
  · refine Or.inl ⟨h2, fun s _ _ hs => ?_⟩
    rw [List.length_eq_zero_iff.mp h1] at hs; cases hs
  · have hm := sqA_mem h1
    rw [← h2] at hm
    have := hL q hm
    refine Or.inr ⟨by omega, by omega, hm, fun s _ _ hs => ?_⟩
    obtain ⟨j', hj'⟩ := List.getElem?_of_mem hs
    have := h3 j' (List.getElem?_eq_some_iff.mp hj').1
    rw [sqA_some hj'] at this
    exact this
theorem q_L_8 : Cond.constant RL 8 (zI 2147483647) ∈ GT := (List.mem_of_getElem? (i := 172) (by decide +kernel))
theorem q_L_7 : Cond.constant RL 7 (zI 92837) ∈ GT := (List.mem_of_getElem? (i := 171) (by decide +kernel))
set_option maxRecDepth 20000 in
theorem m_L_93 : MF RL 93 0 yX4_streets 0 := ⟨Or.inl (List.mem_of_getElem? (i := 383) (by decide +kernel)), (List.mem_of_getElem? (i := 40) (by decide +kernel)), ⟨by decide +kernel, by decide +kernel⟩, by decide +kernel, fun _ => ⟨(List.mem_of_getElem? (i := 384) (by decide +kernel)), (List.mem_of_getElem? (i := 385) (by decide +kernel))⟩, fun h => by omega, fun h => by omega⟩
set_option maxRecDepth 20000 in
theorem k_X4_streets : Cond.code yX4_streets cX4_streets 1 (some .int) ∈ GT := (List.mem_of_getElem? (i := 386) (by decide +kernel))
set_option maxRecDepth 20000 in
theorem mx_L_104 : MX RL 104 0 yX4_placeOf 1 := ⟨(List.mem_of_getElem? (i := 475) (by decide +kernel)), (List.mem_of_getElem? (i := 40) (by decide +kernel)), ⟨by decide +kernel, by decide +kernel⟩, by decide +kernel, fun _ => ⟨(List.mem_of_getElem? (i := 476) (by decide +kernel)), (List.mem_of_getElem? (i := 477) (by decide +kernel))⟩, fun h => by omega⟩
set_option maxRecDepth 20000 in
theorem k_X4_placeOf : Cond.code yX4_placeOf cX4_placeOf 2 (some .int) ∈ GT := (List.mem_of_getElem? (i := 478) (by decide +kernel))
set_option maxRecDepth 20000 in
theorem mx_L_107 : MX RL 107 0 yX4_streetAt 1 := ⟨(List.mem_of_getElem? (i := 490) (by decide +kernel)), (List.mem_of_getElem? (i := 40) (by decide +kernel)), ⟨by decide +kernel, by decide +kernel⟩, by decide +kernel, fun _ => ⟨(List.mem_of_getElem? (i := 491) (by decide +kernel)), (List.mem_of_getElem? (i := 492) (by decide +kernel))⟩, fun h => by omega⟩
set_option maxRecDepth 20000 in
theorem k_X4_streetAt : Cond.code yX4_streetAt cX4_streetAt 3 (some .int) ∈ GT := (List.mem_of_getElem? (i := 493) (by decide +kernel))
set_option maxRecDepth 20000 in
theorem mx_L_101 : MX RL 101 0 yX4_compareKeys 2 := ⟨(List.mem_of_getElem? (i := 399) (by decide +kernel)), (List.mem_of_getElem? (i := 40) (by decide +kernel)), ⟨by decide +kernel, by decide +kernel⟩, by decide +kernel, fun _ => ⟨(List.mem_of_getElem? (i := 400) (by decide +kernel)), (List.mem_of_getElem? (i := 401) (by decide +kernel))⟩, fun h => by omega⟩
set_option maxRecDepth 20000 in
theorem k_X4_compareKeys : Cond.code yX4_compareKeys cX4_compareKeys 3 (some .int) ∈ GT := (List.mem_of_getElem? (i := 402) (by decide +kernel))
set_option maxRecDepth 20000 in
theorem m_L_97 : MF RL 97 1 yL_isAhead 4 := ⟨Or.inl (List.mem_of_getElem? (i := 387) (by decide +kernel)), (List.mem_of_getElem? (i := 39) (by decide +kernel)), ⟨by decide +kernel, by decide +kernel⟩, by decide +kernel, fun h => by omega, fun _ => (List.mem_of_getElem? (i := 388) (by decide +kernel)), fun h => by omega⟩
set_option maxRecDepth 20000 in
theorem k_L_isAhead : Cond.code yL_isAhead cL_isAhead 5 (some .boolean) ∈ GT := (List.mem_of_getElem? (i := 389) (by decide +kernel))
set_option maxRecDepth 20000 in
theorem m_L_47 : MF RL 47 1 yL_isOn 3 := ⟨Or.inl (List.mem_of_getElem? (i := 789) (by decide +kernel)), (List.mem_of_getElem? (i := 39) (by decide +kernel)), ⟨by decide +kernel, by decide +kernel⟩, by decide +kernel, fun h => by omega, fun _ => (List.mem_of_getElem? (i := 790) (by decide +kernel)), fun h => by omega⟩
set_option maxRecDepth 20000 in
theorem k_L_isOn : Cond.code yL_isOn cL_isOn 4 (some .boolean) ∈ GT := (List.mem_of_getElem? (i := 791) (by decide +kernel))
set_option maxRecDepth 20000 in
theorem mx_L_63 : MX RL 63 0 yX4_trackLength 1 := ⟨(List.mem_of_getElem? (i := 325) (by decide +kernel)), (List.mem_of_getElem? (i := 40) (by decide +kernel)), ⟨by decide +kernel, by decide +kernel⟩, by decide +kernel, fun _ => ⟨(List.mem_of_getElem? (i := 326) (by decide +kernel)), (List.mem_of_getElem? (i := 327) (by decide +kernel))⟩, fun h => by omega⟩
set_option maxRecDepth 20000 in
theorem k_X4_trackLength : Cond.code yX4_trackLength cX4_trackLength 2 (some .int) ∈ GT := (List.mem_of_getElem? (i := 328) (by decide +kernel))
set_option maxRecDepth 20000 in
theorem mx_L_66 : MX RL 66 0 yX4_nearest 3 := ⟨(List.mem_of_getElem? (i := 823) (by decide +kernel)), (List.mem_of_getElem? (i := 40) (by decide +kernel)), ⟨by decide +kernel, by decide +kernel⟩, by decide +kernel, fun _ => ⟨(List.mem_of_getElem? (i := 824) (by decide +kernel)), (List.mem_of_getElem? (i := 825) (by decide +kernel))⟩, fun h => by omega⟩
set_option maxRecDepth 20000 in
theorem k_X4_nearest : Cond.code yX4_nearest cX4_nearest 4 (some .int) ∈ GT := (List.mem_of_getElem? (i := 826) (by decide +kernel))
set_option maxRecDepth 20000 in
theorem mx_L_70 : MX RL 70 0 yX4_distance 3 := ⟨(List.mem_of_getElem? (i := 831) (by decide +kernel)), (List.mem_of_getElem? (i := 40) (by decide +kernel)), ⟨by decide +kernel, by decide +kernel⟩, by decide +kernel, fun _ => ⟨(List.mem_of_getElem? (i := 832) (by decide +kernel)), (List.mem_of_getElem? (i := 833) (by decide +kernel))⟩, fun h => by omega⟩
set_option maxRecDepth 20000 in
theorem k_X4_distance : Cond.code yX4_distance cX4_distance 5 (some .int) ∈ GT := (List.mem_of_getElem? (i := 834) (by decide +kernel))
set_option maxRecDepth 20000 in
theorem mx_L_73 : MX RL 73 0 yX4_isOn 3 := ⟨(List.mem_of_getElem? (i := 836) (by decide +kernel)), (List.mem_of_getElem? (i := 40) (by decide +kernel)), ⟨by decide +kernel, by decide +kernel⟩, by decide +kernel, fun _ => ⟨(List.mem_of_getElem? (i := 837) (by decide +kernel)), (List.mem_of_getElem? (i := 838) (by decide +kernel))⟩, fun h => by omega⟩
set_option maxRecDepth 20000 in
theorem k_X4_isOn : Cond.code yX4_isOn cX4_isOn 4 (some .boolean) ∈ GT := (List.mem_of_getElem? (i := 839) (by decide +kernel))
set_option maxRecDepth 20000 in
theorem mx_L_76 : MX RL 76 0 yX4_isOnTrack 3 := ⟨(List.mem_of_getElem? (i := 841) (by decide +kernel)), (List.mem_of_getElem? (i := 40) (by decide +kernel)), ⟨by decide +kernel, by decide +kernel⟩, by decide +kernel, fun _ => ⟨(List.mem_of_getElem? (i := 842) (by decide +kernel)), (List.mem_of_getElem? (i := 843) (by decide +kernel))⟩, fun h => by omega⟩
set_option maxRecDepth 20000 in
theorem k_X4_isOnTrack : Cond.code yX4_isOnTrack cX4_isOnTrack 4 (some .boolean) ∈ GT := (List.mem_of_getElem? (i := 844) (by decide +kernel))
set_option maxRecDepth 20000 in
theorem m_L_60 : MF RL 60 1 yL_apart 2 := ⟨Or.inl (List.mem_of_getElem? (i := 820) (by decide +kernel)), (List.mem_of_getElem? (i := 39) (by decide +kernel)), ⟨by decide +kernel, by decide +kernel⟩, by decide +kernel, fun h => by omega, fun _ => (List.mem_of_getElem? (i := 821) (by decide +kernel)), fun h => by omega⟩
set_option maxRecDepth 20000 in
theorem k_L_apart : Cond.code yL_apart cL_apart 4 (some .int) ∈ GT := (List.mem_of_getElem? (i := 822) (by decide +kernel))
section
variable {l : Launch} {D : va_G} {cy : Nat → ClassId} {n0 : Nat} {ad : Nat → Nat} {b ba : Nat → Nat} {E : va_W} {ws : va_W}
set_option maxHeartbeats 4000000 in
set_option maxRecDepth 100000 in
theorem c_L_from {sb L : Nat} {xs : Nat → Int32} {k bl : Int} (hfl : l.stackTraces = false) (hL : L ≤ 260) (hk : 0 ≤ k ∧ k ≤ 300) (hb : 0 < bl ∧ bl ≤ 100000) : CTX l D cy n0 ad (XSL sb L xs n0) yL_from (.code yL_from cL_from 4 (some .int)) ({ frames := 0, cells := 0, slots := 0, locals := 0 }) [.ref sb, .int (zI k), .int (zI bl)] ws (fun vv uu => ∃ q, vv = some (.int (zI q)) ∧ uu = ws ∧ (0 ≤ q ∧ q < bl)) := by
  refine CTX.walk hfl (by decide) (Nat.le_of_ble_eq_true rfl) ?_
  intro A J hJ
  show J ws 0 0 0 [(0, .ref sb), (1, .int (zI k)), (2, .int (zI bl))] []
  have j26 : ∀ (x : Int32) , J ws 0 0 26 [(0, .ref sb), (1, .int (zI k)), (2, .int (zI bl))] [.int x] := by
    intro x
    refine j_istore_n hJ (lv' := [(3, .int x), (0, .ref sb), (1, .int (zI k)), (2, .int (zI bl))]) rfl (by decide) rfl dL_from_26 ?_
    refine j_iload_n hJ (j := 0) rfl rfl dL_from_27 ?_
    refine j_ldc hJ q_L_8 dL_from_28 ?_
    refine j_iand hJ (v := ((x.toBitVec.toNat % 2 ^ 31 : Nat) : Int)) (zI_andM x 31 (by decide)) dL_from_30 ?_
    have hv0 : 0 ≤ ((x.toBitVec.toNat % 2 ^ 31 : Nat) : Int) ∧ ((x.toBitVec.toNat % 2 ^ 31 : Nat) : Int) < 2147483648 := by
      have := Nat.mod_lt x.toBitVec.toNat (show 0 < 2 ^ 31 by decide)
      omega
    generalize ((x.toBitVec.toNat % 2 ^ 31 : Nat) : Int) = v9 at hv0 ⊢
    refine j_iload_n hJ (j := 3) rfl rfl dL_from_31 ?_
    refine j_irem hJ (by omega) (by omega) (by omega) (by omega) dL_from_32 ?_
    refine j_iret hJ rfl rfl (rfl) (Nat.le_of_ble_eq_true rfl) (Nat.le_of_ble_eq_true rfl) dL_from_33 ⟨(v9 % bl), rfl, rfl, ?_⟩
    exact ⟨Int.emod_nonneg _ (by omega), Int.emod_lt_of_pos _ (by omega)⟩
  refine j_aload_n hJ (j := 0) rfl rfl dL_from_0 ?_
  refine j_slen hJ dL_from_1 ?_
  refine j_if_ne hJ (tgt := 15) ⟨by omega, by omega⟩ (by decide) dL_from_2 ?_ ?_
  · intro h2
    refine j_aload_n hJ (j := 0) rfl rfl dL_from_15 ?_
    refine j_iload_n hJ (j := 1) rfl rfl dL_from_16 ?_
    refine j_aload_n hJ (j := 0) rfl rfl dL_from_17 ?_
    refine j_slen hJ dL_from_18 ?_
    refine j_irem hJ (by omega) (by omega) (by omega) (by omega) dL_from_19 ?_
    have hm0 : 0 ≤ k % (L : Int) := Int.emod_nonneg _ (by omega)
    have hm1 : k % (L : Int) < L := Int.emod_lt_of_pos _ (by omega)
    refine j_sld hJ (by omega) (by omega) (by omega) dL_from_20 ?_
    refine j_ldc hJ q_L_7 dL_from_21 ?_
    refine j_iload_n hJ (j := 1) rfl rfl dL_from_23 ?_
    refine j_imul hJ dL_from_24 ?_
    refine j_rxor hJ dL_from_25 ?_
    exact j26 _
  · intro h2
    refine j_bipush hJ (v := 71) (by decide) dL_from_5 ?_
    refine j_iload_n hJ (j := 1) rfl rfl dL_from_7 ?_
    refine j_imul hJ dL_from_8 ?_
    refine j_bipush hJ (v := 31) (by decide) dL_from_9 ?_
    refine j_iadd hJ dL_from_11 ?_
    refine j_goto hJ (tgt := 26) (by decide) dL_from_12 ?_
    exact j26 _
set_option maxHeartbeats 4000000 in
set_option maxRecDepth 100000 in
theorem c_L_isIndex {μ ν : Nat → Int → Int} {n : Nat} {N : Nat → List Int} {ow : Nat → Int} {m : Nat → Nat} {p : Nat → Nat → Int} (hfl : l.stackTraces = false) (hX : XI μ n N ow m p) (hn : n ≤ 5) (hK : AK ν (μ 1)) (hA : AWr ν) (hN : ∀ i, i < n → ANm ν i (N i)) : CT l D cy n0 ad yL_isIndex (.code yL_isIndex cL_isIndex 8 (some .boolean)) ({ frames := 10, cells := 60, slots := 400, locals := 226 }) [.ref (b 0), .ref (ba 0), .ref (ba 1), .int (zI (n : Int))] (gw 105 XSh cy b μ ++ (gw 3 ASh cy ba ν ++ E)) (fun vv uu => ∃ q μ', vv = some (.int (zI q)) ∧ uu = (gw 105 XSh cy b μ' ++ (gw 3 ASh cy ba ν ++ E)) ∧ (q = 1 ∧ FrS μ μ')) := by
  refine CT.walk hfl (by decide) (Nat.le_of_ble_eq_true rfl) ?_
  intro A J hJ
  show J (gw 105 XSh cy b μ ++ (gw 3 ASh cy ba ν ++ E)) 0 0 0 [(0, .ref (b 0)), (1, .ref (ba 0)), (2, .ref (ba 1)), (3, .int (zI (n : Int)))] []
  refine j_aload_n hJ (j := 0) rfl rfl dL_isIndex_0 ?_
  refine j_callV0 hJ (c_X4_streets hfl hX) m_L_93 k_X4_streets (q0 := 0) (by rw [gw_get (by decide)]; rfl) rfl ⟨(Nat.le_of_ble_eq_true rfl), (Nat.le_of_ble_eq_true rfl)⟩ ⟨(Nat.le_of_ble_eq_true rfl), (Nat.le_of_ble_eq_true rfl)⟩ (Nat.le_of_ble_eq_true rfl) dL_isIndex_1 rfl ?_
  intro v1 u2 hv3
  obtain ⟨_, rfl, rfl, rfl⟩ := hv3
  show J (gw 105 XSh cy b μ ++ (gw 3 ASh cy ba ν ++ E)) 0 0 4 [(0, .ref (b 0)), (1, .ref (ba 0)), (2, .ref (ba 1)), (3, .int (zI (n : Int)))] [.int (zI (n : Int))]
  refine j_iload_n hJ (j := 3) rfl rfl dL_isIndex_4 ?_
  refine j_icmp_ne hJ (tgt := 12) ⟨by omega, by omega⟩ ⟨by omega, by omega⟩ (by decide) dL_isIndex_5 ?_ ?_
  · intro h5
    exact absurd rfl h5
  · intro h5
    refine j_iconst hJ dL_isIndex_8 ?_
    refine j_goto hJ (tgt := 13) (by decide) dL_isIndex_9 ?_
    refine j_istore hJ (lv' := [(4, .int (zI 1)), (0, .ref (b 0)), (1, .ref (ba 0)), (2, .ref (ba 1)), (3, .int (zI (n : Int)))]) (by decide) rfl dL_isIndex_13 ?_
    refine j_iconst hJ dL_isIndex_15 ?_
    refine j_istore hJ (lv' := [(5, .int (zI 0)), (4, .int (zI 1)), (0, .ref (b 0)), (1, .ref (ba 0)), (2, .ref (ba 1)), (3, .int (zI (n : Int)))]) (by decide) rfl dL_isIndex_16 ?_
    have lp18 : ∀ (nn18 : Nat) (μk : Nat → Int → Int) (k : Nat) (hmeas18 : n + 1 - k < nn18) (hk : k ≤ n) (hF : FrS μ μk), J (gw 105 XSh cy b μk ++ (gw 3 ASh cy ba ν ++ E)) (12 * k) (72 * k) 18 [(0, .ref (b 0)), (1, .ref (ba 0)), (2, .ref (ba 1)), (3, .int (zI (n : Int))), (4, .int (zI 1)), (5, .int (zI (k : Int)))] [] := by
      intro nn18
      induction nn18 with
      | zero => intro μk k hmeas18 hk hF; omega
      | succ nn18 ih18 =>
        intro μk k hmeas18 hk hF
        refine j_iload hJ (j := 5) rfl dL_isIndex_18 ?_
        refine j_iload_n hJ (j := 3) rfl rfl dL_isIndex_20 ?_
        refine j_icmp_ge hJ (tgt := 149) ⟨by omega, by omega⟩ ⟨by omega, by omega⟩ (by decide) dL_isIndex_21 ?_ ?_
        · intro h21
          refine j_iload hJ (j := 4) rfl dL_isIndex_149 ?_
          refine j_iret hJ rfl rfl (rfl) (by dsimp only; omega) (by dsimp only; omega) dL_isIndex_151 ⟨1, μk, rfl, rfl, ?_⟩
          exact ⟨rfl, hF⟩
        · intro h21
          have hk2 : k < n := by omega
          refine j_iload hJ (j := 4) rfl dL_isIndex_24 ?_
          refine j_if_eq hJ (tgt := 149) ⟨by omega, by omega⟩ (by decide) dL_isIndex_26 ?_ ?_
          · intro h26
            exact absurd h26 (by decide)
          · intro h26
            refine j_iconst hJ dL_isIndex_29 ?_
            refine j_istore hJ (lv' := [(6, .int (zI 0)), (0, .ref (b 0)), (1, .ref (ba 0)), (2, .ref (ba 1)), (3, .int (zI (n : Int))), (4, .int (zI 1)), (5, .int (zI (k : Int)))]) (by decide) rfl dL_isIndex_30 ?_
            refine j_iconst hJ dL_isIndex_32 ?_
            refine j_istore hJ (lv' := [(7, .int (zI 0)), (6, .int (zI 0)), (0, .ref (b 0)), (1, .ref (ba 0)), (2, .ref (ba 1)), (3, .int (zI (n : Int))), (4, .int (zI 1)), (5, .int (zI (k : Int)))]) (by decide) rfl dL_isIndex_33 ?_
            have lp35 : ∀ (nn35 : Nat) (μj : Nat → Int → Int) (pl : Int) (j : Nat) (hmeas35 : n + 1 - j < nn35) (hj : j ≤ n) (hpl : pl = ((cnt (μ 1) N j k : Nat) : Int)) (hFj : FrS μ μj), J (gw 105 XSh cy b μj ++ (gw 3 ASh cy ba ν ++ E)) (12 * k + 2 * j) (72 * k + 12 * j) 35 [(0, .ref (b 0)), (1, .ref (ba 0)), (2, .ref (ba 1)), (3, .int (zI (n : Int))), (4, .int (zI 1)), (5, .int (zI (k : Int))), (6, .int (zI pl)), (7, .int (zI (j : Int)))] [] := by
              intro nn35
              induction nn35 with
              | zero => intro μj pl j hmeas35 hj hpl hFj; omega
              | succ nn35 ih35 =>
                intro μj pl j hmeas35 hj hpl hFj
                refine j_iload hJ (j := 7) rfl dL_isIndex_35 ?_
                refine j_iload_n hJ (j := 3) rfl rfl dL_isIndex_37 ?_
                refine j_icmp_ge hJ (tgt := 109) ⟨by omega, by omega⟩ ⟨by omega, by omega⟩ (by decide) dL_isIndex_38 ?_ ?_
                · intro h38
                  have hjn : j = n := by omega
                  rw [hjn] at hpl
                  refine j_iload hJ (j := 4) rfl dL_isIndex_109 ?_
                  refine j_if_eq hJ (tgt := 140) ⟨by omega, by omega⟩ (by decide) dL_isIndex_111 ?_ ?_
                  · intro h111
                    exact absurd h111 (by decide)
                  · intro h111
                    refine j_aload_n hJ (j := 0) rfl rfl dL_isIndex_114 ?_
                    refine j_iload hJ (j := 5) rfl dL_isIndex_115 ?_
                    refine j_callVX0 hJ (c_X4_placeOf hfl (hX.scratch hFj) ⟨by omega, by omega⟩) mx_L_104 k_X4_placeOf (q0 := 0) (by rw [gw_get (by decide)]; rfl) rfl ⟨(Nat.le_of_ble_eq_true rfl), (Nat.le_of_ble_eq_true rfl)⟩ ⟨by dsimp only; omega, by dsimp only; omega⟩ (Nat.le_of_ble_eq_true rfl) dL_isIndex_117 (by rintro q u ⟨_, _, ⟨_, h⟩, _⟩; exact h ⟨by omega, by omega⟩) rfl ?_
                    intro v4 u5 hv6
                    obtain ⟨q11, μ1, rfl, rfl, h11⟩ := hv6
                    show J (gw 105 XSh cy b μ1 ++ (gw 3 ASh cy ba ν ++ E)) _ _ 120 [(0, .ref (b 0)), (1, .ref (ba 0)), (2, .ref (ba 1)), (3, .int (zI (n : Int))), (4, .int (zI 1)), (5, .int (zI (k : Int))), (6, .int (zI pl)), (7, .int (zI (j : Int)))] [.int (zI q11)]
                    have hFa := hFj.tr h11.2.2
                    have h11e := h11.2.1
                    rw [hFj 1 (by omega) (by omega) (by omega) (by omega) (by omega), Int.toNat_natCast] at h11e
                    have hcl := cnt_lt (kd := μ 1) (N := N) hk2
                    refine j_iload hJ (j := 6) rfl dL_isIndex_120 ?_
                    refine j_icmp_ne hJ (tgt := 140) ⟨by omega, by omega⟩ ⟨by omega, by omega⟩ (by decide) dL_isIndex_122 ?_ ?_
                    · intro h122
                      exfalso; omega
                    · intro h122
                      refine j_aload_n hJ (j := 0) rfl rfl dL_isIndex_125 ?_
                      refine j_iload hJ (j := 6) rfl dL_isIndex_126 ?_
                      refine j_callVX0 hJ (c_X4_streetAt hfl (hX.scratch hFa) ⟨by omega, by omega⟩) mx_L_107 k_X4_streetAt (q0 := 0) (by rw [gw_get (by decide)]; rfl) rfl ⟨(Nat.le_of_ble_eq_true rfl), (Nat.le_of_ble_eq_true rfl)⟩ ⟨by dsimp only; omega, by dsimp only; omega⟩ (Nat.le_of_ble_eq_true rfl) dL_isIndex_128 (by rintro q u ⟨_, _, ⟨_, h⟩, _⟩; exact h ⟨by omega, by omega⟩) rfl ?_
                      intro v7 u8 hv9
                      obtain ⟨q12, μ2, rfl, rfl, h12⟩ := hv9
                      show J (gw 105 XSh cy b μ2 ++ (gw 3 ASh cy ba ν ++ E)) _ _ 131 [(0, .ref (b 0)), (1, .ref (ba 0)), (2, .ref (ba 1)), (3, .int (zI (n : Int))), (4, .int (zI 1)), (5, .int (zI (k : Int))), (6, .int (zI pl)), (7, .int (zI (j : Int)))] [.int (zI q12)]
                      obtain ⟨h12a, ⟨s9, hs9, hq12, hc9⟩, h12c⟩ := h12
                      rw [hFa 1 (by omega) (by omega) (by omega) (by omega) (by omega)] at hc9
                      have hsk : s9 = k := cnt_inj (kd := μ 1) (N := N) hs9 hk2 (by omega)
                      have hF2 := hFa.tr h12c
                      refine j_iload hJ (j := 5) rfl dL_isIndex_131 ?_
                      refine j_icmp_ne hJ (tgt := 140) ⟨by omega, by omega⟩ ⟨by omega, by omega⟩ (by decide) dL_isIndex_133 ?_ ?_
                      · intro h133
                        exfalso; omega
                      · intro h133
                        refine j_iconst hJ dL_isIndex_136 ?_
                        refine j_goto hJ (tgt := 141) (by decide) dL_isIndex_137 ?_
                        refine j_istore hJ (lv' := [(4, .int (zI 1)), (0, .ref (b 0)), (1, .ref (ba 0)), (2, .ref (ba 1)), (3, .int (zI (n : Int))), (5, .int (zI (k : Int))), (6, .int (zI pl)), (7, .int (zI (j : Int)))]) (by decide) rfl dL_isIndex_141 ?_
                        refine j_iinc hJ (lv' := [(5, .int (zI ((k : Int) + 1))), (4, .int (zI 1)), (0, .ref (b 0)), (1, .ref (ba 0)), (2, .ref (ba 1)), (3, .int (zI (n : Int))), (6, .int (zI pl)), (7, .int (zI (j : Int)))]) (j := 5) rfl (by omega) (by decide) rfl dL_isIndex_143 ?_
                        refine j_goto hJ (tgt := 18) (by decide) dL_isIndex_146 ?_
                        refine j_locs hJ [2, 3, 4, 5, 1, 0] rfl ?_
                        refine j_widen hJ (ce' := 12 * (k + 1)) (sl' := 72 * (k + 1)) (by (try dsimp only); omega) (by (try dsimp only); omega) ?_
                        exact ih18 μ2 (k + 1) (by omega) (by omega) (by exact hF2)
                · intro h38
                  have hj2 : j < n := by omega
                  have hcs := cnt_succ (kd := μ 1) (N := N) (k := j) (t := k)
                  have hcb : cnt (μ 1) N j k ≤ j := cntN_le _ _
                  refine j_iload hJ (j := 4) rfl dL_isIndex_41 ?_
                  refine j_if_eq hJ (tgt := 109) ⟨by omega, by omega⟩ (by decide) dL_isIndex_43 ?_ ?_
                  · intro h43
                    exact absurd h43 (by decide)
                  · intro h43
                    have j72 : ∀ (z : Int) (hz : z = if io (μ 1) N j k < 0 then 1 else 0), J (gw 105 XSh cy b μj ++ (gw 3 ASh cy ba ν ++ E)) (12 * k + 2 * j) (72 * k + 12 * j) 72 [(0, .ref (b 0)), (1, .ref (ba 0)), (2, .ref (ba 1)), (3, .int (zI (n : Int))), (4, .int (zI 1)), (5, .int (zI (k : Int))), (6, .int (zI pl)), (7, .int (zI (j : Int)))] [.int (zI z), .int (zI pl)] := by
                      intro z hz
                      have hz01 : z = 0 ∨ z = 1 := by rw [hz]; split <;> omega
                      have hcz : ((cnt (μ 1) N (j + 1) k : Nat) : Int) = (cnt (μ 1) N j k : Nat) + z := by rw [hcs, hz]; split <;> simp
                      refine j_iadd hJ dL_isIndex_72 ?_
                      refine j_istore hJ (lv' := [(6, .int (zI (pl + z))), (0, .ref (b 0)), (1, .ref (ba 0)), (2, .ref (ba 1)), (3, .int (zI (n : Int))), (4, .int (zI 1)), (5, .int (zI (k : Int))), (7, .int (zI (j : Int)))]) (by decide) rfl dL_isIndex_73 ?_
                      refine j_aload_n hJ (j := 1) rfl rfl dL_isIndex_75 ?_
                      refine j_iload hJ (j := 6) rfl dL_isIndex_76 ?_
                      refine j_iload hJ (j := 7) rfl dL_isIndex_78 ?_
                      refine j_callVX0 hJ (c_X4_compareKeys hfl (hX.scratch hFj) ⟨by omega, by omega⟩ ⟨by omega, by omega⟩) mx_L_101 k_X4_compareKeys (q0 := 0) (by rw [gw_get (by decide)]; rfl) rfl ⟨(Nat.le_of_ble_eq_true rfl), (Nat.le_of_ble_eq_true rfl)⟩ ⟨by dsimp only; omega, by dsimp only; omega⟩ (Nat.le_of_ble_eq_true rfl) dL_isIndex_80 (by rintro q u ⟨_, _, ⟨_, h⟩, _⟩; exact h ⟨⟨by omega, by omega⟩, by omega, by omega⟩) rfl ?_
                      intro v10 u11 hv12
                      obtain ⟨q8, μ3, rfl, rfl, h8⟩ := hv12
                      show J (gw 105 XSh cy b μ3 ++ (gw 3 ASh cy ba ν ++ E)) _ _ 83 [(6, .int (zI (pl + z))), (0, .ref (b 0)), (1, .ref (ba 0)), (2, .ref (ba 1)), (3, .int (zI (n : Int))), (4, .int (zI 1)), (5, .int (zI (k : Int))), (7, .int (zI (j : Int)))] [.int (zI q8)]
                      have hF1 : FrS μ μ3 := hFj.tr h8.2.2
                      have h8e := h8.2.1
                      rw [hFj 1 (by omega) (by omega) (by omega) (by omega) (by omega), Int.toNat_natCast, Int.toNat_natCast] at h8e
                      have hkr := wo_rng (keyL (μ 1) (N k)) (keyL (μ 1) (N j))
                      unfold ko at h8e
                      refine j_aload_n hJ (j := 2) rfl rfl dL_isIndex_83 ?_
                      refine j_aload_n hJ (j := 3) rfl rfl dL_isIndex_84 ?_
                      refine j_iload hJ (j := 6) rfl dL_isIndex_85 ?_
                      refine j_iload hJ (j := 7) rfl dL_isIndex_87 ?_
                      refine j_iconst hJ dL_isIndex_89 ?_
                      refine j_perm hJ (perm3 _ _ _) ?_
                      show J (gw 3 ASh cy ba ν ++ (gw 105 XSh cy b μ3 ++ E)) _ _ 90 [(6, .int (zI (pl + z))), (0, .ref (b 0)), (1, .ref (ba 0)), (2, .ref (ba 1)), (3, .int (zI (n : Int))), (4, .int (zI 1)), (5, .int (zI (k : Int))), (7, .int (zI (j : Int)))] [.int (zI 0), .int (zI (j : Int)), .int (zI (k : Int)), .ref (ba 1), .ref (ba 0), .int (zI q8)]
                      refine j_callS0 hJ (c_L_compare hfl hK hA (i := k) (j := j) (by omega) (by omega) (hN k hk2) (hN j hj2) (Or.inl rfl)) m_L_19 k_L_compare ⟨(Nat.le_of_ble_eq_true rfl), (Nat.le_of_ble_eq_true rfl)⟩ ⟨by dsimp only; omega, by dsimp only; omega⟩ (Nat.le_of_ble_eq_true rfl) dL_isIndex_90 rfl ?_
                      intro v13 u14 hv15
                      obtain ⟨q9, rfl, rfl, h9⟩ := hv15
                      show J (gw 3 ASh cy ba ν ++ (gw 105 XSh cy b μ3 ++ E)) _ _ 93 [(6, .int (zI (pl + z))), (0, .ref (b 0)), (1, .ref (ba 0)), (2, .ref (ba 1)), (3, .int (zI (n : Int))), (4, .int (zI 1)), (5, .int (zI (k : Int))), (7, .int (zI (j : Int)))] [.int (zI q9), .int (zI q8)]
                      refine j_perm hJ (perm3 _ _ _) ?_
                      show J (gw 105 XSh cy b μ3 ++ (gw 3 ASh cy ba ν ++ E)) _ _ 93 [(6, .int (zI (pl + z))), (0, .ref (b 0)), (1, .ref (ba 0)), (2, .ref (ba 1)), (3, .int (zI (n : Int))), (4, .int (zI 1)), (5, .int (zI (k : Int))), (7, .int (zI (j : Int)))] [.int (zI q9), .int (zI q8)]
                      rw [if_neg (by decide)] at h9
                      refine j_icmp_ne hJ (tgt := 100) ⟨by omega, by omega⟩ ⟨by omega, by omega⟩ (by decide) dL_isIndex_93 ?_ ?_
                      · intro h93
                        exfalso; omega
                      · intro h93
                        refine j_iconst hJ dL_isIndex_96 ?_
                        refine j_goto hJ (tgt := 101) (by decide) dL_isIndex_97 ?_
                        refine j_istore hJ (lv' := [(4, .int (zI 1)), (6, .int (zI (pl + z))), (0, .ref (b 0)), (1, .ref (ba 0)), (2, .ref (ba 1)), (3, .int (zI (n : Int))), (5, .int (zI (k : Int))), (7, .int (zI (j : Int)))]) (by decide) rfl dL_isIndex_101 ?_
                        refine j_iinc hJ (lv' := [(7, .int (zI ((j : Int) + 1))), (4, .int (zI 1)), (6, .int (zI (pl + z))), (0, .ref (b 0)), (1, .ref (ba 0)), (2, .ref (ba 1)), (3, .int (zI (n : Int))), (5, .int (zI (k : Int)))]) (j := 7) rfl (by omega) (by decide) rfl dL_isIndex_103 ?_
                        refine j_goto hJ (tgt := 35) (by decide) dL_isIndex_106 ?_
                        refine j_locs hJ [3, 4, 5, 6, 1, 7, 2, 0] rfl ?_
                        refine j_widen hJ (ce' := 12 * k + 2 * (j + 1)) (sl' := 72 * k + 12 * (j + 1)) (by (try dsimp only); omega) (by (try dsimp only); omega) ?_
                        exact ih35 μ3 (pl + z) (j + 1) (by omega) (by omega) (by rw [hcz, hpl]) (by exact hF1)
                    refine j_iload hJ (j := 6) rfl dL_isIndex_46 ?_
                    refine j_iload hJ (j := 7) rfl dL_isIndex_48 ?_
                    refine j_iload hJ (j := 5) rfl dL_isIndex_50 ?_
                    refine j_icmp_eq hJ (tgt := 71) ⟨by omega, by omega⟩ ⟨by omega, by omega⟩ (by decide) dL_isIndex_52 ?_ ?_
                    · intro h52
                      have hio : io (μ 1) N j k = 0 := by rw [show j = k by omega]; exact io_self _ _ _
                      refine j_iconst hJ dL_isIndex_71 ?_
                      refine j_widen hJ (ce' := 12 * k + 2 * j) (sl' := 72 * k + 12 * j) (by (try dsimp only); omega) (by (try dsimp only); omega) ?_
                      exact j72 0 (by first | (rw [hio]; rfl) | (rw [if_pos (h6.2.mp (by omega))]) | (rw [if_neg (fun g => by have := h6.2.mpr g; omega)]))
                    · intro h52
                      refine j_aload_n hJ (j := 1) rfl rfl dL_isIndex_55 ?_
                      refine j_aload_n hJ (j := 2) rfl rfl dL_isIndex_56 ?_
                      refine j_iload hJ (j := 7) rfl dL_isIndex_57 ?_
                      refine j_iload hJ (j := 5) rfl dL_isIndex_59 ?_
                      refine j_perm hJ (perm3 _ _ _) ?_
                      show J (gw 3 ASh cy ba ν ++ (gw 105 XSh cy b μj ++ E)) (12 * k + 2 * j) (72 * k + 12 * j) 61 [(0, .ref (b 0)), (1, .ref (ba 0)), (2, .ref (ba 1)), (3, .int (zI (n : Int))), (4, .int (zI 1)), (5, .int (zI (k : Int))), (6, .int (zI pl)), (7, .int (zI (j : Int)))] [.int (zI (k : Int)), .int (zI (j : Int)), .ref (ba 1), .ref (ba 0), .int (zI pl)]
                      refine j_callS0 hJ (c_L_isAhead hfl hK hA (i := j) (j := k) (N := N) (by omega) (by omega) (hN j hj2) (hN k hk2)) m_L_97 k_L_isAhead ⟨(Nat.le_of_ble_eq_true rfl), (Nat.le_of_ble_eq_true rfl)⟩ ⟨by dsimp only; omega, by dsimp only; omega⟩ (Nat.le_of_ble_eq_true rfl) dL_isIndex_61 rfl ?_
                      intro v16 u17 hv18
                      obtain ⟨z6, rfl, rfl, h6⟩ := hv18
                      show J (gw 3 ASh cy ba ν ++ (gw 105 XSh cy b μj ++ E)) _ _ 64 [(0, .ref (b 0)), (1, .ref (ba 0)), (2, .ref (ba 1)), (3, .int (zI (n : Int))), (4, .int (zI 1)), (5, .int (zI (k : Int))), (6, .int (zI pl)), (7, .int (zI (j : Int)))] [.int (zI z6), .int (zI pl)]
                      refine j_perm hJ (perm3 _ _ _) ?_
                      show J (gw 105 XSh cy b μj ++ (gw 3 ASh cy ba ν ++ E)) _ _ 64 [(0, .ref (b 0)), (1, .ref (ba 0)), (2, .ref (ba 1)), (3, .int (zI (n : Int))), (4, .int (zI 1)), (5, .int (zI (k : Int))), (6, .int (zI pl)), (7, .int (zI (j : Int)))] [.int (zI z6), .int (zI pl)]
                      refine j_if_eq hJ (tgt := 71) ⟨by omega, by omega⟩ (by decide) dL_isIndex_64 ?_ ?_
                      · intro h64
                        refine j_iconst hJ dL_isIndex_71 ?_
                        refine j_widen hJ (ce' := 12 * k + 2 * j) (sl' := 72 * k + 12 * j) (by (try dsimp only); omega) (by (try dsimp only); omega) ?_
                        exact j72 0 (by first | (rw [hio]; rfl) | (rw [if_pos (h6.2.mp (by omega))]) | (rw [if_neg (fun g => by have := h6.2.mpr g; omega)]))
                      · intro h64
                        refine j_iconst hJ dL_isIndex_67 ?_
                        refine j_goto hJ (tgt := 72) (by decide) dL_isIndex_68 ?_
                        refine j_widen hJ (ce' := 12 * k + 2 * j) (sl' := 72 * k + 12 * j) (by (try dsimp only); omega) (by (try dsimp only); omega) ?_
                        exact j72 1 (by first | (rw [hio]; rfl) | (rw [if_pos (h6.2.mp (by omega))]) | (rw [if_neg (fun g => by have := h6.2.mpr g; omega)]))
            refine j_locs hJ [2, 3, 4, 5, 6, 7, 1, 0] rfl ?_
            refine j_widen hJ (ce' := 12 * k + 2 * 0) (sl' := 72 * k + 12 * 0) (by (try dsimp only); omega) (by (try dsimp only); omega) ?_
            exact lp35 (n + 1 - 0 + 1) μk 0 0 (by omega) (by omega) (by rfl) (by exact hF)
    refine j_locs hJ [2, 3, 4, 5, 1, 0] rfl ?_
    refine j_widen hJ (ce' := 12 * 0) (sl' := 72 * 0) (by (try dsimp only); omega) (by (try dsimp only); omega) ?_
    exact lp18 (n + 1 - 0 + 1) μ 0 (by omega) (by omega) (by exact FrS.rf)
set_option maxHeartbeats 4000000 in
set_option maxRecDepth 100000 in
theorem c_L_isNear {μ ν : Nat → Int → Int} {n : Nat} {N : Nat → List Int} {ow : Nat → Int} {m : Nat → Nat} {p : Nat → Nat → Int} {i : Nat} {its : Int} (hfl : l.stackTraces = false) (hX : XI μ n N ow m p) (hi5 : i < 5) (hi : i < n) (hP : APt ν i (p i) (m i)) (hits : 0 ≤ its ∧ its < 144) : CT l D cy n0 ad yL_isNear (.code yL_isNear cL_isNear 8 (some .boolean)) ({ frames := 8, cells := 9, slots := 54, locals := 127 }) [.ref (b 0), .ref (ba 2), .int (zI (i : Int)), .int (zI its)] (gw 105 XSh cy b μ ++ (gw 3 ASh cy ba ν ++ E)) (fun vv uu => ∃ q, vv = some (.int (zI q)) ∧ uu = (gw 105 XSh cy b μ ++ (gw 3 ASh cy ba ν ++ E)) ∧ (q = 1)) := by
  obtain ⟨p1, p2, p3, p4⟩ := id hP
  obtain ⟨x1, x2, -⟩ := id hX
  have hr := trk_rng p4
  have hln := (trk_len p4).1
  have hsq : SqOK (its / 12) (its % 12) := ⟨by omega, by omega⟩
  have hst : StOK n (i : Int) := ⟨by omega, by omega⟩
  have hit : 12 * (its / 12) + its % 12 = its := by omega
  refine CT.walk hfl (by decide) (Nat.le_of_ble_eq_true rfl) ?_
  intro A J hJ
  show J (gw 105 XSh cy b μ ++ (gw 3 ASh cy ba ν ++ E)) 0 0 0 [(0, .ref (b 0)), (1, .ref (ba 2)), (2, .int (zI (i : Int))), (3, .int (zI its))] []
  refine j_iconst hJ dL_isNear_0 ?_
  refine j_istore hJ (lv' := [(4, .int (zI (-1))), (0, .ref (b 0)), (1, .ref (ba 2)), (2, .int (zI (i : Int))), (3, .int (zI its))]) (by decide) rfl dL_isNear_1 ?_
  refine j_iconst hJ dL_isNear_3 ?_
  refine j_istore hJ (lv' := [(5, .int (zI 0)), (4, .int (zI (-1))), (0, .ref (b 0)), (1, .ref (ba 2)), (2, .int (zI (i : Int))), (3, .int (zI its))]) (by decide) rfl dL_isNear_4 ?_
  have lp6 : ∀ (nn6 : Nat) (nr : Int) (k : Nat) (hmeas6 : (trk (p i) (m i)).length + 1 - k < nn6) (hk : k ≤ (trk (p i) (m i)).length) (hN : NrB (trk (p i) (m i)) k (its / 12) (its % 12) nr), J (gw 105 XSh cy b μ ++ (gw 3 ASh cy ba ν ++ E)) 0 0 6 [(0, .ref (b 0)), (1, .ref (ba 2)), (2, .int (zI (i : Int))), (3, .int (zI its)), (4, .int (zI nr)), (5, .int (zI (k : Int)))] [] := by
    intro nn6
    induction nn6 with
    | zero => intro nr k hmeas6 hk hN; omega
    | succ nn6 ih6 =>
      intro nr k hmeas6 hk hN
      refine j_aload_n hJ (j := 1) rfl rfl dL_isNear_6 ?_
      refine j_iload_n hJ (j := 2) rfl rfl dL_isNear_7 ?_
      refine j_iload hJ (j := 5) rfl dL_isNear_8 ?_
      refine j_perm hJ (perm3 _ _ _) ?_
      show J (gw 3 ASh cy ba ν ++ (gw 105 XSh cy b μ ++ E)) 0 0 10 [(0, .ref (b 0)), (1, .ref (ba 2)), (2, .int (zI (i : Int))), (3, .int (zI its)), (4, .int (zI nr)), (5, .int (zI (k : Int)))] [.int (zI (k : Int)), .int (zI (i : Int)), .ref (ba 2)]
      refine j_callS0 hJ (c_L_square hfl hi5 hP (by omega)) m_L_23 k_L_square ⟨(Nat.le_of_ble_eq_true rfl), (Nat.le_of_ble_eq_true rfl)⟩ ⟨(Nat.le_of_ble_eq_true rfl), (Nat.le_of_ble_eq_true rfl)⟩ (Nat.le_of_ble_eq_true rfl) dL_isNear_10 rfl ?_
      intro v1 u2 hv3
      obtain ⟨_, rfl, rfl, rfl⟩ := hv3
      show J (gw 3 ASh cy ba ν ++ (gw 105 XSh cy b μ ++ E)) 0 0 13 [(0, .ref (b 0)), (1, .ref (ba 2)), (2, .int (zI (i : Int))), (3, .int (zI its)), (4, .int (zI nr)), (5, .int (zI (k : Int)))] [.int (zI (sqA (trk (p i) (m i)) k))]
      refine j_perm hJ (perm3 _ _ _) ?_
      show J (gw 105 XSh cy b μ ++ (gw 3 ASh cy ba ν ++ E)) 0 0 13 [(0, .ref (b 0)), (1, .ref (ba 2)), (2, .int (zI (i : Int))), (3, .int (zI its)), (4, .int (zI nr)), (5, .int (zI (k : Int)))] [.int (zI (sqA (trk (p i) (m i)) k))]
      have hs := sqA_rng hr k
      have hnr := hN.rng hr hk
      refine j_if_lt hJ (tgt := 94) ⟨by omega, by omega⟩ (by decide) dL_isNear_13 ?_ ?_
      · intro h13
        have hke : k = (trk (p i) (m i)).length := by omega
        have hIN := (show NrB (trk (p i) (m i)) (trk (p i) (m i)).length _ _ _ by rw [← hke]; exact hN).fin hr
        refine j_aload_n hJ (j := 1) rfl rfl dL_isNear_94 ?_
        refine j_iload_n hJ (j := 2) rfl rfl dL_isNear_95 ?_
        refine j_iload_n hJ (j := 3) rfl rfl dL_isNear_96 ?_
        refine j_perm hJ (perm3 _ _ _) ?_
        show J (gw 3 ASh cy ba ν ++ (gw 105 XSh cy b μ ++ E)) 0 0 97 [(0, .ref (b 0)), (1, .ref (ba 2)), (2, .int (zI (i : Int))), (3, .int (zI its)), (4, .int (zI nr)), (5, .int (zI (k : Int)))] [.int (zI its), .int (zI (i : Int)), .ref (ba 2)]
        refine j_callS0 hJ (c_L_isOn hfl hi5 hP ⟨by omega, by omega⟩) m_L_47 k_L_isOn ⟨(Nat.le_of_ble_eq_true rfl), (Nat.le_of_ble_eq_true rfl)⟩ ⟨(Nat.le_of_ble_eq_true rfl), (Nat.le_of_ble_eq_true rfl)⟩ (Nat.le_of_ble_eq_true rfl) dL_isNear_97 rfl ?_
        intro v4 u5 hv6
        obtain ⟨on, rfl, rfl, hon⟩ := hv6
        show J (gw 3 ASh cy ba ν ++ (gw 105 XSh cy b μ ++ E)) 0 0 100 [(0, .ref (b 0)), (1, .ref (ba 2)), (2, .int (zI (i : Int))), (3, .int (zI its)), (4, .int (zI nr)), (5, .int (zI (k : Int)))] [.int (zI on)]
        refine j_perm hJ (perm3 _ _ _) ?_
        show J (gw 105 XSh cy b μ ++ (gw 3 ASh cy ba ν ++ E)) 0 0 100 [(0, .ref (b 0)), (1, .ref (ba 2)), (2, .int (zI (i : Int))), (3, .int (zI its)), (4, .int (zI nr)), (5, .int (zI (k : Int)))] [.int (zI on)]
        have hon1 : on = 0 ∨ on = 1 := by rw [hon]; split <;> omega
        refine j_istore hJ (lv' := [(6, .int (zI on)), (0, .ref (b 0)), (1, .ref (ba 2)), (2, .int (zI (i : Int))), (3, .int (zI its)), (4, .int (zI nr)), (5, .int (zI (k : Int)))]) (by decide) rfl dL_isNear_100 ?_
        refine j_aload_n hJ (j := 1) rfl rfl dL_isNear_102 ?_
        refine j_iload_n hJ (j := 3) rfl rfl dL_isNear_103 ?_
        refine j_callVX0 hJ (c_X4_trackLength hfl hX ⟨by omega, by omega⟩) mx_L_63 k_X4_trackLength (q0 := 0) (by rw [gw_get (by decide)]; rfl) rfl ⟨(Nat.le_of_ble_eq_true rfl), (Nat.le_of_ble_eq_true rfl)⟩ ⟨(Nat.le_of_ble_eq_true rfl), (Nat.le_of_ble_eq_true rfl)⟩ (Nat.le_of_ble_eq_true rfl) dL_isNear_104 (by rintro q u ⟨_, _, ⟨_, h⟩, _⟩; exact h hst) rfl ?_
        intro v7 u8 hv9
        obtain ⟨q104, rfl, rfl, h104⟩ := hv9
        show J (gw 105 XSh cy b μ ++ (gw 3 ASh cy ba ν ++ E)) 1 6 107 [(6, .int (zI on)), (0, .ref (b 0)), (1, .ref (ba 2)), (2, .int (zI (i : Int))), (3, .int (zI its)), (4, .int (zI nr)), (5, .int (zI (k : Int)))] [.int (zI q104)]
        have e104 := h104.2
        rw [Int.toNat_natCast] at e104
        refine j_iload hJ (j := 6) rfl dL_isNear_107 ?_
        refine j_icmp_ne hJ (tgt := 201) ⟨by omega, by omega⟩ ⟨by omega, by omega⟩ (by decide) dL_isNear_109 ?_ ?_
        · intro h109
          exfalso; omega
        · intro h109
          refine j_aload_n hJ (j := 1) rfl rfl dL_isNear_112 ?_
          refine j_iload_n hJ (j := 3) rfl rfl dL_isNear_113 ?_
          refine j_iload_n hJ (j := 4) rfl rfl dL_isNear_114 ?_
          refine j_bipush hJ (v := 12) (by decide) dL_isNear_115 ?_
          refine j_idiv hJ (by omega) (by omega) (by omega) (by omega) dL_isNear_117 ?_
          refine j_iload_n hJ (j := 4) rfl rfl dL_isNear_118 ?_
          refine j_bipush hJ (v := 12) (by decide) dL_isNear_119 ?_
          refine j_irem hJ (by omega) (by omega) (by omega) (by omega) dL_isNear_121 ?_
          refine j_callVX0 hJ (c_X4_nearest hfl hX ⟨by omega, by omega⟩ ⟨by omega, by omega⟩ ⟨by omega, by omega⟩) mx_L_66 k_X4_nearest (q0 := 0) (by rw [gw_get (by decide)]; rfl) rfl ⟨(Nat.le_of_ble_eq_true rfl), (Nat.le_of_ble_eq_true rfl)⟩ ⟨(Nat.le_of_ble_eq_true rfl), (Nat.le_of_ble_eq_true rfl)⟩ (Nat.le_of_ble_eq_true rfl) dL_isNear_122 (by rintro q u ⟨_, _, ⟨_, h⟩, _⟩; exact h ⟨hst, hsq⟩) rfl ?_
          intro v10 u11 hv12
          obtain ⟨q122, rfl, rfl, h122⟩ := hv12
          show J (gw 105 XSh cy b μ ++ (gw 3 ASh cy ba ν ++ E)) 3 18 125 [(6, .int (zI on)), (0, .ref (b 0)), (1, .ref (ba 2)), (2, .int (zI (i : Int))), (3, .int (zI its)), (4, .int (zI nr)), (5, .int (zI (k : Int)))] [.int (zI q122)]
          have e122 := h122.2
          rw [Int.toNat_natCast] at e122
          have e122 := e122.one hIN
          refine j_iload hJ (j := 5) rfl dL_isNear_125 ?_
          refine j_icmp_ne hJ (tgt := 201) ⟨by omega, by omega⟩ ⟨by omega, by omega⟩ (by decide) dL_isNear_127 ?_ ?_
          · intro h127
            exfalso; omega
          · intro h127
            refine j_aload_n hJ (j := 1) rfl rfl dL_isNear_130 ?_
            refine j_iload_n hJ (j := 3) rfl rfl dL_isNear_131 ?_
            refine j_iload_n hJ (j := 4) rfl rfl dL_isNear_132 ?_
            refine j_bipush hJ (v := 12) (by decide) dL_isNear_133 ?_
            refine j_idiv hJ (by omega) (by omega) (by omega) (by omega) dL_isNear_135 ?_
            refine j_iload_n hJ (j := 4) rfl rfl dL_isNear_136 ?_
            refine j_bipush hJ (v := 12) (by decide) dL_isNear_137 ?_
            refine j_irem hJ (by omega) (by omega) (by omega) (by omega) dL_isNear_139 ?_
            refine j_callVX0 hJ (c_X4_distance hfl hX ⟨by omega, by omega⟩ ⟨by omega, by omega⟩ ⟨by omega, by omega⟩) mx_L_70 k_X4_distance (q0 := 0) (by rw [gw_get (by decide)]; rfl) rfl ⟨(Nat.le_of_ble_eq_true rfl), (Nat.le_of_ble_eq_true rfl)⟩ ⟨(Nat.le_of_ble_eq_true rfl), (Nat.le_of_ble_eq_true rfl)⟩ (Nat.le_of_ble_eq_true rfl) dL_isNear_140 (by rintro q u ⟨_, _, ⟨_, h⟩, _⟩; exact h ⟨hst, hsq⟩) rfl ?_
            intro v13 u14 hv15
            obtain ⟨q140, rfl, rfl, h140⟩ := hv15
            show J (gw 105 XSh cy b μ ++ (gw 3 ASh cy ba ν ++ E)) 5 30 143 [(6, .int (zI on)), (0, .ref (b 0)), (1, .ref (ba 2)), (2, .int (zI (i : Int))), (3, .int (zI its)), (4, .int (zI nr)), (5, .int (zI (k : Int)))] [.int (zI q140)]
            obtain ⟨sq9, h9, e140⟩ := h140.2
            rw [Int.toNat_natCast] at h9
            rw [h9.one hIN] at e140
            have f3 : 0 ≤ nr → 0 ≤ far nr (its / 12) (its % 12) ∧ far nr (its / 12) (its % 12) ≤ 11 := fun g => far_rng (a := nr) ⟨by omega, by omega⟩ hsq.1 hsq.2
            have e140b : -1 ≤ q140 ∧ q140 ≤ 11 := by rw [e140]; split <;> omega
            have j158 : ∀ (dd : Int) (hdd : dd = if nr = -1 then -1 else far nr (its / 12) (its % 12)), J (gw 105 XSh cy b μ ++ (gw 3 ASh cy ba ν ++ E)) 5 30 158 [(0, .ref (b 0)), (1, .ref (ba 2)), (2, .int (zI (i : Int))), (3, .int (zI its)), (4, .int (zI nr)), (6, .int (zI on))] [.int (zI dd), .int (zI q140)] := by
              intro dd hdd
              have hde : q140 = dd := by rw [e140, hdd]
              refine j_icmp_ne hJ (tgt := 201) ⟨by omega, by omega⟩ ⟨by omega, by omega⟩ (by decide) dL_isNear_158 ?_ ?_
              · intro h158
                exfalso; omega
              · intro h158
                refine j_aload_n hJ (j := 0) rfl rfl dL_isNear_161 ?_
                refine j_iload_n hJ (j := 2) rfl rfl dL_isNear_162 ?_
                refine j_iload_n hJ (j := 3) rfl rfl dL_isNear_163 ?_
                refine j_bipush hJ (v := 12) (by decide) dL_isNear_164 ?_
                refine j_idiv hJ (by omega) (by omega) (by omega) (by omega) dL_isNear_166 ?_
                refine j_iload_n hJ (j := 3) rfl rfl dL_isNear_167 ?_
                refine j_bipush hJ (v := 12) (by decide) dL_isNear_168 ?_
                refine j_irem hJ (by omega) (by omega) (by omega) (by omega) dL_isNear_170 ?_
                refine j_callVX0 hJ (c_X4_isOn hfl hX ⟨by omega, by omega⟩ ⟨by omega, by omega⟩ ⟨by omega, by omega⟩) mx_L_73 k_X4_isOn (q0 := 0) (by rw [gw_get (by decide)]; rfl) rfl ⟨(Nat.le_of_ble_eq_true rfl), (Nat.le_of_ble_eq_true rfl)⟩ ⟨(Nat.le_of_ble_eq_true rfl), (Nat.le_of_ble_eq_true rfl)⟩ (Nat.le_of_ble_eq_true rfl) dL_isNear_171 (by rintro q u ⟨_, _, ⟨_, h⟩, _⟩; exact h ⟨hst, hsq⟩) rfl ?_
                intro v16 u17 hv18
                obtain ⟨q171, rfl, rfl, h171⟩ := hv18
                show J (gw 105 XSh cy b μ ++ (gw 3 ASh cy ba ν ++ E)) 7 42 174 [(0, .ref (b 0)), (1, .ref (ba 2)), (2, .int (zI (i : Int))), (3, .int (zI its)), (4, .int (zI nr)), (6, .int (zI on))] [.int (zI q171)]
                have e171 := h171.2
                rw [Int.toNat_natCast, hit, ← hon] at e171
                refine j_iload hJ (j := 5) rfl dL_isNear_174 ?_
                refine j_icmp_ne hJ (tgt := 201) ⟨by omega, by omega⟩ ⟨by omega, by omega⟩ (by decide) dL_isNear_176 ?_ ?_
                · intro h176
                  exfalso; omega
                · intro h176
                  refine j_aload_n hJ (j := 0) rfl rfl dL_isNear_179 ?_
                  refine j_iload_n hJ (j := 2) rfl rfl dL_isNear_180 ?_
                  refine j_iload_n hJ (j := 3) rfl rfl dL_isNear_181 ?_
                  refine j_bipush hJ (v := 12) (by decide) dL_isNear_182 ?_
                  refine j_idiv hJ (by omega) (by omega) (by omega) (by omega) dL_isNear_184 ?_
                  refine j_iload_n hJ (j := 3) rfl rfl dL_isNear_185 ?_
                  refine j_bipush hJ (v := 12) (by decide) dL_isNear_186 ?_
                  refine j_irem hJ (by omega) (by omega) (by omega) (by omega) dL_isNear_188 ?_
                  refine j_callVX0 hJ (c_X4_isOnTrack hfl hX ⟨by omega, by omega⟩ ⟨by omega, by omega⟩ ⟨by omega, by omega⟩) mx_L_76 k_X4_isOnTrack (q0 := 0) (by rw [gw_get (by decide)]; rfl) rfl ⟨(Nat.le_of_ble_eq_true rfl), (Nat.le_of_ble_eq_true rfl)⟩ ⟨(Nat.le_of_ble_eq_true rfl), (Nat.le_of_ble_eq_true rfl)⟩ (Nat.le_of_ble_eq_true rfl) dL_isNear_189 (by rintro q u ⟨_, _, ⟨_, h⟩, _⟩; exact h ⟨hst, hsq⟩) rfl ?_
                  intro v19 u20 hv21
                  obtain ⟨q189, rfl, rfl, h189⟩ := hv21
                  show J (gw 105 XSh cy b μ ++ (gw 3 ASh cy ba ν ++ E)) 9 54 192 [(0, .ref (b 0)), (1, .ref (ba 2)), (2, .int (zI (i : Int))), (3, .int (zI its)), (4, .int (zI nr)), (6, .int (zI on))] [.int (zI q189)]
                  have e189 := h189.2
                  rw [Int.toNat_natCast, hit, ← hon] at e189
                  refine j_iload hJ (j := 5) rfl dL_isNear_192 ?_
                  refine j_icmp_ne hJ (tgt := 201) ⟨by omega, by omega⟩ ⟨by omega, by omega⟩ (by decide) dL_isNear_194 ?_ ?_
                  · intro h194
                    exfalso; omega
                  · intro h194
                    refine j_iconst hJ dL_isNear_197 ?_
                    refine j_goto hJ (tgt := 202) (by decide) dL_isNear_198 ?_
                    refine j_iret hJ rfl rfl (rfl) (Nat.le_of_ble_eq_true rfl) (Nat.le_of_ble_eq_true rfl) dL_isNear_202 ⟨1, rfl, rfl, ?_⟩
                    rfl
            refine j_iload hJ (j := 5) rfl dL_isNear_143 ?_
            refine j_if_ge hJ (tgt := 152) ⟨by omega, by omega⟩ (by decide) dL_isNear_145 ?_ ?_
            · intro h145
              refine j_iload hJ (j := 5) rfl dL_isNear_152 ?_
              refine j_iload_n hJ (j := 4) rfl rfl dL_isNear_154 ?_
              refine j_callS0 hJ (c_L_apart hfl ⟨by omega, by omega⟩ hits) m_L_60 k_L_apart ⟨(Nat.le_of_ble_eq_true rfl), (Nat.le_of_ble_eq_true rfl)⟩ ⟨(Nat.le_of_ble_eq_true rfl), (Nat.le_of_ble_eq_true rfl)⟩ (Nat.le_of_ble_eq_true rfl) dL_isNear_155 rfl ?_
              intro v22 u23 hv24
              obtain ⟨_, rfl, rfl, rfl⟩ := hv24
              show J (gw 105 XSh cy b μ ++ (gw 3 ASh cy ba ν ++ E)) 5 30 158 [(6, .int (zI on)), (0, .ref (b 0)), (1, .ref (ba 2)), (2, .int (zI (i : Int))), (3, .int (zI its)), (4, .int (zI nr)), (5, .int (zI (k : Int)))] [.int (zI (far nr (its / 12) (its % 12))), .int (zI q140)]
              refine j_locs hJ [1, 2, 3, 4, 5, 0] rfl ?_
              exact j158 (far nr (its / 12) (its % 12)) (by split <;> omega)
            · intro h145
              refine j_iconst hJ dL_isNear_148 ?_
              refine j_goto hJ (tgt := 158) (by decide) dL_isNear_149 ?_
              refine j_locs hJ [1, 2, 3, 4, 5, 0] rfl ?_
              exact j158 (-1) (by split <;> omega)
      · intro h13
        have hk2 : k < (trk (p i) (m i)).length := by omega
        refine j_aload_n hJ (j := 1) rfl rfl dL_isNear_16 ?_
        refine j_iload_n hJ (j := 2) rfl rfl dL_isNear_17 ?_
        refine j_iload hJ (j := 5) rfl dL_isNear_18 ?_
        refine j_perm hJ (perm3 _ _ _) ?_
        show J (gw 3 ASh cy ba ν ++ (gw 105 XSh cy b μ ++ E)) 0 0 20 [(0, .ref (b 0)), (1, .ref (ba 2)), (2, .int (zI (i : Int))), (3, .int (zI its)), (4, .int (zI nr)), (5, .int (zI (k : Int)))] [.int (zI (k : Int)), .int (zI (i : Int)), .ref (ba 2)]
        refine j_callS0 hJ (c_L_square hfl hi5 hP (by omega)) m_L_23 k_L_square ⟨(Nat.le_of_ble_eq_true rfl), (Nat.le_of_ble_eq_true rfl)⟩ ⟨(Nat.le_of_ble_eq_true rfl), (Nat.le_of_ble_eq_true rfl)⟩ (Nat.le_of_ble_eq_true rfl) dL_isNear_20 rfl ?_
        intro v25 u26 hv27
        obtain ⟨x, rfl, rfl, hx⟩ := hv27
        show J (gw 3 ASh cy ba ν ++ (gw 105 XSh cy b μ ++ E)) 0 0 23 [(0, .ref (b 0)), (1, .ref (ba 2)), (2, .int (zI (i : Int))), (3, .int (zI its)), (4, .int (zI nr)), (5, .int (zI (k : Int)))] [.int (zI x)]
        refine j_perm hJ (perm3 _ _ _) ?_
        show J (gw 105 XSh cy b μ ++ (gw 3 ASh cy ba ν ++ E)) 0 0 23 [(0, .ref (b 0)), (1, .ref (ba 2)), (2, .int (zI (i : Int))), (3, .int (zI its)), (4, .int (zI nr)), (5, .int (zI (k : Int)))] [.int (zI x)]
        rw [← hx] at hs
        refine j_istore hJ (lv' := [(6, .int (zI x)), (0, .ref (b 0)), (1, .ref (ba 2)), (2, .int (zI (i : Int))), (3, .int (zI its)), (4, .int (zI nr)), (5, .int (zI (k : Int)))]) (by decide) rfl dL_isNear_23 ?_
        have j72 : ∀ (z : Int) (hz : (z = 1 ∧ (nr < 0 ∨ far x (its / 12) (its % 12) < far nr (its / 12) (its % 12) ∨ (far x (its / 12) (its % 12) = far nr (its / 12) (its % 12) ∧ x < nr))) ∨ (z = 0 ∧ ¬ (nr < 0 ∨ far x (its / 12) (its % 12) < far nr (its / 12) (its % 12) ∨ (far x (its / 12) (its % 12) = far nr (its / 12) (its % 12) ∧ x < nr)))), J (gw 105 XSh cy b μ ++ (gw 3 ASh cy ba ν ++ E)) 0 0 72 [(0, .ref (b 0)), (1, .ref (ba 2)), (2, .int (zI (i : Int))), (3, .int (zI its)), (4, .int (zI nr)), (5, .int (zI (k : Int))), (6, .int (zI x))] [.int (zI z)] := by
          intro z hz
          refine j_istore hJ (lv' := [(7, .int (zI z)), (0, .ref (b 0)), (1, .ref (ba 2)), (2, .int (zI (i : Int))), (3, .int (zI its)), (4, .int (zI nr)), (5, .int (zI (k : Int))), (6, .int (zI x))]) (by decide) rfl dL_isNear_72 ?_
          have j86 : ∀ (y : Int) (hy : (z = 1 ∧ y = x) ∨ (z = 0 ∧ y = nr)), J (gw 105 XSh cy b μ ++ (gw 3 ASh cy ba ν ++ E)) 0 0 86 [(0, .ref (b 0)), (1, .ref (ba 2)), (2, .int (zI (i : Int))), (3, .int (zI its)), (4, .int (zI nr)), (5, .int (zI (k : Int)))] [.int (zI y)] := by
            intro y hy
            refine j_istore hJ (lv' := [(4, .int (zI y)), (0, .ref (b 0)), (1, .ref (ba 2)), (2, .int (zI (i : Int))), (3, .int (zI its)), (5, .int (zI (k : Int)))]) (by decide) rfl dL_isNear_86 ?_
            refine j_iinc hJ (lv' := [(5, .int (zI ((k : Int) + 1))), (4, .int (zI y)), (0, .ref (b 0)), (1, .ref (ba 2)), (2, .int (zI (i : Int))), (3, .int (zI its))]) (j := 5) rfl (by omega) (by decide) rfl dL_isNear_88 ?_
            refine j_goto hJ (tgt := 6) (by decide) dL_isNear_91 ?_
            refine j_locs hJ [2, 3, 4, 5, 1, 0] rfl ?_
            refine ih6 y (k + 1) (by omega) (by omega) ?_
            · have hs9 := hN.step hr hk2
              rw [← hx] at hs9
              rcases hz with ⟨g1, g2⟩ | ⟨g1, g2⟩
              · have e : y = x := by omega
                rw [e]; exact hs9.1 g2
              · have e : y = nr := by omega
                rw [e]; exact hs9.2 g2
          refine j_iload hJ (j := 0) rfl dL_isNear_74 ?_
          refine j_if_eq hJ (tgt := 84) ⟨by omega, by omega⟩ (by decide) dL_isNear_76 ?_ ?_
          · intro h76
            refine j_iload hJ (j := 5) rfl dL_isNear_84 ?_
            refine j_locs hJ [1, 2, 3, 4, 5, 6] rfl ?_
            exact j86 nr (by omega)
          · intro h76
            refine j_iload hJ (j := 7) rfl dL_isNear_79 ?_
            refine j_goto hJ (tgt := 86) (by decide) dL_isNear_81 ?_
            refine j_locs hJ [1, 2, 3, 4, 5, 6] rfl ?_
            exact j86 x (by omega)
        refine j_iload hJ (j := 5) rfl dL_isNear_25 ?_
        refine j_if_lt hJ (tgt := 67) ⟨by omega, by omega⟩ (by decide) dL_isNear_27 ?_ ?_
        · intro h27
          refine j_iconst hJ dL_isNear_67 ?_
          refine j_goto hJ (tgt := 72) (by decide) dL_isNear_68 ?_
          refine j_locs hJ [1, 2, 3, 4, 5, 6, 0] rfl ?_
          exact j72 1 (by omega)
        · intro h27
          refine j_iload hJ (j := 0) rfl dL_isNear_30 ?_
          refine j_iload_n hJ (j := 4) rfl rfl dL_isNear_32 ?_
          refine j_callS0 hJ (c_L_apart hfl ⟨by omega, by omega⟩ hits) m_L_60 k_L_apart ⟨(Nat.le_of_ble_eq_true rfl), (Nat.le_of_ble_eq_true rfl)⟩ ⟨(Nat.le_of_ble_eq_true rfl), (Nat.le_of_ble_eq_true rfl)⟩ (Nat.le_of_ble_eq_true rfl) dL_isNear_33 rfl ?_
          intro v28 u29 hv30
          obtain ⟨_, rfl, rfl, rfl⟩ := hv30
          show J (gw 105 XSh cy b μ ++ (gw 3 ASh cy ba ν ++ E)) 0 0 36 [(6, .int (zI x)), (0, .ref (b 0)), (1, .ref (ba 2)), (2, .int (zI (i : Int))), (3, .int (zI its)), (4, .int (zI nr)), (5, .int (zI (k : Int)))] [.int (zI (far x (its / 12) (its % 12)))]
          have f1 := far_rng (a := x) (c := its / 12) (r := its % 12) ⟨by omega, by omega⟩ hsq.1 hsq.2
          refine j_iload hJ (j := 5) rfl dL_isNear_36 ?_
          refine j_iload_n hJ (j := 4) rfl rfl dL_isNear_38 ?_
          refine j_callS0 hJ (c_L_apart hfl ⟨by omega, by omega⟩ hits) m_L_60 k_L_apart ⟨(Nat.le_of_ble_eq_true rfl), (Nat.le_of_ble_eq_true rfl)⟩ ⟨(Nat.le_of_ble_eq_true rfl), (Nat.le_of_ble_eq_true rfl)⟩ (Nat.le_of_ble_eq_true rfl) dL_isNear_39 rfl ?_
          intro v31 u32 hv33
          obtain ⟨_, rfl, rfl, rfl⟩ := hv33
          show J (gw 105 XSh cy b μ ++ (gw 3 ASh cy ba ν ++ E)) 0 0 42 [(6, .int (zI x)), (0, .ref (b 0)), (1, .ref (ba 2)), (2, .int (zI (i : Int))), (3, .int (zI its)), (4, .int (zI nr)), (5, .int (zI (k : Int)))] [.int (zI (far nr (its / 12) (its % 12))), .int (zI (far x (its / 12) (its % 12)))]
          have f2 := far_rng (a := nr) (c := its / 12) (r := its % 12) ⟨by omega, by omega⟩ hsq.1 hsq.2
          refine j_icmp_lt hJ (tgt := 67) ⟨by omega, by omega⟩ ⟨by omega, by omega⟩ (by decide) dL_isNear_42 ?_ ?_
          · intro h42
            refine j_iconst hJ dL_isNear_67 ?_
            refine j_goto hJ (tgt := 72) (by decide) dL_isNear_68 ?_
            refine j_locs hJ [1, 2, 3, 4, 5, 6, 0] rfl ?_
            exact j72 1 (by omega)
          · intro h42
            refine j_iload hJ (j := 0) rfl dL_isNear_45 ?_
            refine j_iload_n hJ (j := 4) rfl rfl dL_isNear_47 ?_
            refine j_callS0 hJ (c_L_apart hfl ⟨by omega, by omega⟩ hits) m_L_60 k_L_apart ⟨(Nat.le_of_ble_eq_true rfl), (Nat.le_of_ble_eq_true rfl)⟩ ⟨(Nat.le_of_ble_eq_true rfl), (Nat.le_of_ble_eq_true rfl)⟩ (Nat.le_of_ble_eq_true rfl) dL_isNear_48 rfl ?_
            intro v34 u35 hv36
            obtain ⟨_, rfl, rfl, rfl⟩ := hv36
            show J (gw 105 XSh cy b μ ++ (gw 3 ASh cy ba ν ++ E)) 0 0 51 [(6, .int (zI x)), (0, .ref (b 0)), (1, .ref (ba 2)), (2, .int (zI (i : Int))), (3, .int (zI its)), (4, .int (zI nr)), (5, .int (zI (k : Int)))] [.int (zI (far x (its / 12) (its % 12)))]
            refine j_iload hJ (j := 5) rfl dL_isNear_51 ?_
            refine j_iload_n hJ (j := 4) rfl rfl dL_isNear_53 ?_
            refine j_callS0 hJ (c_L_apart hfl ⟨by omega, by omega⟩ hits) m_L_60 k_L_apart ⟨(Nat.le_of_ble_eq_true rfl), (Nat.le_of_ble_eq_true rfl)⟩ ⟨(Nat.le_of_ble_eq_true rfl), (Nat.le_of_ble_eq_true rfl)⟩ (Nat.le_of_ble_eq_true rfl) dL_isNear_54 rfl ?_
            intro v37 u38 hv39
            obtain ⟨_, rfl, rfl, rfl⟩ := hv39
            show J (gw 105 XSh cy b μ ++ (gw 3 ASh cy ba ν ++ E)) 0 0 57 [(6, .int (zI x)), (0, .ref (b 0)), (1, .ref (ba 2)), (2, .int (zI (i : Int))), (3, .int (zI its)), (4, .int (zI nr)), (5, .int (zI (k : Int)))] [.int (zI (far nr (its / 12) (its % 12))), .int (zI (far x (its / 12) (its % 12)))]
            refine j_icmp_ne hJ (tgt := 71) ⟨by omega, by omega⟩ ⟨by omega, by omega⟩ (by decide) dL_isNear_57 ?_ ?_
            · intro h57
              refine j_iconst hJ dL_isNear_71 ?_
              refine j_locs hJ [1, 2, 3, 4, 5, 6, 0] rfl ?_
              exact j72 0 (by omega)
            · intro h57
              refine j_iload hJ (j := 0) rfl dL_isNear_60 ?_
              refine j_iload hJ (j := 5) rfl dL_isNear_62 ?_
              refine j_icmp_ge hJ (tgt := 71) ⟨by omega, by omega⟩ ⟨by omega, by omega⟩ (by decide) dL_isNear_64 ?_ ?_
              · intro h64
                refine j_iconst hJ dL_isNear_71 ?_
                refine j_locs hJ [1, 2, 3, 4, 5, 6, 0] rfl ?_
                exact j72 0 (by omega)
              · intro h64
                refine j_iconst hJ dL_isNear_67 ?_
                refine j_goto hJ (tgt := 72) (by decide) dL_isNear_68 ?_
                refine j_locs hJ [1, 2, 3, 4, 5, 6, 0] rfl ?_
                exact j72 1 (by omega)
  refine j_locs hJ [2, 3, 4, 5, 1, 0] rfl ?_
  exact lp6 ((trk (p i) (m i)).length + 1 - 0 + 1) (-1) 0 (by omega) (by omega) (by exact Or.inl ⟨rfl, rfl⟩)
end
