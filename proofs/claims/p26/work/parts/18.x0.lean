
set_option maxRecDepth 20000 in
theorem f_X0_26 : FF RX0 26 1 1 .int false := ⟨RX0, TX0, 4, tyX0, rfl, by decide, lays_X0, tyX0_ok, rfl, rfl, nmX0, Or.inl (List.mem_of_getElem? (i := 133) (by decide +kernel))⟩
set_option maxRecDepth 20000 in
theorem f_X0_9 : FF RX0 9 1 0 (.array .int) true := ⟨RX0, TX0, 4, tyX0, rfl, by decide, lays_X0, tyX0_ok, rfl, rfl, nmX0, Or.inl (List.mem_of_getElem? (i := 131) (by decide +kernel))⟩
set_option maxRecDepth 20000 in
theorem m_X0_22 : MF RX0 22 1 yX4_wordOf 2 := ⟨Or.inr (List.mem_of_getElem? (i := 279) (by decide +kernel)), (List.mem_of_getElem? (i := 40) (by decide +kernel)), ⟨by decide +kernel, by decide +kernel⟩, by decide +kernel, fun h => by omega, fun _ => (List.mem_of_getElem? (i := 256) (by decide +kernel)), fun h => by omega⟩
set_option maxRecDepth 20000 in
theorem k_X4_wordOf : Cond.code yX4_wordOf cX4_wordOf 2 (some .int) ∈ GT := (List.mem_of_getElem? (i := 257) (by decide +kernel))
set_option maxRecDepth 20000 in
theorem m_X0_30 : MF RX0 30 0 yX0_putWordsOf 4 := ⟨Or.inl (List.mem_of_getElem? (i := 411) (by decide +kernel)), (List.mem_of_getElem? (i := 42) (by decide +kernel)), ⟨by decide +kernel, by decide +kernel⟩, by decide +kernel, fun _ => ⟨(List.mem_of_getElem? (i := 413) (by decide +kernel)), (List.mem_of_getElem? (i := 16) (by decide +kernel))⟩, fun h => by omega, fun h => by omega⟩
set_option maxRecDepth 20000 in
theorem k_X0_putWordsOf : Cond.code yX0_putWordsOf cX0_putWordsOf 7 (some .int) ∈ GT := (List.mem_of_getElem? (i := 414) (by decide +kernel))
section
variable {l : Launch} {D : va_G} {cy : Nat → ClassId} {n0 : Nat} {ad : Nat → Nat} {b : Nat → Nat} {E : va_W} {ws : va_W}
set_option maxHeartbeats 4000000 in
set_option maxRecDepth 100000 in
theorem c_X4_wordOf {μ : Nat → Int → Int} {z k : Int} (hfl : l.stackTraces = false) (hk : 0 ≤ k ∧ k < 4) : CT l D cy n0 ad yX4_wordOf (.code yX4_wordOf cX4_wordOf 2 (some .int)) ({ frames := 0, cells := 0, slots := 0, locals := 0 }) [.int (zI z), .int (zI k)] (gw 105 XSh cy b μ ++ E) (fun vv uu => ∃ q, vv = some (.int (zI q)) ∧ uu = (gw 105 XSh cy b μ ++ E) ∧ (q = wd z k)) := by
  refine CT.walk hfl (by decide) (Nat.le_of_ble_eq_true rfl) ?_
  intro A J hJ
  show J (gw 105 XSh cy b μ ++ E) 0 0 0 [(0, .int (zI z)), (1, .int (zI k))] []
  refine j_iload_n hJ (j := 0) rfl rfl dX4_wordOf_0 ?_
  refine j_bipush hJ (v := 8) (by decide) dX4_wordOf_1 ?_
  refine j_iload_n hJ (j := 1) rfl rfl dX4_wordOf_3 ?_
  refine j_imul hJ dX4_wordOf_4 ?_
  refine j_iushr hJ (v := (((zI z).toBitVec.toNat / 2 ^ (8 * k.toNat) : Nat) : Int)) (wd_ushr hk.1 hk.2) dX4_wordOf_5 ?_
  refine j_sipush hJ (v := 255) (by decide) dX4_wordOf_6 ?_
  refine j_iand hJ (v := (wd z k)) (wd_and hk.1 hk.2) dX4_wordOf_9 ?_
  refine j_iret hJ rfl rfl (rfl) (Nat.le_of_ble_eq_true rfl) (Nat.le_of_ble_eq_true rfl) dX4_wordOf_10 ⟨(wd z k), rfl, rfl, ?_⟩
  trivial
set_option maxHeartbeats 4000000 in
set_option maxRecDepth 100000 in
theorem c_X0_takeName {μ : Nat → Int → Int} {i cn : Nat} {z : Int} (hfl : l.stackTraces = false) (hi : i < 16) (hn : 1 ≤ cn ∧ cn ≤ 4) (hw : ∀ k : Nat, k < cn → wd z k < 24) : CT l D cy n0 ad yX0_takeName (.code yX0_takeName cX0_takeName 4 none) ({ frames := 1, cells := 0, slots := 0, locals := 21 }) [.ref (b (9 + 6 * i)), .int (zI (cn : Int)), .int (zI z)] (gw 105 XSh cy b μ ++ E) (fun vv uu => ∃ μ', vv = none ∧ uu = (gw 105 XSh cy b μ' ++ E) ∧ (NmI μ' i (nameL z cn) ∧ (∀ a, a ≠ 9 + 6 * i → a ≠ 9 + 6 * i + 1 → μ' a = μ a) ∧ ∀ j, j ≠ 1 → μ' (9 + 6 * i) j = μ (9 + 6 * i) j)) := by
  refine CT.walk hfl (by decide) (Nat.le_of_ble_eq_true rfl) ?_
  intro A J hJ
  show J (gw 105 XSh cy b μ ++ E) 0 0 0 [(0, .ref (b (9 + 6 * i))), (1, .int (zI (cn : Int))), (2, .int (zI z))] []
  refine j_iconst hJ dX0_takeName_0 ?_
  refine j_istore_n hJ (lv' := [(3, .int (zI 0)), (0, .ref (b (9 + 6 * i))), (1, .int (zI (cn : Int))), (2, .int (zI z))]) rfl (by decide) rfl dX0_takeName_1 ?_
  have lp2 : ∀ (nn2 : Nat) (μk : Nat → Int → Int) (k : Int) (hmeas2 : ((cn : Int) - k).toNat < nn2) (hk : 0 ≤ k ∧ k ≤ cn) (hA : ArrL (μk (9 + 6 * i + 1)) (nameL z k.toNat)) (hF : ∀ a, a ≠ 9 + 6 * i + 1 → μk a = μ a), J (gw 105 XSh cy b μk ++ E) 0 0 2 [(0, .ref (b (9 + 6 * i))), (1, .int (zI (cn : Int))), (2, .int (zI z)), (3, .int (zI k))] [] := by
    intro nn2
    induction nn2 with
    | zero => intro μk k hmeas2 hk hA hF; omega
    | succ nn2 ih2 =>
      intro μk k hmeas2 hk hA hF
      refine j_iload_n hJ (j := 3) rfl rfl dX0_takeName_2 ?_
      refine j_iload_n hJ (j := 1) rfl rfl dX0_takeName_3 ?_
      refine j_icmp_ge hJ (tgt := 24) ⟨by omega, by omega⟩ ⟨by omega, by omega⟩ (by decide) dX0_takeName_4 ?_ ?_
      · intro h4
        refine j_aload_n hJ (j := 0) rfl rfl dX0_takeName_24 ?_
        refine j_iload_n hJ (j := 1) rfl rfl dX0_takeName_25 ?_
        refine w_puti hJ (fi := 1) rfl (by omega) (XS0 _) rfl f_X0_26 rfl rfl dX0_takeName_26 ?_
        intro μ1 hμ1
        have hM2 := hμ1
        refine j_vret hJ rfl rfl (Nat.le_of_ble_eq_true rfl) (Nat.le_of_ble_eq_true rfl) dX0_takeName_29 ⟨μ1, rfl, rfl, ?_⟩
        rw [show k.toNat = cn by omega] at hA
        rw [hM2]
        refine ⟨⟨by rw [up_self, nameL_len], by rw [nameL_len]; omega, by rw [nameL_len]; omega, by rw [up_rowf (by omega)]; exact hA, ?_⟩, fun a a1 a2 => by rw [up_rowf a1, hF a a2], fun j hj => by rw [up_at hj, hF _ (by omega)]⟩
        intro w hwm
        simp only [nameL, List.mem_map, List.mem_range] at hwm
        obtain ⟨j, hj, rfl⟩ := hwm
        exact ⟨(wd_range z j).1, hw j hj⟩
      · intro h4
        refine j_aload_n hJ (j := 0) rfl rfl dX0_takeName_7 ?_
        refine w_getr hJ (by omega) (XS0 _) rfl f_X0_9 dX0_takeName_8 ?_
        refine j_iload_n hJ (j := 3) rfl rfl dX0_takeName_11 ?_
        refine j_iload_n hJ (j := 2) rfl rfl dX0_takeName_12 ?_
        refine j_iload_n hJ (j := 3) rfl rfl dX0_takeName_13 ?_
        refine j_callS0 hJ (c_X4_wordOf hfl ⟨by omega, by omega⟩) m_X0_22 k_X4_wordOf ⟨(Nat.le_of_ble_eq_true rfl), (Nat.le_of_ble_eq_true rfl)⟩ ⟨(Nat.le_of_ble_eq_true rfl), (Nat.le_of_ble_eq_true rfl)⟩ (Nat.le_of_ble_eq_true rfl) dX0_takeName_14 rfl ?_
        intro v1 u2 hv3
        obtain ⟨_, rfl, rfl, rfl⟩ := hv3
        show J (gw 105 XSh cy b μk ++ E) 0 0 17 [(0, .ref (b (9 + 6 * i))), (1, .int (zI (cn : Int))), (2, .int (zI z)), (3, .int (zI k))] [.int (zI (wd z k)), .int (zI k), .ref (b (9 + 6 * i + 1))]
        refine w_iast hJ (by omega) (XS1 _) (by first | decide | omega) (by omega) (by omega) dX0_takeName_17 ?_
        intro μ2 hμ2
        have hM := hμ2
        refine j_iinc hJ (lv' := [(3, .int (zI (k + 1))), (0, .ref (b (9 + 6 * i))), (1, .int (zI (cn : Int))), (2, .int (zI z))]) (j := 3) rfl (by omega) (by decide) rfl dX0_takeName_18 ?_
        refine j_goto hJ (tgt := 2) (by decide) dX0_takeName_21 ?_
        refine j_locs hJ [1, 2, 3, 0] rfl ?_
        refine ih2 μ2 (k + 1) (by omega) (by omega) ?_ (by exact fun a a1 => by rw [hM, up_rowf a1, hF a a1])
        · rw [show (k + 1).toNat = k.toNat + 1 by omega, nameL_succ, show wd z ((k.toNat : Nat) : Int) = wd z k by rw [Int.toNat_of_nonneg hk.1]]
          rw [hM]
          refine hA.snoc (fun q q0 q1 => ?_) ?_
          · rw [nameL_len] at q1; rw [up_at (by omega)]
          · rw [nameL_len, show ((k.toNat : Nat) : Int) = k by omega, up_self]
  refine j_locs hJ [1, 2, 3, 0] rfl ?_
  refine lp2 (((cn : Int) - 0).toNat + 1) μ 0 (by omega) (by omega) ?_ (by exact fun _ _ => rfl)
  · intro a x hx
    simp [nameL] at hx
set_option maxHeartbeats 4000000 in
set_option maxRecDepth 100000 in
theorem c_X0_putWordsOf {μ : Nat → Int → Int} {i kc : Nat} {kn fr : Int} {N P : List Int} (hfl : l.stackTraces = false) (hi : i < 16) (hkc0 : kc < 105) (hkc : XSh kc = .inr (.inl (0, 4))) (hkn : kc ≠ 9 + 6 * i ∧ kc ≠ 9 + 6 * i + 1 ∧ kc ≠ 1) (hN : NmI μ i N) (hP : ArrL (μ kc) P) (hfr : fr = P.length) (hl : P.length + (filK (μ 1) kn N).length ≤ 4) (hkr : KdR (μ 1)) (hknr : 0 ≤ kn ∧ kn ≤ 2) : CT l D cy n0 ad yX0_putWordsOf (.code yX0_putWordsOf cX0_putWordsOf 7 (some .int)) ({ frames := 0, cells := 0, slots := 0, locals := 0 }) [.ref (b (9 + 6 * i)), .int (zI kn), .ref (b 1), .ref (b kc), .int (zI fr)] (gw 105 XSh cy b μ ++ E) (fun vv uu => ∃ q μ', vv = some (.int (zI q)) ∧ uu = (gw 105 XSh cy b μ' ++ E) ∧ (q = ((P ++ filK (μ 1) kn N).length : Nat) ∧ ArrL (μ' kc) (P ++ filK (μ 1) kn N) ∧ ∀ a, a ≠ kc → μ' a = μ a)) := by
  obtain ⟨h1, h2, h3, h4, h5⟩ := hN
  refine CT.walk hfl (by decide) (Nat.le_of_ble_eq_true rfl) ?_
  intro A J hJ
  show J (gw 105 XSh cy b μ ++ E) 0 0 0 [(0, .ref (b (9 + 6 * i))), (1, .int (zI kn)), (2, .ref (b 1)), (3, .ref (b kc)), (4, .int (zI fr))] []
  refine j_iload hJ (j := 4) rfl dX0_putWordsOf_0 ?_
  refine j_istore hJ (lv' := [(5, .int (zI fr)), (0, .ref (b (9 + 6 * i))), (1, .int (zI kn)), (2, .ref (b 1)), (3, .ref (b kc)), (4, .int (zI fr))]) (by decide) rfl dX0_putWordsOf_2 ?_
  refine j_iconst hJ dX0_putWordsOf_4 ?_
  refine j_istore hJ (lv' := [(6, .int (zI 0)), (5, .int (zI fr)), (0, .ref (b (9 + 6 * i))), (1, .int (zI kn)), (2, .ref (b 1)), (3, .ref (b kc)), (4, .int (zI fr))]) (by decide) rfl dX0_putWordsOf_5 ?_
  have lp7 : ∀ (nn7 : Nat) (μk : Nat → Int → Int) (ln : Int) (k : Int) (hmeas7 : ((N.length : Int) - k).toNat < nn7) (hk : 0 ≤ k ∧ k ≤ N.length) (hln : ln = ((P ++ filK (μ 1) kn (N.take k.toNat)).length : Nat)) (hA : ArrL (μk kc) (P ++ filK (μ 1) kn (N.take k.toNat))) (hF : ∀ a, a ≠ kc → μk a = μ a), J (gw 105 XSh cy b μk ++ E) 0 0 7 [(0, .ref (b (9 + 6 * i))), (1, .int (zI kn)), (2, .ref (b 1)), (3, .ref (b kc)), (4, .int (zI fr)), (5, .int (zI ln)), (6, .int (zI k))] [] := by
    intro nn7
    induction nn7 with
    | zero => intro μk ln k hmeas7 hk hln hA hF; omega
    | succ nn7 ih7 =>
      intro μk ln k hmeas7 hk hln hA hF
      refine j_iload hJ (j := 6) rfl dX0_putWordsOf_7 ?_
      refine j_aload_n hJ (j := 0) rfl rfl dX0_putWordsOf_9 ?_
      refine w_geti hJ (fi := 1) rfl (by omega) (XS0 _) rfl f_X0_26 dX0_putWordsOf_10 ?_
      refine j_topi (y := zI (N.length : Int)) (by rw [hF _ (by omega), h1]) ?_
      refine j_icmp_ge hJ (tgt := 49) ⟨by omega, by omega⟩ ⟨by omega, by omega⟩ (by decide) dX0_putWordsOf_13 ?_ ?_
      · intro h13
        refine j_iload hJ (j := 5) rfl dX0_putWordsOf_49 ?_
        refine j_iret hJ rfl rfl (rfl) (Nat.le_of_ble_eq_true rfl) (Nat.le_of_ble_eq_true rfl) dX0_putWordsOf_51 ⟨ln, μk, rfl, rfl, ?_⟩
        rw [show k.toNat = N.length by omega, List.take_length] at hln hA
        exact ⟨hln, hA, hF⟩
      · intro h13
        obtain ⟨x, e1x, e2x, e3x⟩ := h4.at (z := k) hk.1 h13
        have hx5 := h5 x e3x
        have hx6 := hkr x hx5.1 hx5.2
        have hft := filK_take (kd := μ 1) (k := kn) (N := N) (k.toNat + 1)
        rw [filK_step e1x] at hft
        refine j_aload_n hJ (j := 2) rfl rfl dX0_putWordsOf_16 ?_
        refine j_aload_n hJ (j := 0) rfl rfl dX0_putWordsOf_17 ?_
        refine w_getr hJ (by omega) (XS0 _) rfl f_X0_9 dX0_putWordsOf_18 ?_
        refine j_iload hJ (j := 6) rfl dX0_putWordsOf_21 ?_
        refine w_iald hJ (by omega) (XS1 _) (by first | decide | omega) (by omega) (by omega) dX0_putWordsOf_23 ?_
        refine j_topi (y := zI x) (by rw [hF _ (by omega), e2x]) ?_
        refine w_iald hJ (by omega) rfl (by first | decide | omega) (by omega) (by omega) dX0_putWordsOf_24 ?_
        refine j_topi (y := zI (μ 1 x)) (by rw [hF _ (by omega)]) ?_
        refine j_iload_n hJ (j := 1) rfl rfl dX0_putWordsOf_25 ?_
        refine j_icmp_ne hJ (tgt := 43) ⟨by omega, by omega⟩ ⟨by omega, by omega⟩ (by decide) dX0_putWordsOf_26 ?_ ?_
        · intro h26
          have h26n := h26
          refine j_iinc hJ (lv' := [(6, .int (zI (k + 1))), (0, .ref (b (9 + 6 * i))), (1, .int (zI kn)), (2, .ref (b 1)), (3, .ref (b kc)), (4, .int (zI fr)), (5, .int (zI ln))]) (j := 6) rfl (by omega) (by decide) rfl dX0_putWordsOf_43 ?_
          refine j_goto hJ (tgt := 7) (by decide) dX0_putWordsOf_46 ?_
          refine j_locs hJ [1, 2, 3, 4, 5, 6, 0] rfl ?_
          refine ih7 μk ln (k + 1) (by omega) (by omega) (by rw [show (k + 1).toNat = k.toNat + 1 by omega, filK_step e1x]; (first | rw [if_pos h26p] | rw [if_neg h26n]); simp at hln ⊢; omega) ?_ (by first | exact fun a a1 => by rw [hM, up_rowf a1, hF a a1] | exact hF)
          · rw [show (k + 1).toNat = k.toNat + 1 by omega, filK_step e1x]
            first
            | (rw [if_neg h26n, List.append_nil]; exact hA)
            | (rw [if_pos h26p, ← List.append_assoc, hM]; exact hA.snoc (fun q q0 q1 => by rw [up_at (by omega)]) (by rw [← hln0, up_self]))
        · intro h26
          have h26p := h26
          have hln0 := hln
          rw [if_pos h26] at hft
          simp at hft hln
          refine j_aload_n hJ (j := 3) rfl rfl dX0_putWordsOf_29 ?_
          refine j_iload hJ (j := 5) rfl dX0_putWordsOf_30 ?_
          refine j_aload_n hJ (j := 0) rfl rfl dX0_putWordsOf_32 ?_
          refine w_getr hJ (by omega) (XS0 _) rfl f_X0_9 dX0_putWordsOf_33 ?_
          refine j_iload hJ (j := 6) rfl dX0_putWordsOf_36 ?_
          refine w_iald hJ (by omega) (XS1 _) (by first | decide | omega) (by omega) (by omega) dX0_putWordsOf_38 ?_
          refine j_topi (y := zI x) (by rw [hF _ (by omega), e2x]) ?_
          refine w_iast hJ (by omega) hkc (by first | decide | omega) (by omega) (by omega) dX0_putWordsOf_39 ?_
          intro μ1 hμ1
          have hM := hμ1
          refine j_iinc hJ (lv' := [(5, .int (zI (ln + 1))), (0, .ref (b (9 + 6 * i))), (1, .int (zI kn)), (2, .ref (b 1)), (3, .ref (b kc)), (4, .int (zI fr)), (6, .int (zI k))]) (j := 5) rfl (by omega) (by decide) rfl dX0_putWordsOf_40 ?_
          refine j_iinc hJ (lv' := [(6, .int (zI (k + 1))), (5, .int (zI (ln + 1))), (0, .ref (b (9 + 6 * i))), (1, .int (zI kn)), (2, .ref (b 1)), (3, .ref (b kc)), (4, .int (zI fr))]) (j := 6) rfl (by omega) (by decide) rfl dX0_putWordsOf_43 ?_
          refine j_goto hJ (tgt := 7) (by decide) dX0_putWordsOf_46 ?_
          refine j_locs hJ [2, 3, 4, 5, 6, 1, 0] rfl ?_
          refine ih7 μ1 (ln + 1) (k + 1) (by omega) (by omega) (by rw [show (k + 1).toNat = k.toNat + 1 by omega, filK_step e1x]; (first | rw [if_pos h26p] | rw [if_neg h26n]); simp at hln ⊢; omega) ?_ (by first | exact fun a a1 => by rw [hM, up_rowf a1, hF a a1] | exact hF)
          · rw [show (k + 1).toNat = k.toNat + 1 by omega, filK_step e1x]
            first
            | (rw [if_neg h26n, List.append_nil]; exact hA)
            | (rw [if_pos h26p, ← List.append_assoc, hM]; exact hA.snoc (fun q q0 q1 => by rw [up_at (by omega)]) (by rw [← hln0, up_self]))
  refine j_locs hJ [2, 3, 4, 5, 6, 1, 0] rfl ?_
  exact lp7 (((N.length : Int) - 0).toNat + 1) μ fr 0 (by omega) (by omega) (by simp [filK, hfr]) (by simpa [filK] using hP) (by exact fun _ _ => rfl)
set_option maxHeartbeats 4000000 in
set_option maxRecDepth 100000 in
theorem c_X0_putKey {μ : Nat → Int → Int} {i kc : Nat} {N : List Int} (hfl : l.stackTraces = false) (hi : i < 16) (hkc0 : kc < 105) (hkc : XSh kc = .inr (.inl (0, 4))) (hkn : kc ≠ 9 + 6 * i ∧ kc ≠ 9 + 6 * i + 1 ∧ kc ≠ 1) (hN : NmI μ i N) (hkr : KdR (μ 1)) : CT l D cy n0 ad yX0_putKey (.code yX0_putKey cX0_putKey 5 (some .int)) ({ frames := 1, cells := 0, slots := 0, locals := 26 }) [.ref (b (9 + 6 * i)), .ref (b 1), .ref (b kc)] (gw 105 XSh cy b μ ++ E) (fun vv uu => ∃ q μ', vv = some (.int (zI q)) ∧ uu = (gw 105 XSh cy b μ' ++ E) ∧ (q = ((keyL (μ 1) N).length : Nat) ∧ ArrL (μ' kc) (keyL (μ 1) N) ∧ ∀ a, a ≠ kc → μ' a = μ a)) := by
  have hsum := filK_sum (kd := μ 1) (N := N)
  obtain ⟨h1, h2, h3, h4, h5⟩ := id hN
  refine CT.walk hfl (by decide) (Nat.le_of_ble_eq_true rfl) ?_
  intro A J hJ
  show J (gw 105 XSh cy b μ ++ E) 0 0 0 [(0, .ref (b (9 + 6 * i))), (1, .ref (b 1)), (2, .ref (b kc))] []
  refine j_aload_n hJ (j := 0) rfl rfl dX0_putKey_0 ?_
  refine j_iconst hJ dX0_putKey_1 ?_
  refine j_aload_n hJ (j := 1) rfl rfl dX0_putKey_2 ?_
  refine j_aload_n hJ (j := 2) rfl rfl dX0_putKey_3 ?_
  refine j_iconst hJ dX0_putKey_4 ?_
  refine j_callV0 hJ (c_X0_putWordsOf hfl (N := N) (P := []) hi hkc0 hkc hkn hN (fun a x hx => by simp at hx) rfl (by simp; omega) hkr (by omega)) m_X0_30 k_X0_putWordsOf (q0 := 9 + 6 * i) (by rw [gw_get (by omega), XS0]; rfl) rfl ⟨(Nat.le_of_ble_eq_true rfl), (Nat.le_of_ble_eq_true rfl)⟩ ⟨(Nat.le_of_ble_eq_true rfl), (Nat.le_of_ble_eq_true rfl)⟩ (Nat.le_of_ble_eq_true rfl) dX0_putKey_5 rfl ?_
  intro v1 u2 hv3
  obtain ⟨q5, μ1, rfl, rfl, h5a⟩ := hv3
  show J (gw 105 XSh cy b μ1 ++ E) 0 0 8 [(0, .ref (b (9 + 6 * i))), (1, .ref (b 1)), (2, .ref (b kc))] [.int (zI q5)]
  obtain ⟨h5q, h5A, h5F⟩ := h5a
  rw [List.nil_append] at h5q h5A
  have hN5 : NmI μ1 i N := by
    unfold NmI; rw [h5F _ (by omega), h5F _ (by omega)]; exact hN
  have k5 : μ1 1 = μ 1 := h5F _ (by omega)
  refine j_istore_n hJ (lv' := [(3, .int (zI q5)), (0, .ref (b (9 + 6 * i))), (1, .ref (b 1)), (2, .ref (b kc))]) rfl (by decide) rfl dX0_putKey_8 ?_
  refine j_aload_n hJ (j := 1) rfl rfl dX0_putKey_9 ?_
  refine j_iconst hJ dX0_putKey_10 ?_
  refine j_aload_n hJ (j := 2) rfl rfl dX0_putKey_11 ?_
  refine j_aload_n hJ (j := 3) rfl rfl dX0_putKey_12 ?_
  refine j_iload_n hJ (j := 0) rfl rfl dX0_putKey_13 ?_
  refine j_callV0 hJ (c_X0_putWordsOf hfl (N := N) (P := filK (μ 1) 0 N) hi hkc0 hkc hkn hN5 h5A h5q (by rw [k5]; omega) (by rw [k5]; exact hkr) (by omega)) m_X0_30 k_X0_putWordsOf (q0 := 9 + 6 * i) (by rw [gw_get (by omega), XS0]; rfl) rfl ⟨(Nat.le_of_ble_eq_true rfl), (Nat.le_of_ble_eq_true rfl)⟩ ⟨(Nat.le_of_ble_eq_true rfl), (Nat.le_of_ble_eq_true rfl)⟩ (Nat.le_of_ble_eq_true rfl) dX0_putKey_14 rfl ?_
  intro v4 u5 hv6
  obtain ⟨q14, μ2, rfl, rfl, h14a⟩ := hv6
  show J (gw 105 XSh cy b μ2 ++ E) 0 0 17 [(3, .int (zI q5)), (0, .ref (b (9 + 6 * i))), (1, .ref (b 1)), (2, .ref (b kc))] [.int (zI q14)]
  obtain ⟨h14q, h14A, h14F⟩ := h14a
  rw [k5] at h14q h14A
  have hN14 : NmI μ2 i N := by
    unfold NmI; rw [h14F _ (by omega), h14F _ (by omega)]; exact hN5
  have k14 : μ2 1 = μ 1 := (h14F _ (by omega)).trans k5
  have hkl := keyL_len (kd := μ 1) (N := N) ⟨h2, h3⟩
  have hl14 : (filK (μ 1) 0 N ++ filK (μ 1) 2 N).length ≤ 4 := by rw [List.length_append]; omega
  refine j_istore hJ (lv' := [(4, .int (zI q14)), (3, .int (zI q5)), (0, .ref (b (9 + 6 * i))), (1, .ref (b 1)), (2, .ref (b kc))]) (by decide) rfl dX0_putKey_17 ?_
  refine j_iload hJ (j := 0) rfl dX0_putKey_19 ?_
  refine j_if_le hJ (tgt := 29) ⟨by omega, by omega⟩ (by decide) dX0_putKey_21 ?_ ?_
  · intro h21
    have hnil : filK (μ 1) 0 N ++ filK (μ 1) 2 N = [] := List.eq_nil_of_length_eq_zero (by omega)
    have hall := filK_all hnil (fun w hw => hkr w (h5 w hw).1 (h5 w hw).2)
    refine j_aload_n hJ (j := 2) rfl rfl dX0_putKey_29 ?_
    refine j_iconst hJ dX0_putKey_30 ?_
    refine j_aload_n hJ (j := 3) rfl rfl dX0_putKey_31 ?_
    refine j_aload_n hJ (j := 4) rfl rfl dX0_putKey_32 ?_
    refine j_iconst hJ dX0_putKey_33 ?_
    refine j_callV0 hJ (c_X0_putWordsOf hfl (N := N) (P := []) hi hkc0 hkc hkn hN14 (fun a x hx => by simp at hx) rfl (by rw [k14, hall]; simpa using h3) (by rw [k14]; exact hkr) (by omega)) m_X0_30 k_X0_putWordsOf (q0 := 9 + 6 * i) (by rw [gw_get (by omega), XS0]; rfl) rfl ⟨(Nat.le_of_ble_eq_true rfl), (Nat.le_of_ble_eq_true rfl)⟩ ⟨(Nat.le_of_ble_eq_true rfl), (Nat.le_of_ble_eq_true rfl)⟩ (Nat.le_of_ble_eq_true rfl) dX0_putKey_34 rfl ?_
    intro v7 u8 hv9
    obtain ⟨q34, μ3, rfl, rfl, h34a⟩ := hv9
    show J (gw 105 XSh cy b μ3 ++ E) 0 0 37 [(4, .int (zI q14)), (3, .int (zI q5)), (0, .ref (b (9 + 6 * i))), (1, .ref (b 1)), (2, .ref (b kc))] [.int (zI q34)]
    obtain ⟨h34q, h34A, h34F⟩ := h34a
    rw [k14, hall, List.nil_append] at h34q h34A
    refine j_iret hJ rfl rfl (rfl) (Nat.le_of_ble_eq_true rfl) (Nat.le_of_ble_eq_true rfl) dX0_putKey_37 ⟨q34, μ3, rfl, rfl, ?_⟩
    unfold keyL
    rw [if_pos hnil]
    exact ⟨h34q, h34A, fun a a1 => by rw [h34F a a1, h14F a a1, h5F a a1]⟩
  · intro h21
    have hnn : ¬ filK (μ 1) 0 N ++ filK (μ 1) 2 N = [] := fun e => by rw [e] at h14q; simp at h14q; omega
    refine j_iload hJ (j := 0) rfl dX0_putKey_24 ?_
    refine j_goto hJ (tgt := 37) (by decide) dX0_putKey_26 ?_
    refine j_iret hJ rfl rfl (rfl) (Nat.le_of_ble_eq_true rfl) (Nat.le_of_ble_eq_true rfl) dX0_putKey_37 ⟨q14, μ2, rfl, rfl, ?_⟩
    unfold keyL
    rw [if_neg hnn]
    exact ⟨h14q, h14A, fun a a1 => by rw [h14F a a1, h5F a a1]⟩
set_option maxHeartbeats 4000000 in
set_option maxRecDepth 100000 in
theorem c_X0_countMoved {μ : Nat → Int → Int} {i : Nat} {N : List Int} (hfl : l.stackTraces = false) (hi : i < 16) (hN : NmI μ i N) (hkr : KdR (μ 1)) : CT l D cy n0 ad yX0_countMoved (.code yX0_countMoved cX0_countMoved 4 (some .int)) ({ frames := 0, cells := 0, slots := 0, locals := 0 }) [.ref (b (9 + 6 * i)), .ref (b 1)] (gw 105 XSh cy b μ ++ E) (fun vv uu => ∃ q, vv = some (.int (zI q)) ∧ uu = (gw 105 XSh cy b μ ++ E) ∧ (q = ((filK (μ 1) 2 N).length : Nat))) := by
  obtain ⟨h1, h2, h3, h4, h5⟩ := hN
  refine CT.walk hfl (by decide) (Nat.le_of_ble_eq_true rfl) ?_
  intro A J hJ
  show J (gw 105 XSh cy b μ ++ E) 0 0 0 [(0, .ref (b (9 + 6 * i))), (1, .ref (b 1))] []
  refine j_iconst hJ dX0_countMoved_0 ?_
  refine j_istore_n hJ (lv' := [(2, .int (zI 0)), (0, .ref (b (9 + 6 * i))), (1, .ref (b 1))]) rfl (by decide) rfl dX0_countMoved_1 ?_
  refine j_iconst hJ dX0_countMoved_2 ?_
  refine j_istore_n hJ (lv' := [(3, .int (zI 0)), (2, .int (zI 0)), (0, .ref (b (9 + 6 * i))), (1, .ref (b 1))]) rfl (by decide) rfl dX0_countMoved_3 ?_
  have lp4 : ∀ (nn4 : Nat) (ct : Int) (k : Int) (hmeas4 : ((N.length : Int) - k).toNat < nn4) (hk : 0 ≤ k ∧ k ≤ N.length) (hc : ct = ((filK (μ 1) 2 (N.take k.toNat)).length : Nat)), J (gw 105 XSh cy b μ ++ E) 0 0 4 [(0, .ref (b (9 + 6 * i))), (1, .ref (b 1)), (2, .int (zI ct)), (3, .int (zI k))] [] := by
    intro nn4
    induction nn4 with
    | zero => intro ct k hmeas4 hk hc; omega
    | succ nn4 ih4 =>
      intro ct k hmeas4 hk hc
      refine j_iload_n hJ (j := 3) rfl rfl dX0_countMoved_4 ?_
      refine j_aload_n hJ (j := 0) rfl rfl dX0_countMoved_5 ?_
      refine w_geti hJ (fi := 1) rfl (by omega) (XS0 _) rfl f_X0_26 dX0_countMoved_6 ?_
      refine j_topi (y := zI (N.length : Int)) (by rw [h1]) ?_
      refine j_icmp_ge hJ (tgt := 33) ⟨by omega, by omega⟩ ⟨by omega, by omega⟩ (by decide) dX0_countMoved_9 ?_ ?_
      · intro h9
        refine j_iload_n hJ (j := 2) rfl rfl dX0_countMoved_33 ?_
        refine j_iret hJ rfl rfl (rfl) (Nat.le_of_ble_eq_true rfl) (Nat.le_of_ble_eq_true rfl) dX0_countMoved_34 ⟨ct, rfl, rfl, ?_⟩
        rw [show k.toNat = N.length by omega, List.take_length] at hc
        exact hc
      · intro h9
        obtain ⟨x, e1x, e2x, e3x⟩ := h4.at (z := k) hk.1 h9
        have hx5 := h5 x e3x
        have hx6 := hkr x hx5.1 hx5.2
        refine j_aload_n hJ (j := 1) rfl rfl dX0_countMoved_12 ?_
        refine j_aload_n hJ (j := 0) rfl rfl dX0_countMoved_13 ?_
        refine w_getr hJ (by omega) (XS0 _) rfl f_X0_9 dX0_countMoved_14 ?_
        refine j_iload_n hJ (j := 3) rfl rfl dX0_countMoved_17 ?_
        refine w_iald hJ (by omega) (XS1 _) (by first | decide | omega) (by omega) (by omega) dX0_countMoved_18 ?_
        refine j_topi (y := zI x) (by rw [e2x]) ?_
        refine w_iald hJ (by omega) rfl (by first | decide | omega) (by omega) (by omega) dX0_countMoved_19 ?_
        refine j_iconst hJ dX0_countMoved_20 ?_
        refine j_icmp_ne hJ (tgt := 27) ⟨by omega, by omega⟩ ⟨by omega, by omega⟩ (by decide) dX0_countMoved_21 ?_ ?_
        · intro h21
          refine j_iinc hJ (lv' := [(3, .int (zI (k + 1))), (0, .ref (b (9 + 6 * i))), (1, .ref (b 1)), (2, .int (zI ct))]) (j := 3) rfl (by omega) (by decide) rfl dX0_countMoved_27 ?_
          refine j_goto hJ (tgt := 4) (by decide) dX0_countMoved_30 ?_
          refine j_locs hJ [1, 2, 3, 0] rfl ?_
          exact ih4 ct (k + 1) (by omega) (by omega) (by rw [show (k + 1).toNat = k.toNat + 1 by omega, filK_step e1x]; first | (rw [if_neg h21, List.append_nil]; exact hc) | (rw [if_pos h21, List.length_append, hc]; rfl))
        · intro h21
          refine j_iinc hJ (lv' := [(2, .int (zI (ct + 1))), (0, .ref (b (9 + 6 * i))), (1, .ref (b 1)), (3, .int (zI k))]) (j := 2) rfl (by omega) (by decide) rfl dX0_countMoved_24 ?_
          refine j_iinc hJ (lv' := [(3, .int (zI (k + 1))), (2, .int (zI (ct + 1))), (0, .ref (b (9 + 6 * i))), (1, .ref (b 1))]) (j := 3) rfl (by omega) (by decide) rfl dX0_countMoved_27 ?_
          refine j_goto hJ (tgt := 4) (by decide) dX0_countMoved_30 ?_
          refine j_locs hJ [2, 3, 1, 0] rfl ?_
          exact ih4 (ct + 1) (k + 1) (by omega) (by omega) (by rw [show (k + 1).toNat = k.toNat + 1 by omega, filK_step e1x]; first | (rw [if_neg h21, List.append_nil]; exact hc) | (rw [if_pos h21, List.length_append, hc]; rfl))
  refine j_locs hJ [2, 3, 1, 0] rfl ?_
  exact lp4 (((N.length : Int) - 0).toNat + 1) 0 0 (by omega) (by omega) (by simp [filK])
end
