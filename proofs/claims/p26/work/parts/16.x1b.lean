
theorem q_J6_265 : Cond.constant RJ6 265 (1431655765) ∈ GT := (List.mem_of_getElem? (i := 806) (by decide +kernel))
theorem q_J6_266 : Cond.constant RJ6 266 (858993459) ∈ GT := (List.mem_of_getElem? (i := 807) (by decide +kernel))
theorem q_J6_267 : Cond.constant RJ6 267 (252645135) ∈ GT := (List.mem_of_getElem? (i := 808) (by decide +kernel))
set_option maxRecDepth 20000 in
theorem m_X1_59 : MF RX1 59 1 yJ6_bitCount_0f7a4 1 := ⟨Or.inl (List.mem_of_getElem? (i := 803) (by decide +kernel)), (List.mem_of_getElem? (i := 63) (by decide +kernel)), ⟨by decide +kernel, by decide +kernel⟩, by decide +kernel, fun h => by omega, fun _ => (List.mem_of_getElem? (i := 804) (by decide +kernel)), fun h => by omega⟩
set_option maxRecDepth 20000 in
theorem k_J6_bitCount_0f7a4 : Cond.code yJ6_bitCount_0f7a4 cJ6_bitCount_0f7a4 1 (some .int) ∈ GT := (List.mem_of_getElem? (i := 805) (by decide +kernel))
set_option maxRecDepth 20000 in
theorem m_X1_35 : MF RX1 35 0 yX1_goStraight 3 := ⟨Or.inl (List.mem_of_getElem? (i := 366) (by decide +kernel)), (List.mem_of_getElem? (i := 43) (by decide +kernel)), ⟨by decide +kernel, by decide +kernel⟩, by decide +kernel, fun _ => ⟨(List.mem_of_getElem? (i := 368) (by decide +kernel)), (List.mem_of_getElem? (i := 13) (by decide +kernel))⟩, fun h => by omega, fun h => by omega⟩
set_option maxRecDepth 20000 in
theorem k_X1_goStraight : Cond.code yX1_goStraight cX1_goStraight 10 none ∈ GT := (List.mem_of_getElem? (i := 369) (by decide +kernel))
set_option maxRecDepth 20000 in
theorem f_X1_15 : FF RX1 15 2 2 (.array .int) true := ⟨RX1, TX1, 5, tyX1, rfl, by decide, lays_X1, tyX1_ok, rfl, rfl, nmX1, Or.inl (List.mem_of_getElem? (i := 116) (by decide +kernel))⟩
set_option maxRecDepth 20000 in
theorem f_X1_39 : FF RX1 39 2 3 .int false := ⟨RX1, TX1, 5, tyX1, rfl, by decide, lays_X1, tyX1_ok, rfl, rfl, nmX1, Or.inl (List.mem_of_getElem? (i := 117) (by decide +kernel))⟩
set_option maxRecDepth 20000 in
theorem m_X1_53 : MF RX1 53 1 yJ7_fill_53178 2 := ⟨Or.inl (List.mem_of_getElem? (i := 322) (by decide +kernel)), (List.mem_of_getElem? (i := 50) (by decide +kernel)), ⟨by decide +kernel, by decide +kernel⟩, by decide +kernel, fun h => by omega, fun _ => (List.mem_of_getElem? (i := 323) (by decide +kernel)), fun h => by omega⟩
set_option maxRecDepth 20000 in
theorem k_J7_fill_53178 : Cond.code yJ7_fill_53178 cJ7_fill_53178 4 none ∈ GT := (List.mem_of_getElem? (i := 324) (by decide +kernel))
section
variable {l : Launch} {D : va_G} {cy : Nat → ClassId} {n0 : Nat} {ad : Nat → Nat} {b : Nat → Nat} {E : va_W} {ws : va_W}
def fillp (μ : Nat → Int → Int) (k : Nat) (n v : Int) : Nat → Int → Int := fun a j => if a = k ∧ 0 ≤ j ∧ j < n then v else μ a j
theorem fillp_0 {μ : Nat → Int → Int} {k : Nat} {v : Int} : fillp μ k 0 v = μ := by
  funext a j; unfold fillp; rw [if_neg (by omega)]
theorem fillp_succ {μ : Nat → Int → Int} {k : Nat} {j v : Int} (hj : 0 ≤ j) : up (fillp μ k j v) k j v = fillp μ k (j + 1) v := by
  funext a c
  unfold up fillp
  by_cases h : a = k ∧ c = j
  · rw [if_pos h, if_pos (by omega)]
  · rw [if_neg h]
    by_cases h2 : a = k ∧ 0 ≤ c ∧ c < j
    · rw [if_pos h2, if_pos (by omega)]
    · rw [if_neg h2, if_neg (by omega)]
theorem fillp_row {μ : Nat → Int → Int} {k a : Nat} {n v : Int} (h : a ≠ k) : fillp μ k n v a = μ a := by
  funext j; unfold fillp; rw [if_neg (by omega)]
theorem fillp_in {μ : Nat → Int → Int} {k : Nat} {n v j : Int} (h : 0 ≤ j) (h2 : j < n) : fillp μ k n v k j = v := by
  unfold fillp; rw [if_pos ⟨rfl, h, h2⟩]
set_option maxHeartbeats 4000000 in
set_option maxRecDepth 100000 in
theorem c_J7_fill_53178 {μ : Nat → Int → Int} {k n : Nat} {v : Int} (hfl : l.stackTraces = false) (hk : k < 105) (hs : XSh k = .inr (.inl (0, n))) (hn : n < 1000) : CT l D cy n0 ad yJ7_fill_53178 (.code yJ7_fill_53178 cJ7_fill_53178 4 none) ({ frames := 0, cells := 0, slots := 0, locals := 0 }) [.ref (b k), .int (zI v)] (gw 105 XSh cy b μ ++ E) (fun vv uu => ∃ μ', vv = none ∧ uu = (gw 105 XSh cy b μ' ++ E) ∧ (μ' = fillp μ k n v)) := by
  refine CT.walk hfl (by decide) (Nat.le_of_ble_eq_true rfl) ?_
  intro A J hJ
  show J (gw 105 XSh cy b μ ++ E) 0 0 0 [(0, .ref (b k)), (1, .int (zI v))] []
  refine j_iconst hJ dJ7_fill_53178_0 ?_
  refine j_istore_n hJ (lv' := [(2, .int (zI 0)), (0, .ref (b k)), (1, .int (zI v))]) rfl (by decide) rfl dJ7_fill_53178_1 ?_
  refine j_aload_n hJ (j := 1) rfl rfl dJ7_fill_53178_2 ?_
  refine w_alen hJ (by omega) hs (fun _ => rfl) dJ7_fill_53178_3 ?_
  refine j_istore_n hJ (lv' := [(3, .int (zI (n : Int))), (2, .int (zI 0)), (0, .ref (b k)), (1, .int (zI v))]) rfl (by decide) rfl dJ7_fill_53178_4 ?_
  have lp5 : ∀ (nn5 : Nat) (μk : Nat → Int → Int) (j : Int) (hmeas5 : ((n : Int) - j).toNat < nn5) (hj : 0 ≤ j ∧ j ≤ n) (hm : μk = fillp μ k j v), J (gw 105 XSh cy b μk ++ E) 0 0 5 [(0, .ref (b k)), (1, .int (zI v)), (2, .int (zI j)), (3, .int (zI (n : Int)))] [] := by
    intro nn5
    induction nn5 with
    | zero => intro μk j hmeas5 hj hm; omega
    | succ nn5 ih5 =>
      intro μk j hmeas5 hj hm
      refine j_iload_n hJ (j := 2) rfl rfl dJ7_fill_53178_5 ?_
      refine j_iload_n hJ (j := 3) rfl rfl dJ7_fill_53178_6 ?_
      refine j_icmp_ge hJ (tgt := 20) ⟨by omega, by omega⟩ ⟨by omega, by omega⟩ (by decide) dJ7_fill_53178_7 ?_ ?_
      · intro h7
        refine j_vret hJ rfl rfl (Nat.le_of_ble_eq_true rfl) (Nat.le_of_ble_eq_true rfl) dJ7_fill_53178_20 ⟨μk, rfl, rfl, ?_⟩
        rw [hm, show j = n by omega]
      · intro h7
        refine j_aload_n hJ (j := 0) rfl rfl dJ7_fill_53178_10 ?_
        refine j_iload_n hJ (j := 2) rfl rfl dJ7_fill_53178_11 ?_
        refine j_iload_n hJ (j := 1) rfl rfl dJ7_fill_53178_12 ?_
        refine w_iast hJ (by omega) hs (by first | decide | omega) (by omega) (by omega) dJ7_fill_53178_13 ?_
        intro μ1 hμ1
        refine j_iinc hJ (lv' := [(2, .int (zI (j + 1))), (0, .ref (b k)), (1, .int (zI v)), (3, .int (zI (n : Int)))]) (j := 2) rfl (by omega) (by decide) rfl dJ7_fill_53178_14 ?_
        refine j_goto hJ (tgt := 5) (by decide) dJ7_fill_53178_17 ?_
        refine j_locs hJ [1, 2, 0, 3] rfl ?_
        refine ih5 μ1 (j + 1) (by omega) (by omega) ?_
        · rw [hμ1, hm]
          exact fillp_succ hj.1
  refine j_locs hJ [2, 3, 1, 0] rfl ?_
  exact lp5 (((n : Int) - 0).toNat + 1) μ 0 (by omega) (by omega) (by exact fillp_0.symm)
set_option maxHeartbeats 4000000 in
set_option maxRecDepth 100000 in
theorem c_J6_bitCount_0f7a4 {μ : Nat → Int → Int} {x : Int32} (hfl : l.stackTraces = false)  : CT l D cy n0 ad yJ6_bitCount_0f7a4 (.code yJ6_bitCount_0f7a4 cJ6_bitCount_0f7a4 1 (some .int)) ({ frames := 0, cells := 0, slots := 0, locals := 0 }) [.int x] (gw 105 XSh cy b μ ++ E) (fun vv uu => ∃ q, vv = some (.int (zI q)) ∧ uu = (gw 105 XSh cy b μ ++ E) ∧ (zI q = bc x)) := by
  refine CT.walk hfl (by decide) (Nat.le_of_ble_eq_true rfl) ?_
  intro A J hJ
  show J (gw 105 XSh cy b μ ++ E) 0 0 0 [(0, .int x)] []
  refine j_iload_n hJ (j := 0) rfl rfl dJ6_bitCount_0f7a4_0 ?_
  refine j_iload_n hJ (j := 0) rfl rfl dJ6_bitCount_0f7a4_1 ?_
  refine j_iconst hJ dJ6_bitCount_0f7a4_2 ?_
  refine j_rushr hJ dJ6_bitCount_0f7a4_3 ?_
  refine j_ldcw hJ q_J6_265 dJ6_bitCount_0f7a4_4 ?_
  refine j_rand hJ dJ6_bitCount_0f7a4_7 ?_
  refine j_rsub hJ dJ6_bitCount_0f7a4_8 ?_
  refine j_istore_n hJ (lv' := [(0, .int (x - ((shu x (zI 1)) &&& 1431655765)))]) rfl (by decide) rfl dJ6_bitCount_0f7a4_9 ?_
  refine j_iload_n hJ (j := 0) rfl rfl dJ6_bitCount_0f7a4_10 ?_
  refine j_ldcw hJ q_J6_266 dJ6_bitCount_0f7a4_11 ?_
  refine j_rand hJ dJ6_bitCount_0f7a4_14 ?_
  refine j_iload_n hJ (j := 0) rfl rfl dJ6_bitCount_0f7a4_15 ?_
  refine j_iconst hJ dJ6_bitCount_0f7a4_16 ?_
  refine j_rushr hJ dJ6_bitCount_0f7a4_17 ?_
  refine j_ldcw hJ q_J6_266 dJ6_bitCount_0f7a4_18 ?_
  refine j_rand hJ dJ6_bitCount_0f7a4_21 ?_
  refine j_radd hJ dJ6_bitCount_0f7a4_22 ?_
  refine j_istore_n hJ (lv' := [(0, .int (((x - ((shu x (zI 1)) &&& 1431655765)) &&& 858993459) + ((shu (x - ((shu x (zI 1)) &&& 1431655765)) (zI 2)) &&& 858993459)))]) rfl (by decide) rfl dJ6_bitCount_0f7a4_23 ?_
  refine j_iload_n hJ (j := 0) rfl rfl dJ6_bitCount_0f7a4_24 ?_
  refine j_iload_n hJ (j := 0) rfl rfl dJ6_bitCount_0f7a4_25 ?_
  refine j_iconst hJ dJ6_bitCount_0f7a4_26 ?_
  refine j_rushr hJ dJ6_bitCount_0f7a4_27 ?_
  refine j_radd hJ dJ6_bitCount_0f7a4_28 ?_
  refine j_ldcw hJ q_J6_267 dJ6_bitCount_0f7a4_29 ?_
  refine j_rand hJ dJ6_bitCount_0f7a4_32 ?_
  refine j_istore_n hJ (lv' := [(0, .int (((((x - ((shu x (zI 1)) &&& 1431655765)) &&& 858993459) + ((shu (x - ((shu x (zI 1)) &&& 1431655765)) (zI 2)) &&& 858993459)) + (shu (((x - ((shu x (zI 1)) &&& 1431655765)) &&& 858993459) + ((shu (x - ((shu x (zI 1)) &&& 1431655765)) (zI 2)) &&& 858993459)) (zI 4))) &&& 252645135))]) rfl (by decide) rfl dJ6_bitCount_0f7a4_33 ?_
  refine j_iload_n hJ (j := 0) rfl rfl dJ6_bitCount_0f7a4_34 ?_
  refine j_iload_n hJ (j := 0) rfl rfl dJ6_bitCount_0f7a4_35 ?_
  refine j_bipush hJ (v := 8) (by decide) dJ6_bitCount_0f7a4_36 ?_
  refine j_rushr hJ dJ6_bitCount_0f7a4_38 ?_
  refine j_radd hJ dJ6_bitCount_0f7a4_39 ?_
  refine j_istore_n hJ (lv' := [(0, .int ((((((x - ((shu x (zI 1)) &&& 1431655765)) &&& 858993459) + ((shu (x - ((shu x (zI 1)) &&& 1431655765)) (zI 2)) &&& 858993459)) + (shu (((x - ((shu x (zI 1)) &&& 1431655765)) &&& 858993459) + ((shu (x - ((shu x (zI 1)) &&& 1431655765)) (zI 2)) &&& 858993459)) (zI 4))) &&& 252645135) + (shu (((((x - ((shu x (zI 1)) &&& 1431655765)) &&& 858993459) + ((shu (x - ((shu x (zI 1)) &&& 1431655765)) (zI 2)) &&& 858993459)) + (shu (((x - ((shu x (zI 1)) &&& 1431655765)) &&& 858993459) + ((shu (x - ((shu x (zI 1)) &&& 1431655765)) (zI 2)) &&& 858993459)) (zI 4))) &&& 252645135) (zI 8))))]) rfl (by decide) rfl dJ6_bitCount_0f7a4_40 ?_
  refine j_iload_n hJ (j := 0) rfl rfl dJ6_bitCount_0f7a4_41 ?_
  refine j_iload_n hJ (j := 0) rfl rfl dJ6_bitCount_0f7a4_42 ?_
  refine j_bipush hJ (v := 16) (by decide) dJ6_bitCount_0f7a4_43 ?_
  refine j_rushr hJ dJ6_bitCount_0f7a4_45 ?_
  refine j_radd hJ dJ6_bitCount_0f7a4_46 ?_
  refine j_istore_n hJ (lv' := [(0, .int (((((((x - ((shu x (zI 1)) &&& 1431655765)) &&& 858993459) + ((shu (x - ((shu x (zI 1)) &&& 1431655765)) (zI 2)) &&& 858993459)) + (shu (((x - ((shu x (zI 1)) &&& 1431655765)) &&& 858993459) + ((shu (x - ((shu x (zI 1)) &&& 1431655765)) (zI 2)) &&& 858993459)) (zI 4))) &&& 252645135) + (shu (((((x - ((shu x (zI 1)) &&& 1431655765)) &&& 858993459) + ((shu (x - ((shu x (zI 1)) &&& 1431655765)) (zI 2)) &&& 858993459)) + (shu (((x - ((shu x (zI 1)) &&& 1431655765)) &&& 858993459) + ((shu (x - ((shu x (zI 1)) &&& 1431655765)) (zI 2)) &&& 858993459)) (zI 4))) &&& 252645135) (zI 8))) + (shu ((((((x - ((shu x (zI 1)) &&& 1431655765)) &&& 858993459) + ((shu (x - ((shu x (zI 1)) &&& 1431655765)) (zI 2)) &&& 858993459)) + (shu (((x - ((shu x (zI 1)) &&& 1431655765)) &&& 858993459) + ((shu (x - ((shu x (zI 1)) &&& 1431655765)) (zI 2)) &&& 858993459)) (zI 4))) &&& 252645135) + (shu (((((x - ((shu x (zI 1)) &&& 1431655765)) &&& 858993459) + ((shu (x - ((shu x (zI 1)) &&& 1431655765)) (zI 2)) &&& 858993459)) + (shu (((x - ((shu x (zI 1)) &&& 1431655765)) &&& 858993459) + ((shu (x - ((shu x (zI 1)) &&& 1431655765)) (zI 2)) &&& 858993459)) (zI 4))) &&& 252645135) (zI 8))) (zI 16))))]) rfl (by decide) rfl dJ6_bitCount_0f7a4_47 ?_
  refine j_iload_n hJ (j := 0) rfl rfl dJ6_bitCount_0f7a4_48 ?_
  refine j_bipush hJ (v := 63) (by decide) dJ6_bitCount_0f7a4_49 ?_
  refine j_rand hJ dJ6_bitCount_0f7a4_51 ?_
  refine j_topi (zI_of _).symm ?_
  refine j_iret hJ rfl rfl (rfl) (Nat.le_of_ble_eq_true rfl) (Nat.le_of_ble_eq_true rfl) dJ6_bitCount_0f7a4_52 ⟨((((((((x - ((shu x (zI 1)) &&& 1431655765)) &&& 858993459) + ((shu (x - ((shu x (zI 1)) &&& 1431655765)) (zI 2)) &&& 858993459)) + (shu (((x - ((shu x (zI 1)) &&& 1431655765)) &&& 858993459) + ((shu (x - ((shu x (zI 1)) &&& 1431655765)) (zI 2)) &&& 858993459)) (zI 4))) &&& 252645135) + (shu (((((x - ((shu x (zI 1)) &&& 1431655765)) &&& 858993459) + ((shu (x - ((shu x (zI 1)) &&& 1431655765)) (zI 2)) &&& 858993459)) + (shu (((x - ((shu x (zI 1)) &&& 1431655765)) &&& 858993459) + ((shu (x - ((shu x (zI 1)) &&& 1431655765)) (zI 2)) &&& 858993459)) (zI 4))) &&& 252645135) (zI 8))) + (shu ((((((x - ((shu x (zI 1)) &&& 1431655765)) &&& 858993459) + ((shu (x - ((shu x (zI 1)) &&& 1431655765)) (zI 2)) &&& 858993459)) + (shu (((x - ((shu x (zI 1)) &&& 1431655765)) &&& 858993459) + ((shu (x - ((shu x (zI 1)) &&& 1431655765)) (zI 2)) &&& 858993459)) (zI 4))) &&& 252645135) + (shu (((((x - ((shu x (zI 1)) &&& 1431655765)) &&& 858993459) + ((shu (x - ((shu x (zI 1)) &&& 1431655765)) (zI 2)) &&& 858993459)) + (shu (((x - ((shu x (zI 1)) &&& 1431655765)) &&& 858993459) + ((shu (x - ((shu x (zI 1)) &&& 1431655765)) (zI 2)) &&& 858993459)) (zI 4))) &&& 252645135) (zI 8))) (zI 16))) &&& (zI 63)).toInt, rfl, rfl, ?_⟩
  exact zI_of _
theorem TI.last' {μ : Nat → Int → Int} {i m : Nat} {p : Nat → Int} (h : TI μ i p m) (hm : 0 < m) : μ (9 + 6 * i + 3) (μ (9 + 6 * i + 2) 1 - 1) = p (m - 1) ∧ 1 ≤ μ (9 + 6 * i + 2) 1 ∧ μ (9 + 6 * i + 2) 1 ≤ 100 ∧ 0 ≤ p (m - 1) ∧ p (m - 1) < 144 := by
  match m, hm with
  | m + 1, _ => exact h.last
theorem rows_none {μ : Nat → Int → Int} {i : Nat} (h : ∀ c, 0 ≤ c → c < 12 → μ (9 + 6 * i + 5) c = 0) : RowsOn μ i (fun x => x ∈ ([] : List Int)) := by
  intro c r h1 h2 h3 h4
  rw [h c h1 h2]
  refine ⟨by omega, by omega, ?_⟩
  simp
theorem cnt_rows {μ : Nat → Int → Int} {i : Nat} {On : Int → Bool} (h : RowsOn μ i (fun x => On x = true)) {c : Int} (h0 : 0 ≤ c) (h1 : c < 12) :
    cntN (μ (9 + 6 * i + 5) c).toNat.testBit 12 = cntN (fun r => On (12 * c + r)) 12 ∧ cntN (fun r => (μ (9 + 6 * i + 5) c).toNat.testBit r && (r == 0 || !(μ (9 + 6 * i + 5) c).toNat.testBit (r - 1))) 12 = cntN (fun r => On (12 * c + r) && (r == 0 || !On (12 * c + r - 1))) 12 := by
  have g : ∀ r : Nat, r < 12 → (μ (9 + 6 * i + 5) c).toNat.testBit r = On (12 * c + r) := by
    intro r hr
    obtain ⟨a1, a2, a3⟩ := h c r h0 h1 (by omega) (by omega)
    have e0 : μ (9 + 6 * i + 5) c = (((μ (9 + 6 * i + 5) c).toNat : Nat) : Int) := (Int.toNat_of_nonneg a1).symm
    rw [e0, Int.toNat_natCast, divpow_bit] at a3
    rw [Bool.eq_iff_iff]
    exact a3
  refine ⟨cntN_congr g, cntN_congr fun r hr => ?_⟩
  rw [g r hr]
  by_cases e : r = 0
  · subst e; simp
  · rw [g (r - 1) (by omega), show 12 * c + ((r - 1 : Nat) : Int) = 12 * c + r - 1 by omega]
set_option maxHeartbeats 4000000 in
set_option maxRecDepth 100000 in
theorem c_X1_countSquares {μ : Nat → Int → Int} {i : Nat} {On : Int → Bool} (hfl : l.stackTraces = false) (hi : i < 16) (hOn : RowsOn μ i (fun x => On x = true)) : CT l D cy n0 ad yX1_countSquares (.code yX1_countSquares cX1_countSquares 3 (some .int)) ({ frames := 1, cells := 0, slots := 0, locals := 20 }) [.ref (b (9 + 6 * i + 2))] (gw 105 XSh cy b μ ++ E) (fun vv uu => ∃ q, vv = some (.int (zI q)) ∧ uu = (gw 105 XSh cy b μ ++ E) ∧ (q = (cntN (fun k => On k) 144 : Nat))) := by
  refine CT.walk hfl (by decide) (Nat.le_of_ble_eq_true rfl) ?_
  intro A J hJ
  show J (gw 105 XSh cy b μ ++ E) 0 0 0 [(0, .ref (b (9 + 6 * i + 2)))] []
  refine j_iconst hJ dX1_countSquares_0 ?_
  refine j_istore_n hJ (lv' := [(1, .int (zI 0)), (0, .ref (b (9 + 6 * i + 2)))]) rfl (by decide) rfl dX1_countSquares_1 ?_
  refine j_iconst hJ dX1_countSquares_2 ?_
  refine j_istore_n hJ (lv' := [(2, .int (zI 0)), (1, .int (zI 0)), (0, .ref (b (9 + 6 * i + 2)))]) rfl (by decide) rfl dX1_countSquares_3 ?_
  have lp4 : ∀ (nn4 : Nat) (n0c : Int) (k : Int) (hmeas4 : ((12 : Int) - k).toNat < nn4) (hk : 0 ≤ k ∧ k ≤ 12) (hc : n0c = (cntN (fun k => On k) (12 * k.toNat) : Nat)), J (gw 105 XSh cy b μ ++ E) 0 0 4 [(0, .ref (b (9 + 6 * i + 2))), (1, .int (zI n0c)), (2, .int (zI k))] [] := by
    intro nn4
    induction nn4 with
    | zero => intro n0c k hmeas4 hk hc; omega
    | succ nn4 ih4 =>
      intro n0c k hmeas4 hk hc
      refine j_iload_n hJ (j := 2) rfl rfl dX1_countSquares_4 ?_
      refine j_bipush hJ (v := 12) (by decide) dX1_countSquares_5 ?_
      refine j_icmp_ge hJ (tgt := 28) ⟨by omega, by omega⟩ ⟨by omega, by omega⟩ (by decide) dX1_countSquares_7 ?_ ?_
      · intro h7
        refine j_iload_n hJ (j := 1) rfl rfl dX1_countSquares_28 ?_
        refine j_iret hJ rfl rfl (rfl) (Nat.le_of_ble_eq_true rfl) (Nat.le_of_ble_eq_true rfl) dX1_countSquares_29 ⟨n0c, rfl, rfl, ?_⟩
        rw [hc, show 12 * k.toNat = 144 by omega]
      · intro h7
        refine j_iload_n hJ (j := 1) rfl rfl dX1_countSquares_10 ?_
        refine j_aload_n hJ (j := 0) rfl rfl dX1_countSquares_11 ?_
        refine w_getr hJ (by omega) (XS2 _) rfl f_X1_18 dX1_countSquares_12 ?_
        refine j_iload_n hJ (j := 2) rfl rfl dX1_countSquares_15 ?_
        refine w_iald hJ (by omega) (XS5 _) (by first | decide | omega) (by omega) (by omega) dX1_countSquares_16 ?_
        refine j_callS0 hJ (c_J6_bitCount_0f7a4 hfl ) m_X1_59 k_J6_bitCount_0f7a4 ⟨(Nat.le_of_ble_eq_true rfl), (Nat.le_of_ble_eq_true rfl)⟩ ⟨(Nat.le_of_ble_eq_true rfl), (Nat.le_of_ble_eq_true rfl)⟩ (Nat.le_of_ble_eq_true rfl) dX1_countSquares_17 rfl ?_
        intro v1 u2 hv3
        obtain ⟨q17, rfl, rfl, h17⟩ := hv3
        show J (gw 105 XSh cy b μ ++ E) 0 0 20 [(0, .ref (b (9 + 6 * i + 2))), (1, .int (zI n0c)), (2, .int (zI k))] [.int (zI q17), .int (zI n0c)]
        refine j_topi (y := zI (cntN (fun r => On (12 * k + r)) 12 : Nat)) (by obtain ⟨a1, a2, -⟩ := hOn k 0 hk.1 (by omega) (by omega) (by omega); exact h17.trans ((bc_bits a1 a2).1.trans (by rw [(cnt_rows hOn hk.1 (by omega)).1]))) ?_
        refine j_iadd hJ dX1_countSquares_20 ?_
        refine j_istore_n hJ (lv' := [(1, .int (zI (n0c + (cntN (fun r => On (12 * k + r)) 12 : Nat)))), (0, .ref (b (9 + 6 * i + 2))), (2, .int (zI k))]) rfl (by decide) rfl dX1_countSquares_21 ?_
        refine j_iinc hJ (lv' := [(2, .int (zI (k + 1))), (1, .int (zI (n0c + (cntN (fun r => On (12 * k + r)) 12 : Nat)))), (0, .ref (b (9 + 6 * i + 2)))]) (j := 2) rfl (by omega) (by decide) rfl dX1_countSquares_22 ?_
        refine j_goto hJ (tgt := 4) (by decide) dX1_countSquares_25 ?_
        refine j_locs hJ [2, 1, 0] rfl ?_
        refine ih4 (n0c + (cntN (fun r => On (12 * k + r)) 12 : Nat)) (k + 1) (by omega) (by omega) ?_
        · rw [show 12 * (k + 1).toNat = 12 * k.toNat + 12 by omega, cntN_add, hc]
          have e : (fun r : Nat => On ((12 * k.toNat + r : Nat) : Int)) = fun r : Nat => On (12 * k + r) := by funext r; congr 1; omega
          rw [e]
          omega
  refine j_locs hJ [2, 1, 0] rfl ?_
  exact lp4 (((12 : Int) - 0).toNat + 1) 0 0 (by omega) (by omega) (by rfl)
set_option maxHeartbeats 4000000 in
set_option maxRecDepth 100000 in
theorem c_X1_countRuns {μ : Nat → Int → Int} {i : Nat} {On : Int → Bool} (hfl : l.stackTraces = false) (hi : i < 16) (hOn : RowsOn μ i (fun x => On x = true)) : CT l D cy n0 ad yX1_countRuns (.code yX1_countRuns cX1_countRuns 3 (some .int)) ({ frames := 1, cells := 0, slots := 0, locals := 20 }) [.ref (b (9 + 6 * i + 2))] (gw 105 XSh cy b μ ++ E) (fun vv uu => ∃ q, vv = some (.int (zI q)) ∧ uu = (gw 105 XSh cy b μ ++ E) ∧ (q = (cntN (fun k => On k && (k % 12 == 0 || !On (k - 1))) 144 : Nat))) := by
  refine CT.walk hfl (by decide) (Nat.le_of_ble_eq_true rfl) ?_
  intro A J hJ
  show J (gw 105 XSh cy b μ ++ E) 0 0 0 [(0, .ref (b (9 + 6 * i + 2)))] []
  refine j_iconst hJ dX1_countRuns_0 ?_
  refine j_istore_n hJ (lv' := [(1, .int (zI 0)), (0, .ref (b (9 + 6 * i + 2)))]) rfl (by decide) rfl dX1_countRuns_1 ?_
  refine j_iconst hJ dX1_countRuns_2 ?_
  refine j_istore_n hJ (lv' := [(2, .int (zI 0)), (1, .int (zI 0)), (0, .ref (b (9 + 6 * i + 2)))]) rfl (by decide) rfl dX1_countRuns_3 ?_
  have lp4 : ∀ (nn4 : Nat) (n0c : Int) (k : Int) (hmeas4 : ((12 : Int) - k).toNat < nn4) (hk : 0 ≤ k ∧ k ≤ 12) (hc : n0c = (cntN (fun k : Nat => On k && (k % 12 == 0 || !On (k - 1))) (12 * k.toNat) : Nat)), J (gw 105 XSh cy b μ ++ E) 0 0 4 [(0, .ref (b (9 + 6 * i + 2))), (1, .int (zI n0c)), (2, .int (zI k))] [] := by
    intro nn4
    induction nn4 with
    | zero => intro n0c k hmeas4 hk hc; omega
    | succ nn4 ih4 =>
      intro n0c k hmeas4 hk hc
      refine j_iload_n hJ (j := 2) rfl rfl dX1_countRuns_4 ?_
      refine j_bipush hJ (v := 12) (by decide) dX1_countRuns_5 ?_
      refine j_icmp_ge hJ (tgt := 39) ⟨by omega, by omega⟩ ⟨by omega, by omega⟩ (by decide) dX1_countRuns_7 ?_ ?_
      · intro h7
        refine j_iload_n hJ (j := 1) rfl rfl dX1_countRuns_39 ?_
        refine j_iret hJ rfl rfl (rfl) (Nat.le_of_ble_eq_true rfl) (Nat.le_of_ble_eq_true rfl) dX1_countRuns_40 ⟨n0c, rfl, rfl, ?_⟩
        rw [hc, show 12 * k.toNat = 144 by omega]
      · intro h7
        refine j_iload_n hJ (j := 1) rfl rfl dX1_countRuns_10 ?_
        refine j_aload_n hJ (j := 0) rfl rfl dX1_countRuns_11 ?_
        refine w_getr hJ (by omega) (XS2 _) rfl f_X1_18 dX1_countRuns_12 ?_
        refine j_iload_n hJ (j := 2) rfl rfl dX1_countRuns_15 ?_
        refine w_iald hJ (by omega) (XS5 _) (by first | decide | omega) (by omega) (by omega) dX1_countRuns_16 ?_
        refine j_aload_n hJ (j := 0) rfl rfl dX1_countRuns_17 ?_
        refine w_getr hJ (by omega) (XS2 _) rfl f_X1_18 dX1_countRuns_18 ?_
        refine j_iload_n hJ (j := 2) rfl rfl dX1_countRuns_21 ?_
        refine w_iald hJ (by omega) (XS5 _) (by first | decide | omega) (by omega) (by omega) dX1_countRuns_22 ?_
        refine j_iconst hJ dX1_countRuns_23 ?_
        refine j_rshl hJ dX1_countRuns_24 ?_
        refine j_iconst hJ dX1_countRuns_25 ?_
        refine j_rxor hJ dX1_countRuns_26 ?_
        refine j_rand hJ dX1_countRuns_27 ?_
        refine j_callS0 hJ (c_J6_bitCount_0f7a4 hfl ) m_X1_59 k_J6_bitCount_0f7a4 ⟨(Nat.le_of_ble_eq_true rfl), (Nat.le_of_ble_eq_true rfl)⟩ ⟨(Nat.le_of_ble_eq_true rfl), (Nat.le_of_ble_eq_true rfl)⟩ (Nat.le_of_ble_eq_true rfl) dX1_countRuns_28 rfl ?_
        intro v1 u2 hv3
        obtain ⟨q28, rfl, rfl, h28⟩ := hv3
        show J (gw 105 XSh cy b μ ++ E) 0 0 31 [(0, .ref (b (9 + 6 * i + 2))), (1, .int (zI n0c)), (2, .int (zI k))] [.int (zI q28), .int (zI n0c)]
        refine j_topi (y := zI (cntN (fun r => On (12 * k + r) && (r == 0 || !On (12 * k + r - 1))) 12 : Nat)) (by obtain ⟨a1, a2, -⟩ := hOn k 0 hk.1 (by omega) (by omega) (by omega); exact h28.trans ((bc_bits a1 a2).2.trans (by rw [(cnt_rows hOn hk.1 (by omega)).2]))) ?_
        refine j_iadd hJ dX1_countRuns_31 ?_
        refine j_istore_n hJ (lv' := [(1, .int (zI (n0c + (cntN (fun r => On (12 * k + r) && (r == 0 || !On (12 * k + r - 1))) 12 : Nat)))), (0, .ref (b (9 + 6 * i + 2))), (2, .int (zI k))]) rfl (by decide) rfl dX1_countRuns_32 ?_
        refine j_iinc hJ (lv' := [(2, .int (zI (k + 1))), (1, .int (zI (n0c + (cntN (fun r => On (12 * k + r) && (r == 0 || !On (12 * k + r - 1))) 12 : Nat)))), (0, .ref (b (9 + 6 * i + 2)))]) (j := 2) rfl (by omega) (by decide) rfl dX1_countRuns_33 ?_
        refine j_goto hJ (tgt := 4) (by decide) dX1_countRuns_36 ?_
        refine j_locs hJ [2, 1, 0] rfl ?_
        refine ih4 (n0c + (cntN (fun r => On (12 * k + r) && (r == 0 || !On (12 * k + r - 1))) 12 : Nat)) (k + 1) (by omega) (by omega) ?_
        · rw [show 12 * (k + 1).toNat = 12 * k.toNat + 12 by omega, cntN_add, hc]
          have e : cntN (fun r : Nat => On ((12 * k.toNat + r : Nat) : Int) && ((12 * k.toNat + r) % 12 == 0 || !On (((12 * k.toNat + r : Nat) : Int) - 1))) 12 = cntN (fun r : Nat => On (12 * k + r) && (r == 0 || !On (12 * k + r - 1))) 12 := cntN_congr fun r hr => by
            rw [show (12 * k.toNat + r) % 12 = r by omega, show ((12 * k.toNat + r : Nat) : Int) = 12 * k + r by omega]
          rw [e]
          omega
  refine j_locs hJ [2, 1, 0] rfl ?_
  exact lp4 (((12 : Int) - 0).toNat + 1) 0 0 (by omega) (by omega) (by rfl)
set_option maxHeartbeats 4000000 in
set_option maxRecDepth 100000 in
theorem c_X1_goTo {μ : Nat → Int → Int} {i m : Nat} {p : Nat → Int} {c r : Int} (hfl : l.stackTraces = false) (hi : i < 16) (hm : m < 10) (hc : 0 ≤ c ∧ c < 12) (hr : 0 ≤ r ∧ r < 12) (hT : TI μ i p m) (ha : 0 < m → Aln (p (m - 1)) c r) : CT l D cy n0 ad yX1_goTo (.code yX1_goTo cX1_goTo 3 none) ({ frames := 3, cells := 0, slots := 0, locals := 72 }) [.ref (b (9 + 6 * i + 2)), .int (zI c), .int (zI r)] (gw 105 XSh cy b μ ++ E) (fun vv uu => ∃ μ', vv = none ∧ uu = (gw 105 XSh cy b μ' ++ E) ∧ (TI μ' i (pset p m (12 * c + r)) (m + 1) ∧ FrT μ μ' i)) := by
  have hlen := hT.len
  obtain ⟨h1, h2, h3, h4x, h5⟩ := id hT
  obtain ⟨g1, -, g3, -⟩ := id h1
  refine CT.walk hfl (by decide) (Nat.le_of_ble_eq_true rfl) ?_
  intro A J hJ
  show J (gw 105 XSh cy b μ ++ E) 0 0 0 [(0, .ref (b (9 + 6 * i + 2))), (1, .int (zI c)), (2, .int (zI r))] []
  refine j_aload_n hJ (j := 0) rfl rfl dX1_goTo_0 ?_
  refine w_geti hJ (fi := 1) rfl (by omega) (XS2 _) rfl f_X1_21 dX1_goTo_1 ?_
  refine j_if_ne hJ (tgt := 16) ⟨by omega, by omega⟩ (by decide) dX1_goTo_4 ?_ ?_
  · intro h4
    have hmp : 0 < m := by omega
    obtain ⟨e1, e2, e3, e4, e5⟩ := hT.last' hmp
    have hfr := far_rng ⟨e4, e5⟩ hc hr
    refine j_aload_n hJ (j := 0) rfl rfl dX1_goTo_16 ?_
    refine j_aload_n hJ (j := 0) rfl rfl dX1_goTo_17 ?_
    refine w_getr hJ (by omega) (XS2 _) rfl f_X1_9 dX1_goTo_18 ?_
    refine j_aload_n hJ (j := 0) rfl rfl dX1_goTo_21 ?_
    refine w_geti hJ (fi := 1) rfl (by omega) (XS2 _) rfl f_X1_21 dX1_goTo_22 ?_
    refine j_iconst hJ dX1_goTo_25 ?_
    refine j_isub hJ dX1_goTo_26 ?_
    refine w_iald hJ (by omega) (XS3 _) (by first | decide | omega) (by omega) (by omega) dX1_goTo_27 ?_
    refine j_topi (y := zI (p (m - 1))) (by rw [e1]) ?_
    refine j_iload_n hJ (j := 1) rfl rfl dX1_goTo_28 ?_
    refine j_iload_n hJ (j := 2) rfl rfl dX1_goTo_29 ?_
    refine j_callV0 hJ (c_X1_goStraight hfl (L := trk p m) hi ⟨e4, e5⟩ hc hr (ha hmp) h1 (by omega)) m_X1_35 k_X1_goStraight (q0 := 9 + 6 * i + 2) (by rw [gw_get (by omega), XS2]; rfl) rfl ⟨(Nat.le_of_ble_eq_true rfl), (Nat.le_of_ble_eq_true rfl)⟩ ⟨(Nat.le_of_ble_eq_true rfl), (Nat.le_of_ble_eq_true rfl)⟩ (Nat.le_of_ble_eq_true rfl) dX1_goTo_30 rfl ?_
    intro v1 u2 hv3
    obtain ⟨μ1, rfl, rfl, h30⟩ := hv3
    show J (gw 105 XSh cy b μ1 ++ E) 0 0 33 [(0, .ref (b (9 + 6 * i + 2))), (1, .int (zI c)), (2, .int (zI r))] []
    have hTP : TP μ1 i (trk p m ++ (if m = 0 then [12 * c + r] else seg (p (m - 1)) (12 * c + r))) := by
      rw [if_neg (by omega), seg, show (12 * c + r) / 12 = c by omega, show (12 * c + r) % 12 = r by omega]
      exact h30.1
    have hFr := h30.2
    obtain ⟨hT1, -, hT3, -⟩ := id hTP
    refine j_aload_n hJ (j := 0) rfl rfl dX1_goTo_33 ?_
    refine w_getr hJ (by omega) (XS2 _) rfl f_X1_15 dX1_goTo_34 ?_
    refine j_aload_n hJ (j := 0) rfl rfl dX1_goTo_37 ?_
    refine w_geti hJ (fi := 3) rfl (by omega) (XS2 _) rfl f_X1_39 dX1_goTo_38 ?_
    refine j_topi (y := zI (m : Int)) (by rw [hFr.2 3 (by omega), h2]) ?_
    refine j_aload_n hJ (j := 0) rfl rfl dX1_goTo_41 ?_
    refine w_geti hJ (fi := 1) rfl (by omega) (XS2 _) rfl f_X1_21 dX1_goTo_42 ?_
    refine w_iast hJ (by omega) (XS4 _) (by first | decide | omega) (by omega) (by omega) dX1_goTo_45 ?_
    intro μ2 hμ2
    have hM2 := hμ2
    refine j_aload_n hJ (j := 0) rfl rfl dX1_goTo_46 ?_
    refine j_dup hJ rfl dX1_goTo_47 ?_
    refine w_geti hJ (fi := 3) rfl (by omega) (XS2 _) rfl f_X1_39 dX1_goTo_48 ?_
    refine j_topi (y := zI (m : Int)) (by rw [hμ2, up_row (by omega), hFr.2 3 (by omega), h2]) ?_
    refine j_iconst hJ dX1_goTo_51 ?_
    refine j_iadd hJ dX1_goTo_52 ?_
    refine w_puti hJ (fi := 3) rfl (by omega) (XS2 _) rfl f_X1_39 rfl rfl dX1_goTo_53 ?_
    intro μ3 hμ3
    have hM3 := hμ3
    refine j_vret hJ rfl rfl (Nat.le_of_ble_eq_true rfl) (Nat.le_of_ble_eq_true rfl) dX1_goTo_56 ⟨μ3, rfl, rfl, ?_⟩
    rw [hM3, hM2]
    exact hT.add hm hc hr ha hTP hFr
  · intro h4
    have hm0 := hlen.1.mp h4
    refine j_aload_n hJ (j := 0) rfl rfl dX1_goTo_7 ?_
    refine j_iload_n hJ (j := 1) rfl rfl dX1_goTo_8 ?_
    refine j_iload_n hJ (j := 2) rfl rfl dX1_goTo_9 ?_
    refine j_callV0 hJ (c_X1_addSquare hfl (L := trk p m) hi hc hr h1 (by omega)) m_X1_31 k_X1_addSquare (q0 := 9 + 6 * i + 2) (by rw [gw_get (by omega), XS2]; rfl) rfl ⟨(Nat.le_of_ble_eq_true rfl), (Nat.le_of_ble_eq_true rfl)⟩ ⟨(Nat.le_of_ble_eq_true rfl), (Nat.le_of_ble_eq_true rfl)⟩ (Nat.le_of_ble_eq_true rfl) dX1_goTo_10 rfl ?_
    intro v4 u5 hv6
    obtain ⟨μ4, rfl, rfl, h10⟩ := hv6
    show J (gw 105 XSh cy b μ4 ++ E) 0 0 13 [(0, .ref (b (9 + 6 * i + 2))), (1, .int (zI c)), (2, .int (zI r))] []
    have hTP : TP μ4 i (trk p m ++ (if m = 0 then [12 * c + r] else seg (p (m - 1)) (12 * c + r))) := by rw [if_pos hm0]; exact h10.1
    have hFr := h10.2
    obtain ⟨hT1, -, hT3, -⟩ := id hTP
    refine j_goto hJ (tgt := 33) (by decide) dX1_goTo_13 ?_
    refine j_aload_n hJ (j := 0) rfl rfl dX1_goTo_33 ?_
    refine w_getr hJ (by omega) (XS2 _) rfl f_X1_15 dX1_goTo_34 ?_
    refine j_aload_n hJ (j := 0) rfl rfl dX1_goTo_37 ?_
    refine w_geti hJ (fi := 3) rfl (by omega) (XS2 _) rfl f_X1_39 dX1_goTo_38 ?_
    refine j_topi (y := zI (m : Int)) (by rw [hFr.2 3 (by omega), h2]) ?_
    refine j_aload_n hJ (j := 0) rfl rfl dX1_goTo_41 ?_
    refine w_geti hJ (fi := 1) rfl (by omega) (XS2 _) rfl f_X1_21 dX1_goTo_42 ?_
    refine w_iast hJ (by omega) (XS4 _) (by first | decide | omega) (by omega) (by omega) dX1_goTo_45 ?_
    intro μ5 hμ5
    have hM2 := hμ5
    refine j_aload_n hJ (j := 0) rfl rfl dX1_goTo_46 ?_
    refine j_dup hJ rfl dX1_goTo_47 ?_
    refine w_geti hJ (fi := 3) rfl (by omega) (XS2 _) rfl f_X1_39 dX1_goTo_48 ?_
    refine j_topi (y := zI (m : Int)) (by rw [hμ5, up_row (by omega), hFr.2 3 (by omega), h2]) ?_
    refine j_iconst hJ dX1_goTo_51 ?_
    refine j_iadd hJ dX1_goTo_52 ?_
    refine w_puti hJ (fi := 3) rfl (by omega) (XS2 _) rfl f_X1_39 rfl rfl dX1_goTo_53 ?_
    intro μ6 hμ6
    have hM3 := hμ6
    refine j_vret hJ rfl rfl (Nat.le_of_ble_eq_true rfl) (Nat.le_of_ble_eq_true rfl) dX1_goTo_56 ⟨μ6, rfl, rfl, ?_⟩
    rw [hM3, hM2]
    exact hT.add hm hc hr ha hTP hFr
set_option maxHeartbeats 4000000 in
set_option maxRecDepth 100000 in
theorem c_X1_goBack {μ : Nat → Int → Int} {i m : Nat} {p : Nat → Int} (hfl : l.stackTraces = false) (hi : i < 16) (hm : 0 < m) (hT : TI μ i p m) : CT l D cy n0 ad yX1_goBack (.code yX1_goBack cX1_goBack 2 none) ({ frames := 1, cells := 0, slots := 0, locals := 23 }) [.ref (b (9 + 6 * i + 2))] (gw 105 XSh cy b μ ++ E) (fun vv uu => ∃ μ', vv = none ∧ uu = (gw 105 XSh cy b μ' ++ E) ∧ (TI μ' i p (m - 1) ∧ FrT μ μ' i)) := by
  obtain ⟨h1, h2, h3, h4, h5⟩ := id hT
  obtain ⟨g1, g2, g3, g4, g5⟩ := id h1
  have hP1 : PtOK p (m - 1) := h4.less (by omega)
  have hLl := trk_len hP1
  obtain ⟨L', hL'⟩ := trk_pre (p := p) (m := m) (k := m - 1) (by omega)
  refine CT.walk hfl (by decide) (Nat.le_of_ble_eq_true rfl) ?_
  intro A J hJ
  show J (gw 105 XSh cy b μ ++ E) 0 0 0 [(0, .ref (b (9 + 6 * i + 2)))] []
  refine j_aload_n hJ (j := 0) rfl rfl dX1_goBack_0 ?_
  refine j_dup hJ rfl dX1_goBack_1 ?_
  refine w_geti hJ (fi := 3) rfl (by omega) (XS2 _) rfl f_X1_39 dX1_goBack_2 ?_
  refine j_topi (y := zI (m : Int)) (by rw [h2]) ?_
  refine j_iconst hJ dX1_goBack_5 ?_
  refine j_isub hJ dX1_goBack_6 ?_
  refine w_puti hJ (fi := 3) rfl (by omega) (XS2 _) rfl f_X1_39 rfl rfl dX1_goBack_7 ?_
  intro μ1 hμ1
  have hM1 := hμ1
  refine j_aload_n hJ (j := 0) rfl rfl dX1_goBack_10 ?_
  refine j_aload_n hJ (j := 0) rfl rfl dX1_goBack_11 ?_
  refine w_geti hJ (fi := 3) rfl (by omega) (XS2 _) rfl f_X1_39 dX1_goBack_12 ?_
  refine j_topi (y := zI ((m : Int) - 1)) (by rw [hM1, up_self]) ?_
  have j33 : ∀ (v : Int) (hv : v = ((trk p (m - 1)).length : Int)), J (gw 105 XSh cy b μ1 ++ E) 0 0 33 [(0, .ref (b (9 + 6 * i + 2)))] [.int (zI v), .ref (b (9 + 6 * i + 2))] := by
    intro v hv
    refine w_puti hJ (fi := 1) rfl (by omega) (XS2 _) rfl f_X1_21 rfl rfl dX1_goBack_33 ?_
    intro μ2 hμ2
    have hM2 := hμ2
    refine j_aload_n hJ (j := 0) rfl rfl dX1_goBack_36 ?_
    refine w_getr hJ (by omega) (XS2 _) rfl f_X1_18 dX1_goBack_37 ?_
    refine j_iconst hJ dX1_goBack_40 ?_
    refine j_callS0 hJ (c_J7_fill_53178 hfl (k := 9 + 6 * i + 5) (n := 12) (v := 0) (by omega) (XS5 _) (by omega)) m_X1_53 k_J7_fill_53178 ⟨(Nat.le_of_ble_eq_true rfl), (Nat.le_of_ble_eq_true rfl)⟩ ⟨(Nat.le_of_ble_eq_true rfl), (Nat.le_of_ble_eq_true rfl)⟩ (Nat.le_of_ble_eq_true rfl) dX1_goBack_41 rfl ?_
    intro v1 u2 hv3
    obtain ⟨μ3, rfl, rfl, hM3⟩ := hv3
    show J (gw 105 XSh cy b μ3 ++ E) 0 0 44 [(0, .ref (b (9 + 6 * i + 2)))] []
    have hz0 : ∀ a, a ≠ 9 + 6 * i + 2 → a ≠ 9 + 6 * i + 5 → μ3 a = μ a := fun a a1 a2 => by
      rw [hM3, fillp_row a2]; funext j; rw [hM2, up_row a1, hM1, up_row a1]
    have hz2 : μ3 (9 + 6 * i + 2) 1 = v := by rw [hM3, fillp_row (by omega), hM2, up_self]
    have hz3 : μ3 (9 + 6 * i + 2) 3 = (m : Int) - 1 := by rw [hM3, fillp_row (by omega), hM2, up_at (by omega), hM1, up_self]
    have hz5 : RowsOn μ3 i (fun x => x ∈ ([] : List Int)) := rows_none (fun c a b => by rw [hM3]; exact fillp_in a b)
    have hA : ArrL (μ3 (9 + 6 * i + 3)) (trk p (m - 1)) := by
      rw [hz0 _ (by omega) (by omega)]; rw [hL'] at g2; exact g2.app
    have hgr := trk_rng hP1
    obtain ⟨μz, hμz⟩ : ∃ μz, μz = μ3 := ⟨_, rfl⟩
    rw [← hμz] at hz0 hz2 hz3 hz5 hA ⊢
    refine j_iconst hJ dX1_goBack_44 ?_
    refine j_istore_n hJ (lv' := [(1, .int (zI 0)), (0, .ref (b (9 + 6 * i + 2)))]) rfl (by decide) rfl dX1_goBack_45 ?_
    have lp46 : ∀ (nn46 : Nat) (μk : Nat → Int → Int) (k : Int) (hmeas46 : (((trk p (m - 1)).length : Int) - k).toNat < nn46) (hk : 0 ≤ k ∧ k ≤ ((trk p (m - 1)).length : Int)) (hz : ∀ a, a ≠ 9 + 6 * i + 5 → μk a = μz a) (hR : RowsOn μk i (fun x => x ∈ (trk p (m - 1)).take k.toNat)), J (gw 105 XSh cy b μk ++ E) 0 0 46 [(0, .ref (b (9 + 6 * i + 2))), (1, .int (zI k))] [] := by
      intro nn46
      induction nn46 with
      | zero => intro μk k hmeas46 hk hz hR; omega
      | succ nn46 ih46 =>
        intro μk k hmeas46 hk hz hR
        refine j_iload_n hJ (j := 1) rfl rfl dX1_goBack_46 ?_
        refine j_aload_n hJ (j := 0) rfl rfl dX1_goBack_47 ?_
        refine w_geti hJ (fi := 1) rfl (by omega) (XS2 _) rfl f_X1_21 dX1_goBack_48 ?_
        refine j_topi (y := zI ((trk p (m - 1)).length : Int)) (by rw [hz _ (by omega), hz2, hv]) ?_
        refine j_icmp_ge hJ (tgt := 88) ⟨by omega, by omega⟩ ⟨by omega, by omega⟩ (by decide) dX1_goBack_51 ?_ ?_
        · intro h51
          refine j_vret hJ rfl rfl (Nat.le_of_ble_eq_true rfl) (Nat.le_of_ble_eq_true rfl) dX1_goBack_88 ⟨μk, rfl, rfl, ?_⟩
          rw [show k = ((trk p (m - 1)).length : Int) by omega, Int.toNat_natCast, List.take_length] at hR
          refine ⟨⟨⟨by rw [hz _ (by omega), hz2, hv], ?_, by omega, hgr, hR⟩, by rw [hz _ (by omega), hz3]; omega, by omega, hP1, fun q hq => ?_⟩, fun a a1 a2 a3 a4 => by rw [hz a a4, hz0 a a1 a4]⟩
          · rw [hz _ (by omega)]; exact hA
          · rw [hz _ (by omega), hz0 _ (by omega) (by omega)]; exact h5 q (by omega)
        · intro h51
          obtain ⟨x, e1x, e2x, e3x⟩ := hA.at (z := k) hk.1 h51
          have hx4 := hgr x e3x
          obtain ⟨hr1, -, -⟩ := hR (x / 12) 0 (by omega) (by omega) (by omega) (by omega)
          refine j_aload_n hJ (j := 0) rfl rfl dX1_goBack_54 ?_
          refine w_getr hJ (by omega) (XS2 _) rfl f_X1_18 dX1_goBack_55 ?_
          refine j_aload_n hJ (j := 0) rfl rfl dX1_goBack_58 ?_
          refine w_getr hJ (by omega) (XS2 _) rfl f_X1_9 dX1_goBack_59 ?_
          refine j_iload_n hJ (j := 1) rfl rfl dX1_goBack_62 ?_
          refine w_iald hJ (by omega) (XS3 _) (by first | decide | omega) (by omega) (by omega) dX1_goBack_63 ?_
          refine j_topi (y := zI x) (by rw [hz _ (by omega), e2x]) ?_
          refine j_bipush hJ (v := 12) (by decide) dX1_goBack_64 ?_
          refine j_idiv hJ (by omega) (by omega) (by omega) (by omega) dX1_goBack_66 ?_
          refine j_dup2 hJ rfl rfl dX1_goBack_67 ?_
          refine w_iald hJ (by omega) (XS5 _) (by first | decide | omega) (by omega) (by omega) dX1_goBack_68 ?_
          refine j_iconst hJ dX1_goBack_69 ?_
          refine j_aload_n hJ (j := 0) rfl rfl dX1_goBack_70 ?_
          refine w_getr hJ (by omega) (XS2 _) rfl f_X1_9 dX1_goBack_71 ?_
          refine j_iload_n hJ (j := 1) rfl rfl dX1_goBack_74 ?_
          refine w_iald hJ (by omega) (XS3 _) (by first | decide | omega) (by omega) (by omega) dX1_goBack_75 ?_
          refine j_topi (y := zI x) (by rw [hz _ (by omega), e2x]) ?_
          refine j_bipush hJ (v := 12) (by decide) dX1_goBack_76 ?_
          refine j_irem hJ (by omega) (by omega) (by omega) (by omega) dX1_goBack_78 ?_
          refine j_ishl hJ (v := (2 ^ (x % 12).toNat)) (zI_shl1 (by omega) (by omega)) dX1_goBack_79 ?_
          refine j_ior hJ (v := (orI (μk (9 + 6 * i + 5) (x / 12)) (x % 12))) (zI_or hr1) dX1_goBack_80 ?_
          refine w_iast hJ (by omega) (XS5 _) (by first | decide | omega) (by omega) (by omega) dX1_goBack_81 ?_
          intro μ4 hμ4
          have hM5 := hμ4
          refine j_iinc hJ (lv' := [(1, .int (zI (k + 1))), (0, .ref (b (9 + 6 * i + 2)))]) (j := 1) rfl (by omega) (by decide) rfl dX1_goBack_82 ?_
          refine j_goto hJ (tgt := 46) (by decide) dX1_goBack_85 ?_
          refine j_locs hJ [1, 0] rfl ?_
          refine ih46 μ4 (k + 1) (by omega) (by omega) (by exact fun a a1 => by rw [hM5, up_rowf a1, hz a a1]) ?_
          · refine (rows_or (c := x / 12) (r := x % 12) hR ⟨by omega, by omega⟩ ⟨by omega, by omega⟩ (by rw [hM5, up_self]) (fun j hj => by rw [hM5, up_at hj])).iff (fun y _ _ => ?_)
            rw [show (k + 1).toNat = k.toNat + 1 by omega, List.take_succ, e1x, show 12 * (x / 12) + x % 12 = x by omega]
            simp
    refine j_locs hJ [1, 0] rfl ?_
    exact lp46 ((((trk p (m - 1)).length : Int) - 0).toNat + 1) μz 0 (by omega) (by omega) (by exact fun _ _ => rfl) (by exact hz5)
  refine j_if_ne hJ (tgt := 22) ⟨by omega, by omega⟩ (by decide) dX1_goBack_15 ?_ ?_
  · intro h15
    refine j_aload_n hJ (j := 0) rfl rfl dX1_goBack_22 ?_
    refine w_getr hJ (by omega) (XS2 _) rfl f_X1_15 dX1_goBack_23 ?_
    refine j_aload_n hJ (j := 0) rfl rfl dX1_goBack_26 ?_
    refine w_geti hJ (fi := 3) rfl (by omega) (XS2 _) rfl f_X1_39 dX1_goBack_27 ?_
    refine j_topi (y := zI ((m : Int) - 1)) (by rw [hM1, up_self]) ?_
    refine j_iconst hJ dX1_goBack_30 ?_
    refine j_isub hJ dX1_goBack_31 ?_
    refine w_iald hJ (by omega) (XS4 _) (by first | decide | omega) (by omega) (by omega) dX1_goBack_32 ?_
    refine j_topi (y := zI ((trk p (m - 1)).length : Int)) (by rw [hM1, up_row (by omega), show (m : Int) - 1 - 1 = ((m - 2 : Nat) : Int) by omega, h5 (m - 2) (by omega), show m - 2 + 1 = m - 1 by omega]) ?_
    exact j33 ((trk p (m - 1)).length : Int) (by omega)
  · intro h15
    refine j_iconst hJ dX1_goBack_18 ?_
    refine j_goto hJ (tgt := 33) (by decide) dX1_goBack_19 ?_
    exact j33 0 (by omega)
end
