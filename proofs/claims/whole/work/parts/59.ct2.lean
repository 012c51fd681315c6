
set_option maxRecDepth 20000 in
theorem m_X5_50 : MF RX5 50 0 yX5_spell 8 := ⟨Or.inl (List.mem_of_getElem? (i := 872) (by decide +kernel)), (List.mem_of_getElem? (i := 63) (by decide +kernel)), ⟨by decide +kernel, by decide +kernel⟩, by decide +kernel, fun _ => ⟨(List.mem_of_getElem? (i := 874) (by decide +kernel)), (List.mem_of_getElem? (i := 39) (by decide +kernel))⟩, fun h => by omega, fun h => by omega⟩
set_option maxRecDepth 20000 in
theorem k_X5_spell : Cond.code yX5_spell cX5_spell 9 none ∈ GT := (List.mem_of_getElem? (i := 875) (by decide +kernel))
section
variable {l : Launch} {D : va_G} {cy : Nat → ClassId} {n0 : Nat} {ad : Nat → Nat} {b : Nat → Nat} {E : va_W} {ws : va_W}
set_option maxHeartbeats 4000000 in
set_option maxRecDepth 100000 in
theorem c_X5_spell {ν : Nat → Int → Int} {w : Nat} {x0 x1 x2 x3 x4 x5 x6 : Int} (hfl : l.stackTraces = false) (hw : w < 24) : CT l D cy n0 ad yX5_spell (.code yX5_spell cX5_spell 9 none) ({ frames := 0, cells := 0, slots := 0, locals := 0 }) [.ref (b 0), .int (zI (w : Int)), .int (zI x0), .int (zI x1), .int (zI x2), .int (zI x3), .int (zI x4), .int (zI x5), .int (zI x6)] (gw 14 MSh cy b ν ++ E) (fun vv uu => ∃ μ', vv = none ∧ uu = (gw 14 MSh cy b μ' ++ E) ∧ (μ' = spl ν w [x0, x1, x2, x3, x4, x5, x6])) := by
  refine CT.walk hfl (by decide) (Nat.le_of_ble_eq_true rfl) ?_
  intro A J hJ
  show J (gw 14 MSh cy b ν ++ E) 0 0 0 [(0, .ref (b 0)), (1, .int (zI (w : Int))), (2, .int (zI x0)), (3, .int (zI x1)), (4, .int (zI x2)), (5, .int (zI x3)), (6, .int (zI x4)), (7, .int (zI x5)), (8, .int (zI x6))] []
  refine j_aload_n hJ (j := 0) rfl rfl dX5_spell_0 ?_
  refine w_getr hJ (by omega) rfl rfl f_X5_7 dX5_spell_1 ?_
  refine j_bipush hJ (v := 8) (by decide) dX5_spell_4 ?_
  refine j_iload_n hJ (j := 1) rfl rfl dX5_spell_6 ?_
  refine j_imul hJ dX5_spell_7 ?_
  refine j_iload_n hJ (j := 2) rfl rfl dX5_spell_8 ?_
  refine w_iast hJ (by omega) rfl (by first | decide | omega) (by omega) (by omega) dX5_spell_9 ?_
  intro ν1 hν1
  refine j_aload_n hJ (j := 0) rfl rfl dX5_spell_10 ?_
  refine w_getr hJ (by omega) rfl rfl f_X5_7 dX5_spell_11 ?_
  refine j_bipush hJ (v := 8) (by decide) dX5_spell_14 ?_
  refine j_iload_n hJ (j := 1) rfl rfl dX5_spell_16 ?_
  refine j_imul hJ dX5_spell_17 ?_
  refine j_iconst hJ dX5_spell_18 ?_
  refine j_iadd hJ dX5_spell_19 ?_
  refine j_iload_n hJ (j := 3) rfl rfl dX5_spell_20 ?_
  refine w_iast hJ (by omega) rfl (by first | decide | omega) (by omega) (by omega) dX5_spell_21 ?_
  intro ν2 hν2
  refine j_aload_n hJ (j := 0) rfl rfl dX5_spell_22 ?_
  refine w_getr hJ (by omega) rfl rfl f_X5_7 dX5_spell_23 ?_
  refine j_bipush hJ (v := 8) (by decide) dX5_spell_26 ?_
  refine j_iload_n hJ (j := 1) rfl rfl dX5_spell_28 ?_
  refine j_imul hJ dX5_spell_29 ?_
  refine j_iconst hJ dX5_spell_30 ?_
  refine j_iadd hJ dX5_spell_31 ?_
  refine j_iload hJ (j := 4) rfl dX5_spell_32 ?_
  refine w_iast hJ (by omega) rfl (by first | decide | omega) (by omega) (by omega) dX5_spell_34 ?_
  intro ν3 hν3
  refine j_aload_n hJ (j := 0) rfl rfl dX5_spell_35 ?_
  refine w_getr hJ (by omega) rfl rfl f_X5_7 dX5_spell_36 ?_
  refine j_bipush hJ (v := 8) (by decide) dX5_spell_39 ?_
  refine j_iload_n hJ (j := 1) rfl rfl dX5_spell_41 ?_
  refine j_imul hJ dX5_spell_42 ?_
  refine j_iconst hJ dX5_spell_43 ?_
  refine j_iadd hJ dX5_spell_44 ?_
  refine j_iload hJ (j := 5) rfl dX5_spell_45 ?_
  refine w_iast hJ (by omega) rfl (by first | decide | omega) (by omega) (by omega) dX5_spell_47 ?_
  intro ν4 hν4
  refine j_aload_n hJ (j := 0) rfl rfl dX5_spell_48 ?_
  refine w_getr hJ (by omega) rfl rfl f_X5_7 dX5_spell_49 ?_
  refine j_bipush hJ (v := 8) (by decide) dX5_spell_52 ?_
  refine j_iload_n hJ (j := 1) rfl rfl dX5_spell_54 ?_
  refine j_imul hJ dX5_spell_55 ?_
  refine j_iconst hJ dX5_spell_56 ?_
  refine j_iadd hJ dX5_spell_57 ?_
  refine j_iload hJ (j := 6) rfl dX5_spell_58 ?_
  refine w_iast hJ (by omega) rfl (by first | decide | omega) (by omega) (by omega) dX5_spell_60 ?_
  intro ν5 hν5
  refine j_aload_n hJ (j := 0) rfl rfl dX5_spell_61 ?_
  refine w_getr hJ (by omega) rfl rfl f_X5_7 dX5_spell_62 ?_
  refine j_bipush hJ (v := 8) (by decide) dX5_spell_65 ?_
  refine j_iload_n hJ (j := 1) rfl rfl dX5_spell_67 ?_
  refine j_imul hJ dX5_spell_68 ?_
  refine j_iconst hJ dX5_spell_69 ?_
  refine j_iadd hJ dX5_spell_70 ?_
  refine j_iload hJ (j := 7) rfl dX5_spell_71 ?_
  refine w_iast hJ (by omega) rfl (by first | decide | omega) (by omega) (by omega) dX5_spell_73 ?_
  intro ν6 hν6
  refine j_aload_n hJ (j := 0) rfl rfl dX5_spell_74 ?_
  refine w_getr hJ (by omega) rfl rfl f_X5_7 dX5_spell_75 ?_
  refine j_bipush hJ (v := 8) (by decide) dX5_spell_78 ?_
  refine j_iload_n hJ (j := 1) rfl rfl dX5_spell_80 ?_
  refine j_imul hJ dX5_spell_81 ?_
  refine j_bipush hJ (v := 6) (by decide) dX5_spell_82 ?_
  refine j_iadd hJ dX5_spell_84 ?_
  refine j_iload hJ (j := 8) rfl dX5_spell_85 ?_
  refine w_iast hJ (by omega) rfl (by first | decide | omega) (by omega) (by omega) dX5_spell_87 ?_
  intro ν7 hν7
  refine j_vret hJ rfl rfl (Nat.le_of_ble_eq_true rfl) (Nat.le_of_ble_eq_true rfl) dX5_spell_88 ⟨ν7, rfl, rfl, ?_⟩
  funext r c
  rw [hν7, hν6, hν5, hν4, hν3, hν2, hν1]
  unfold spl up
  by_cases hr : r = 1 ∧ 8 * (w : Int) ≤ c ∧ c < 8 * (w : Int) + 7
  · rw [if_pos hr]
    obtain ⟨rfl, g1, g2⟩ := hr
    rcases (show c = 8 * (w : Int) + 0 ∨ c = 8 * (w : Int) + 1 ∨ c = 8 * (w : Int) + 2 ∨ c = 8 * (w : Int) + 3 ∨ c = 8 * (w : Int) + 4 ∨ c = 8 * (w : Int) + 5 ∨ c = 8 * (w : Int) + 6 by omega) with rfl | rfl | rfl | rfl | rfl | rfl | rfl
    · rw [if_neg (by omega), if_neg (by omega), if_neg (by omega), if_neg (by omega), if_neg (by omega), if_neg (by omega), if_pos (by omega), show (8 * (w : Int) + 0 - 8 * (w : Int)).toNat = 0 by omega]; rfl
    · rw [if_neg (by omega), if_neg (by omega), if_neg (by omega), if_neg (by omega), if_neg (by omega), if_pos (by omega), show (8 * (w : Int) + 1 - 8 * (w : Int)).toNat = 1 by omega]; rfl
    · rw [if_neg (by omega), if_neg (by omega), if_neg (by omega), if_neg (by omega), if_pos (by omega), show (8 * (w : Int) + 2 - 8 * (w : Int)).toNat = 2 by omega]; rfl
    · rw [if_neg (by omega), if_neg (by omega), if_neg (by omega), if_pos (by omega), show (8 * (w : Int) + 3 - 8 * (w : Int)).toNat = 3 by omega]; rfl
    · rw [if_neg (by omega), if_neg (by omega), if_pos (by omega), show (8 * (w : Int) + 4 - 8 * (w : Int)).toNat = 4 by omega]; rfl
    · rw [if_neg (by omega), if_pos (by omega), show (8 * (w : Int) + 5 - 8 * (w : Int)).toNat = 5 by omega]; rfl
    · rw [if_pos (by omega), show (8 * (w : Int) + 6 - 8 * (w : Int)).toNat = 6 by omega]; rfl
  · rw [if_neg hr, if_neg (by omega), if_neg (by omega), if_neg (by omega), if_neg (by omega), if_neg (by omega), if_neg (by omega), if_neg (by omega)]
set_option maxHeartbeats 4000000 in
set_option maxRecDepth 100000 in
theorem c_X5_init {a : Nat} (hfl : l.stackTraces = false) : CT l D cy n0 ad yX5_init (.code yX5_init cX5_init 2 none) ({ frames := 1, cells := 13, slots := 1684, locals := 28 }) [.ref a] ([(a, .inr (5, [.null, .null, .null, .null, .null, .null, .null, .int (zI 0), .null, .int (zI 0), .null, .null, .null, .null, .int (zI 0), .null, .int (zI 0)]))] ++ E) (fun vv uu => ∃ (b : Nat → Nat) (μ' : Nat → Int → Int), vv = none ∧ b 0 = a ∧ uu = gw 14 MSh cy b μ' ++ E ∧ MI μ' kd0 0 (fun _ => []) (fun _ => 0) (fun _ => 0) (fun _ _ => 0)) := by
  refine CT.walkI hfl (by decide) rfl (Nat.le_of_ble_eq_true rfl) ?_
  intro A J hJI
  have hJ := hJI.cx
  show J ([(a, .inr (5, [.null, .null, .null, .null, .null, .null, .null, .int (zI 0), .null, .int (zI 0), .null, .null, .null, .null, .int (zI 0), .null, .int (zI 0)]))] ++ E) 0 0 0 [(0, .ref a)] []
  refine j_aload_n hJ (j := 0) rfl rfl dX5_init_0 ?_
  refine j_objInit hJ (List.mem_of_getElem? (i := 871) (by decide +kernel)) (Nat.le_of_ble_eq_true rfl) (Nat.le_of_ble_eq_true rfl) dX5_init_1 ?_
  refine j_aload_n hJ (j := 0) rfl rfl dX5_init_4 ?_
  refine j_sipush hJ (v := 192) (by decide) dX5_init_5 ?_
  refine j_newa hJ (ty := .int) (t := 0) (N' := 192) rfl (fun _ => rfl) arr_i rfl (by decide) (by decide) (fun _ => rfl) (Nat.le_of_ble_eq_true rfl) (Nat.le_of_ble_eq_true rfl) dX5_init_8 (fun q1 => ?_)
  refine j_perm hJ (perm_add _ _ _) ?_
  show J ([(a, .inr (5, [.null, .null, .null, .null, .null, .null, .null, .int (zI 0), .null, .int (zI 0), .null, .null, .null, .null, .int (zI 0), .null, .int (zI 0)])), (q1, .inl (cy 0, 192, .inl (fun _ => zI 0)))] ++ E) 1 192 10 [(0, .ref a)] [.ref q1, .ref a]
  refine j_putF tyX5 hJI (q0 := 0) (a := a) (ci := 5) (k := 0) (v := .ref q1) rfl rfl (by decide) lays_X5 tyX5_ok rfl nmX5 (List.mem_of_getElem? (i := 876) (by decide +kernel)) rfl rfl rfl (by simp) dX5_init_10 ?_
  show J ([(a, .inr (5, [.ref q1, .null, .null, .null, .null, .null, .null, .int (zI 0), .null, .int (zI 0), .null, .null, .null, .null, .int (zI 0), .null, .int (zI 0)])), (q1, .inl (cy 0, 192, .inl (fun _ => zI 0)))] ++ E) 1 192 13 [(0, .ref a)] []
  refine j_aload_n hJ (j := 0) rfl rfl dX5_init_13 ?_
  refine j_bipush hJ (v := 24) (by decide) dX5_init_14 ?_
  refine j_newa hJ (ty := .int) (t := 0) (N' := 24) rfl (fun _ => rfl) arr_i rfl (by decide) (by decide) (fun _ => rfl) (Nat.le_of_ble_eq_true rfl) (Nat.le_of_ble_eq_true rfl) dX5_init_16 (fun q2 => ?_)
  refine j_perm hJ (perm_add _ _ _) ?_
  show J ([(a, .inr (5, [.ref q1, .null, .null, .null, .null, .null, .null, .int (zI 0), .null, .int (zI 0), .null, .null, .null, .null, .int (zI 0), .null, .int (zI 0)])), (q1, .inl (cy 0, 192, .inl (fun _ => zI 0))), (q2, .inl (cy 0, 24, .inl (fun _ => zI 0)))] ++ E) 2 216 18 [(0, .ref a)] [.ref q2, .ref a]
  refine j_putF tyX5 hJI (q0 := 0) (a := a) (ci := 5) (k := 1) (v := .ref q2) rfl rfl (by decide) lays_X5 tyX5_ok rfl nmX5 (List.mem_of_getElem? (i := 877) (by decide +kernel)) rfl rfl rfl (by simp) dX5_init_18 ?_
  show J ([(a, .inr (5, [.ref q1, .ref q2, .null, .null, .null, .null, .null, .int (zI 0), .null, .int (zI 0), .null, .null, .null, .null, .int (zI 0), .null, .int (zI 0)])), (q1, .inl (cy 0, 192, .inl (fun _ => zI 0))), (q2, .inl (cy 0, 24, .inl (fun _ => zI 0)))] ++ E) 2 216 21 [(0, .ref a)] []
  refine j_aload_n hJ (j := 0) rfl rfl dX5_init_21 ?_
  refine j_bipush hJ (v := 64) (by decide) dX5_init_22 ?_
  refine j_newa hJ (ty := .int) (t := 0) (N' := 64) rfl (fun _ => rfl) arr_i rfl (by decide) (by decide) (fun _ => rfl) (Nat.le_of_ble_eq_true rfl) (Nat.le_of_ble_eq_true rfl) dX5_init_24 (fun q3 => ?_)
  refine j_perm hJ (perm_add _ _ _) ?_
  show J ([(a, .inr (5, [.ref q1, .ref q2, .null, .null, .null, .null, .null, .int (zI 0), .null, .int (zI 0), .null, .null, .null, .null, .int (zI 0), .null, .int (zI 0)])), (q1, .inl (cy 0, 192, .inl (fun _ => zI 0))), (q2, .inl (cy 0, 24, .inl (fun _ => zI 0))), (q3, .inl (cy 0, 64, .inl (fun _ => zI 0)))] ++ E) 3 280 26 [(0, .ref a)] [.ref q3, .ref a]
  refine j_putF tyX5 hJI (q0 := 0) (a := a) (ci := 5) (k := 2) (v := .ref q3) rfl rfl (by decide) lays_X5 tyX5_ok rfl nmX5 (List.mem_of_getElem? (i := 878) (by decide +kernel)) rfl rfl rfl (by simp) dX5_init_26 ?_
  show J ([(a, .inr (5, [.ref q1, .ref q2, .ref q3, .null, .null, .null, .null, .int (zI 0), .null, .int (zI 0), .null, .null, .null, .null, .int (zI 0), .null, .int (zI 0)])), (q1, .inl (cy 0, 192, .inl (fun _ => zI 0))), (q2, .inl (cy 0, 24, .inl (fun _ => zI 0))), (q3, .inl (cy 0, 64, .inl (fun _ => zI 0)))] ++ E) 3 280 29 [(0, .ref a)] []
  refine j_aload_n hJ (j := 0) rfl rfl dX5_init_29 ?_
  refine j_bipush hJ (v := 16) (by decide) dX5_init_30 ?_
  refine j_newa hJ (ty := .int) (t := 0) (N' := 16) rfl (fun _ => rfl) arr_i rfl (by decide) (by decide) (fun _ => rfl) (Nat.le_of_ble_eq_true rfl) (Nat.le_of_ble_eq_true rfl) dX5_init_32 (fun q4 => ?_)
  refine j_perm hJ (perm_add _ _ _) ?_
  show J ([(a, .inr (5, [.ref q1, .ref q2, .ref q3, .null, .null, .null, .null, .int (zI 0), .null, .int (zI 0), .null, .null, .null, .null, .int (zI 0), .null, .int (zI 0)])), (q1, .inl (cy 0, 192, .inl (fun _ => zI 0))), (q2, .inl (cy 0, 24, .inl (fun _ => zI 0))), (q3, .inl (cy 0, 64, .inl (fun _ => zI 0))), (q4, .inl (cy 0, 16, .inl (fun _ => zI 0)))] ++ E) 4 296 34 [(0, .ref a)] [.ref q4, .ref a]
  refine j_putF tyX5 hJI (q0 := 0) (a := a) (ci := 5) (k := 3) (v := .ref q4) rfl rfl (by decide) lays_X5 tyX5_ok rfl nmX5 (List.mem_of_getElem? (i := 879) (by decide +kernel)) rfl rfl rfl (by simp) dX5_init_34 ?_
  show J ([(a, .inr (5, [.ref q1, .ref q2, .ref q3, .ref q4, .null, .null, .null, .int (zI 0), .null, .int (zI 0), .null, .null, .null, .null, .int (zI 0), .null, .int (zI 0)])), (q1, .inl (cy 0, 192, .inl (fun _ => zI 0))), (q2, .inl (cy 0, 24, .inl (fun _ => zI 0))), (q3, .inl (cy 0, 64, .inl (fun _ => zI 0))), (q4, .inl (cy 0, 16, .inl (fun _ => zI 0)))] ++ E) 4 296 37 [(0, .ref a)] []
  refine j_aload_n hJ (j := 0) rfl rfl dX5_init_37 ?_
  refine j_sipush hJ (v := 160) (by decide) dX5_init_38 ?_
  refine j_newa hJ (ty := .int) (t := 0) (N' := 160) rfl (fun _ => rfl) arr_i rfl (by decide) (by decide) (fun _ => rfl) (Nat.le_of_ble_eq_true rfl) (Nat.le_of_ble_eq_true rfl) dX5_init_41 (fun q5 => ?_)
  refine j_perm hJ (perm_add _ _ _) ?_
  show J ([(a, .inr (5, [.ref q1, .ref q2, .ref q3, .ref q4, .null, .null, .null, .int (zI 0), .null, .int (zI 0), .null, .null, .null, .null, .int (zI 0), .null, .int (zI 0)])), (q1, .inl (cy 0, 192, .inl (fun _ => zI 0))), (q2, .inl (cy 0, 24, .inl (fun _ => zI 0))), (q3, .inl (cy 0, 64, .inl (fun _ => zI 0))), (q4, .inl (cy 0, 16, .inl (fun _ => zI 0))), (q5, .inl (cy 0, 160, .inl (fun _ => zI 0)))] ++ E) 5 456 43 [(0, .ref a)] [.ref q5, .ref a]
  refine j_putF tyX5 hJI (q0 := 0) (a := a) (ci := 5) (k := 4) (v := .ref q5) rfl rfl (by decide) lays_X5 tyX5_ok rfl nmX5 (List.mem_of_getElem? (i := 880) (by decide +kernel)) rfl rfl rfl (by simp) dX5_init_43 ?_
  show J ([(a, .inr (5, [.ref q1, .ref q2, .ref q3, .ref q4, .ref q5, .null, .null, .int (zI 0), .null, .int (zI 0), .null, .null, .null, .null, .int (zI 0), .null, .int (zI 0)])), (q1, .inl (cy 0, 192, .inl (fun _ => zI 0))), (q2, .inl (cy 0, 24, .inl (fun _ => zI 0))), (q3, .inl (cy 0, 64, .inl (fun _ => zI 0))), (q4, .inl (cy 0, 16, .inl (fun _ => zI 0))), (q5, .inl (cy 0, 160, .inl (fun _ => zI 0)))] ++ E) 5 456 46 [(0, .ref a)] []
  refine j_aload_n hJ (j := 0) rfl rfl dX5_init_46 ?_
  refine j_bipush hJ (v := 16) (by decide) dX5_init_47 ?_
  refine j_newa hJ (ty := .int) (t := 0) (N' := 16) rfl (fun _ => rfl) arr_i rfl (by decide) (by decide) (fun _ => rfl) (Nat.le_of_ble_eq_true rfl) (Nat.le_of_ble_eq_true rfl) dX5_init_49 (fun q6 => ?_)
  refine j_perm hJ (perm_add _ _ _) ?_
  show J ([(a, .inr (5, [.ref q1, .ref q2, .ref q3, .ref q4, .ref q5, .null, .null, .int (zI 0), .null, .int (zI 0), .null, .null, .null, .null, .int (zI 0), .null, .int (zI 0)])), (q1, .inl (cy 0, 192, .inl (fun _ => zI 0))), (q2, .inl (cy 0, 24, .inl (fun _ => zI 0))), (q3, .inl (cy 0, 64, .inl (fun _ => zI 0))), (q4, .inl (cy 0, 16, .inl (fun _ => zI 0))), (q5, .inl (cy 0, 160, .inl (fun _ => zI 0))), (q6, .inl (cy 0, 16, .inl (fun _ => zI 0)))] ++ E) 6 472 51 [(0, .ref a)] [.ref q6, .ref a]
  refine j_putF tyX5 hJI (q0 := 0) (a := a) (ci := 5) (k := 5) (v := .ref q6) rfl rfl (by decide) lays_X5 tyX5_ok rfl nmX5 (List.mem_of_getElem? (i := 881) (by decide +kernel)) rfl rfl rfl (by simp) dX5_init_51 ?_
  show J ([(a, .inr (5, [.ref q1, .ref q2, .ref q3, .ref q4, .ref q5, .ref q6, .null, .int (zI 0), .null, .int (zI 0), .null, .null, .null, .null, .int (zI 0), .null, .int (zI 0)])), (q1, .inl (cy 0, 192, .inl (fun _ => zI 0))), (q2, .inl (cy 0, 24, .inl (fun _ => zI 0))), (q3, .inl (cy 0, 64, .inl (fun _ => zI 0))), (q4, .inl (cy 0, 16, .inl (fun _ => zI 0))), (q5, .inl (cy 0, 160, .inl (fun _ => zI 0))), (q6, .inl (cy 0, 16, .inl (fun _ => zI 0)))] ++ E) 6 472 54 [(0, .ref a)] []
  refine j_aload_n hJ (j := 0) rfl rfl dX5_init_54 ?_
  refine j_bipush hJ (v := 16) (by decide) dX5_init_55 ?_
  refine j_newa hJ (ty := .boolean) (t := 1) (N' := 16) rfl (fun _ => rfl) arr_z rfl (by decide) (by decide) (fun _ => rfl) (Nat.le_of_ble_eq_true rfl) (Nat.le_of_ble_eq_true rfl) dX5_init_57 (fun q7 => ?_)
  refine j_perm hJ (perm_add _ _ _) ?_
  show J ([(a, .inr (5, [.ref q1, .ref q2, .ref q3, .ref q4, .ref q5, .ref q6, .null, .int (zI 0), .null, .int (zI 0), .null, .null, .null, .null, .int (zI 0), .null, .int (zI 0)])), (q1, .inl (cy 0, 192, .inl (fun _ => zI 0))), (q2, .inl (cy 0, 24, .inl (fun _ => zI 0))), (q3, .inl (cy 0, 64, .inl (fun _ => zI 0))), (q4, .inl (cy 0, 16, .inl (fun _ => zI 0))), (q5, .inl (cy 0, 160, .inl (fun _ => zI 0))), (q6, .inl (cy 0, 16, .inl (fun _ => zI 0))), (q7, .inl (cy 1, 16, .inl (fun _ => zI 0)))] ++ E) 7 488 59 [(0, .ref a)] [.ref q7, .ref a]
  refine j_putF tyX5 hJI (q0 := 0) (a := a) (ci := 5) (k := 6) (v := .ref q7) rfl rfl (by decide) lays_X5 tyX5_ok rfl nmX5 (List.mem_of_getElem? (i := 882) (by decide +kernel)) rfl rfl rfl (by simp) dX5_init_59 ?_
  show J ([(a, .inr (5, [.ref q1, .ref q2, .ref q3, .ref q4, .ref q5, .ref q6, .ref q7, .int (zI 0), .null, .int (zI 0), .null, .null, .null, .null, .int (zI 0), .null, .int (zI 0)])), (q1, .inl (cy 0, 192, .inl (fun _ => zI 0))), (q2, .inl (cy 0, 24, .inl (fun _ => zI 0))), (q3, .inl (cy 0, 64, .inl (fun _ => zI 0))), (q4, .inl (cy 0, 16, .inl (fun _ => zI 0))), (q5, .inl (cy 0, 160, .inl (fun _ => zI 0))), (q6, .inl (cy 0, 16, .inl (fun _ => zI 0))), (q7, .inl (cy 1, 16, .inl (fun _ => zI 0)))] ++ E) 7 488 62 [(0, .ref a)] []
  refine j_aload_n hJ (j := 0) rfl rfl dX5_init_62 ?_
  refine j_bipush hJ (v := 100) (by decide) dX5_init_63 ?_
  refine j_newa hJ (ty := .int) (t := 0) (N' := 100) rfl (fun _ => rfl) arr_i rfl (by decide) (by decide) (fun _ => rfl) (Nat.le_of_ble_eq_true rfl) (Nat.le_of_ble_eq_true rfl) dX5_init_65 (fun q8 => ?_)
  refine j_perm hJ (perm_add _ _ _) ?_
  show J ([(a, .inr (5, [.ref q1, .ref q2, .ref q3, .ref q4, .ref q5, .ref q6, .ref q7, .int (zI 0), .null, .int (zI 0), .null, .null, .null, .null, .int (zI 0), .null, .int (zI 0)])), (q1, .inl (cy 0, 192, .inl (fun _ => zI 0))), (q2, .inl (cy 0, 24, .inl (fun _ => zI 0))), (q3, .inl (cy 0, 64, .inl (fun _ => zI 0))), (q4, .inl (cy 0, 16, .inl (fun _ => zI 0))), (q5, .inl (cy 0, 160, .inl (fun _ => zI 0))), (q6, .inl (cy 0, 16, .inl (fun _ => zI 0))), (q7, .inl (cy 1, 16, .inl (fun _ => zI 0))), (q8, .inl (cy 0, 100, .inl (fun _ => zI 0)))] ++ E) 8 588 67 [(0, .ref a)] [.ref q8, .ref a]
  refine j_putF tyX5 hJI (q0 := 0) (a := a) (ci := 5) (k := 8) (v := .ref q8) rfl rfl (by decide) lays_X5 tyX5_ok rfl nmX5 (List.mem_of_getElem? (i := 884) (by decide +kernel)) rfl rfl rfl (by simp) dX5_init_67 ?_
  show J ([(a, .inr (5, [.ref q1, .ref q2, .ref q3, .ref q4, .ref q5, .ref q6, .ref q7, .int (zI 0), .ref q8, .int (zI 0), .null, .null, .null, .null, .int (zI 0), .null, .int (zI 0)])), (q1, .inl (cy 0, 192, .inl (fun _ => zI 0))), (q2, .inl (cy 0, 24, .inl (fun _ => zI 0))), (q3, .inl (cy 0, 64, .inl (fun _ => zI 0))), (q4, .inl (cy 0, 16, .inl (fun _ => zI 0))), (q5, .inl (cy 0, 160, .inl (fun _ => zI 0))), (q6, .inl (cy 0, 16, .inl (fun _ => zI 0))), (q7, .inl (cy 1, 16, .inl (fun _ => zI 0))), (q8, .inl (cy 0, 100, .inl (fun _ => zI 0)))] ++ E) 8 588 70 [(0, .ref a)] []
  refine j_aload_n hJ (j := 0) rfl rfl dX5_init_70 ?_
  refine j_sipush hJ (v := 144) (by decide) dX5_init_71 ?_
  refine j_newa hJ (ty := .boolean) (t := 1) (N' := 144) rfl (fun _ => rfl) arr_z rfl (by decide) (by decide) (fun _ => rfl) (Nat.le_of_ble_eq_true rfl) (Nat.le_of_ble_eq_true rfl) dX5_init_74 (fun q9 => ?_)
  refine j_perm hJ (perm_add _ _ _) ?_
  show J ([(a, .inr (5, [.ref q1, .ref q2, .ref q3, .ref q4, .ref q5, .ref q6, .ref q7, .int (zI 0), .ref q8, .int (zI 0), .null, .null, .null, .null, .int (zI 0), .null, .int (zI 0)])), (q1, .inl (cy 0, 192, .inl (fun _ => zI 0))), (q2, .inl (cy 0, 24, .inl (fun _ => zI 0))), (q3, .inl (cy 0, 64, .inl (fun _ => zI 0))), (q4, .inl (cy 0, 16, .inl (fun _ => zI 0))), (q5, .inl (cy 0, 160, .inl (fun _ => zI 0))), (q6, .inl (cy 0, 16, .inl (fun _ => zI 0))), (q7, .inl (cy 1, 16, .inl (fun _ => zI 0))), (q8, .inl (cy 0, 100, .inl (fun _ => zI 0))), (q9, .inl (cy 1, 144, .inl (fun _ => zI 0)))] ++ E) 9 732 76 [(0, .ref a)] [.ref q9, .ref a]
  refine j_putF tyX5 hJI (q0 := 0) (a := a) (ci := 5) (k := 10) (v := .ref q9) rfl rfl (by decide) lays_X5 tyX5_ok rfl nmX5 (List.mem_of_getElem? (i := 886) (by decide +kernel)) rfl rfl rfl (by simp) dX5_init_76 ?_
  show J ([(a, .inr (5, [.ref q1, .ref q2, .ref q3, .ref q4, .ref q5, .ref q6, .ref q7, .int (zI 0), .ref q8, .int (zI 0), .ref q9, .null, .null, .null, .int (zI 0), .null, .int (zI 0)])), (q1, .inl (cy 0, 192, .inl (fun _ => zI 0))), (q2, .inl (cy 0, 24, .inl (fun _ => zI 0))), (q3, .inl (cy 0, 64, .inl (fun _ => zI 0))), (q4, .inl (cy 0, 16, .inl (fun _ => zI 0))), (q5, .inl (cy 0, 160, .inl (fun _ => zI 0))), (q6, .inl (cy 0, 16, .inl (fun _ => zI 0))), (q7, .inl (cy 1, 16, .inl (fun _ => zI 0))), (q8, .inl (cy 0, 100, .inl (fun _ => zI 0))), (q9, .inl (cy 1, 144, .inl (fun _ => zI 0)))] ++ E) 9 732 79 [(0, .ref a)] []
  refine j_aload_n hJ (j := 0) rfl rfl dX5_init_79 ?_
  refine j_iconst hJ dX5_init_80 ?_
  refine j_newa hJ (ty := .int) (t := 0) (N' := 4) rfl (fun _ => rfl) arr_i rfl (by decide) (by decide) (fun _ => rfl) (Nat.le_of_ble_eq_true rfl) (Nat.le_of_ble_eq_true rfl) dX5_init_81 (fun q10 => ?_)
  refine j_perm hJ (perm_add _ _ _) ?_
  show J ([(a, .inr (5, [.ref q1, .ref q2, .ref q3, .ref q4, .ref q5, .ref q6, .ref q7, .int (zI 0), .ref q8, .int (zI 0), .ref q9, .null, .null, .null, .int (zI 0), .null, .int (zI 0)])), (q1, .inl (cy 0, 192, .inl (fun _ => zI 0))), (q2, .inl (cy 0, 24, .inl (fun _ => zI 0))), (q3, .inl (cy 0, 64, .inl (fun _ => zI 0))), (q4, .inl (cy 0, 16, .inl (fun _ => zI 0))), (q5, .inl (cy 0, 160, .inl (fun _ => zI 0))), (q6, .inl (cy 0, 16, .inl (fun _ => zI 0))), (q7, .inl (cy 1, 16, .inl (fun _ => zI 0))), (q8, .inl (cy 0, 100, .inl (fun _ => zI 0))), (q9, .inl (cy 1, 144, .inl (fun _ => zI 0))), (q10, .inl (cy 0, 4, .inl (fun _ => zI 0)))] ++ E) 10 736 83 [(0, .ref a)] [.ref q10, .ref a]
  refine j_putF tyX5 hJI (q0 := 0) (a := a) (ci := 5) (k := 11) (v := .ref q10) rfl rfl (by decide) lays_X5 tyX5_ok rfl nmX5 (List.mem_of_getElem? (i := 887) (by decide +kernel)) rfl rfl rfl (by simp) dX5_init_83 ?_
  show J ([(a, .inr (5, [.ref q1, .ref q2, .ref q3, .ref q4, .ref q5, .ref q6, .ref q7, .int (zI 0), .ref q8, .int (zI 0), .ref q9, .ref q10, .null, .null, .int (zI 0), .null, .int (zI 0)])), (q1, .inl (cy 0, 192, .inl (fun _ => zI 0))), (q2, .inl (cy 0, 24, .inl (fun _ => zI 0))), (q3, .inl (cy 0, 64, .inl (fun _ => zI 0))), (q4, .inl (cy 0, 16, .inl (fun _ => zI 0))), (q5, .inl (cy 0, 160, .inl (fun _ => zI 0))), (q6, .inl (cy 0, 16, .inl (fun _ => zI 0))), (q7, .inl (cy 1, 16, .inl (fun _ => zI 0))), (q8, .inl (cy 0, 100, .inl (fun _ => zI 0))), (q9, .inl (cy 1, 144, .inl (fun _ => zI 0))), (q10, .inl (cy 0, 4, .inl (fun _ => zI 0)))] ++ E) 10 736 86 [(0, .ref a)] []
  refine j_aload_n hJ (j := 0) rfl rfl dX5_init_86 ?_
  refine j_iconst hJ dX5_init_87 ?_
  refine j_newa hJ (ty := .int) (t := 0) (N' := 4) rfl (fun _ => rfl) arr_i rfl (by decide) (by decide) (fun _ => rfl) (Nat.le_of_ble_eq_true rfl) (Nat.le_of_ble_eq_true rfl) dX5_init_88 (fun q11 => ?_)
  refine j_perm hJ (perm_add _ _ _) ?_
  show J ([(a, .inr (5, [.ref q1, .ref q2, .ref q3, .ref q4, .ref q5, .ref q6, .ref q7, .int (zI 0), .ref q8, .int (zI 0), .ref q9, .ref q10, .null, .null, .int (zI 0), .null, .int (zI 0)])), (q1, .inl (cy 0, 192, .inl (fun _ => zI 0))), (q2, .inl (cy 0, 24, .inl (fun _ => zI 0))), (q3, .inl (cy 0, 64, .inl (fun _ => zI 0))), (q4, .inl (cy 0, 16, .inl (fun _ => zI 0))), (q5, .inl (cy 0, 160, .inl (fun _ => zI 0))), (q6, .inl (cy 0, 16, .inl (fun _ => zI 0))), (q7, .inl (cy 1, 16, .inl (fun _ => zI 0))), (q8, .inl (cy 0, 100, .inl (fun _ => zI 0))), (q9, .inl (cy 1, 144, .inl (fun _ => zI 0))), (q10, .inl (cy 0, 4, .inl (fun _ => zI 0))), (q11, .inl (cy 0, 4, .inl (fun _ => zI 0)))] ++ E) 11 740 90 [(0, .ref a)] [.ref q11, .ref a]
  refine j_putF tyX5 hJI (q0 := 0) (a := a) (ci := 5) (k := 12) (v := .ref q11) rfl rfl (by decide) lays_X5 tyX5_ok rfl nmX5 (List.mem_of_getElem? (i := 888) (by decide +kernel)) rfl rfl rfl (by simp) dX5_init_90 ?_
  show J ([(a, .inr (5, [.ref q1, .ref q2, .ref q3, .ref q4, .ref q5, .ref q6, .ref q7, .int (zI 0), .ref q8, .int (zI 0), .ref q9, .ref q10, .ref q11, .null, .int (zI 0), .null, .int (zI 0)])), (q1, .inl (cy 0, 192, .inl (fun _ => zI 0))), (q2, .inl (cy 0, 24, .inl (fun _ => zI 0))), (q3, .inl (cy 0, 64, .inl (fun _ => zI 0))), (q4, .inl (cy 0, 16, .inl (fun _ => zI 0))), (q5, .inl (cy 0, 160, .inl (fun _ => zI 0))), (q6, .inl (cy 0, 16, .inl (fun _ => zI 0))), (q7, .inl (cy 1, 16, .inl (fun _ => zI 0))), (q8, .inl (cy 0, 100, .inl (fun _ => zI 0))), (q9, .inl (cy 1, 144, .inl (fun _ => zI 0))), (q10, .inl (cy 0, 4, .inl (fun _ => zI 0))), (q11, .inl (cy 0, 4, .inl (fun _ => zI 0)))] ++ E) 11 740 93 [(0, .ref a)] []
  refine j_aload_n hJ (j := 0) rfl rfl dX5_init_93 ?_
  refine j_sipush hJ (v := 800) (by decide) dX5_init_94 ?_
  refine j_newa hJ (ty := .int) (t := 0) (N' := 800) rfl (fun _ => rfl) arr_i rfl (by decide) (by decide) (fun _ => rfl) (Nat.le_of_ble_eq_true rfl) (Nat.le_of_ble_eq_true rfl) dX5_init_97 (fun q12 => ?_)
  refine j_perm hJ (perm_add _ _ _) ?_
  show J ([(a, .inr (5, [.ref q1, .ref q2, .ref q3, .ref q4, .ref q5, .ref q6, .ref q7, .int (zI 0), .ref q8, .int (zI 0), .ref q9, .ref q10, .ref q11, .null, .int (zI 0), .null, .int (zI 0)])), (q1, .inl (cy 0, 192, .inl (fun _ => zI 0))), (q2, .inl (cy 0, 24, .inl (fun _ => zI 0))), (q3, .inl (cy 0, 64, .inl (fun _ => zI 0))), (q4, .inl (cy 0, 16, .inl (fun _ => zI 0))), (q5, .inl (cy 0, 160, .inl (fun _ => zI 0))), (q6, .inl (cy 0, 16, .inl (fun _ => zI 0))), (q7, .inl (cy 1, 16, .inl (fun _ => zI 0))), (q8, .inl (cy 0, 100, .inl (fun _ => zI 0))), (q9, .inl (cy 1, 144, .inl (fun _ => zI 0))), (q10, .inl (cy 0, 4, .inl (fun _ => zI 0))), (q11, .inl (cy 0, 4, .inl (fun _ => zI 0))), (q12, .inl (cy 0, 800, .inl (fun _ => zI 0)))] ++ E) 12 1540 99 [(0, .ref a)] [.ref q12, .ref a]
  refine j_putF tyX5 hJI (q0 := 0) (a := a) (ci := 5) (k := 13) (v := .ref q12) rfl rfl (by decide) lays_X5 tyX5_ok rfl nmX5 (List.mem_of_getElem? (i := 889) (by decide +kernel)) rfl rfl rfl (by simp) dX5_init_99 ?_
  show J ([(a, .inr (5, [.ref q1, .ref q2, .ref q3, .ref q4, .ref q5, .ref q6, .ref q7, .int (zI 0), .ref q8, .int (zI 0), .ref q9, .ref q10, .ref q11, .ref q12, .int (zI 0), .null, .int (zI 0)])), (q1, .inl (cy 0, 192, .inl (fun _ => zI 0))), (q2, .inl (cy 0, 24, .inl (fun _ => zI 0))), (q3, .inl (cy 0, 64, .inl (fun _ => zI 0))), (q4, .inl (cy 0, 16, .inl (fun _ => zI 0))), (q5, .inl (cy 0, 160, .inl (fun _ => zI 0))), (q6, .inl (cy 0, 16, .inl (fun _ => zI 0))), (q7, .inl (cy 1, 16, .inl (fun _ => zI 0))), (q8, .inl (cy 0, 100, .inl (fun _ => zI 0))), (q9, .inl (cy 1, 144, .inl (fun _ => zI 0))), (q10, .inl (cy 0, 4, .inl (fun _ => zI 0))), (q11, .inl (cy 0, 4, .inl (fun _ => zI 0))), (q12, .inl (cy 0, 800, .inl (fun _ => zI 0)))] ++ E) 12 1540 102 [(0, .ref a)] []
  refine j_aload_n hJ (j := 0) rfl rfl dX5_init_102 ?_
  refine j_sipush hJ (v := 144) (by decide) dX5_init_103 ?_
  refine j_newa hJ (ty := .int) (t := 0) (N' := 144) rfl (fun _ => rfl) arr_i rfl (by decide) (by decide) (fun _ => rfl) (Nat.le_of_ble_eq_true rfl) (Nat.le_of_ble_eq_true rfl) dX5_init_106 (fun q13 => ?_)
  refine j_perm hJ (perm_add _ _ _) ?_
  show J ([(a, .inr (5, [.ref q1, .ref q2, .ref q3, .ref q4, .ref q5, .ref q6, .ref q7, .int (zI 0), .ref q8, .int (zI 0), .ref q9, .ref q10, .ref q11, .ref q12, .int (zI 0), .null, .int (zI 0)])), (q1, .inl (cy 0, 192, .inl (fun _ => zI 0))), (q2, .inl (cy 0, 24, .inl (fun _ => zI 0))), (q3, .inl (cy 0, 64, .inl (fun _ => zI 0))), (q4, .inl (cy 0, 16, .inl (fun _ => zI 0))), (q5, .inl (cy 0, 160, .inl (fun _ => zI 0))), (q6, .inl (cy 0, 16, .inl (fun _ => zI 0))), (q7, .inl (cy 1, 16, .inl (fun _ => zI 0))), (q8, .inl (cy 0, 100, .inl (fun _ => zI 0))), (q9, .inl (cy 1, 144, .inl (fun _ => zI 0))), (q10, .inl (cy 0, 4, .inl (fun _ => zI 0))), (q11, .inl (cy 0, 4, .inl (fun _ => zI 0))), (q12, .inl (cy 0, 800, .inl (fun _ => zI 0))), (q13, .inl (cy 0, 144, .inl (fun _ => zI 0)))] ++ E) 13 1684 108 [(0, .ref a)] [.ref q13, .ref a]
  refine j_putF tyX5 hJI (q0 := 0) (a := a) (ci := 5) (k := 15) (v := .ref q13) rfl rfl (by decide) lays_X5 tyX5_ok rfl nmX5 (List.mem_of_getElem? (i := 891) (by decide +kernel)) rfl rfl rfl (by simp) dX5_init_108 ?_
  show J ([(a, .inr (5, [.ref q1, .ref q2, .ref q3, .ref q4, .ref q5, .ref q6, .ref q7, .int (zI 0), .ref q8, .int (zI 0), .ref q9, .ref q10, .ref q11, .ref q12, .int (zI 0), .ref q13, .int (zI 0)])), (q1, .inl (cy 0, 192, .inl (fun _ => zI 0))), (q2, .inl (cy 0, 24, .inl (fun _ => zI 0))), (q3, .inl (cy 0, 64, .inl (fun _ => zI 0))), (q4, .inl (cy 0, 16, .inl (fun _ => zI 0))), (q5, .inl (cy 0, 160, .inl (fun _ => zI 0))), (q6, .inl (cy 0, 16, .inl (fun _ => zI 0))), (q7, .inl (cy 1, 16, .inl (fun _ => zI 0))), (q8, .inl (cy 0, 100, .inl (fun _ => zI 0))), (q9, .inl (cy 1, 144, .inl (fun _ => zI 0))), (q10, .inl (cy 0, 4, .inl (fun _ => zI 0))), (q11, .inl (cy 0, 4, .inl (fun _ => zI 0))), (q12, .inl (cy 0, 800, .inl (fun _ => zI 0))), (q13, .inl (cy 0, 144, .inl (fun _ => zI 0)))] ++ E) 13 1684 111 [(0, .ref a)] []
  obtain ⟨b, hb⟩ : ∃ b : Nat → Nat, b = fun k => [a, q1, q2, q3, q4, q5, q6, q7, q8, q9, q10, q11, q12, q13].getD k 0 := ⟨_, rfl⟩
  have hb0 : b 0 = a := by rw [hb]; rfl
  have hw : ([(a, .inr (5, [.ref q1, .ref q2, .ref q3, .ref q4, .ref q5, .ref q6, .ref q7, .int (zI 0), .ref q8, .int (zI 0), .ref q9, .ref q10, .ref q11, .ref q12, .int (zI 0), .ref q13, .int (zI 0)])), (q1, .inl (cy 0, 192, .inl (fun _ => zI 0))), (q2, .inl (cy 0, 24, .inl (fun _ => zI 0))), (q3, .inl (cy 0, 64, .inl (fun _ => zI 0))), (q4, .inl (cy 0, 16, .inl (fun _ => zI 0))), (q5, .inl (cy 0, 160, .inl (fun _ => zI 0))), (q6, .inl (cy 0, 16, .inl (fun _ => zI 0))), (q7, .inl (cy 1, 16, .inl (fun _ => zI 0))), (q8, .inl (cy 0, 100, .inl (fun _ => zI 0))), (q9, .inl (cy 1, 144, .inl (fun _ => zI 0))), (q10, .inl (cy 0, 4, .inl (fun _ => zI 0))), (q11, .inl (cy 0, 4, .inl (fun _ => zI 0))), (q12, .inl (cy 0, 800, .inl (fun _ => zI 0))), (q13, .inl (cy 0, 144, .inl (fun _ => zI 0)))] : va_W) = gw 14 MSh cy b (spK 0) := by rw [hb]; rfl
  rw [hw, ← hb0]
  refine j_aload_n hJ (j := 0) rfl rfl dX5_init_111 ?_
  refine j_iconst hJ dX5_init_112 ?_
  refine j_bipush hJ (v := 116) (by decide) dX5_init_113 ?_
  refine j_bipush hJ (v := 104) (by decide) dX5_init_115 ?_
  refine j_bipush hJ (v := 101) (by decide) dX5_init_117 ?_
  refine j_iconst hJ dX5_init_119 ?_
  refine j_iconst hJ dX5_init_120 ?_
  refine j_iconst hJ dX5_init_121 ?_
  refine j_iconst hJ dX5_init_122 ?_
  refine j_callV0 hJ (c_X5_spell hfl (w := 0) (by decide)) m_X5_50 k_X5_spell (q0 := 0) (by rw [gw_get (by decide)]; rfl) rfl ⟨(Nat.le_of_ble_eq_true rfl), (Nat.le_of_ble_eq_true rfl)⟩ ⟨(Nat.le_of_ble_eq_true rfl), (Nat.le_of_ble_eq_true rfl)⟩ (Nat.le_of_ble_eq_true rfl) dX5_init_123 rfl ?_
  intro v1 u2 hv3
  obtain ⟨ν1, rfl, rfl, hsp⟩ := hv3
  show J (gw 14 MSh cy b ν1 ++ E) 13 1684 126 [(0, .ref (b 0))] []
  subst hsp
  have hsp : spl (spK 0) 0 [116, 104, 101, 0, 0, 0, 0] = spK 1 := rfl
  rw [hsp]
  clear hsp
  show J (gw 14 MSh cy b (spK 1) ++ E) 13 1684 126 [(0, .ref (b 0))] []
  refine j_aload_n hJ (j := 0) rfl rfl dX5_init_126 ?_
  refine j_iconst hJ dX5_init_127 ?_
  refine j_bipush hJ (v := 111) (by decide) dX5_init_128 ?_
  refine j_bipush hJ (v := 102) (by decide) dX5_init_130 ?_
  refine j_iconst hJ dX5_init_132 ?_
  refine j_iconst hJ dX5_init_133 ?_
  refine j_iconst hJ dX5_init_134 ?_
  refine j_iconst hJ dX5_init_135 ?_
  refine j_iconst hJ dX5_init_136 ?_
  refine j_callV0 hJ (c_X5_spell hfl (w := 1) (by decide)) m_X5_50 k_X5_spell (q0 := 0) (by rw [gw_get (by decide)]; rfl) rfl ⟨(Nat.le_of_ble_eq_true rfl), (Nat.le_of_ble_eq_true rfl)⟩ ⟨(Nat.le_of_ble_eq_true rfl), (Nat.le_of_ble_eq_true rfl)⟩ (Nat.le_of_ble_eq_true rfl) dX5_init_137 rfl ?_
  intro v4 u5 hv6
  obtain ⟨ν2, rfl, rfl, hsp⟩ := hv6
  show J (gw 14 MSh cy b ν2 ++ E) 13 1684 140 [(0, .ref (b 0))] []
  subst hsp
  have hsp : spl (spK 1) 1 [111, 102, 0, 0, 0, 0, 0] = spK 2 := rfl
  rw [hsp]
  clear hsp
  show J (gw 14 MSh cy b (spK 2) ++ E) 13 1684 140 [(0, .ref (b 0))] []
  refine j_aload_n hJ (j := 0) rfl rfl dX5_init_140 ?_
  refine j_iconst hJ dX5_init_141 ?_
  refine j_bipush hJ (v := 111) (by decide) dX5_init_142 ?_
  refine j_bipush hJ (v := 110) (by decide) dX5_init_144 ?_
  refine j_iconst hJ dX5_init_146 ?_
  refine j_iconst hJ dX5_init_147 ?_
  refine j_iconst hJ dX5_init_148 ?_
  refine j_iconst hJ dX5_init_149 ?_
  refine j_iconst hJ dX5_init_150 ?_
  refine j_callV0 hJ (c_X5_spell hfl (w := 2) (by decide)) m_X5_50 k_X5_spell (q0 := 0) (by rw [gw_get (by decide)]; rfl) rfl ⟨(Nat.le_of_ble_eq_true rfl), (Nat.le_of_ble_eq_true rfl)⟩ ⟨(Nat.le_of_ble_eq_true rfl), (Nat.le_of_ble_eq_true rfl)⟩ (Nat.le_of_ble_eq_true rfl) dX5_init_151 rfl ?_
  intro v7 u8 hv9
  obtain ⟨ν3, rfl, rfl, hsp⟩ := hv9
  show J (gw 14 MSh cy b ν3 ++ E) 13 1684 154 [(0, .ref (b 0))] []
  subst hsp
  have hsp : spl (spK 2) 2 [111, 110, 0, 0, 0, 0, 0] = spK 3 := rfl
  rw [hsp]
  clear hsp
  show J (gw 14 MSh cy b (spK 3) ++ E) 13 1684 154 [(0, .ref (b 0))] []
  refine j_aload_n hJ (j := 0) rfl rfl dX5_init_154 ?_
  refine j_iconst hJ dX5_init_155 ?_
  refine j_bipush hJ (v := 117) (by decide) dX5_init_156 ?_
  refine j_bipush hJ (v := 112) (by decide) dX5_init_158 ?_
  refine j_bipush hJ (v := 111) (by decide) dX5_init_160 ?_
  refine j_bipush hJ (v := 110) (by decide) dX5_init_162 ?_
  refine j_iconst hJ dX5_init_164 ?_
  refine j_iconst hJ dX5_init_165 ?_
  refine j_iconst hJ dX5_init_166 ?_
  refine j_callV0 hJ (c_X5_spell hfl (w := 3) (by decide)) m_X5_50 k_X5_spell (q0 := 0) (by rw [gw_get (by decide)]; rfl) rfl ⟨(Nat.le_of_ble_eq_true rfl), (Nat.le_of_ble_eq_true rfl)⟩ ⟨(Nat.le_of_ble_eq_true rfl), (Nat.le_of_ble_eq_true rfl)⟩ (Nat.le_of_ble_eq_true rfl) dX5_init_167 rfl ?_
  intro v10 u11 hv12
  obtain ⟨ν4, rfl, rfl, hsp⟩ := hv12
  show J (gw 14 MSh cy b ν4 ++ E) 13 1684 170 [(0, .ref (b 0))] []
  subst hsp
  have hsp : spl (spK 3) 3 [117, 112, 111, 110, 0, 0, 0] = spK 4 := rfl
  rw [hsp]
  clear hsp
  show J (gw 14 MSh cy b (spK 4) ++ E) 13 1684 170 [(0, .ref (b 0))] []
  refine j_aload_n hJ (j := 0) rfl rfl dX5_init_170 ?_
  refine j_iconst hJ dX5_init_171 ?_
  refine j_bipush hJ (v := 111) (by decide) dX5_init_172 ?_
  refine j_bipush hJ (v := 108) (by decide) dX5_init_174 ?_
  refine j_bipush hJ (v := 100) (by decide) dX5_init_176 ?_
  refine j_iconst hJ dX5_init_178 ?_
  refine j_iconst hJ dX5_init_179 ?_
  refine j_iconst hJ dX5_init_180 ?_
  refine j_iconst hJ dX5_init_181 ?_
  refine j_callV0 hJ (c_X5_spell hfl (w := 4) (by decide)) m_X5_50 k_X5_spell (q0 := 0) (by rw [gw_get (by decide)]; rfl) rfl ⟨(Nat.le_of_ble_eq_true rfl), (Nat.le_of_ble_eq_true rfl)⟩ ⟨(Nat.le_of_ble_eq_true rfl), (Nat.le_of_ble_eq_true rfl)⟩ (Nat.le_of_ble_eq_true rfl) dX5_init_182 rfl ?_
  intro v13 u14 hv15
  obtain ⟨ν5, rfl, rfl, hsp⟩ := hv15
  show J (gw 14 MSh cy b ν5 ++ E) 13 1684 185 [(0, .ref (b 0))] []
  subst hsp
  have hsp : spl (spK 4) 4 [111, 108, 100, 0, 0, 0, 0] = spK 5 := rfl
  rw [hsp]
  clear hsp
  show J (gw 14 MSh cy b (spK 5) ++ E) 13 1684 185 [(0, .ref (b 0))] []
  refine j_aload_n hJ (j := 0) rfl rfl dX5_init_185 ?_
  refine j_iconst hJ dX5_init_186 ?_
  refine j_bipush hJ (v := 110) (by decide) dX5_init_187 ?_
  refine j_bipush hJ (v := 101) (by decide) dX5_init_189 ?_
  refine j_bipush hJ (v := 119) (by decide) dX5_init_191 ?_
  refine j_iconst hJ dX5_init_193 ?_
  refine j_iconst hJ dX5_init_194 ?_
  refine j_iconst hJ dX5_init_195 ?_
  refine j_iconst hJ dX5_init_196 ?_
  refine j_callV0 hJ (c_X5_spell hfl (w := 5) (by decide)) m_X5_50 k_X5_spell (q0 := 0) (by rw [gw_get (by decide)]; rfl) rfl ⟨(Nat.le_of_ble_eq_true rfl), (Nat.le_of_ble_eq_true rfl)⟩ ⟨(Nat.le_of_ble_eq_true rfl), (Nat.le_of_ble_eq_true rfl)⟩ (Nat.le_of_ble_eq_true rfl) dX5_init_197 rfl ?_
  intro v16 u17 hv18
  obtain ⟨ν6, rfl, rfl, hsp⟩ := hv18
  show J (gw 14 MSh cy b ν6 ++ E) 13 1684 200 [(0, .ref (b 0))] []
  subst hsp
  have hsp : spl (spK 5) 5 [110, 101, 119, 0, 0, 0, 0] = spK 6 := rfl
  rw [hsp]
  clear hsp
  show J (gw 14 MSh cy b (spK 6) ++ E) 13 1684 200 [(0, .ref (b 0))] []
  refine j_aload_n hJ (j := 0) rfl rfl dX5_init_200 ?_
  refine j_bipush hJ (v := 6) (by decide) dX5_init_201 ?_
  refine j_bipush hJ (v := 117) (by decide) dX5_init_203 ?_
  refine j_bipush hJ (v := 112) (by decide) dX5_init_205 ?_
  refine j_bipush hJ (v := 112) (by decide) dX5_init_207 ?_
  refine j_bipush hJ (v := 101) (by decide) dX5_init_209 ?_
  refine j_bipush hJ (v := 114) (by decide) dX5_init_211 ?_
  refine j_iconst hJ dX5_init_213 ?_
  refine j_iconst hJ dX5_init_214 ?_
  refine j_callV0 hJ (c_X5_spell hfl (w := 6) (by decide)) m_X5_50 k_X5_spell (q0 := 0) (by rw [gw_get (by decide)]; rfl) rfl ⟨(Nat.le_of_ble_eq_true rfl), (Nat.le_of_ble_eq_true rfl)⟩ ⟨(Nat.le_of_ble_eq_true rfl), (Nat.le_of_ble_eq_true rfl)⟩ (Nat.le_of_ble_eq_true rfl) dX5_init_215 rfl ?_
  intro v19 u20 hv21
  obtain ⟨ν7, rfl, rfl, hsp⟩ := hv21
  show J (gw 14 MSh cy b ν7 ++ E) 13 1684 218 [(0, .ref (b 0))] []
  subst hsp
  have hsp : spl (spK 6) 6 [117, 112, 112, 101, 114, 0, 0] = spK 7 := rfl
  rw [hsp]
  clear hsp
  show J (gw 14 MSh cy b (spK 7) ++ E) 13 1684 218 [(0, .ref (b 0))] []
  refine j_aload_n hJ (j := 0) rfl rfl dX5_init_218 ?_
  refine j_bipush hJ (v := 7) (by decide) dX5_init_219 ?_
  refine j_bipush hJ (v := 108) (by decide) dX5_init_221 ?_
  refine j_bipush hJ (v := 111) (by decide) dX5_init_223 ?_
  refine j_bipush hJ (v := 119) (by decide) dX5_init_225 ?_
  refine j_bipush hJ (v := 101) (by decide) dX5_init_227 ?_
  refine j_bipush hJ (v := 114) (by decide) dX5_init_229 ?_
  refine j_iconst hJ dX5_init_231 ?_
  refine j_iconst hJ dX5_init_232 ?_
  refine j_callV0 hJ (c_X5_spell hfl (w := 7) (by decide)) m_X5_50 k_X5_spell (q0 := 0) (by rw [gw_get (by decide)]; rfl) rfl ⟨(Nat.le_of_ble_eq_true rfl), (Nat.le_of_ble_eq_true rfl)⟩ ⟨(Nat.le_of_ble_eq_true rfl), (Nat.le_of_ble_eq_true rfl)⟩ (Nat.le_of_ble_eq_true rfl) dX5_init_233 rfl ?_
  intro v22 u23 hv24
  obtain ⟨ν8, rfl, rfl, hsp⟩ := hv24
  show J (gw 14 MSh cy b ν8 ++ E) 13 1684 236 [(0, .ref (b 0))] []
  subst hsp
  have hsp : spl (spK 7) 7 [108, 111, 119, 101, 114, 0, 0] = spK 8 := rfl
  rw [hsp]
  clear hsp
  show J (gw 14 MSh cy b (spK 8) ++ E) 13 1684 236 [(0, .ref (b 0))] []
  refine j_aload_n hJ (j := 0) rfl rfl dX5_init_236 ?_
  refine j_bipush hJ (v := 8) (by decide) dX5_init_237 ?_
  refine j_bipush hJ (v := 103) (by decide) dX5_init_239 ?_
  refine j_bipush hJ (v := 114) (by decide) dX5_init_241 ?_
  refine j_bipush hJ (v := 101) (by decide) dX5_init_243 ?_
  refine j_bipush hJ (v := 97) (by decide) dX5_init_245 ?_
  refine j_bipush hJ (v := 116) (by decide) dX5_init_247 ?_
  refine j_iconst hJ dX5_init_249 ?_
  refine j_iconst hJ dX5_init_250 ?_
  refine j_callV0 hJ (c_X5_spell hfl (w := 8) (by decide)) m_X5_50 k_X5_spell (q0 := 0) (by rw [gw_get (by decide)]; rfl) rfl ⟨(Nat.le_of_ble_eq_true rfl), (Nat.le_of_ble_eq_true rfl)⟩ ⟨(Nat.le_of_ble_eq_true rfl), (Nat.le_of_ble_eq_true rfl)⟩ (Nat.le_of_ble_eq_true rfl) dX5_init_251 rfl ?_
  intro v25 u26 hv27
  obtain ⟨ν9, rfl, rfl, hsp⟩ := hv27
  show J (gw 14 MSh cy b ν9 ++ E) 13 1684 254 [(0, .ref (b 0))] []
  subst hsp
  have hsp : spl (spK 8) 8 [103, 114, 101, 97, 116, 0, 0] = spK 9 := rfl
  rw [hsp]
  clear hsp
  show J (gw 14 MSh cy b (spK 9) ++ E) 13 1684 254 [(0, .ref (b 0))] []
  refine j_aload_n hJ (j := 0) rfl rfl dX5_init_254 ?_
  refine j_bipush hJ (v := 9) (by decide) dX5_init_255 ?_
  refine j_bipush hJ (v := 108) (by decide) dX5_init_257 ?_
  refine j_bipush hJ (v := 105) (by decide) dX5_init_259 ?_
  refine j_bipush hJ (v := 116) (by decide) dX5_init_261 ?_
  refine j_bipush hJ (v := 116) (by decide) dX5_init_263 ?_
  refine j_bipush hJ (v := 108) (by decide) dX5_init_265 ?_
  refine j_bipush hJ (v := 101) (by decide) dX5_init_267 ?_
  refine j_iconst hJ dX5_init_269 ?_
  refine j_callV0 hJ (c_X5_spell hfl (w := 9) (by decide)) m_X5_50 k_X5_spell (q0 := 0) (by rw [gw_get (by decide)]; rfl) rfl ⟨(Nat.le_of_ble_eq_true rfl), (Nat.le_of_ble_eq_true rfl)⟩ ⟨(Nat.le_of_ble_eq_true rfl), (Nat.le_of_ble_eq_true rfl)⟩ (Nat.le_of_ble_eq_true rfl) dX5_init_270 rfl ?_
  intro v28 u29 hv30
  obtain ⟨ν10, rfl, rfl, hsp⟩ := hv30
  show J (gw 14 MSh cy b ν10 ++ E) 13 1684 273 [(0, .ref (b 0))] []
  subst hsp
  have hsp : spl (spK 9) 9 [108, 105, 116, 116, 108, 101, 0] = spK 10 := rfl
  rw [hsp]
  clear hsp
  show J (gw 14 MSh cy b (spK 10) ++ E) 13 1684 273 [(0, .ref (b 0))] []
  refine j_aload_n hJ (j := 0) rfl rfl dX5_init_273 ?_
  refine j_bipush hJ (v := 10) (by decide) dX5_init_274 ?_
  refine j_bipush hJ (v := 115) (by decide) dX5_init_276 ?_
  refine j_bipush hJ (v := 97) (by decide) dX5_init_278 ?_
  refine j_bipush hJ (v := 105) (by decide) dX5_init_280 ?_
  refine j_bipush hJ (v := 110) (by decide) dX5_init_282 ?_
  refine j_bipush hJ (v := 116) (by decide) dX5_init_284 ?_
  refine j_iconst hJ dX5_init_286 ?_
  refine j_iconst hJ dX5_init_287 ?_
  refine j_callV0 hJ (c_X5_spell hfl (w := 10) (by decide)) m_X5_50 k_X5_spell (q0 := 0) (by rw [gw_get (by decide)]; rfl) rfl ⟨(Nat.le_of_ble_eq_true rfl), (Nat.le_of_ble_eq_true rfl)⟩ ⟨(Nat.le_of_ble_eq_true rfl), (Nat.le_of_ble_eq_true rfl)⟩ (Nat.le_of_ble_eq_true rfl) dX5_init_288 rfl ?_
  intro v31 u32 hv33
  obtain ⟨ν11, rfl, rfl, hsp⟩ := hv33
  show J (gw 14 MSh cy b ν11 ++ E) 13 1684 291 [(0, .ref (b 0))] []
  subst hsp
  have hsp : spl (spK 10) 10 [115, 97, 105, 110, 116, 0, 0] = spK 11 := rfl
  rw [hsp]
  clear hsp
  show J (gw 14 MSh cy b (spK 11) ++ E) 13 1684 291 [(0, .ref (b 0))] []
  refine j_aload_n hJ (j := 0) rfl rfl dX5_init_291 ?_
  refine j_bipush hJ (v := 11) (by decide) dX5_init_292 ?_
  refine j_bipush hJ (v := 107) (by decide) dX5_init_294 ?_
  refine j_bipush hJ (v := 105) (by decide) dX5_init_296 ?_
  refine j_bipush hJ (v := 110) (by decide) dX5_init_298 ?_
  refine j_bipush hJ (v := 103) (by decide) dX5_init_300 ?_
  refine j_iconst hJ dX5_init_302 ?_
  refine j_iconst hJ dX5_init_303 ?_
  refine j_iconst hJ dX5_init_304 ?_
  refine j_callV0 hJ (c_X5_spell hfl (w := 11) (by decide)) m_X5_50 k_X5_spell (q0 := 0) (by rw [gw_get (by decide)]; rfl) rfl ⟨(Nat.le_of_ble_eq_true rfl), (Nat.le_of_ble_eq_true rfl)⟩ ⟨(Nat.le_of_ble_eq_true rfl), (Nat.le_of_ble_eq_true rfl)⟩ (Nat.le_of_ble_eq_true rfl) dX5_init_305 rfl ?_
  intro v34 u35 hv36
  obtain ⟨ν12, rfl, rfl, hsp⟩ := hv36
  show J (gw 14 MSh cy b ν12 ++ E) 13 1684 308 [(0, .ref (b 0))] []
  subst hsp
  have hsp : spl (spK 11) 11 [107, 105, 110, 103, 0, 0, 0] = spK 12 := rfl
  rw [hsp]
  clear hsp
  show J (gw 14 MSh cy b (spK 12) ++ E) 13 1684 308 [(0, .ref (b 0))] []
  refine j_aload_n hJ (j := 0) rfl rfl dX5_init_308 ?_
  refine j_bipush hJ (v := 12) (by decide) dX5_init_309 ?_
  refine j_bipush hJ (v := 109) (by decide) dX5_init_311 ?_
  refine j_bipush hJ (v := 105) (by decide) dX5_init_313 ?_
  refine j_bipush hJ (v := 108) (by decide) dX5_init_315 ?_
  refine j_bipush hJ (v := 108) (by decide) dX5_init_317 ?_
  refine j_iconst hJ dX5_init_319 ?_
  refine j_iconst hJ dX5_init_320 ?_
  refine j_iconst hJ dX5_init_321 ?_
  refine j_callV0 hJ (c_X5_spell hfl (w := 12) (by decide)) m_X5_50 k_X5_spell (q0 := 0) (by rw [gw_get (by decide)]; rfl) rfl ⟨(Nat.le_of_ble_eq_true rfl), (Nat.le_of_ble_eq_true rfl)⟩ ⟨(Nat.le_of_ble_eq_true rfl), (Nat.le_of_ble_eq_true rfl)⟩ (Nat.le_of_ble_eq_true rfl) dX5_init_322 rfl ?_
  intro v37 u38 hv39
  obtain ⟨ν13, rfl, rfl, hsp⟩ := hv39
  show J (gw 14 MSh cy b ν13 ++ E) 13 1684 325 [(0, .ref (b 0))] []
  subst hsp
  have hsp : spl (spK 12) 12 [109, 105, 108, 108, 0, 0, 0] = spK 13 := rfl
  rw [hsp]
  clear hsp
  show J (gw 14 MSh cy b (spK 13) ++ E) 13 1684 325 [(0, .ref (b 0))] []
  refine j_aload_n hJ (j := 0) rfl rfl dX5_init_325 ?_
  refine j_bipush hJ (v := 13) (by decide) dX5_init_326 ?_
  refine j_bipush hJ (v := 111) (by decide) dX5_init_328 ?_
  refine j_bipush hJ (v := 97) (by decide) dX5_init_330 ?_
  refine j_bipush hJ (v := 107) (by decide) dX5_init_332 ?_
  refine j_iconst hJ dX5_init_334 ?_
  refine j_iconst hJ dX5_init_335 ?_
  refine j_iconst hJ dX5_init_336 ?_
  refine j_iconst hJ dX5_init_337 ?_
  refine j_callV0 hJ (c_X5_spell hfl (w := 13) (by decide)) m_X5_50 k_X5_spell (q0 := 0) (by rw [gw_get (by decide)]; rfl) rfl ⟨(Nat.le_of_ble_eq_true rfl), (Nat.le_of_ble_eq_true rfl)⟩ ⟨(Nat.le_of_ble_eq_true rfl), (Nat.le_of_ble_eq_true rfl)⟩ (Nat.le_of_ble_eq_true rfl) dX5_init_338 rfl ?_
  intro v40 u41 hv42
  obtain ⟨ν14, rfl, rfl, hsp⟩ := hv42
  show J (gw 14 MSh cy b ν14 ++ E) 13 1684 341 [(0, .ref (b 0))] []
  subst hsp
  have hsp : spl (spK 13) 13 [111, 97, 107, 0, 0, 0, 0] = spK 14 := rfl
  rw [hsp]
  clear hsp
  show J (gw 14 MSh cy b (spK 14) ++ E) 13 1684 341 [(0, .ref (b 0))] []
  refine j_aload_n hJ (j := 0) rfl rfl dX5_init_341 ?_
  refine j_bipush hJ (v := 14) (by decide) dX5_init_342 ?_
  refine j_bipush hJ (v := 101) (by decide) dX5_init_344 ?_
  refine j_bipush hJ (v := 108) (by decide) dX5_init_346 ?_
  refine j_bipush hJ (v := 109) (by decide) dX5_init_348 ?_
  refine j_iconst hJ dX5_init_350 ?_
  refine j_iconst hJ dX5_init_351 ?_
  refine j_iconst hJ dX5_init_352 ?_
  refine j_iconst hJ dX5_init_353 ?_
  refine j_callV0 hJ (c_X5_spell hfl (w := 14) (by decide)) m_X5_50 k_X5_spell (q0 := 0) (by rw [gw_get (by decide)]; rfl) rfl ⟨(Nat.le_of_ble_eq_true rfl), (Nat.le_of_ble_eq_true rfl)⟩ ⟨(Nat.le_of_ble_eq_true rfl), (Nat.le_of_ble_eq_true rfl)⟩ (Nat.le_of_ble_eq_true rfl) dX5_init_354 rfl ?_
  intro v43 u44 hv45
  obtain ⟨ν15, rfl, rfl, hsp⟩ := hv45
  show J (gw 14 MSh cy b ν15 ++ E) 13 1684 357 [(0, .ref (b 0))] []
  subst hsp
  have hsp : spl (spK 14) 14 [101, 108, 109, 0, 0, 0, 0] = spK 15 := rfl
  rw [hsp]
  clear hsp
  show J (gw 14 MSh cy b (spK 15) ++ E) 13 1684 357 [(0, .ref (b 0))] []
  refine j_aload_n hJ (j := 0) rfl rfl dX5_init_357 ?_
  refine j_bipush hJ (v := 15) (by decide) dX5_init_358 ?_
  refine j_bipush hJ (v := 98) (by decide) dX5_init_360 ?_
  refine j_bipush hJ (v := 114) (by decide) dX5_init_362 ?_
  refine j_bipush hJ (v := 105) (by decide) dX5_init_364 ?_
  refine j_bipush hJ (v := 100) (by decide) dX5_init_366 ?_
  refine j_bipush hJ (v := 103) (by decide) dX5_init_368 ?_
  refine j_bipush hJ (v := 101) (by decide) dX5_init_370 ?_
  refine j_iconst hJ dX5_init_372 ?_
  refine j_callV0 hJ (c_X5_spell hfl (w := 15) (by decide)) m_X5_50 k_X5_spell (q0 := 0) (by rw [gw_get (by decide)]; rfl) rfl ⟨(Nat.le_of_ble_eq_true rfl), (Nat.le_of_ble_eq_true rfl)⟩ ⟨(Nat.le_of_ble_eq_true rfl), (Nat.le_of_ble_eq_true rfl)⟩ (Nat.le_of_ble_eq_true rfl) dX5_init_373 rfl ?_
  intro v46 u47 hv48
  obtain ⟨ν16, rfl, rfl, hsp⟩ := hv48
  show J (gw 14 MSh cy b ν16 ++ E) 13 1684 376 [(0, .ref (b 0))] []
  subst hsp
  have hsp : spl (spK 15) 15 [98, 114, 105, 100, 103, 101, 0] = spK 16 := rfl
  rw [hsp]
  clear hsp
  show J (gw 14 MSh cy b (spK 16) ++ E) 13 1684 376 [(0, .ref (b 0))] []
  refine j_aload_n hJ (j := 0) rfl rfl dX5_init_376 ?_
  refine j_bipush hJ (v := 16) (by decide) dX5_init_377 ?_
  refine j_bipush hJ (v := 109) (by decide) dX5_init_379 ?_
  refine j_bipush hJ (v := 97) (by decide) dX5_init_381 ?_
  refine j_bipush hJ (v := 114) (by decide) dX5_init_383 ?_
  refine j_bipush hJ (v := 107) (by decide) dX5_init_385 ?_
  refine j_bipush hJ (v := 101) (by decide) dX5_init_387 ?_
  refine j_bipush hJ (v := 116) (by decide) dX5_init_389 ?_
  refine j_iconst hJ dX5_init_391 ?_
  refine j_callV0 hJ (c_X5_spell hfl (w := 16) (by decide)) m_X5_50 k_X5_spell (q0 := 0) (by rw [gw_get (by decide)]; rfl) rfl ⟨(Nat.le_of_ble_eq_true rfl), (Nat.le_of_ble_eq_true rfl)⟩ ⟨(Nat.le_of_ble_eq_true rfl), (Nat.le_of_ble_eq_true rfl)⟩ (Nat.le_of_ble_eq_true rfl) dX5_init_392 rfl ?_
  intro v49 u50 hv51
  obtain ⟨ν17, rfl, rfl, hsp⟩ := hv51
  show J (gw 14 MSh cy b ν17 ++ E) 13 1684 395 [(0, .ref (b 0))] []
  subst hsp
  have hsp : spl (spK 16) 16 [109, 97, 114, 107, 101, 116, 0] = spK 17 := rfl
  rw [hsp]
  clear hsp
  show J (gw 14 MSh cy b (spK 17) ++ E) 13 1684 395 [(0, .ref (b 0))] []
  refine j_aload_n hJ (j := 0) rfl rfl dX5_init_395 ?_
  refine j_bipush hJ (v := 17) (by decide) dX5_init_396 ?_
  refine j_bipush hJ (v := 99) (by decide) dX5_init_398 ?_
  refine j_bipush hJ (v := 104) (by decide) dX5_init_400 ?_
  refine j_bipush hJ (v := 117) (by decide) dX5_init_402 ?_
  refine j_bipush hJ (v := 114) (by decide) dX5_init_404 ?_
  refine j_bipush hJ (v := 99) (by decide) dX5_init_406 ?_
  refine j_bipush hJ (v := 104) (by decide) dX5_init_408 ?_
  refine j_iconst hJ dX5_init_410 ?_
  refine j_callV0 hJ (c_X5_spell hfl (w := 17) (by decide)) m_X5_50 k_X5_spell (q0 := 0) (by rw [gw_get (by decide)]; rfl) rfl ⟨(Nat.le_of_ble_eq_true rfl), (Nat.le_of_ble_eq_true rfl)⟩ ⟨(Nat.le_of_ble_eq_true rfl), (Nat.le_of_ble_eq_true rfl)⟩ (Nat.le_of_ble_eq_true rfl) dX5_init_411 rfl ?_
  intro v52 u53 hv54
  obtain ⟨ν18, rfl, rfl, hsp⟩ := hv54
  show J (gw 14 MSh cy b ν18 ++ E) 13 1684 414 [(0, .ref (b 0))] []
  subst hsp
  have hsp : spl (spK 17) 17 [99, 104, 117, 114, 99, 104, 0] = spK 18 := rfl
  rw [hsp]
  clear hsp
  show J (gw 14 MSh cy b (spK 18) ++ E) 13 1684 414 [(0, .ref (b 0))] []
  refine j_aload_n hJ (j := 0) rfl rfl dX5_init_414 ?_
  refine j_bipush hJ (v := 18) (by decide) dX5_init_415 ?_
  refine j_bipush hJ (v := 115) (by decide) dX5_init_417 ?_
  refine j_bipush hJ (v := 116) (by decide) dX5_init_419 ?_
  refine j_bipush hJ (v := 97) (by decide) dX5_init_421 ?_
  refine j_bipush hJ (v := 116) (by decide) dX5_init_423 ?_
  refine j_bipush hJ (v := 105) (by decide) dX5_init_425 ?_
  refine j_bipush hJ (v := 111) (by decide) dX5_init_427 ?_
  refine j_bipush hJ (v := 110) (by decide) dX5_init_429 ?_
  refine j_callV0 hJ (c_X5_spell hfl (w := 18) (by decide)) m_X5_50 k_X5_spell (q0 := 0) (by rw [gw_get (by decide)]; rfl) rfl ⟨(Nat.le_of_ble_eq_true rfl), (Nat.le_of_ble_eq_true rfl)⟩ ⟨(Nat.le_of_ble_eq_true rfl), (Nat.le_of_ble_eq_true rfl)⟩ (Nat.le_of_ble_eq_true rfl) dX5_init_431 rfl ?_
  intro v55 u56 hv57
  obtain ⟨ν19, rfl, rfl, hsp⟩ := hv57
  show J (gw 14 MSh cy b ν19 ++ E) 13 1684 434 [(0, .ref (b 0))] []
  subst hsp
  have hsp : spl (spK 18) 18 [115, 116, 97, 116, 105, 111, 110] = spK 19 := rfl
  rw [hsp]
  clear hsp
  show J (gw 14 MSh cy b (spK 19) ++ E) 13 1684 434 [(0, .ref (b 0))] []
  refine j_aload_n hJ (j := 0) rfl rfl dX5_init_434 ?_
  refine j_bipush hJ (v := 19) (by decide) dX5_init_435 ?_
  refine j_bipush hJ (v := 115) (by decide) dX5_init_437 ?_
  refine j_bipush hJ (v := 116) (by decide) dX5_init_439 ?_
  refine j_bipush hJ (v := 114) (by decide) dX5_init_441 ?_
  refine j_bipush hJ (v := 101) (by decide) dX5_init_443 ?_
  refine j_bipush hJ (v := 101) (by decide) dX5_init_445 ?_
  refine j_bipush hJ (v := 116) (by decide) dX5_init_447 ?_
  refine j_iconst hJ dX5_init_449 ?_
  refine j_callV0 hJ (c_X5_spell hfl (w := 19) (by decide)) m_X5_50 k_X5_spell (q0 := 0) (by rw [gw_get (by decide)]; rfl) rfl ⟨(Nat.le_of_ble_eq_true rfl), (Nat.le_of_ble_eq_true rfl)⟩ ⟨(Nat.le_of_ble_eq_true rfl), (Nat.le_of_ble_eq_true rfl)⟩ (Nat.le_of_ble_eq_true rfl) dX5_init_450 rfl ?_
  intro v58 u59 hv60
  obtain ⟨ν20, rfl, rfl, hsp⟩ := hv60
  show J (gw 14 MSh cy b ν20 ++ E) 13 1684 453 [(0, .ref (b 0))] []
  subst hsp
  have hsp : spl (spK 19) 19 [115, 116, 114, 101, 101, 116, 0] = spK 20 := rfl
  rw [hsp]
  clear hsp
  show J (gw 14 MSh cy b (spK 20) ++ E) 13 1684 453 [(0, .ref (b 0))] []
  refine j_aload_n hJ (j := 0) rfl rfl dX5_init_453 ?_
  refine j_bipush hJ (v := 20) (by decide) dX5_init_454 ?_
  refine j_bipush hJ (v := 108) (by decide) dX5_init_456 ?_
  refine j_bipush hJ (v := 97) (by decide) dX5_init_458 ?_
  refine j_bipush hJ (v := 110) (by decide) dX5_init_460 ?_
  refine j_bipush hJ (v := 101) (by decide) dX5_init_462 ?_
  refine j_iconst hJ dX5_init_464 ?_
  refine j_iconst hJ dX5_init_465 ?_
  refine j_iconst hJ dX5_init_466 ?_
  refine j_callV0 hJ (c_X5_spell hfl (w := 20) (by decide)) m_X5_50 k_X5_spell (q0 := 0) (by rw [gw_get (by decide)]; rfl) rfl ⟨(Nat.le_of_ble_eq_true rfl), (Nat.le_of_ble_eq_true rfl)⟩ ⟨(Nat.le_of_ble_eq_true rfl), (Nat.le_of_ble_eq_true rfl)⟩ (Nat.le_of_ble_eq_true rfl) dX5_init_467 rfl ?_
  intro v61 u62 hv63
  obtain ⟨ν21, rfl, rfl, hsp⟩ := hv63
  show J (gw 14 MSh cy b ν21 ++ E) 13 1684 470 [(0, .ref (b 0))] []
  subst hsp
  have hsp : spl (spK 20) 20 [108, 97, 110, 101, 0, 0, 0] = spK 21 := rfl
  rw [hsp]
  clear hsp
  show J (gw 14 MSh cy b (spK 21) ++ E) 13 1684 470 [(0, .ref (b 0))] []
  refine j_aload_n hJ (j := 0) rfl rfl dX5_init_470 ?_
  refine j_bipush hJ (v := 21) (by decide) dX5_init_471 ?_
  refine j_bipush hJ (v := 114) (by decide) dX5_init_473 ?_
  refine j_bipush hJ (v := 111) (by decide) dX5_init_475 ?_
  refine j_bipush hJ (v := 97) (by decide) dX5_init_477 ?_
  refine j_bipush hJ (v := 100) (by decide) dX5_init_479 ?_
  refine j_iconst hJ dX5_init_481 ?_
  refine j_iconst hJ dX5_init_482 ?_
  refine j_iconst hJ dX5_init_483 ?_
  refine j_callV0 hJ (c_X5_spell hfl (w := 21) (by decide)) m_X5_50 k_X5_spell (q0 := 0) (by rw [gw_get (by decide)]; rfl) rfl ⟨(Nat.le_of_ble_eq_true rfl), (Nat.le_of_ble_eq_true rfl)⟩ ⟨(Nat.le_of_ble_eq_true rfl), (Nat.le_of_ble_eq_true rfl)⟩ (Nat.le_of_ble_eq_true rfl) dX5_init_484 rfl ?_
  intro v64 u65 hv66
  obtain ⟨ν22, rfl, rfl, hsp⟩ := hv66
  show J (gw 14 MSh cy b ν22 ++ E) 13 1684 487 [(0, .ref (b 0))] []
  subst hsp
  have hsp : spl (spK 21) 21 [114, 111, 97, 100, 0, 0, 0] = spK 22 := rfl
  rw [hsp]
  clear hsp
  show J (gw 14 MSh cy b (spK 22) ++ E) 13 1684 487 [(0, .ref (b 0))] []
  refine j_aload_n hJ (j := 0) rfl rfl dX5_init_487 ?_
  refine j_bipush hJ (v := 22) (by decide) dX5_init_488 ?_
  refine j_bipush hJ (v := 114) (by decide) dX5_init_490 ?_
  refine j_bipush hJ (v := 111) (by decide) dX5_init_492 ?_
  refine j_bipush hJ (v := 119) (by decide) dX5_init_494 ?_
  refine j_iconst hJ dX5_init_496 ?_
  refine j_iconst hJ dX5_init_497 ?_
  refine j_iconst hJ dX5_init_498 ?_
  refine j_iconst hJ dX5_init_499 ?_
  refine j_callV0 hJ (c_X5_spell hfl (w := 22) (by decide)) m_X5_50 k_X5_spell (q0 := 0) (by rw [gw_get (by decide)]; rfl) rfl ⟨(Nat.le_of_ble_eq_true rfl), (Nat.le_of_ble_eq_true rfl)⟩ ⟨(Nat.le_of_ble_eq_true rfl), (Nat.le_of_ble_eq_true rfl)⟩ (Nat.le_of_ble_eq_true rfl) dX5_init_500 rfl ?_
  intro v67 u68 hv69
  obtain ⟨ν23, rfl, rfl, hsp⟩ := hv69
  show J (gw 14 MSh cy b ν23 ++ E) 13 1684 503 [(0, .ref (b 0))] []
  subst hsp
  have hsp : spl (spK 22) 22 [114, 111, 119, 0, 0, 0, 0] = spK 23 := rfl
  rw [hsp]
  clear hsp
  show J (gw 14 MSh cy b (spK 23) ++ E) 13 1684 503 [(0, .ref (b 0))] []
  refine j_aload_n hJ (j := 0) rfl rfl dX5_init_503 ?_
  refine j_bipush hJ (v := 23) (by decide) dX5_init_504 ?_
  refine j_bipush hJ (v := 104) (by decide) dX5_init_506 ?_
  refine j_bipush hJ (v := 105) (by decide) dX5_init_508 ?_
  refine j_bipush hJ (v := 108) (by decide) dX5_init_510 ?_
  refine j_bipush hJ (v := 108) (by decide) dX5_init_512 ?_
  refine j_iconst hJ dX5_init_514 ?_
  refine j_iconst hJ dX5_init_515 ?_
  refine j_iconst hJ dX5_init_516 ?_
  refine j_callV0 hJ (c_X5_spell hfl (w := 23) (by decide)) m_X5_50 k_X5_spell (q0 := 0) (by rw [gw_get (by decide)]; rfl) rfl ⟨(Nat.le_of_ble_eq_true rfl), (Nat.le_of_ble_eq_true rfl)⟩ ⟨(Nat.le_of_ble_eq_true rfl), (Nat.le_of_ble_eq_true rfl)⟩ (Nat.le_of_ble_eq_true rfl) dX5_init_517 rfl ?_
  intro v70 u71 hv72
  obtain ⟨ν24, rfl, rfl, hsp⟩ := hv72
  show J (gw 14 MSh cy b ν24 ++ E) 13 1684 520 [(0, .ref (b 0))] []
  subst hsp
  have hsp : spl (spK 23) 23 [104, 105, 108, 108, 0, 0, 0] = spK 24 := rfl
  rw [hsp]
  clear hsp
  show J (gw 14 MSh cy b (spK 24) ++ E) 13 1684 520 [(0, .ref (b 0))] []
  refine j_iconst hJ dX5_init_520 ?_
  refine j_istore_n hJ (lv' := [(1, .int (zI 0)), (0, .ref (b 0))]) rfl (by decide) rfl dX5_init_521 ?_
  have lp522 : ∀ (nn522 : Nat) (νk : Nat → Int → Int) (k : Nat) (hmeas522 : 4 - k < nn522) (hk : k ≤ 4) (hK : ∀ j, νk 2 j = rK k j) (hF : ∀ a, a ≠ 2 → νk a = spK 24 a), J (gw 14 MSh cy b νk ++ E) 13 1684 522 [(0, .ref (b 0)), (1, .int (zI (k : Int)))] [] := by
    intro nn522
    induction nn522 with
    | zero => intro νk k hmeas522 hk hK hF; omega
    | succ nn522 ih522 =>
      intro νk k hmeas522 hk hK hF
      refine j_iload_n hJ (j := 1) rfl rfl dX5_init_522 ?_
      refine j_iconst hJ dX5_init_523 ?_
      refine j_icmp_ge hJ (tgt := 540) ⟨by omega, by omega⟩ ⟨by omega, by omega⟩ (by decide) dX5_init_524 ?_ ?_
      · intro h524
        have hk4 : k = 4 := by omega
        subst hk4
        exact j_vret hJ rfl rfl (Nat.le_of_ble_eq_true rfl) (Nat.le_of_ble_eq_true rfl) dX5_init_540 ⟨b, νk, rfl, hb0, rfl, MI_new (fun j => by rw [hK j]; rfl) hF⟩
      · intro h524
        refine j_aload_n hJ (j := 0) rfl rfl dX5_init_527 ?_
        refine w_getr hJ (by omega) rfl rfl f_X5_13 dX5_init_528 ?_
        refine j_iload_n hJ (j := 1) rfl rfl dX5_init_531 ?_
        refine j_iconst hJ dX5_init_532 ?_
        refine w_iast hJ (by omega) rfl (by first | decide | omega) (by omega) (by omega) dX5_init_533 ?_
        intro ν25 hν25
        refine j_iinc hJ (lv' := [(1, .int (zI ((k : Int) + 1))), (0, .ref (b 0))]) (j := 1) rfl (by omega) (by decide) rfl dX5_init_534 ?_
        refine j_goto hJ (tgt := 522) (by decide) dX5_init_537 ?_
        refine j_locs hJ [1, 0] rfl ?_
        refine ih522 ν25 (k + 1) (by omega) (by omega) ?_ (by exact fun a g => by rw [hν25, up_rowf g]; exact hF a g)
        · intro j
          rw [hν25]
          unfold up rK
          by_cases e : j = k
          · rw [if_pos ⟨rfl, e⟩, if_pos (by omega)]
          · rw [if_neg (fun g => e g.2), hK j]; unfold rK
            by_cases g : 0 ≤ j ∧ j < k
            · rw [if_pos g, if_pos (by omega)]
            · rw [if_neg g, if_neg (by omega)]
  refine j_locs hJ [1, 0] rfl ?_
  exact lp522 (4 - 0 + 1) (spK 24) 0 (by omega) (by omega) (by intro j; rw [spK_row (by omega)]; unfold rK; rw [if_neg (by omega)]) (by exact fun _ _ => rfl)
end
