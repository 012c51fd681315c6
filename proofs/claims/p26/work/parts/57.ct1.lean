
set_option maxRecDepth 20000 in
theorem m_X0_17 : MF RX0 17 2 yX1_init 0 := ⟨Or.inr (List.mem_of_getElem? (i := 107) (by decide +kernel)), (List.mem_of_getElem? (i := 43) (by decide +kernel)), ⟨by decide +kernel, by decide +kernel⟩, by decide +kernel, fun h => by omega, fun h => by omega, fun _ => ⟨(List.mem_of_getElem? (i := 108) (by decide +kernel)), rfl⟩⟩
set_option maxRecDepth 20000 in
theorem k_X1_init : Cond.code yX1_init cX1_init 1 none ∈ GT := (List.mem_of_getElem? (i := 109) (by decide +kernel))
set_option maxRecDepth 20000 in
theorem m_X4_27 : MF RX4 27 2 yX2_init 0 := ⟨Or.inr (List.mem_of_getElem? (i := 85) (by decide +kernel)), (List.mem_of_getElem? (i := 41) (by decide +kernel)), ⟨by decide +kernel, by decide +kernel⟩, by decide +kernel, fun h => by omega, fun h => by omega, fun _ => ⟨(List.mem_of_getElem? (i := 86) (by decide +kernel)), rfl⟩⟩
set_option maxRecDepth 20000 in
theorem k_X2_init : Cond.code yX2_init cX2_init 1 none ∈ GT := (List.mem_of_getElem? (i := 87) (by decide +kernel))
set_option maxRecDepth 20000 in
theorem m_X4_32 : MF RX4 32 2 yX0_init 0 := ⟨Or.inr (List.mem_of_getElem? (i := 101) (by decide +kernel)), (List.mem_of_getElem? (i := 42) (by decide +kernel)), ⟨by decide +kernel, by decide +kernel⟩, by decide +kernel, fun h => by omega, fun h => by omega, fun _ => ⟨(List.mem_of_getElem? (i := 102) (by decide +kernel)), rfl⟩⟩
set_option maxRecDepth 20000 in
theorem k_X0_init : Cond.code yX0_init cX0_init 1 none ∈ GT := (List.mem_of_getElem? (i := 103) (by decide +kernel))
section
variable {l : Launch} {D : va_G} {cy : Nat → ClassId} {n0 : Nat} {ad : Nat → Nat} {b : Nat → Nat} {E : va_W} {ws : va_W}
set_option maxHeartbeats 4000000 in
set_option maxRecDepth 100000 in
theorem c_X1_init {a : Nat} (hfl : l.stackTraces = false) : CT l D cy n0 ad yX1_init (.code yX1_init cX1_init 1 none) ({ frames := 1, cells := 3, slots := 122, locals := 20 }) [.ref a] ([(a, .inr (2, [.null, .int (zI 0), .null, .int (zI 0), .null]))] ++ E) (fun vv uu => ∃ q1 q2 q3, vv = none ∧ uu = ([(a, .inr (2, [.ref q1, .int (zI 0), .ref q2, .int (zI 0), .ref q3])), (q1, .inl (cy 0, 100, .inl (fun _ => zI 0))), (q2, .inl (cy 0, 10, .inl (fun _ => zI 0))), (q3, .inl (cy 0, 12, .inl (fun _ => zI 0)))] ++ E)) := by
  refine CT.walkI hfl (by decide) rfl (Nat.le_of_ble_eq_true rfl) ?_
  intro A J hJI
  have hJ := hJI.cx
  show J ([(a, .inr (2, [.null, .int (zI 0), .null, .int (zI 0), .null]))] ++ E) 0 0 0 [(0, .ref a)] []
  refine j_aload_n hJ (j := 0) rfl rfl dX1_init_0 ?_
  refine j_objInit hJ (List.mem_of_getElem? (i := 110) (by decide +kernel)) (Nat.le_of_ble_eq_true rfl) (Nat.le_of_ble_eq_true rfl) dX1_init_1 ?_
  refine j_aload_n hJ (j := 0) rfl rfl dX1_init_4 ?_
  refine j_bipush hJ (v := 100) (by decide) dX1_init_5 ?_
  refine j_newa hJ (ty := .int) (t := 0) (N' := 100) rfl (fun _ => rfl) arr_i rfl (by decide) (by decide) (fun _ => rfl) (Nat.le_of_ble_eq_true rfl) (Nat.le_of_ble_eq_true rfl) dX1_init_7 (fun q1 => ?_)
  refine j_perm hJ (perm_add _ _ _) ?_
  show J ([(a, .inr (2, [.null, .int (zI 0), .null, .int (zI 0), .null])), (q1, .inl (cy 0, 100, .inl (fun _ => zI 0)))] ++ E) 1 100 9 [(0, .ref a)] [.ref q1, .ref a]
  refine j_putF tyX1 hJI (q0 := 0) (a := a) (ci := 2) (k := 0) (v := .ref q1) rfl rfl (by decide) lays_X1 tyX1_ok rfl nmX1 (List.mem_of_getElem? (i := 111) (by decide +kernel)) rfl rfl rfl (by simp) dX1_init_9 ?_
  show J ([(a, .inr (2, [.ref q1, .int (zI 0), .null, .int (zI 0), .null])), (q1, .inl (cy 0, 100, .inl (fun _ => zI 0)))] ++ E) 1 100 12 [(0, .ref a)] []
  refine j_aload_n hJ (j := 0) rfl rfl dX1_init_12 ?_
  refine j_bipush hJ (v := 10) (by decide) dX1_init_13 ?_
  refine j_newa hJ (ty := .int) (t := 0) (N' := 10) rfl (fun _ => rfl) arr_i rfl (by decide) (by decide) (fun _ => rfl) (Nat.le_of_ble_eq_true rfl) (Nat.le_of_ble_eq_true rfl) dX1_init_15 (fun q2 => ?_)
  refine j_perm hJ (perm_add _ _ _) ?_
  show J ([(a, .inr (2, [.ref q1, .int (zI 0), .null, .int (zI 0), .null])), (q1, .inl (cy 0, 100, .inl (fun _ => zI 0))), (q2, .inl (cy 0, 10, .inl (fun _ => zI 0)))] ++ E) 2 110 17 [(0, .ref a)] [.ref q2, .ref a]
  refine j_putF tyX1 hJI (q0 := 0) (a := a) (ci := 2) (k := 2) (v := .ref q2) rfl rfl (by decide) lays_X1 tyX1_ok rfl nmX1 (List.mem_of_getElem? (i := 116) (by decide +kernel)) rfl rfl rfl (by simp) dX1_init_17 ?_
  show J ([(a, .inr (2, [.ref q1, .int (zI 0), .ref q2, .int (zI 0), .null])), (q1, .inl (cy 0, 100, .inl (fun _ => zI 0))), (q2, .inl (cy 0, 10, .inl (fun _ => zI 0)))] ++ E) 2 110 20 [(0, .ref a)] []
  refine j_aload_n hJ (j := 0) rfl rfl dX1_init_20 ?_
  refine j_bipush hJ (v := 12) (by decide) dX1_init_21 ?_
  refine j_newa hJ (ty := .int) (t := 0) (N' := 12) rfl (fun _ => rfl) arr_i rfl (by decide) (by decide) (fun _ => rfl) (Nat.le_of_ble_eq_true rfl) (Nat.le_of_ble_eq_true rfl) dX1_init_23 (fun q3 => ?_)
  refine j_perm hJ (perm_add _ _ _) ?_
  show J ([(a, .inr (2, [.ref q1, .int (zI 0), .ref q2, .int (zI 0), .null])), (q1, .inl (cy 0, 100, .inl (fun _ => zI 0))), (q2, .inl (cy 0, 10, .inl (fun _ => zI 0))), (q3, .inl (cy 0, 12, .inl (fun _ => zI 0)))] ++ E) 3 122 25 [(0, .ref a)] [.ref q3, .ref a]
  refine j_putF tyX1 hJI (q0 := 0) (a := a) (ci := 2) (k := 4) (v := .ref q3) rfl rfl (by decide) lays_X1 tyX1_ok rfl nmX1 (List.mem_of_getElem? (i := 119) (by decide +kernel)) rfl rfl rfl (by simp) dX1_init_25 ?_
  show J ([(a, .inr (2, [.ref q1, .int (zI 0), .ref q2, .int (zI 0), .ref q3])), (q1, .inl (cy 0, 100, .inl (fun _ => zI 0))), (q2, .inl (cy 0, 10, .inl (fun _ => zI 0))), (q3, .inl (cy 0, 12, .inl (fun _ => zI 0)))] ++ E) 3 122 28 [(0, .ref a)] []
  exact j_vret hJ rfl rfl (Nat.le_of_ble_eq_true rfl) (Nat.le_of_ble_eq_true rfl) dX1_init_28 ⟨q1, q2, q3, rfl, rfl⟩
set_option maxHeartbeats 4000000 in
set_option maxRecDepth 100000 in
theorem c_X2_init {a : Nat} (hfl : l.stackTraces = false) : CT l D cy n0 ad yX2_init (.code yX2_init cX2_init 1 none) ({ frames := 1, cells := 3, slots := 432, locals := 20 }) [.ref a] ([(a, .inr (3, [.null, .null, .null]))] ++ E) (fun vv uu => ∃ q1 q2 q3, vv = none ∧ uu = ([(a, .inr (3, [.ref q1, .ref q2, .ref q3])), (q1, .inl (cy 0, 144, .inl (fun _ => zI 0))), (q2, .inl (cy 0, 144, .inl (fun _ => zI 0))), (q3, .inl (cy 0, 144, .inl (fun _ => zI 0)))] ++ E)) := by
  refine CT.walkI hfl (by decide) rfl (Nat.le_of_ble_eq_true rfl) ?_
  intro A J hJI
  have hJ := hJI.cx
  show J ([(a, .inr (3, [.null, .null, .null]))] ++ E) 0 0 0 [(0, .ref a)] []
  refine j_aload_n hJ (j := 0) rfl rfl dX2_init_0 ?_
  refine j_objInit hJ (List.mem_of_getElem? (i := 88) (by decide +kernel)) (Nat.le_of_ble_eq_true rfl) (Nat.le_of_ble_eq_true rfl) dX2_init_1 ?_
  refine j_aload_n hJ (j := 0) rfl rfl dX2_init_4 ?_
  refine j_sipush hJ (v := 144) (by decide) dX2_init_5 ?_
  refine j_newa hJ (ty := .int) (t := 0) (N' := 144) rfl (fun _ => rfl) arr_i rfl (by decide) (by decide) (fun _ => rfl) (Nat.le_of_ble_eq_true rfl) (Nat.le_of_ble_eq_true rfl) dX2_init_8 (fun q1 => ?_)
  refine j_perm hJ (perm_add _ _ _) ?_
  show J ([(a, .inr (3, [.null, .null, .null])), (q1, .inl (cy 0, 144, .inl (fun _ => zI 0)))] ++ E) 1 144 10 [(0, .ref a)] [.ref q1, .ref a]
  refine j_putF tyX2 hJI (q0 := 0) (a := a) (ci := 3) (k := 0) (v := .ref q1) rfl rfl (by decide) lays_X2 tyX2_ok rfl nmX2 (List.mem_of_getElem? (i := 89) (by decide +kernel)) rfl rfl rfl (by simp) dX2_init_10 ?_
  show J ([(a, .inr (3, [.ref q1, .null, .null])), (q1, .inl (cy 0, 144, .inl (fun _ => zI 0)))] ++ E) 1 144 13 [(0, .ref a)] []
  refine j_aload_n hJ (j := 0) rfl rfl dX2_init_13 ?_
  refine j_sipush hJ (v := 144) (by decide) dX2_init_14 ?_
  refine j_newa hJ (ty := .int) (t := 0) (N' := 144) rfl (fun _ => rfl) arr_i rfl (by decide) (by decide) (fun _ => rfl) (Nat.le_of_ble_eq_true rfl) (Nat.le_of_ble_eq_true rfl) dX2_init_17 (fun q2 => ?_)
  refine j_perm hJ (perm_add _ _ _) ?_
  show J ([(a, .inr (3, [.ref q1, .null, .null])), (q1, .inl (cy 0, 144, .inl (fun _ => zI 0))), (q2, .inl (cy 0, 144, .inl (fun _ => zI 0)))] ++ E) 2 288 19 [(0, .ref a)] [.ref q2, .ref a]
  refine j_putF tyX2 hJI (q0 := 0) (a := a) (ci := 3) (k := 1) (v := .ref q2) rfl rfl (by decide) lays_X2 tyX2_ok rfl nmX2 (List.mem_of_getElem? (i := 90) (by decide +kernel)) rfl rfl rfl (by simp) dX2_init_19 ?_
  show J ([(a, .inr (3, [.ref q1, .ref q2, .null])), (q1, .inl (cy 0, 144, .inl (fun _ => zI 0))), (q2, .inl (cy 0, 144, .inl (fun _ => zI 0)))] ++ E) 2 288 22 [(0, .ref a)] []
  refine j_aload_n hJ (j := 0) rfl rfl dX2_init_22 ?_
  refine j_sipush hJ (v := 144) (by decide) dX2_init_23 ?_
  refine j_newa hJ (ty := .int) (t := 0) (N' := 144) rfl (fun _ => rfl) arr_i rfl (by decide) (by decide) (fun _ => rfl) (Nat.le_of_ble_eq_true rfl) (Nat.le_of_ble_eq_true rfl) dX2_init_26 (fun q3 => ?_)
  refine j_perm hJ (perm_add _ _ _) ?_
  show J ([(a, .inr (3, [.ref q1, .ref q2, .null])), (q1, .inl (cy 0, 144, .inl (fun _ => zI 0))), (q2, .inl (cy 0, 144, .inl (fun _ => zI 0))), (q3, .inl (cy 0, 144, .inl (fun _ => zI 0)))] ++ E) 3 432 28 [(0, .ref a)] [.ref q3, .ref a]
  refine j_putF tyX2 hJI (q0 := 0) (a := a) (ci := 3) (k := 2) (v := .ref q3) rfl rfl (by decide) lays_X2 tyX2_ok rfl nmX2 (List.mem_of_getElem? (i := 91) (by decide +kernel)) rfl rfl rfl (by simp) dX2_init_28 ?_
  show J ([(a, .inr (3, [.ref q1, .ref q2, .ref q3])), (q1, .inl (cy 0, 144, .inl (fun _ => zI 0))), (q2, .inl (cy 0, 144, .inl (fun _ => zI 0))), (q3, .inl (cy 0, 144, .inl (fun _ => zI 0)))] ++ E) 3 432 31 [(0, .ref a)] []
  exact j_vret hJ rfl rfl (Nat.le_of_ble_eq_true rfl) (Nat.le_of_ble_eq_true rfl) dX2_init_31 ⟨q1, q2, q3, rfl, rfl⟩
set_option maxHeartbeats 4000000 in
set_option maxRecDepth 100000 in
theorem c_X0_init {a : Nat} (hfl : l.stackTraces = false) : CT l D cy n0 ad yX0_init (.code yX0_init cX0_init 1 none) ({ frames := 2, cells := 5, slots := 131, locals := 40 }) [.ref a] ([(a, .inr (1, [.null, .int (zI 0), .int (zI 0), .null]))] ++ E) (fun vv uu => ∃ b : Nat → Nat, vv = none ∧ b 0 = a ∧ uu = stW cy b ++ E) := by
  refine CT.walkI hfl (by decide) rfl (Nat.le_of_ble_eq_true rfl) ?_
  intro A J hJI
  have hJ := hJI.cx
  show J ([(a, .inr (1, [.null, .int (zI 0), .int (zI 0), .null]))] ++ E) 0 0 0 [(0, .ref a)] []
  refine j_aload_n hJ (j := 0) rfl rfl dX0_init_0 ?_
  refine j_objInit hJ (List.mem_of_getElem? (i := 104) (by decide +kernel)) (Nat.le_of_ble_eq_true rfl) (Nat.le_of_ble_eq_true rfl) dX0_init_1 ?_
  refine j_aload_n hJ (j := 0) rfl rfl dX0_init_4 ?_
  refine j_iconst hJ dX0_init_5 ?_
  refine j_newa hJ (ty := .int) (t := 0) (N' := 4) rfl (fun _ => rfl) arr_i rfl (by decide) (by decide) (fun _ => rfl) (Nat.le_of_ble_eq_true rfl) (Nat.le_of_ble_eq_true rfl) dX0_init_6 (fun q1 => ?_)
  refine j_perm hJ (perm_add _ _ _) ?_
  show J ([(a, .inr (1, [.null, .int (zI 0), .int (zI 0), .null])), (q1, .inl (cy 0, 4, .inl (fun _ => zI 0)))] ++ E) 1 4 8 [(0, .ref a)] [.ref q1, .ref a]
  refine j_putF tyX0 hJI (q0 := 0) (a := a) (ci := 1) (k := 0) (v := .ref q1) rfl rfl (by decide) lays_X0 tyX0_ok rfl nmX0 (List.mem_of_getElem? (i := 131) (by decide +kernel)) rfl rfl rfl (by simp) dX0_init_8 ?_
  show J ([(a, .inr (1, [.ref q1, .int (zI 0), .int (zI 0), .null])), (q1, .inl (cy 0, 4, .inl (fun _ => zI 0)))] ++ E) 1 4 11 [(0, .ref a)] []
  refine j_aload_n hJ (j := 0) rfl rfl dX0_init_11 ?_
  refine j_new tyX1 hJ (ci := 2) (fs := [.null, .int (zI 0), .null, .int (zI 0), .null]) rfl lays_X1 tyX1_ok (List.mem_of_getElem? (i := 105) (by decide +kernel)) (List.mem_of_getElem? (i := 106) (by decide +kernel)) (List.mem_of_getElem? (i := 43) (by decide +kernel)) (fun j hj => by rcases (show j = 0 ∨ j = 1 ∨ j = 2 ∨ j = 3 ∨ j = 4 by omega) with rfl | rfl | rfl | rfl | rfl <;> rfl) (Nat.le_of_ble_eq_true rfl) (Nat.le_of_ble_eq_true rfl) dX0_init_12 (fun q2 => ?_)
  refine j_perm hJ (List.perm_append_singleton _ _) ?_
  show J ([(q2, .inr (2, [.null, .int (zI 0), .null, .int (zI 0), .null]))] ++ ([(a, .inr (1, [.ref q1, .int (zI 0), .int (zI 0), .null])), (q1, .inl (cy 0, 4, .inl (fun _ => zI 0)))] ++ E)) 2 9 15 [(0, .ref a)] [.ref q2, .ref a]
  refine j_dup hJ rfl dX0_init_15 ?_
  refine j_callI0 (ce := 2) (sl := 9) hJ (c_X1_init (a := q2) (E := ([(a, .inr (1, [.ref q1, .int (zI 0), .int (zI 0), .null])), (q1, .inl (cy 0, 4, .inl (fun _ => zI 0)))] ++ E)) hfl) m_X0_17 k_X1_init ⟨(Nat.le_of_ble_eq_true rfl), (Nat.le_of_ble_eq_true rfl)⟩ ⟨(Nat.le_of_ble_eq_true rfl), (Nat.le_of_ble_eq_true rfl)⟩ (rest := [.ref q2, .ref a]) (Nat.le_of_ble_eq_true rfl) dX0_init_16 rfl ?_
  intro v9 u9 hv9
  obtain ⟨q3, q4, q5, rfl, rfl⟩ := hv9
  refine j_perm hJ (perm_mid _ _ _) ?_
  show J ([(a, .inr (1, [.ref q1, .int (zI 0), .int (zI 0), .null])), (q1, .inl (cy 0, 4, .inl (fun _ => zI 0))), (q2, .inr (2, [.ref q3, .int (zI 0), .ref q4, .int (zI 0), .ref q5])), (q3, .inl (cy 0, 100, .inl (fun _ => zI 0))), (q4, .inl (cy 0, 10, .inl (fun _ => zI 0))), (q5, .inl (cy 0, 12, .inl (fun _ => zI 0)))] ++ E) 5 131 19 [(0, .ref a)] [.ref q2, .ref a]
  refine j_putF tyX0 hJI (q0 := 0) (a := a) (ci := 1) (k := 3) (v := .ref q2) rfl rfl (by decide) lays_X0 tyX0_ok rfl nmX0 (List.mem_of_getElem? (i := 137) (by decide +kernel)) rfl rfl rfl (by simp) dX0_init_19 ?_
  show J ([(a, .inr (1, [.ref q1, .int (zI 0), .int (zI 0), .ref q2])), (q1, .inl (cy 0, 4, .inl (fun _ => zI 0))), (q2, .inr (2, [.ref q3, .int (zI 0), .ref q4, .int (zI 0), .ref q5])), (q3, .inl (cy 0, 100, .inl (fun _ => zI 0))), (q4, .inl (cy 0, 10, .inl (fun _ => zI 0))), (q5, .inl (cy 0, 12, .inl (fun _ => zI 0)))] ++ E) 5 131 22 [(0, .ref a)] []
  exact j_vret hJ rfl rfl (Nat.le_of_ble_eq_true rfl) (Nat.le_of_ble_eq_true rfl) dX0_init_22 ⟨fun k => [a, q1, q2, q3, q4, q5].getD k 0, rfl, rfl, rfl⟩
set_option maxHeartbeats 4000000 in
set_option maxRecDepth 100000 in
theorem c_X4_init {a : Nat} (hfl : l.stackTraces = false) : CT l D cy n0 ad yX4_init (.code yX4_init cX4_init 2 none) ({ frames := 3, cells := 104, slots := 2643, locals := 60 }) [.ref a] ([(a, .inr (4, [.null, .null, .int (zI 0), .null, .null, .null]))] ++ E) (fun vv uu => ∃ b : Nat → Nat, vv = none ∧ b 0 = a ∧ uu = gw 105 XSh cy b mu0 ++ E) := by
  refine CT.walkI hfl (by decide) rfl (Nat.le_of_ble_eq_true rfl) ?_
  intro A J hJI
  have hJ := hJI.cx
  show J ([(a, .inr (4, [.null, .null, .int (zI 0), .null, .null, .null]))] ++ E) 0 0 0 [(0, .ref a)] []
  refine j_aload_n hJ (j := 0) rfl rfl dX4_init_0 ?_
  refine j_objInit hJ (List.mem_of_getElem? (i := 78) (by decide +kernel)) (Nat.le_of_ble_eq_true rfl) (Nat.le_of_ble_eq_true rfl) dX4_init_1 ?_
  refine j_aload_n hJ (j := 0) rfl rfl dX4_init_4 ?_
  refine j_bipush hJ (v := 24) (by decide) dX4_init_5 ?_
  refine j_newa hJ (ty := .int) (t := 0) (N' := 24) rfl (fun _ => rfl) arr_i rfl (by decide) (by decide) (fun _ => rfl) (Nat.le_of_ble_eq_true rfl) (Nat.le_of_ble_eq_true rfl) dX4_init_7 (fun q1 => ?_)
  refine j_perm hJ (perm_add _ _ _) ?_
  show J ([(a, .inr (4, [.null, .null, .int (zI 0), .null, .null, .null])), (q1, .inl (cy 0, 24, .inl (fun _ => zI 0)))] ++ E) 1 24 9 [(0, .ref a)] [.ref q1, .ref a]
  refine j_putF tyX4 hJI (q0 := 0) (a := a) (ci := 4) (k := 0) (v := .ref q1) rfl rfl (by decide) lays_X4 tyX4_ok rfl nmX4 (List.mem_of_getElem? (i := 149) (by decide +kernel)) rfl rfl rfl (by simp) dX4_init_9 ?_
  show J ([(a, .inr (4, [.ref q1, .null, .int (zI 0), .null, .null, .null])), (q1, .inl (cy 0, 24, .inl (fun _ => zI 0)))] ++ E) 1 24 12 [(0, .ref a)] []
  refine j_aload_n hJ (j := 0) rfl rfl dX4_init_12 ?_
  refine j_bipush hJ (v := 16) (by decide) dX4_init_13 ?_
  refine j_newq hJ (t := 2) (N' := 16) (C := RX0) (fun _ => rfl) (List.mem_of_getElem? (i := 82) (by decide +kernel)) (List.mem_of_getElem? (i := 81) (by decide +kernel)) rfl (by decide) (Nat.le_of_ble_eq_true rfl) (Nat.le_of_ble_eq_true rfl) dX4_init_15 (fun q2 => ?_)
  refine j_perm hJ (perm_add _ _ _) ?_
  show J ([(a, .inr (4, [.ref q1, .null, .int (zI 0), .null, .null, .null])), (q1, .inl (cy 0, 24, .inl (fun _ => zI 0))), (q2, .inl (cy 2, 16, .inr (.inr (.inr (.inr (fun _ => none))))))] ++ E) 2 40 18 [(0, .ref a)] [.ref q2, .ref a]
  refine j_putF tyX4 hJI (q0 := 0) (a := a) (ci := 4) (k := 1) (v := .ref q2) rfl rfl (by decide) lays_X4 tyX4_ok rfl nmX4 (List.mem_of_getElem? (i := 150) (by decide +kernel)) rfl rfl rfl (by simp) dX4_init_18 ?_
  show J ([(a, .inr (4, [.ref q1, .ref q2, .int (zI 0), .null, .null, .null])), (q1, .inl (cy 0, 24, .inl (fun _ => zI 0))), (q2, .inl (cy 2, 16, .inr (.inr (.inr (.inr (fun _ => none))))))] ++ E) 2 40 21 [(0, .ref a)] []
  refine j_aload_n hJ (j := 0) rfl rfl dX4_init_21 ?_
  refine j_iconst hJ dX4_init_22 ?_
  refine j_newa hJ (ty := .int) (t := 0) (N' := 4) rfl (fun _ => rfl) arr_i rfl (by decide) (by decide) (fun _ => rfl) (Nat.le_of_ble_eq_true rfl) (Nat.le_of_ble_eq_true rfl) dX4_init_23 (fun q3 => ?_)
  refine j_perm hJ (perm_add _ _ _) ?_
  show J ([(a, .inr (4, [.ref q1, .ref q2, .int (zI 0), .null, .null, .null])), (q1, .inl (cy 0, 24, .inl (fun _ => zI 0))), (q2, .inl (cy 2, 16, .inr (.inr (.inr (.inr (fun _ => none)))))), (q3, .inl (cy 0, 4, .inl (fun _ => zI 0)))] ++ E) 3 44 25 [(0, .ref a)] [.ref q3, .ref a]
  refine j_putF tyX4 hJI (q0 := 0) (a := a) (ci := 4) (k := 3) (v := .ref q3) rfl rfl (by decide) lays_X4 tyX4_ok rfl nmX4 (List.mem_of_getElem? (i := 152) (by decide +kernel)) rfl rfl rfl (by simp) dX4_init_25 ?_
  show J ([(a, .inr (4, [.ref q1, .ref q2, .int (zI 0), .ref q3, .null, .null])), (q1, .inl (cy 0, 24, .inl (fun _ => zI 0))), (q2, .inl (cy 2, 16, .inr (.inr (.inr (.inr (fun _ => none)))))), (q3, .inl (cy 0, 4, .inl (fun _ => zI 0)))] ++ E) 3 44 28 [(0, .ref a)] []
  refine j_aload_n hJ (j := 0) rfl rfl dX4_init_28 ?_
  refine j_iconst hJ dX4_init_29 ?_
  refine j_newa hJ (ty := .int) (t := 0) (N' := 4) rfl (fun _ => rfl) arr_i rfl (by decide) (by decide) (fun _ => rfl) (Nat.le_of_ble_eq_true rfl) (Nat.le_of_ble_eq_true rfl) dX4_init_30 (fun q4 => ?_)
  refine j_perm hJ (perm_add _ _ _) ?_
  show J ([(a, .inr (4, [.ref q1, .ref q2, .int (zI 0), .ref q3, .null, .null])), (q1, .inl (cy 0, 24, .inl (fun _ => zI 0))), (q2, .inl (cy 2, 16, .inr (.inr (.inr (.inr (fun _ => none)))))), (q3, .inl (cy 0, 4, .inl (fun _ => zI 0))), (q4, .inl (cy 0, 4, .inl (fun _ => zI 0)))] ++ E) 4 48 32 [(0, .ref a)] [.ref q4, .ref a]
  refine j_putF tyX4 hJI (q0 := 0) (a := a) (ci := 4) (k := 4) (v := .ref q4) rfl rfl (by decide) lays_X4 tyX4_ok rfl nmX4 (List.mem_of_getElem? (i := 153) (by decide +kernel)) rfl rfl rfl (by simp) dX4_init_32 ?_
  show J ([(a, .inr (4, [.ref q1, .ref q2, .int (zI 0), .ref q3, .ref q4, .null])), (q1, .inl (cy 0, 24, .inl (fun _ => zI 0))), (q2, .inl (cy 2, 16, .inr (.inr (.inr (.inr (fun _ => none)))))), (q3, .inl (cy 0, 4, .inl (fun _ => zI 0))), (q4, .inl (cy 0, 4, .inl (fun _ => zI 0)))] ++ E) 4 48 35 [(0, .ref a)] []
  refine j_aload_n hJ (j := 0) rfl rfl dX4_init_35 ?_
  refine j_new tyX2 hJ (ci := 3) (fs := [.null, .null, .null]) rfl lays_X2 tyX2_ok (List.mem_of_getElem? (i := 83) (by decide +kernel)) (List.mem_of_getElem? (i := 84) (by decide +kernel)) (List.mem_of_getElem? (i := 41) (by decide +kernel)) (fun j hj => by rcases (show j = 0 ∨ j = 1 ∨ j = 2 by omega) with rfl | rfl | rfl <;> rfl) (Nat.le_of_ble_eq_true rfl) (Nat.le_of_ble_eq_true rfl) dX4_init_36 (fun q5 => ?_)
  refine j_perm hJ (List.perm_append_singleton _ _) ?_
  show J ([(q5, .inr (3, [.null, .null, .null]))] ++ ([(a, .inr (4, [.ref q1, .ref q2, .int (zI 0), .ref q3, .ref q4, .null])), (q1, .inl (cy 0, 24, .inl (fun _ => zI 0))), (q2, .inl (cy 2, 16, .inr (.inr (.inr (.inr (fun _ => none)))))), (q3, .inl (cy 0, 4, .inl (fun _ => zI 0))), (q4, .inl (cy 0, 4, .inl (fun _ => zI 0)))] ++ E)) 5 51 39 [(0, .ref a)] [.ref q5, .ref a]
  refine j_dup hJ rfl dX4_init_39 ?_
  refine j_callI0 (ce := 5) (sl := 51) hJ (c_X2_init (a := q5) (E := ([(a, .inr (4, [.ref q1, .ref q2, .int (zI 0), .ref q3, .ref q4, .null])), (q1, .inl (cy 0, 24, .inl (fun _ => zI 0))), (q2, .inl (cy 2, 16, .inr (.inr (.inr (.inr (fun _ => none)))))), (q3, .inl (cy 0, 4, .inl (fun _ => zI 0))), (q4, .inl (cy 0, 4, .inl (fun _ => zI 0)))] ++ E)) hfl) m_X4_27 k_X2_init ⟨(Nat.le_of_ble_eq_true rfl), (Nat.le_of_ble_eq_true rfl)⟩ ⟨(Nat.le_of_ble_eq_true rfl), (Nat.le_of_ble_eq_true rfl)⟩ (rest := [.ref q5, .ref a]) (Nat.le_of_ble_eq_true rfl) dX4_init_40 rfl ?_
  intro v9 u9 hv9
  obtain ⟨q6, q7, q8, rfl, rfl⟩ := hv9
  refine j_perm hJ (perm_mid _ _ _) ?_
  show J ([(a, .inr (4, [.ref q1, .ref q2, .int (zI 0), .ref q3, .ref q4, .null])), (q1, .inl (cy 0, 24, .inl (fun _ => zI 0))), (q2, .inl (cy 2, 16, .inr (.inr (.inr (.inr (fun _ => none)))))), (q3, .inl (cy 0, 4, .inl (fun _ => zI 0))), (q4, .inl (cy 0, 4, .inl (fun _ => zI 0))), (q5, .inr (3, [.ref q6, .ref q7, .ref q8])), (q6, .inl (cy 0, 144, .inl (fun _ => zI 0))), (q7, .inl (cy 0, 144, .inl (fun _ => zI 0))), (q8, .inl (cy 0, 144, .inl (fun _ => zI 0)))] ++ E) 8 483 43 [(0, .ref a)] [.ref q5, .ref a]
  refine j_putF tyX4 hJI (q0 := 0) (a := a) (ci := 4) (k := 5) (v := .ref q5) rfl rfl (by decide) lays_X4 tyX4_ok rfl nmX4 (List.mem_of_getElem? (i := 154) (by decide +kernel)) rfl rfl rfl (by simp) dX4_init_43 ?_
  show J ([(a, .inr (4, [.ref q1, .ref q2, .int (zI 0), .ref q3, .ref q4, .ref q5])), (q1, .inl (cy 0, 24, .inl (fun _ => zI 0))), (q2, .inl (cy 2, 16, .inr (.inr (.inr (.inr (fun _ => none)))))), (q3, .inl (cy 0, 4, .inl (fun _ => zI 0))), (q4, .inl (cy 0, 4, .inl (fun _ => zI 0))), (q5, .inr (3, [.ref q6, .ref q7, .ref q8])), (q6, .inl (cy 0, 144, .inl (fun _ => zI 0))), (q7, .inl (cy 0, 144, .inl (fun _ => zI 0))), (q8, .inl (cy 0, 144, .inl (fun _ => zI 0)))] ++ E) 8 483 46 [(0, .ref a)] []
  obtain ⟨base, hbase⟩ : ∃ base : Nat → Nat, base = fun k => [a, q1, q2, q3, q4, q5, q6, q7, q8].getD k 0 := ⟨_, rfl⟩
  have hb0 : base 0 = a := by rw [hbase]; rfl
  have hw : ([(a, .inr (4, [.ref q1, .ref q2, .int (zI 0), .ref q3, .ref q4, .ref q5])), (q1, .inl (cy 0, 24, .inl (fun _ => zI 0))), (q2, .inl (cy 2, 16, .inr (.inr (.inr (.inr (fun _ => none)))))), (q3, .inl (cy 0, 4, .inl (fun _ => zI 0))), (q4, .inl (cy 0, 4, .inl (fun _ => zI 0))), (q5, .inr (3, [.ref q6, .ref q7, .ref q8])), (q6, .inl (cy 0, 144, .inl (fun _ => zI 0))), (q7, .inl (cy 0, 144, .inl (fun _ => zI 0))), (q8, .inl (cy 0, 144, .inl (fun _ => zI 0)))] : va_W) = baW cy base (fun j => zI (rK 0 j)) (fun _ => none) := by
    have e1 : (fun j : Nat => zI (rK 0 (j : Int))) = fun _ => zI 0 := by funext j; rw [show rK 0 (j : Int) = 0 from if_neg (fun g => by have := g.1; have := g.2; omega)]
    rw [e1, hbase]; rfl
  rw [hw, ← hb0]
  refine j_iconst hJ dX4_init_46 ?_
  refine j_istore_n hJ (lv' := [(1, .int (zI 0)), (0, .ref (base 0))]) rfl (by decide) rfl dX4_init_47 ?_
  have lp48 : ∀ (nn48 : Nat) (k : Nat) (hmeas48 : 4 - k < nn48) (hk : k ≤ 4), J (baW cy base (fun j => zI (rK k j)) (fun _ => none) ++ E) 8 483 48 [(0, .ref (base 0)), (1, .int (zI (k : Int)))] [] := by
    intro nn48
    induction nn48 with
    | zero => intro k hmeas48 hk; omega
    | succ nn48 ih48 =>
      intro k hmeas48 hk
      refine j_iload_n hJ (j := 1) rfl rfl dX4_init_48 ?_
      refine j_iconst hJ dX4_init_49 ?_
      refine j_icmp_ge hJ (tgt := 66) ⟨by omega, by omega⟩ ⟨by omega, by omega⟩ (by decide) dX4_init_50 ?_ ?_
      · intro h50
        have hk4 : k = 4 := by omega
        subst hk4
        have e4 : (fun j : Nat => zI (rK 4 (j : Int))) = fun j : Nat => zI (kd0 (j : Int)) := rfl
        refine j_iconst hJ dX4_init_66 ?_
        refine j_istore_n hJ (lv' := [(1, .int (zI 0)), (0, .ref (base 0))]) rfl (by decide) rfl dX4_init_67 ?_
        have lp68 : ∀ (nn68 : Nat) (bb : Nat → Nat → Nat) (g : Nat → Option Nat) (k : Nat) (hmeas68 : 16 - k < nn68) (hk : k ≤ 16) (hg : ∀ j, j < k → g j = some (bb j 0)), J (baW cy base (fun j => zI (kd0 j)) g ++ (stL cy bb k ++ E)) (8 + 6 * k) (483 + 135 * k) 68 [(0, .ref (base 0)), (1, .int (zI (k : Int)))] [] := by
          intro nn68
          induction nn68 with
          | zero => intro bb g k hmeas68 hk hg; omega
          | succ nn68 ih68 =>
            intro bb g k hmeas68 hk hg
            refine j_iload_n hJ (j := 1) rfl rfl dX4_init_68 ?_
            refine j_bipush hJ (v := 16) (by decide) dX4_init_69 ?_
            refine j_icmp_ge hJ (tgt := 93) ⟨by omega, by omega⟩ ⟨by omega, by omega⟩ (by decide) dX4_init_71 ?_ ?_
            · intro h71
              have hk16 : k = 16 := by omega
              subst hk16
              refine j_rowq hJ (q0 := 2) (g := fun j => some (bb j 0)) rfl (fun j hj => hg j hj) ?_
              have e9 : (baW cy base (fun j => zI (kd0 j)) g ++ (stL cy bb 16 ++ E)).set 2 (base 2, .inl (cy 2, 16, .inr (.inr (.inr (.inr (fun j => some (bb j 0))))))) = gw 105 XSh cy (adB base bb) mu0 ++ E := by
                rw [gwX_of, List.append_assoc]; rfl
              rw [e9]
              exact j_vret hJ rfl rfl (by dsimp only; omega) (by dsimp only; omega) dX4_init_93 ⟨adB base bb, rfl, hb0, rfl⟩
            · intro h71
              refine j_aload_n hJ (j := 0) rfl rfl dX4_init_74 ?_
              refine j_get (v := .ref (base 2)) hJ (q0 := 0) (k := 1) rfl f_X4_15 rfl dX4_init_75 ?_
              refine j_iload_n hJ (j := 1) rfl rfl dX4_init_78 ?_
              refine j_new tyX0 hJ (ci := 1) (fs := [.null, .int (zI 0), .int (zI 0), .null]) rfl lays_X0 tyX0_ok (List.mem_of_getElem? (i := 81) (by decide +kernel)) (List.mem_of_getElem? (i := 100) (by decide +kernel)) (List.mem_of_getElem? (i := 42) (by decide +kernel)) (fun j hj => by rcases (show j = 0 ∨ j = 1 ∨ j = 2 ∨ j = 3 by omega) with rfl | rfl | rfl | rfl <;> rfl) (by dsimp only; omega) (by dsimp only; omega) dX4_init_79 (fun s => ?_)
              refine j_dup hJ rfl dX4_init_82 ?_
              refine j_perm hJ (ws' := [(s, .inr (1, [.null, .int (zI 0), .int (zI 0), .null]))] ++ (baW cy base (fun j => zI (kd0 j)) g ++ (stL cy bb k ++ E))) (List.perm_append_singleton _ _) ?_
              refine j_callI0 hJ (c_X0_init (a := s) (E := baW cy base (fun j => zI (kd0 j)) g ++ (stL cy bb k ++ E)) hfl) m_X4_32 k_X0_init ⟨(Nat.le_of_ble_eq_true rfl), (Nat.le_of_ble_eq_true rfl)⟩ ⟨by dsimp only; omega, by dsimp only; omega⟩ (Nat.le_of_ble_eq_true rfl) dX4_init_83 rfl ?_
              intro v9 u9 hv9
              obtain ⟨b6, rfl, rfl, rfl⟩ := hv9
              refine j_astq hJ (q0 := 8) (qk := 0) (t := 2) (ci := 1) (r := (RX0, TX0, 4)) (n := 16) (f := g) rfl (fun _ => rfl) rfl rfl (by decide) (by omega) (by omega) dX4_init_86 ?_
              refine j_perm hJ (ws' := baW cy base (fun j => zI (kd0 j)) (va_up g k (some (b6 0))) ++ (stL cy (fset bb k b6) (k + 1) ++ E)) ?_ ?_
              · rw [Int.toNat_natCast, stL_succ, fset_at, stL_congr (b := fset bb k b6) (b' := bb) (fun i hi => fset_ne (by omega))]
                exact perm_str (stW cy b6) (baW cy base (fun j => zI (kd0 j)) (va_up g k (some (b6 0)))) (stL cy bb k) E
              refine j_iinc hJ (lv' := [(1, .int (zI ((k : Int) + 1))), (0, .ref (base 0))]) (j := 1) rfl (by omega) (by decide) rfl dX4_init_87 ?_
              refine j_goto hJ (tgt := 68) (by decide) dX4_init_90 ?_
              refine j_locs hJ [1, 0] rfl ?_
              refine j_widen hJ (ce' := 8 + 6 * (k + 1)) (sl' := 483 + 135 * (k + 1)) (by (try dsimp only); omega) (by (try dsimp only); omega) ?_
              refine ih68 (fset bb k b6) (va_up g k (some (b6 0))) (k + 1) (by omega) (by omega) ?_
              · intro j hj
                by_cases e : j = k
                · subst e; rw [va_up_self, fset_at]
                · unfold va_up; rw [if_neg e, fset_ne e]; exact hg j (by omega)
        refine j_locs hJ [1, 0] rfl ?_
        refine j_widen hJ (ce' := 8 + 6 * 0) (sl' := 483 + 135 * 0) (by (try dsimp only); omega) (by (try dsimp only); omega) ?_
        exact lp68 (16 - 0 + 1) (fun _ _ => 0) (fun _ => none) 0 (by omega) (by omega) (by intro j hj; omega)
      · intro h50
        refine j_aload_n hJ (j := 0) rfl rfl dX4_init_53 ?_
        refine j_get (v := .ref (base 1)) hJ (q0 := 0) (k := 0) rfl f_X4_9 rfl dX4_init_54 ?_
        refine j_iload_n hJ (j := 1) rfl rfl dX4_init_57 ?_
        refine j_iconst hJ dX4_init_58 ?_
        refine j_iastC hJ (q0 := 1) (n := 24) rfl (by decide) (by omega) (by omega) dX4_init_59 ?_
        have e1 : upd (fun j : Nat => zI (rK k (j : Int))) ((k : Int)).toNat (zI 1) = fun j : Nat => zI (rK (k + 1) (j : Int)) := rK_step k
        rw [e1]
        show J (baW cy base (fun j => zI (rK (k + 1) j)) (fun _ => none) ++ E) 8 483 60 [(0, .ref (base 0)), (1, .int (zI (k : Int)))] []
        refine j_iinc hJ (lv' := [(1, .int (zI ((k : Int) + 1))), (0, .ref (base 0))]) (j := 1) rfl (by omega) (by decide) rfl dX4_init_60 ?_
        refine j_goto hJ (tgt := 48) (by decide) dX4_init_63 ?_
        refine j_locs hJ [1, 0] rfl ?_
        exact ih48 (k + 1) (by omega) (by omega)
  refine j_locs hJ [1, 0] rfl ?_
  exact lp48 (4 - 0 + 1) 0 (by omega) (by omega)
end
