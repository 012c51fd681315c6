/-! the law: its entry -/
set_option maxRecDepth 20000 in
theorem mx_L_168 : MX RL 168 1 yL_holds 1 := ⟨(List.mem_of_getElem? (i := 70) (by decide +kernel)), (List.mem_of_getElem? (i := 39) (by decide +kernel)), ⟨by decide +kernel, by decide +kernel⟩, by decide +kernel, fun h => by omega, fun _ => (List.mem_of_getElem? (i := 71) (by decide +kernel))⟩
set_option maxRecDepth 20000 in
theorem k_L_holds : Cond.code yL_holds cL_holds 14 (some .boolean) ∈ GT := (List.mem_of_getElem? (i := 72) (by rfl))
set_option maxRecDepth 20000 in
theorem mx_L_176 : MX RL 176 1 yL_isHeld 1 := ⟨(List.mem_of_getElem? (i := 64) (by decide +kernel)), (List.mem_of_getElem? (i := 39) (by decide +kernel)), ⟨by decide +kernel, by decide +kernel⟩, by decide +kernel, fun h => by omega, fun _ => (List.mem_of_getElem? (i := 65) (by decide +kernel))⟩
set_option maxRecDepth 20000 in
theorem kw_L_isHeld : Cond.codeWith yL_isHeld cL_isHeld 2 (some .boolean) [(0, 4, 5, 172), (0, 4, 8, 116), (0, 4, 11, 174)] ∈ GT := (List.mem_of_getElem? (i := 66) (by decide +kernel))
section LAWB
variable {l : Launch} {D : va_G} {cy : Nat → ClassId} {n0 : Nat} {ad : Nat → Nat} {PR : Option Value → va_W → Prop} {PX : String → va_W → Prop} {fin : Bool} {ET : List ExceptionTableEntry} {J : JT} {sb L : Nat} {xs : Nat → Int32}
set_option maxRecDepth 100000 in
theorem c_L_isHeld (hfl : l.stackTraces = false) (hL : L ≤ 260) : CTX l D cy n0 ad (XSL sb L xs n0) yL_isHeld (.codeWith yL_isHeld cL_isHeld 2 (some .boolean) [(0, 4, 5, 172), (0, 4, 8, 116), (0, 4, 11, 174)]) ({ frames := 14, cells := 150000, slots := 5700000, locals := 343 }) [.ref sb] [] (fun vv _ => vv = some (.int (zI 1))) := by
  refine CTX.walkH hfl (by decide) (Nat.le_of_ble_eq_true rfl) ?_
  intro A J hJ
  show J [] 0 0 0 [(0, .ref sb)] []
  refine j_aload_n hJ (j := 0) rfl rfl dL_isHeld_0 ?_
  refine j_callSC XSL.mv hJ (c_L_holds hfl hL) mx_L_168 k_L_holds ⟨(Nat.le_of_ble_eq_true rfl), (Nat.le_of_ble_eq_true rfl)⟩ ⟨by show 0 + 150000 ≤ 150000; omega, by show 0 + 5700000 ≤ 5700000; omega⟩ (Nat.le_of_ble_eq_true rfl) dL_isHeld_1 rfl ?_
  intro v u hv
  obtain rfl := hv
  exact j_iret hJ (z := 1) rfl rfl rfl (by show 0 + 150000 ≤ 150000; omega) (by show 0 + 5700000 ≤ 5700000; omega) dL_isHeld_4 rfl
set_option maxRecDepth 100000 in
theorem law_body (hfl : l.stackTraces = false) (hJ : Cx l D cy n0 ad RL cL_law 1 (some .boolean) room_1 (AN n0) PR PX (XSL sb L xs n0) fin ET J) (hL : L ≤ 260) (hend : ∀ ws ce sl lv, ce ≤ 561356 → sl ≤ 7417558 → J ws ce sl 4 lv [.int (zI 1)]) : J [] 0 0 0 [(0, .ref sb)] [] := by
  refine j_aload_n hJ (j := 0) rfl rfl dL_law_0 ?_
  refine j_callSW (XSL.mv (sb := sb) (L := L) (xs := xs)) (fun _ h => h) hJ (c_L_isHeld hfl hL) mx_L_176 kw_L_isHeld ⟨(Nat.le_of_ble_eq_true rfl), (Nat.le_of_ble_eq_true rfl)⟩ ⟨by show 0 + 150000 ≤ 561356; omega, by show 0 + 5700000 ≤ 7417558; omega⟩ (Nat.le_of_ble_eq_true rfl) dL_law_1 rfl ?_
  intro v u hv
  obtain rfl := hv
  exact hend _ _ _ _ (by show 0 + 150000 ≤ 561356; omega) (by show 0 + 5700000 ≤ 7417558; omega)
end LAWB
