
set_option maxRecDepth 20000 in
theorem f_X5_47 : FF RX5 47 5 15 (.array .int) true := ⟨RX5, TX5, 17, tyX5, rfl, by decide, lays_X5, tyX5_ok, rfl, rfl, nmX5, Or.inl (List.mem_of_getElem? (i := 891) (by decide +kernel))⟩
section
variable {l : Launch} {D : va_G} {cy : Nat → ClassId} {n0 : Nat} {ad : Nat → Nat} {b : Nat → Nat} {E : va_W} {ws : va_W}
set_option maxHeartbeats 4000000 in
set_option maxRecDepth 100000 in
theorem c_X5_passes {ν : Nat → Int → Int} {u v : Int} (hfl : l.stackTraces = false) (hu : 0 ≤ u ∧ u < 144) (hv : 0 ≤ v ∧ v < 144) (hR : ∀ x, 0 ≤ x → x < 144 → 0 ≤ ν 13 x ∧ ν 13 x ≤ 99999) : CT l D cy n0 ad yX5_passes (.code yX5_passes cX5_passes 4 (some .boolean)) ({ frames := 0, cells := 0, slots := 0, locals := 0 }) [.ref (b 0), .int (zI u), .int (zI v)] (gw 14 MSh cy b ν ++ E) (fun vv uu => ∃ q μ', vv = some (.int (zI q)) ∧ uu = (gw 14 MSh cy b μ' ++ E) ∧ ((q = 1 ∧ ν 13 u + 1 < ν 13 v ∧ μ' = up ν 13 v (ν 13 u + 1)) ∨ (q = 0 ∧ ¬ ν 13 u + 1 < ν 13 v ∧ μ' = ν))) := by
  have ru := hR u hu.1 hu.2
  have rv := hR v hv.1 hv.2
  refine CT.walk hfl (by decide) (Nat.le_of_ble_eq_true rfl) ?_
  intro A J hJ
  show J (gw 14 MSh cy b ν ++ E) 0 0 0 [(0, .ref (b 0)), (1, .int (zI u)), (2, .int (zI v))] []
  refine j_aload_n hJ (j := 0) rfl rfl dX5_passes_0 ?_
  refine w_getr hJ (by omega) rfl rfl f_X5_47 dX5_passes_1 ?_
  refine j_iload_n hJ (j := 1) rfl rfl dX5_passes_4 ?_
  refine w_iald hJ (by omega) rfl (by first | decide | omega) (by omega) (by omega) dX5_passes_5 ?_
  refine j_iconst hJ dX5_passes_6 ?_
  refine j_iadd hJ dX5_passes_7 ?_
  refine j_aload_n hJ (j := 0) rfl rfl dX5_passes_8 ?_
  refine w_getr hJ (by omega) rfl rfl f_X5_47 dX5_passes_9 ?_
  refine j_iload_n hJ (j := 2) rfl rfl dX5_passes_12 ?_
  refine w_iald hJ (by omega) rfl (by first | decide | omega) (by omega) (by omega) dX5_passes_13 ?_
  refine j_icmp_ge hJ (tgt := 21) ⟨by omega, by omega⟩ ⟨by omega, by omega⟩ (by decide) dX5_passes_14 ?_ ?_
  · intro h14
    refine j_iconst hJ dX5_passes_21 ?_
    refine j_istore_n hJ (lv' := [(3, .int (zI 0)), (0, .ref (b 0)), (1, .int (zI u)), (2, .int (zI v))]) rfl (by decide) rfl dX5_passes_22 ?_
    refine j_aload_n hJ (j := 1) rfl rfl dX5_passes_23 ?_
    refine w_getr hJ (by omega) rfl rfl f_X5_47 dX5_passes_24 ?_
    refine j_iload_n hJ (j := 3) rfl rfl dX5_passes_27 ?_
    refine j_iload_n hJ (j := 0) rfl rfl dX5_passes_28 ?_
    refine j_if_eq hJ (tgt := 43) ⟨by omega, by omega⟩ (by decide) dX5_passes_29 ?_ ?_
    · intro h29
      refine j_aload_n hJ (j := 1) rfl rfl dX5_passes_43 ?_
      refine w_getr hJ (by omega) rfl rfl f_X5_47 dX5_passes_44 ?_
      refine j_iload_n hJ (j := 3) rfl rfl dX5_passes_47 ?_
      refine w_iald hJ (by omega) rfl (by first | decide | omega) (by omega) (by omega) dX5_passes_48 ?_
      refine w_iast hJ (by omega) rfl (by first | decide | omega) (by omega) (by omega) dX5_passes_49 ?_
      intro ν1 hν1
      have hM := hν1
      refine j_iload_n hJ (j := 0) rfl rfl dX5_passes_50 ?_
      refine j_iret hJ rfl rfl (rfl) (Nat.le_of_ble_eq_true rfl) (Nat.le_of_ble_eq_true rfl) dX5_passes_51 ⟨0, ν1, rfl, rfl, ?_⟩
      refine Or.inr ⟨rfl, by omega, ?_⟩
      rw [hM]; exact up_same
    · intro h29
      omega
  · intro h14
    refine j_iconst hJ dX5_passes_17 ?_
    refine j_goto hJ (tgt := 22) (by decide) dX5_passes_18 ?_
    refine j_istore_n hJ (lv' := [(3, .int (zI 1)), (0, .ref (b 0)), (1, .int (zI u)), (2, .int (zI v))]) rfl (by decide) rfl dX5_passes_22 ?_
    refine j_aload_n hJ (j := 1) rfl rfl dX5_passes_23 ?_
    refine w_getr hJ (by omega) rfl rfl f_X5_47 dX5_passes_24 ?_
    refine j_iload_n hJ (j := 3) rfl rfl dX5_passes_27 ?_
    refine j_iload_n hJ (j := 0) rfl rfl dX5_passes_28 ?_
    refine j_if_eq hJ (tgt := 43) ⟨by omega, by omega⟩ (by decide) dX5_passes_29 ?_ ?_
    · intro h29
      omega
    · intro h29
      refine j_aload_n hJ (j := 1) rfl rfl dX5_passes_32 ?_
      refine w_getr hJ (by omega) rfl rfl f_X5_47 dX5_passes_33 ?_
      refine j_iload_n hJ (j := 2) rfl rfl dX5_passes_36 ?_
      refine w_iald hJ (by omega) rfl (by first | decide | omega) (by omega) (by omega) dX5_passes_37 ?_
      refine j_iconst hJ dX5_passes_38 ?_
      refine j_iadd hJ dX5_passes_39 ?_
      refine j_goto hJ (tgt := 49) (by decide) dX5_passes_40 ?_
      refine w_iast hJ (by omega) rfl (by first | decide | omega) (by omega) (by omega) dX5_passes_49 ?_
      intro ν2 hν2
      have hM := hν2
      refine j_iload_n hJ (j := 0) rfl rfl dX5_passes_50 ?_
      refine j_iret hJ rfl rfl (rfl) (Nat.le_of_ble_eq_true rfl) (Nat.le_of_ble_eq_true rfl) dX5_passes_51 ⟨1, ν2, rfl, rfl, ?_⟩
      exact Or.inl ⟨rfl, by omega, hM⟩
end
