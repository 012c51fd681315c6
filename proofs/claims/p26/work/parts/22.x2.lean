
set_option maxRecDepth 20000 in
theorem f_X2_15 : FF RX2 15 3 1 (.array .int) true := ⟨RX2, TX2, 3, tyX2, rfl, by decide, lays_X2, tyX2_ok, rfl, rfl, nmX2, Or.inl (List.mem_of_getElem? (i := 90) (by decide +kernel))⟩
set_option maxRecDepth 20000 in
theorem f_X2_53 : FF RX2 53 2 1 .int false := ⟨RX1, TX1, 5, tyX1, rfl, by decide, lays_X1, tyX1_ok, rfl, rfl, nmX1, Or.inr (List.mem_of_getElem? (i := 115) (by decide +kernel))⟩
set_option maxRecDepth 20000 in
theorem f_X2_59 : FF RX2 59 2 0 (.array .int) true := ⟨RX1, TX1, 5, tyX1, rfl, by decide, lays_X1, tyX1_ok, rfl, rfl, nmX1, Or.inr (List.mem_of_getElem? (i := 112) (by decide +kernel))⟩
set_option maxRecDepth 20000 in
theorem f_X2_9 : FF RX2 9 3 0 (.array .int) true := ⟨RX2, TX2, 3, tyX2, rfl, by decide, lays_X2, tyX2_ok, rfl, rfl, nmX2, Or.inl (List.mem_of_getElem? (i := 89) (by decide +kernel))⟩
set_option maxRecDepth 20000 in
theorem m_X2_25 : MF RX2 25 1 yJ7_fill_53178 2 := ⟨Or.inl (List.mem_of_getElem? (i := 514) (by decide +kernel)), (List.mem_of_getElem? (i := 50) (by decide +kernel)), ⟨by decide +kernel, by decide +kernel⟩, by decide +kernel, fun h => by omega, fun _ => (List.mem_of_getElem? (i := 323) (by decide +kernel)), fun h => by omega⟩
set_option maxRecDepth 20000 in
theorem f_X2_39 : FF RX2 39 1 3 (.object "StreetIndex$Track") true := ⟨RX0, TX0, 4, tyX0, rfl, by decide, lays_X0, tyX0_ok, rfl, rfl, nmX0, Or.inr (List.mem_of_getElem? (i := 139) (by decide +kernel))⟩
set_option maxRecDepth 20000 in
theorem f_X2_45 : FF RX2 45 1 2 .boolean false := ⟨RX0, TX0, 4, tyX0, rfl, by decide, lays_X0, tyX0_ok, rfl, rfl, nmX0, Or.inr (List.mem_of_getElem? (i := 136) (by decide +kernel))⟩
set_option maxRecDepth 20000 in
theorem m_X2_49 : MF RX2 49 0 yX2_addExits 2 := ⟨Or.inl (List.mem_of_getElem? (i := 515) (by decide +kernel)), (List.mem_of_getElem? (i := 41) (by decide +kernel)), ⟨by decide +kernel, by decide +kernel⟩, by decide +kernel, fun _ => ⟨(List.mem_of_getElem? (i := 517) (by decide +kernel)), (List.mem_of_getElem? (i := 21) (by decide +kernel))⟩, fun h => by omega, fun h => by omega⟩
set_option maxRecDepth 20000 in
theorem k_X2_addExits : Cond.code yX2_addExits cX2_addExits 6 none ∈ GT := (List.mem_of_getElem? (i := 518) (by decide +kernel))
set_option maxRecDepth 20000 in
theorem m_X2_35 : MF RX2 35 0 yX2_isNew 1 := ⟨Or.inl (List.mem_of_getElem? (i := 523) (by decide +kernel)), (List.mem_of_getElem? (i := 41) (by decide +kernel)), ⟨by decide +kernel, by decide +kernel⟩, by decide +kernel, fun _ => ⟨(List.mem_of_getElem? (i := 525) (by decide +kernel)), (List.mem_of_getElem? (i := 23) (by decide +kernel))⟩, fun h => by omega, fun h => by omega⟩
set_option maxRecDepth 20000 in
theorem k_X2_isNew : Cond.code yX2_isNew cX2_isNew 2 (some .boolean) ∈ GT := (List.mem_of_getElem? (i := 526) (by decide +kernel))
set_option maxRecDepth 20000 in
theorem f_X2_18 : FF RX2 18 3 2 (.array .int) true := ⟨RX2, TX2, 3, tyX2, rfl, by decide, lays_X2, tyX2_ok, rfl, rfl, nmX2, Or.inl (List.mem_of_getElem? (i := 91) (by decide +kernel))⟩
set_option maxRecDepth 20000 in
theorem m_X2_21 : MF RX2 21 0 yX2_findExits 2 := ⟨Or.inl (List.mem_of_getElem? (i := 510) (by decide +kernel)), (List.mem_of_getElem? (i := 41) (by decide +kernel)), ⟨by decide +kernel, by decide +kernel⟩, by decide +kernel, fun _ => ⟨(List.mem_of_getElem? (i := 512) (by decide +kernel)), (List.mem_of_getElem? (i := 20) (by decide +kernel))⟩, fun h => by omega, fun h => by omega⟩
set_option maxRecDepth 20000 in
theorem k_X2_findExits : Cond.code yX2_findExits cX2_findExits 4 none ∈ GT := (List.mem_of_getElem? (i := 513) (by decide +kernel))
set_option maxRecDepth 20000 in
theorem m_X2_31 : MF RX2 31 0 yX2_stepFrom 2 := ⟨Or.inl (List.mem_of_getElem? (i := 519) (by decide +kernel)), (List.mem_of_getElem? (i := 41) (by decide +kernel)), ⟨by decide +kernel, by decide +kernel⟩, by decide +kernel, fun _ => ⟨(List.mem_of_getElem? (i := 521) (by decide +kernel)), (List.mem_of_getElem? (i := 22) (by decide +kernel))⟩, fun h => by omega, fun h => by omega⟩
set_option maxRecDepth 20000 in
theorem k_X2_stepFrom : Cond.code yX2_stepFrom cX2_stepFrom 6 (some .int) ∈ GT := (List.mem_of_getElem? (i := 522) (by decide +kernel))
set_option maxRecDepth 20000 in
theorem m_X2_66 : MF RX2 66 0 yX2_tell 2 := ⟨Or.inl (List.mem_of_getElem? (i := 543) (by decide +kernel)), (List.mem_of_getElem? (i := 41) (by decide +kernel)), ⟨by decide +kernel, by decide +kernel⟩, by decide +kernel, fun _ => ⟨(List.mem_of_getElem? (i := 545) (by decide +kernel)), (List.mem_of_getElem? (i := 27) (by decide +kernel))⟩, fun h => by omega, fun h => by omega⟩
set_option maxRecDepth 20000 in
theorem k_X2_tell : Cond.code yX2_tell cX2_tell 3 (some .boolean) ∈ GT := (List.mem_of_getElem? (i := 546) (by decide +kernel))
set_option maxRecDepth 20000 in
theorem m_X2_62 : MF RX2 62 0 yX2_tellAlong 2 := ⟨Or.inl (List.mem_of_getElem? (i := 539) (by decide +kernel)), (List.mem_of_getElem? (i := 41) (by decide +kernel)), ⟨by decide +kernel, by decide +kernel⟩, by decide +kernel, fun _ => ⟨(List.mem_of_getElem? (i := 541) (by decide +kernel)), (List.mem_of_getElem? (i := 26) (by decide +kernel))⟩, fun h => by omega, fun h => by omega⟩
set_option maxRecDepth 20000 in
theorem k_X2_tellAlong : Cond.code yX2_tellAlong cX2_tellAlong 5 (some .boolean) ∈ GT := (List.mem_of_getElem? (i := 542) (by decide +kernel))
section
variable {l : Launch} {D : va_G} {cy : Nat → ClassId} {n0 : Nat} {ad : Nat → Nat} {b : Nat → Nat} {E : va_W} {ws : va_W}
set_option maxHeartbeats 4000000 in
set_option maxRecDepth 100000 in
theorem c_X2_stepsOf {μ : Nat → Int → Int} {x : Int} (hfl : l.stackTraces = false) (hx : 0 ≤ x ∧ x < 144) (hr : 0 ≤ μ 7 x ∧ μ 7 x ≤ 144) : CT l D cy n0 ad yX2_stepsOf (.code yX2_stepsOf cX2_stepsOf 2 (some .int)) ({ frames := 0, cells := 0, slots := 0, locals := 0 }) [.ref (b 5), .int (zI x)] (gw 105 XSh cy b μ ++ E) (fun vv uu => ∃ q, vv = some (.int (zI q)) ∧ uu = (gw 105 XSh cy b μ ++ E) ∧ (q = (if 144 ≤ μ 7 x then -1 else μ 7 x))) := by
  refine CT.walk hfl (by decide) (Nat.le_of_ble_eq_true rfl) ?_
  intro A J hJ
  show J (gw 105 XSh cy b μ ++ E) 0 0 0 [(0, .ref (b 5)), (1, .int (zI x))] []
  refine j_aload_n hJ (j := 0) rfl rfl dX2_stepsOf_0 ?_
  refine w_getr hJ (by omega) rfl rfl f_X2_15 dX2_stepsOf_1 ?_
  refine j_iload_n hJ (j := 1) rfl rfl dX2_stepsOf_4 ?_
  refine w_iald hJ (by omega) rfl (by first | decide | omega) (by omega) (by omega) dX2_stepsOf_5 ?_
  refine j_sipush hJ (v := 144) (by decide) dX2_stepsOf_6 ?_
  refine j_icmp_lt hJ (tgt := 16) ⟨by omega, by omega⟩ ⟨by omega, by omega⟩ (by decide) dX2_stepsOf_9 ?_ ?_
  · intro h9
    refine j_aload_n hJ (j := 0) rfl rfl dX2_stepsOf_16 ?_
    refine w_getr hJ (by omega) rfl rfl f_X2_15 dX2_stepsOf_17 ?_
    refine j_iload_n hJ (j := 1) rfl rfl dX2_stepsOf_20 ?_
    refine w_iald hJ (by omega) rfl (by first | decide | omega) (by omega) (by omega) dX2_stepsOf_21 ?_
    refine j_iret hJ rfl rfl (rfl) (Nat.le_of_ble_eq_true rfl) (Nat.le_of_ble_eq_true rfl) dX2_stepsOf_22 ⟨(μ 7 x), rfl, rfl, ?_⟩
    rw [if_neg (by omega)]
  · intro h9
    refine j_iconst hJ dX2_stepsOf_12 ?_
    refine j_goto hJ (tgt := 22) (by decide) dX2_stepsOf_13 ?_
    refine j_iret hJ rfl rfl (rfl) (Nat.le_of_ble_eq_true rfl) (Nat.le_of_ble_eq_true rfl) dX2_stepsOf_22 ⟨(-1), rfl, rfl, ?_⟩
    rw [if_pos (by omega)]
set_option maxHeartbeats 4000000 in
set_option maxRecDepth 100000 in
theorem c_X2_isNew {μ : Nat → Int → Int} {x : Int} (hfl : l.stackTraces = false) (hxr : -2147483648 ≤ x ∧ x < 2147483648) (hr : ∀ y, 0 ≤ y → y < 144 → 0 ≤ μ 7 y ∧ μ 7 y ≤ 144) : CT l D cy n0 ad yX2_isNew (.code yX2_isNew cX2_isNew 2 (some .boolean)) ({ frames := 0, cells := 0, slots := 0, locals := 0 }) [.ref (b 5), .int (zI x)] (gw 105 XSh cy b μ ++ E) (fun vv uu => ∃ q, vv = some (.int (zI q)) ∧ uu = (gw 105 XSh cy b μ ++ E) ∧ (((0 ≤ x ∧ x < 144 ∧ μ 7 x = 144) → q = 1) ∧ (¬ (0 ≤ x ∧ x < 144 ∧ μ 7 x = 144) → q = 0))) := by
  refine CT.walk hfl (by decide) (Nat.le_of_ble_eq_true rfl) ?_
  intro A J hJ
  show J (gw 105 XSh cy b μ ++ E) 0 0 0 [(0, .ref (b 5)), (1, .int (zI x))] []
  refine j_iload_n hJ (j := 1) rfl rfl dX2_isNew_0 ?_
  refine j_if_lt hJ (tgt := 27) ⟨by omega, by omega⟩ (by decide) dX2_isNew_1 ?_ ?_
  · intro h1
    refine j_iconst hJ dX2_isNew_27 ?_
    refine j_iret hJ rfl rfl (rfl) (Nat.le_of_ble_eq_true rfl) (Nat.le_of_ble_eq_true rfl) dX2_isNew_28 ⟨0, rfl, rfl, ?_⟩
    exact ⟨fun h => by first | rfl | omega, fun h => by first | rfl | omega⟩
  · intro h1
    refine j_iload_n hJ (j := 1) rfl rfl dX2_isNew_4 ?_
    refine j_sipush hJ (v := 144) (by decide) dX2_isNew_5 ?_
    refine j_icmp_ge hJ (tgt := 27) ⟨by omega, by omega⟩ ⟨by omega, by omega⟩ (by decide) dX2_isNew_8 ?_ ?_
    · intro h8
      refine j_iconst hJ dX2_isNew_27 ?_
      refine j_iret hJ rfl rfl (rfl) (Nat.le_of_ble_eq_true rfl) (Nat.le_of_ble_eq_true rfl) dX2_isNew_28 ⟨0, rfl, rfl, ?_⟩
      exact ⟨fun h => by first | rfl | omega, fun h => by first | rfl | omega⟩
    · intro h8
      refine j_aload_n hJ (j := 0) rfl rfl dX2_isNew_11 ?_
      refine w_getr hJ (by omega) rfl rfl f_X2_15 dX2_isNew_12 ?_
      refine j_iload_n hJ (j := 1) rfl rfl dX2_isNew_15 ?_
      refine w_iald hJ (by omega) rfl (by first | decide | omega) (by omega) (by omega) dX2_isNew_16 ?_
      have hrx := hr x (by omega) (by omega)
      refine j_sipush hJ (v := 144) (by decide) dX2_isNew_17 ?_
      refine j_icmp_ne hJ (tgt := 27) ⟨by omega, by omega⟩ ⟨by omega, by omega⟩ (by decide) dX2_isNew_20 ?_ ?_
      · intro h20
        refine j_iconst hJ dX2_isNew_27 ?_
        refine j_iret hJ rfl rfl (rfl) (Nat.le_of_ble_eq_true rfl) (Nat.le_of_ble_eq_true rfl) dX2_isNew_28 ⟨0, rfl, rfl, ?_⟩
        exact ⟨fun h => by first | rfl | omega, fun h => by first | rfl | omega⟩
      · intro h20
        refine j_iconst hJ dX2_isNew_23 ?_
        refine j_goto hJ (tgt := 28) (by decide) dX2_isNew_24 ?_
        refine j_iret hJ rfl rfl (rfl) (Nat.le_of_ble_eq_true rfl) (Nat.le_of_ble_eq_true rfl) dX2_isNew_28 ⟨1, rfl, rfl, ?_⟩
        exact ⟨fun h => by first | rfl | omega, fun h => by first | rfl | omega⟩
set_option maxHeartbeats 4000000 in
set_option maxRecDepth 100000 in
theorem c_X2_addExits {μ : Nat → Int → Int} {s : Nat} {o : Int} {L : List Int} {P : Int → Int → Prop} (hfl : l.stackTraces = false) (hs : s < 16) (ho : o = 0 ∨ o = 1) (hT : TP μ s L) (hA : AdjL L) (hE : ExOn μ P) : CT l D cy n0 ad yX2_addExits (.code yX2_addExits cX2_addExits 6 none) ({ frames := 0, cells := 0, slots := 0, locals := 0 }) [.ref (b 5), .ref (b (9 + 6 * s + 2)), .int (zI o)] (gw 105 XSh cy b μ ++ E) (fun vv uu => ∃ μ', vv = none ∧ uu = (gw 105 XSh cy b μ' ++ E) ∧ (ExOn μ' (fun a b => P a b ∨ EdL L o a b) ∧ ∀ a, a ≠ 6 → μ' a = μ a)) := by
  obtain ⟨h1, h2, h3, h4, h5⟩ := hT
  refine CT.walk hfl (by decide) (Nat.le_of_ble_eq_true rfl) ?_
  intro A J hJ
  show J (gw 105 XSh cy b μ ++ E) 0 0 0 [(0, .ref (b 5)), (1, .ref (b (9 + 6 * s + 2))), (2, .int (zI o))] []
  refine j_iconst hJ dX2_addExits_0 ?_
  refine j_istore_n hJ (lv' := [(3, .int (zI 1)), (0, .ref (b 5)), (1, .ref (b (9 + 6 * s + 2))), (2, .int (zI o))]) rfl (by decide) rfl dX2_addExits_1 ?_
  have lp2 : ∀ (nn2 : Nat) (μk : Nat → Int → Int) (k : Int) (hmeas2 : ((L.length : Int) + 1 - k).toNat < nn2) (hk : 1 ≤ k ∧ (k ≤ L.length ∨ k = 1)) (hEx : ExOn μk (fun a b => P a b ∨ EdK L o k.toNat a b)) (hF : ∀ a, a ≠ 6 → μk a = μ a), J (gw 105 XSh cy b μk ++ E) 0 0 2 [(0, .ref (b 5)), (1, .ref (b (9 + 6 * s + 2))), (2, .int (zI o)), (3, .int (zI k))] [] := by
    intro nn2
    induction nn2 with
    | zero => intro μk k hmeas2 hk hEx hF; omega
    | succ nn2 ih2 =>
      intro μk k hmeas2 hk hEx hF
      refine j_iload_n hJ (j := 3) rfl rfl dX2_addExits_2 ?_
      refine j_aload_n hJ (j := 1) rfl rfl dX2_addExits_3 ?_
      refine w_geti hJ (fi := 1) rfl (by omega) (XS2 _) rfl f_X2_53 dX2_addExits_4 ?_
      refine j_topi (y := zI (L.length : Int)) (by rw [hF _ (by omega), h1]) ?_
      refine j_icmp_ge hJ (tgt := 78) ⟨by omega, by omega⟩ ⟨by omega, by omega⟩ (by decide) dX2_addExits_7 ?_ ?_
      · intro h7
        refine j_vret hJ rfl rfl (Nat.le_of_ble_eq_true rfl) (Nat.le_of_ble_eq_true rfl) dX2_addExits_78 ⟨μk, rfl, rfl, ?_⟩
        exact ⟨hEx.iff fun a b => by rw [EdK_ge (by omega)], hF⟩
      · intro h7
        obtain ⟨x, e1x, e2x, e3x⟩ := h2.at (z := k - 1) (by omega) (by omega)
        obtain ⟨y, e1y, e2y, e3y⟩ := h2.at (z := k) (by omega) h7
        rw [show (k - 1).toNat = k.toNat - 1 by omega] at e1x
        have hx4 := h4 x e3x
        have hy4 := h4 y e3y
        have hxy := hA (k.toNat - 1) x y e1x (by rw [show k.toNat - 1 + 1 = k.toNat by omega]; exact e1y)
        obtain ⟨g1, -, -⟩ := hEx x hx4.1 hx4.2
        refine j_aload_n hJ (j := 1) rfl rfl dX2_addExits_10 ?_
        refine w_getr hJ (by omega) (XS2 _) rfl f_X2_59 dX2_addExits_11 ?_
        refine j_iload_n hJ (j := 3) rfl rfl dX2_addExits_14 ?_
        refine j_iconst hJ dX2_addExits_15 ?_
        refine j_isub hJ dX2_addExits_16 ?_
        refine w_iald hJ (by omega) (XS3 _) (by first | decide | omega) (by omega) (by omega) dX2_addExits_17 ?_
        refine j_topi (y := zI x) (by rw [hF _ (by omega), e2x]) ?_
        refine j_istore hJ (lv' := [(4, .int (zI x)), (0, .ref (b 5)), (1, .ref (b (9 + 6 * s + 2))), (2, .int (zI o)), (3, .int (zI k))]) (by decide) rfl dX2_addExits_18 ?_
        refine j_aload_n hJ (j := 2) rfl rfl dX2_addExits_20 ?_
        refine w_getr hJ (by omega) (XS2 _) rfl f_X2_59 dX2_addExits_21 ?_
        refine j_iload_n hJ (j := 4) rfl rfl dX2_addExits_24 ?_
        refine w_iald hJ (by omega) (XS3 _) (by first | decide | omega) (by omega) (by omega) dX2_addExits_25 ?_
        refine j_topi (y := zI y) (by rw [hF _ (by omega), e2y]) ?_
        refine j_istore hJ (lv' := [(5, .int (zI y)), (4, .int (zI x)), (0, .ref (b 5)), (1, .ref (b (9 + 6 * s + 2))), (2, .int (zI o)), (3, .int (zI k))]) (by decide) rfl dX2_addExits_26 ?_
        refine j_aload_n hJ (j := 2) rfl rfl dX2_addExits_28 ?_
        refine w_getr hJ (by omega) rfl rfl f_X2_9 dX2_addExits_29 ?_
        refine j_iload hJ (j := 1) rfl dX2_addExits_32 ?_
        refine j_dup2 hJ rfl rfl dX2_addExits_34 ?_
        refine w_iald hJ (by omega) rfl (by first | decide | omega) (by omega) (by omega) dX2_addExits_35 ?_
        refine j_iconst hJ dX2_addExits_36 ?_
        refine j_iload hJ (j := 0) rfl dX2_addExits_37 ?_
        refine j_iload hJ (j := 1) rfl dX2_addExits_39 ?_
        refine j_isub hJ dX2_addExits_41 ?_
        refine j_bipush hJ (v := 13) (by decide) dX2_addExits_42 ?_
        refine j_iadd hJ dX2_addExits_44 ?_
        refine j_ishl hJ (v := (2 ^ ((y - x) + 13).toNat)) (zI_shl1 (by omega) (by omega)) dX2_addExits_45 ?_
        refine j_ior hJ (v := (orI (μk 6 x) (y - x + 13))) (zI_or g1) dX2_addExits_46 ?_
        refine w_iast hJ (by omega) rfl (by first | decide | omega) (by omega) (by omega) dX2_addExits_47 ?_
        intro μ1 hμ1
        have hM1 := hμ1
        refine j_iload_n hJ (j := 4) rfl rfl dX2_addExits_48 ?_
        refine j_if_ne hJ (tgt := 72) ⟨by omega, by omega⟩ (by decide) dX2_addExits_49 ?_ ?_
        · intro h49
          refine j_iinc hJ (lv' := [(3, .int (zI (k + 1))), (5, .int (zI y)), (4, .int (zI x)), (0, .ref (b 5)), (1, .ref (b (9 + 6 * s + 2))), (2, .int (zI o))]) (j := 5) rfl (by omega) (by decide) rfl dX2_addExits_72 ?_
          refine j_goto hJ (tgt := 2) (by decide) dX2_addExits_75 ?_
          refine j_locs hJ [3, 4, 5, 0] rfl ?_
          refine ih2 μ1 (k + 1) (by omega) (by omega) ?_ (by first | exact fun a a1 => by rw [hM2, up_rowf a1, hM1, up_rowf a1, hF a a1] | exact fun a a1 => by rw [hM1, up_rowf a1, hF a a1])
          · rw [show (k + 1).toNat = k.toNat + 1 by omega]
            have hA1 := ex_or hEx hx4 hxy
            first
            | (rw [← hM1] at hA1
               have hA2 := ex_or hA1 hy4 (y := x) (by omega)
               rw [← hM2] at hA2
               exact hA2.iff fun a b => by
                 rw [EdK_succ (by omega) e1x e1y, h49o]
                 simp [or_assoc])
            | (rw [← hM1] at hA1
               exact hA1.iff fun a b => by
                 rw [EdK_succ (by omega) e1x e1y]
                 have : ¬ o = 0 := by omega
                 simp [this, or_assoc])
        · intro h49
          have h49o := h49
          have hG := ex_or hEx hx4 hxy
          rw [← hM1] at hG
          obtain ⟨g2, -, -⟩ := hG y hy4.1 hy4.2
          refine j_aload_n hJ (j := 2) rfl rfl dX2_addExits_52 ?_
          refine w_getr hJ (by omega) rfl rfl f_X2_9 dX2_addExits_53 ?_
          refine j_iload hJ (j := 0) rfl dX2_addExits_56 ?_
          refine j_dup2 hJ rfl rfl dX2_addExits_58 ?_
          refine w_iald hJ (by omega) rfl (by first | decide | omega) (by omega) (by omega) dX2_addExits_59 ?_
          refine j_iconst hJ dX2_addExits_60 ?_
          refine j_iload hJ (j := 1) rfl dX2_addExits_61 ?_
          refine j_iload hJ (j := 0) rfl dX2_addExits_63 ?_
          refine j_isub hJ dX2_addExits_65 ?_
          refine j_bipush hJ (v := 13) (by decide) dX2_addExits_66 ?_
          refine j_iadd hJ dX2_addExits_68 ?_
          refine j_ishl hJ (v := (2 ^ ((x - y) + 13).toNat)) (zI_shl1 (by omega) (by omega)) dX2_addExits_69 ?_
          refine j_ior hJ (v := (orI (μ1 6 y) (x - y + 13))) (zI_or g2) dX2_addExits_70 ?_
          refine w_iast hJ (by omega) rfl (by first | decide | omega) (by omega) (by omega) dX2_addExits_71 ?_
          intro μ2 hμ2
          have hM2 := hμ2
          refine j_iinc hJ (lv' := [(3, .int (zI (k + 1))), (5, .int (zI y)), (4, .int (zI x)), (0, .ref (b 5)), (1, .ref (b (9 + 6 * s + 2))), (2, .int (zI o))]) (j := 5) rfl (by omega) (by decide) rfl dX2_addExits_72 ?_
          refine j_goto hJ (tgt := 2) (by decide) dX2_addExits_75 ?_
          refine j_locs hJ [3, 4, 5, 0] rfl ?_
          refine ih2 μ2 (k + 1) (by omega) (by omega) ?_ (by first | exact fun a a1 => by rw [hM2, up_rowf a1, hM1, up_rowf a1, hF a a1] | exact fun a a1 => by rw [hM1, up_rowf a1, hF a a1])
          · rw [show (k + 1).toNat = k.toNat + 1 by omega]
            have hA1 := ex_or hEx hx4 hxy
            first
            | (rw [← hM1] at hA1
               have hA2 := ex_or hA1 hy4 (y := x) (by omega)
               rw [← hM2] at hA2
               exact hA2.iff fun a b => by
                 rw [EdK_succ (by omega) e1x e1y, h49o]
                 simp [or_assoc])
            | (rw [← hM1] at hA1
               exact hA1.iff fun a b => by
                 rw [EdK_succ (by omega) e1x e1y]
                 have : ¬ o = 0 := by omega
                 simp [this, or_assoc])
  refine j_locs hJ [1, 2, 3, 0] rfl ?_
  exact lp2 (((L.length : Int) + 1 - 1).toNat + 1) μ 1 (by omega) (by omega) (by exact hE.iff fun a b => ⟨Or.inl, fun h => h.resolve_right EdK_1⟩) (by exact fun _ _ => rfl)
set_option maxHeartbeats 4000000 in
set_option maxRecDepth 100000 in
theorem c_X2_findExits {μ : Nat → Int → Int} {n : Nat} {L : Nat → List Int} {ow : Nat → Int} (hfl : l.stackTraces = false) (hn : n ≤ 16) (hT : ∀ s, s < n → TP μ s (L s) ∧ AdjL (L s) ∧ μ (9 + 6 * s) 2 = ow s ∧ (ow s = 0 ∨ ow s = 1)) : CT l D cy n0 ad yX2_findExits (.code yX2_findExits cX2_findExits 4 none) ({ frames := 1, cells := 0, slots := 0, locals := 25 }) [.ref (b 5), .ref (b 2), .int (zI (n : Int))] (gw 105 XSh cy b μ ++ E) (fun vv uu => ∃ μ', vv = none ∧ uu = (gw 105 XSh cy b μ' ++ E) ∧ (ExOn μ' (EdS n L ow) ∧ ∀ a, a ≠ 6 → μ' a = μ a)) := by
  refine CT.walk hfl (by decide) (Nat.le_of_ble_eq_true rfl) ?_
  intro A J hJ
  show J (gw 105 XSh cy b μ ++ E) 0 0 0 [(0, .ref (b 5)), (1, .ref (b 2)), (2, .int (zI (n : Int)))] []
  refine j_aload_n hJ (j := 0) rfl rfl dX2_findExits_0 ?_
  refine w_getr hJ (by omega) rfl rfl f_X2_9 dX2_findExits_1 ?_
  refine j_iconst hJ dX2_findExits_4 ?_
  refine j_callS0 hJ (c_J7_fill_53178 hfl (k := 6) (n := 144) (v := 0) (by omega) rfl (by omega)) m_X2_25 k_J7_fill_53178 ⟨(Nat.le_of_ble_eq_true rfl), (Nat.le_of_ble_eq_true rfl)⟩ ⟨(Nat.le_of_ble_eq_true rfl), (Nat.le_of_ble_eq_true rfl)⟩ (Nat.le_of_ble_eq_true rfl) dX2_findExits_5 rfl ?_
  intro v1 u2 hv3
  obtain ⟨μ1, rfl, rfl, hM0⟩ := hv3
  show J (gw 105 XSh cy b μ1 ++ E) 0 0 8 [(0, .ref (b 5)), (1, .ref (b 2)), (2, .int (zI (n : Int)))] []
  rw [show ((144 : Nat) : Int) = 144 from rfl] at hM0
  refine j_iconst hJ dX2_findExits_8 ?_
  refine j_istore_n hJ (lv' := [(3, .int (zI 0)), (0, .ref (b 5)), (1, .ref (b 2)), (2, .int (zI (n : Int)))]) rfl (by decide) rfl dX2_findExits_9 ?_
  have lp10 : ∀ (nn10 : Nat) (μk : Nat → Int → Int) (k : Int) (hmeas10 : ((n : Int) - k).toNat < nn10) (hk : 0 ≤ k ∧ k ≤ n) (hEx : ExOn μk (EdS k.toNat L ow)) (hF : ∀ a, a ≠ 6 → μk a = μ a), J (gw 105 XSh cy b μk ++ E) 0 0 10 [(0, .ref (b 5)), (1, .ref (b 2)), (2, .int (zI (n : Int))), (3, .int (zI k))] [] := by
    intro nn10
    induction nn10 with
    | zero => intro μk k hmeas10 hk hEx hF; omega
    | succ nn10 ih10 =>
      intro μk k hmeas10 hk hEx hF
      refine j_iload_n hJ (j := 3) rfl rfl dX2_findExits_10 ?_
      refine j_iload_n hJ (j := 2) rfl rfl dX2_findExits_11 ?_
      refine j_icmp_ge hJ (tgt := 37) ⟨by omega, by omega⟩ ⟨by omega, by omega⟩ (by decide) dX2_findExits_12 ?_ ?_
      · intro h12
        refine j_vret hJ rfl rfl (Nat.le_of_ble_eq_true rfl) (Nat.le_of_ble_eq_true rfl) dX2_findExits_37 ⟨μk, rfl, rfl, ?_⟩
        rw [show k.toNat = n by omega] at hEx
        exact ⟨hEx, hF⟩
      · intro h12
        obtain ⟨t1, t2, t3, t4⟩ := hT k.toNat (by omega)
        have tk : TP μk k.toNat (L k.toNat) := by
          obtain ⟨c1, c2, c3, c4, c5⟩ := t1
          exact ⟨by rw [hF _ (by omega)]; exact c1, by rw [hF _ (by omega)]; exact c2, c3, c4, c5.same (hF _ (by omega))⟩
        refine j_aload_n hJ (j := 0) rfl rfl dX2_findExits_15 ?_
        refine j_aload_n hJ (j := 1) rfl rfl dX2_findExits_16 ?_
        refine j_iload_n hJ (j := 3) rfl rfl dX2_findExits_17 ?_
        refine w_aald hJ (by omega) rfl (by decide) (by omega) (by omega) dX2_findExits_18 ?_
        refine w_getr hJ (by omega) (XS0 _) rfl f_X2_39 dX2_findExits_19 ?_
        refine j_aload_n hJ (j := 1) rfl rfl dX2_findExits_22 ?_
        refine j_iload_n hJ (j := 3) rfl rfl dX2_findExits_23 ?_
        refine w_aald hJ (by omega) rfl (by decide) (by omega) (by omega) dX2_findExits_24 ?_
        refine w_geti hJ (fi := 2) rfl (by omega) (XS0 _) rfl f_X2_45 dX2_findExits_25 ?_
        refine j_topi (y := zI (ow k.toNat)) (by rw [hF _ (by omega), t3]) ?_
        refine j_callV0 hJ (c_X2_addExits hfl (s := k.toNat) (o := ow k.toNat) (L := L k.toNat) (P := EdS k.toNat L ow) (by omega) t4 tk t2 hEx) m_X2_49 k_X2_addExits (q0 := 5) (by rw [gw_get (by decide)]; rfl) rfl ⟨(Nat.le_of_ble_eq_true rfl), (Nat.le_of_ble_eq_true rfl)⟩ ⟨(Nat.le_of_ble_eq_true rfl), (Nat.le_of_ble_eq_true rfl)⟩ (Nat.le_of_ble_eq_true rfl) dX2_findExits_28 rfl ?_
        intro v4 u5 hv6
        obtain ⟨μ2, rfl, rfl, h28⟩ := hv6
        show J (gw 105 XSh cy b μ2 ++ E) 0 0 31 [(0, .ref (b 5)), (1, .ref (b 2)), (2, .int (zI (n : Int))), (3, .int (zI k))] []
        refine j_iinc hJ (lv' := [(3, .int (zI (k + 1))), (0, .ref (b 5)), (1, .ref (b 2)), (2, .int (zI (n : Int)))]) (j := 3) rfl (by omega) (by decide) rfl dX2_findExits_31 ?_
        refine j_goto hJ (tgt := 10) (by decide) dX2_findExits_34 ?_
        refine j_locs hJ [1, 2, 3, 0] rfl ?_
        refine ih10 μ2 (k + 1) (by omega) (by omega) ?_ (by exact fun a a1 => by rw [h28.2 a a1, hF a a1])
        · rw [show (k + 1).toNat = k.toNat + 1 by omega]
          refine h28.1.iff fun a b => ⟨?_, ?_⟩
          · rintro (⟨s, s1, h⟩ | h)
            · exact ⟨s, by omega, h⟩
            · exact ⟨k.toNat, by omega, h⟩
          · rintro ⟨s, s1, h⟩
            by_cases e : s = k.toNat
            · subst e; exact Or.inr h
            · exact Or.inl ⟨s, by omega, h⟩
  refine j_locs hJ [1, 2, 3, 0] rfl ?_
  refine lp10 (((n : Int) - 0).toNat + 1) μ1 0 (by omega) (by omega) ?_ (by exact fun a a1 => by rw [hM0, fillp_row a1])
  · intro a a0 a1
    rw [hM0, fillp_in a0 a1]
    refine ⟨by omega, by omega, fun d _ _ => ?_⟩
    simp [EdS]
set_option maxHeartbeats 4000000 in
set_option maxRecDepth 100000 in
theorem c_X2_stepFrom {μ : Nat → Int → Int} {Ed : Int → Int → Prop} {a0 ct k : Int} (hfl : l.stackTraces = false) (hR : ∀ a b, Ed a b → (0 ≤ a ∧ a < 144) ∧ 0 ≤ b ∧ b < 144) (hA : ∀ a b, Ed a b → a - 13 ≤ b ∧ b ≤ a + 13) (hE : ExOn μ Ed) (hB : BI μ Ed a0 ct k 0) (hk : k < ct) : CT l D cy n0 ad yX2_stepFrom (.code yX2_stepFrom cX2_stepFrom 6 (some .int)) ({ frames := 1, cells := 0, slots := 0, locals := 21 }) [.ref (b 5), .int (zI (μ 8 k)), .int (zI ct)] (gw 105 XSh cy b μ ++ E) (fun vv uu => ∃ q μ', vv = some (.int (zI q)) ∧ uu = (gw 105 XSh cy b μ' ++ E) ∧ (BI μ' Ed a0 q (k + 1) 0 ∧ ct ≤ q ∧ ∀ a, a ≠ 7 → a ≠ 8 → μ' a = μ a)) := by
  obtain ⟨b1, b2, -⟩ := id hB
  obtain ⟨b21, b22, b23⟩ := b2 k b1.2.2.1 hk
  refine CT.walk hfl (by decide) (Nat.le_of_ble_eq_true rfl) ?_
  intro A J hJ
  show J (gw 105 XSh cy b μ ++ E) 0 0 0 [(0, .ref (b 5)), (1, .int (zI (μ 8 k))), (2, .int (zI ct))] []
  refine j_iload_n hJ (j := 2) rfl rfl dX2_stepFrom_0 ?_
  refine j_istore_n hJ (lv' := [(3, .int (zI ct)), (0, .ref (b 5)), (1, .int (zI (μ 8 k))), (2, .int (zI ct))]) rfl (by decide) rfl dX2_stepFrom_1 ?_
  refine j_iconst hJ dX2_stepFrom_2 ?_
  refine j_istore hJ (lv' := [(4, .int (zI 0)), (3, .int (zI ct)), (0, .ref (b 5)), (1, .int (zI (μ 8 k))), (2, .int (zI ct))]) (by decide) rfl dX2_stepFrom_3 ?_
  have lp5 : ∀ (nn5 : Nat) (μk : Nat → Int → Int) (cc2 : Int) (d : Int) (hmeas5 : ((27 : Int) - d).toNat < nn5) (hd : 0 ≤ d ∧ d ≤ 27) (hc : ct ≤ cc2) (hBk : BI μk Ed a0 cc2 k d) (h8 : μk 8 k = μ 8 k) (hF : ∀ a, a ≠ 7 → a ≠ 8 → μk a = μ a), J (gw 105 XSh cy b μk ++ E) 0 0 5 [(0, .ref (b 5)), (1, .int (zI (μ 8 k))), (2, .int (zI ct)), (3, .int (zI cc2)), (4, .int (zI d))] [] := by
    intro nn5
    induction nn5 with
    | zero => intro μk cc2 d hmeas5 hd hc hBk h8 hF; omega
    | succ nn5 ih5 =>
      intro μk cc2 d hmeas5 hd hc hBk h8 hF
      refine j_iload hJ (j := 4) rfl dX2_stepFrom_5 ?_
      refine j_bipush hJ (v := 26) (by decide) dX2_stepFrom_7 ?_
      refine j_icmp_gt hJ (tgt := 84) ⟨by omega, by omega⟩ ⟨by omega, by omega⟩ (by decide) dX2_stepFrom_9 ?_ ?_
      · intro h9
        refine j_iload_n hJ (j := 3) rfl rfl dX2_stepFrom_84 ?_
        refine j_iret hJ rfl rfl (rfl) (Nat.le_of_ble_eq_true rfl) (Nat.le_of_ble_eq_true rfl) dX2_stepFrom_85 ⟨cc2, μk, rfl, rfl, ?_⟩
        rw [show d = 27 by omega] at hBk
        exact ⟨hBk.next (by omega) hA, hc, hF⟩
      · intro h9
        have hkc : k < cc2 := by omega
        obtain ⟨bk1, bk2, bk3, -⟩ := id hBk
        obtain ⟨bk21, bk22, bk23⟩ := bk2 k bk1.2.2.1 hkc
        rw [h8] at bk22 bk23
        obtain ⟨e1, e2, e3⟩ := hE (μ 8 k) b21.1 b21.2
        have e4 : 0 ≤ μ 6 (μ 8 k) / 2 ^ d.toNat := Int.ediv_nonneg e1 (Int.le_of_lt (Int.pow_pos (by decide)))
        have e5 : μ 6 (μ 8 k) / 2 ^ d.toNat ≤ μ 6 (μ 8 k) := Int.ediv_le_self _ e1
        refine j_iload_n hJ (j := 1) rfl rfl dX2_stepFrom_12 ?_
        refine j_iload hJ (j := 4) rfl dX2_stepFrom_13 ?_
        refine j_iadd hJ dX2_stepFrom_15 ?_
        refine j_bipush hJ (v := 13) (by decide) dX2_stepFrom_16 ?_
        refine j_isub hJ dX2_stepFrom_18 ?_
        refine j_istore hJ (lv' := [(5, .int (zI (((μ 8 k) + d) - 13))), (0, .ref (b 5)), (1, .int (zI (μ 8 k))), (2, .int (zI ct)), (3, .int (zI cc2)), (4, .int (zI d))]) (by decide) rfl dX2_stepFrom_19 ?_
        refine j_aload_n hJ (j := 1) rfl rfl dX2_stepFrom_21 ?_
        refine w_getr hJ (by omega) rfl rfl f_X2_9 dX2_stepFrom_22 ?_
        refine j_iload_n hJ (j := 2) rfl rfl dX2_stepFrom_25 ?_
        refine w_iald hJ (by omega) rfl (by first | decide | omega) (by omega) (by omega) dX2_stepFrom_26 ?_
        refine j_topi (y := zI (μ 6 (μ 8 k))) (by rw [hF 6 (by omega) (by omega)]) ?_
        refine j_iload hJ (j := 5) rfl dX2_stepFrom_27 ?_
        refine j_ishr hJ (v := (μ 6 (μ 8 k) / 2 ^ d.toNat)) (zI_shr e1 (by omega) hd.1 (by omega)) dX2_stepFrom_29 ?_
        refine j_iconst hJ dX2_stepFrom_30 ?_
        refine j_iand hJ (v := (μ 6 (μ 8 k) / 2 ^ d.toNat % 2)) (zI_and 1 e4 (by omega) (by decide)) dX2_stepFrom_31 ?_
        refine j_iconst hJ dX2_stepFrom_32 ?_
        refine j_icmp_ne hJ (tgt := 78) ⟨by omega, by omega⟩ ⟨by omega, by omega⟩ (by decide) dX2_stepFrom_33 ?_ ?_
        · intro h33
          have hno : ¬ Ed (μ 8 k) (μ 8 k + d - 13) := fun g => h33 ((e3 d hd.1 (by omega)).mpr g)
          refine j_iinc hJ (lv' := [(4, .int (zI (d + 1))), (5, .int (zI (((μ 8 k) + d) - 13))), (0, .ref (b 5)), (1, .int (zI (μ 8 k))), (2, .int (zI ct)), (3, .int (zI cc2))]) (j := 5) rfl (by omega) (by decide) rfl dX2_stepFrom_78 ?_
          refine j_goto hJ (tgt := 5) (by decide) dX2_stepFrom_81 ?_
          refine j_locs hJ [2, 3, 4, 5, 0] rfl ?_
          refine ih5 μk cc2 (d + 1) (by omega) (by omega) (by omega) ?_ (by first | exact h8 | (rw [hM2, up_at (by omega), hM1, up_row (by omega)]; exact h8)) (by first | exact hF | exact fun a a7 a8 => by rw [hM2, up_rowf a8, hM1, up_rowf a7, hF a a7 a8])
          · first
            | exact hBk.skip (fun he => absurd (by rw [h8] at he; exact he) hno)
            | exact hBk.skip (fun he => by rw [h8] at he ⊢; have r := (hR _ _ he).2; have := hBk.old hkc r (fun e => by have := h37.1 ⟨r.1, r.2, e⟩; omega); rwa [h8] at this)
            | exact absurd (hBk.room (x := μ 8 k + d - 13) ⟨hnew.1, hnew.2.1⟩ hnew.2.2) (by omega)
            | (have := hBk.add hkc (by rw [h8]; exact hyes) (by rw [h8]; exact ⟨hnew.1, hnew.2.1⟩) (by rw [h8]; exact hnew.2.2)
               rw [h8] at this
               rw [hM2, hM1]
               exact this)
        · intro h33
          have hyes : Ed (μ 8 k) (μ 8 k + d - 13) := (e3 d hd.1 (by omega)).mp h33
          refine j_aload_n hJ (j := 1) rfl rfl dX2_stepFrom_36 ?_
          refine j_iload hJ (j := 0) rfl dX2_stepFrom_37 ?_
          refine j_callV0 hJ (c_X2_isNew hfl (by omega) (fun y y0 y1 => by
      rcases bk3 y y0 y1 with g | ⟨j, j0, j1, g⟩
      · omega
      · have := bk2 j j0 j1; rw [g] at this; omega)) m_X2_35 k_X2_isNew (q0 := 5) (by rw [gw_get (by decide)]; rfl) rfl ⟨(Nat.le_of_ble_eq_true rfl), (Nat.le_of_ble_eq_true rfl)⟩ ⟨(Nat.le_of_ble_eq_true rfl), (Nat.le_of_ble_eq_true rfl)⟩ (Nat.le_of_ble_eq_true rfl) dX2_stepFrom_39 rfl ?_
          intro v1 u2 hv3
          obtain ⟨q37, rfl, rfl, h37⟩ := hv3
          show J (gw 105 XSh cy b μk ++ E) 0 0 42 [(5, .int (zI (((μ 8 k) + d) - 13))), (0, .ref (b 5)), (1, .int (zI (μ 8 k))), (2, .int (zI ct)), (3, .int (zI cc2)), (4, .int (zI d))] [.int (zI q37)]
          have hb37 := b01 h37
          refine j_if_eq hJ (tgt := 78) ⟨by omega, by omega⟩ (by decide) dX2_stepFrom_42 ?_ ?_
          · intro h42
            refine j_iinc hJ (lv' := [(4, .int (zI (d + 1))), (5, .int (zI (((μ 8 k) + d) - 13))), (0, .ref (b 5)), (1, .int (zI (μ 8 k))), (2, .int (zI ct)), (3, .int (zI cc2))]) (j := 5) rfl (by omega) (by decide) rfl dX2_stepFrom_78 ?_
            refine j_goto hJ (tgt := 5) (by decide) dX2_stepFrom_81 ?_
            refine j_locs hJ [2, 3, 4, 5, 0] rfl ?_
            refine ih5 μk cc2 (d + 1) (by omega) (by omega) (by omega) ?_ (by first | exact h8 | (rw [hM2, up_at (by omega), hM1, up_row (by omega)]; exact h8)) (by first | exact hF | exact fun a a7 a8 => by rw [hM2, up_rowf a8, hM1, up_rowf a7, hF a a7 a8])
            · first
              | exact hBk.skip (fun he => absurd (by rw [h8] at he; exact he) hno)
              | exact hBk.skip (fun he => by rw [h8] at he ⊢; have r := (hR _ _ he).2; have := hBk.old hkc r (fun e => by have := h37.1 ⟨r.1, r.2, e⟩; omega); rwa [h8] at this)
              | exact absurd (hBk.room (x := μ 8 k + d - 13) ⟨hnew.1, hnew.2.1⟩ hnew.2.2) (by omega)
              | (have := hBk.add hkc (by rw [h8]; exact hyes) (by rw [h8]; exact ⟨hnew.1, hnew.2.1⟩) (by rw [h8]; exact hnew.2.2)
                 rw [h8] at this
                 rw [hM2, hM1]
                 exact this)
          · intro h42
            have hnew : 0 ≤ μ 8 k + d - 13 ∧ μ 8 k + d - 13 < 144 ∧ μk 7 (μ 8 k + d - 13) = 144 := Classical.byContradiction fun g => h42 (h37.2 g)
            refine j_iload_n hJ (j := 4) rfl rfl dX2_stepFrom_45 ?_
            refine j_sipush hJ (v := 144) (by decide) dX2_stepFrom_46 ?_
            refine j_icmp_ge hJ (tgt := 78) ⟨by omega, by omega⟩ ⟨by omega, by omega⟩ (by decide) dX2_stepFrom_49 ?_ ?_
            · intro h49
              refine j_iinc hJ (lv' := [(4, .int (zI (d + 1))), (5, .int (zI (((μ 8 k) + d) - 13))), (0, .ref (b 5)), (1, .int (zI (μ 8 k))), (2, .int (zI ct)), (3, .int (zI cc2))]) (j := 5) rfl (by omega) (by decide) rfl dX2_stepFrom_78 ?_
              refine j_goto hJ (tgt := 5) (by decide) dX2_stepFrom_81 ?_
              refine j_locs hJ [2, 3, 4, 5, 0] rfl ?_
              refine ih5 μk cc2 (d + 1) (by omega) (by omega) (by omega) ?_ (by first | exact h8 | (rw [hM2, up_at (by omega), hM1, up_row (by omega)]; exact h8)) (by first | exact hF | exact fun a a7 a8 => by rw [hM2, up_rowf a8, hM1, up_rowf a7, hF a a7 a8])
              · first
                | exact hBk.skip (fun he => absurd (by rw [h8] at he; exact he) hno)
                | exact hBk.skip (fun he => by rw [h8] at he ⊢; have r := (hR _ _ he).2; have := hBk.old hkc r (fun e => by have := h37.1 ⟨r.1, r.2, e⟩; omega); rwa [h8] at this)
                | exact absurd (hBk.room (x := μ 8 k + d - 13) ⟨hnew.1, hnew.2.1⟩ hnew.2.2) (by omega)
                | (have := hBk.add hkc (by rw [h8]; exact hyes) (by rw [h8]; exact ⟨hnew.1, hnew.2.1⟩) (by rw [h8]; exact hnew.2.2)
                   rw [h8] at this
                   rw [hM2, hM1]
                   exact this)
            · intro h49
              refine j_aload_n hJ (j := 1) rfl rfl dX2_stepFrom_52 ?_
              refine w_getr hJ (by omega) rfl rfl f_X2_15 dX2_stepFrom_53 ?_
              refine j_iload hJ (j := 0) rfl dX2_stepFrom_56 ?_
              refine j_aload_n hJ (j := 1) rfl rfl dX2_stepFrom_58 ?_
              refine w_getr hJ (by omega) rfl rfl f_X2_15 dX2_stepFrom_59 ?_
              refine j_iload_n hJ (j := 2) rfl rfl dX2_stepFrom_62 ?_
              refine w_iald hJ (by omega) rfl (by first | decide | omega) (by omega) (by omega) dX2_stepFrom_63 ?_
              refine j_iconst hJ dX2_stepFrom_64 ?_
              refine j_iadd hJ dX2_stepFrom_65 ?_
              refine w_iast hJ (by omega) rfl (by first | decide | omega) (by omega) (by omega) dX2_stepFrom_66 ?_
              intro μ1 hμ1
              have hM1 := hμ1
              refine j_aload_n hJ (j := 1) rfl rfl dX2_stepFrom_67 ?_
              refine w_getr hJ (by omega) rfl rfl f_X2_18 dX2_stepFrom_68 ?_
              refine j_iload_n hJ (j := 4) rfl rfl dX2_stepFrom_71 ?_
              refine j_iload hJ (j := 0) rfl dX2_stepFrom_72 ?_
              refine w_iast hJ (by omega) rfl (by first | decide | omega) (by omega) (by omega) dX2_stepFrom_74 ?_
              intro μ2 hμ2
              have hM2 := hμ2
              refine j_iinc hJ (lv' := [(3, .int (zI (cc2 + 1))), (5, .int (zI (((μ 8 k) + d) - 13))), (0, .ref (b 5)), (1, .int (zI (μ 8 k))), (2, .int (zI ct)), (4, .int (zI d))]) (j := 4) rfl (by omega) (by decide) rfl dX2_stepFrom_75 ?_
              refine j_iinc hJ (lv' := [(4, .int (zI (d + 1))), (3, .int (zI (cc2 + 1))), (5, .int (zI (((μ 8 k) + d) - 13))), (0, .ref (b 5)), (1, .int (zI (μ 8 k))), (2, .int (zI ct))]) (j := 5) rfl (by omega) (by decide) rfl dX2_stepFrom_78 ?_
              refine j_goto hJ (tgt := 5) (by decide) dX2_stepFrom_81 ?_
              refine j_locs hJ [3, 4, 5, 1, 0] rfl ?_
              refine ih5 μ2 (cc2 + 1) (d + 1) (by omega) (by omega) (by omega) ?_ (by first | exact h8 | (rw [hM2, up_at (by omega), hM1, up_row (by omega)]; exact h8)) (by first | exact hF | exact fun a a7 a8 => by rw [hM2, up_rowf a8, hM1, up_rowf a7, hF a a7 a8])
              · first
                | exact hBk.skip (fun he => absurd (by rw [h8] at he; exact he) hno)
                | exact hBk.skip (fun he => by rw [h8] at he ⊢; have r := (hR _ _ he).2; have := hBk.old hkc r (fun e => by have := h37.1 ⟨r.1, r.2, e⟩; omega); rwa [h8] at this)
                | exact absurd (hBk.room (x := μ 8 k + d - 13) ⟨hnew.1, hnew.2.1⟩ hnew.2.2) (by omega)
                | (have := hBk.add hkc (by rw [h8]; exact hyes) (by rw [h8]; exact ⟨hnew.1, hnew.2.1⟩) (by rw [h8]; exact hnew.2.2)
                   rw [h8] at this
                   rw [hM2, hM1]
                   exact this)
  refine j_locs hJ [2, 3, 4, 1, 0] rfl ?_
  exact lp5 (((27 : Int) - 0).toNat + 1) μ ct 0 (by omega) (by omega) (by omega) (by omega) (by rfl) (by exact fun _ _ _ => rfl)
set_option maxHeartbeats 4000000 in
set_option maxRecDepth 100000 in
theorem c_X2_spread {μ : Nat → Int → Int} {n : Nat} {L : Nat → List Int} {ow : Nat → Int} {a0 : Int} (hfl : l.stackTraces = false) (hn : n ≤ 16) (hT : ∀ s, s < n → TP μ s (L s) ∧ AdjL (L s) ∧ μ (9 + 6 * s) 2 = ow s ∧ (ow s = 0 ∨ ow s = 1)) (ha : 0 ≤ a0 ∧ a0 < 144) : CT l D cy n0 ad yX2_spread (.code yX2_spread cX2_spread 6 (some .int)) ({ frames := 2, cells := 0, slots := 0, locals := 48 }) [.ref (b 5), .ref (b 2), .int (zI (n : Int)), .int (zI a0)] (gw 105 XSh cy b μ ++ E) (fun vv uu => ∃ q μ', vv = some (.int (zI q)) ∧ uu = (gw 105 XSh cy b μ' ++ E) ∧ (Dst μ' (EdS n L ow) a0 ∧ IsCount (EdS n L ow) a0 q ∧ (∀ x, 0 ≤ x → x < 144 → 0 ≤ μ' 7 x ∧ μ' 7 x ≤ 144) ∧ FrS μ μ')) := by
  have hR : ∀ a b, EdS n L ow a b → (0 ≤ a ∧ a < 144) ∧ 0 ≤ b ∧ b < 144 := fun a b ⟨s, s1, j, _, h⟩ => by
    obtain ⟨⟨-, -, -, g, -⟩, -⟩ := hT s s1
    rcases h with ⟨h1, h2⟩ | ⟨-, h1, h2⟩ <;> exact ⟨g _ (List.mem_of_getElem? h1), g _ (List.mem_of_getElem? h2)⟩
  have hA : ∀ a b, EdS n L ow a b → a - 13 ≤ b ∧ b ≤ a + 13 := fun a b ⟨s, s1, j, _, h⟩ => by
    obtain ⟨-, g, -⟩ := hT s s1
    rcases h with ⟨h1, h2⟩ | ⟨-, h1, h2⟩
    · exact g j a b h1 h2
    · have := g j b a h2 h1; omega
  refine CT.walk hfl (by decide) (Nat.le_of_ble_eq_true rfl) ?_
  intro A J hJ
  show J (gw 105 XSh cy b μ ++ E) 0 0 0 [(0, .ref (b 5)), (1, .ref (b 2)), (2, .int (zI (n : Int))), (3, .int (zI a0))] []
  refine j_aload_n hJ (j := 0) rfl rfl dX2_spread_0 ?_
  refine j_aload_n hJ (j := 1) rfl rfl dX2_spread_1 ?_
  refine j_iload_n hJ (j := 2) rfl rfl dX2_spread_2 ?_
  refine j_callV0 hJ (c_X2_findExits hfl hn hT) m_X2_21 k_X2_findExits (q0 := 5) (by rw [gw_get (by decide)]; rfl) rfl ⟨(Nat.le_of_ble_eq_true rfl), (Nat.le_of_ble_eq_true rfl)⟩ ⟨(Nat.le_of_ble_eq_true rfl), (Nat.le_of_ble_eq_true rfl)⟩ (Nat.le_of_ble_eq_true rfl) dX2_spread_3 rfl ?_
  intro v1 u2 hv3
  obtain ⟨μ1, rfl, rfl, h3⟩ := hv3
  show J (gw 105 XSh cy b μ1 ++ E) 0 0 6 [(0, .ref (b 5)), (1, .ref (b 2)), (2, .int (zI (n : Int))), (3, .int (zI a0))] []
  refine j_aload_n hJ (j := 0) rfl rfl dX2_spread_6 ?_
  refine w_getr hJ (by omega) rfl rfl f_X2_15 dX2_spread_7 ?_
  refine j_sipush hJ (v := 144) (by decide) dX2_spread_10 ?_
  refine j_callS0 hJ (c_J7_fill_53178 hfl (k := 7) (n := 144) (v := 144) (by omega) rfl (by omega)) m_X2_25 k_J7_fill_53178 ⟨(Nat.le_of_ble_eq_true rfl), (Nat.le_of_ble_eq_true rfl)⟩ ⟨(Nat.le_of_ble_eq_true rfl), (Nat.le_of_ble_eq_true rfl)⟩ (Nat.le_of_ble_eq_true rfl) dX2_spread_13 rfl ?_
  intro v4 u5 hv6
  obtain ⟨μ2, rfl, rfl, hM2⟩ := hv6
  show J (gw 105 XSh cy b μ2 ++ E) 0 0 16 [(0, .ref (b 5)), (1, .ref (b 2)), (2, .int (zI (n : Int))), (3, .int (zI a0))] []
  rw [show ((144 : Nat) : Int) = 144 from rfl] at hM2
  refine j_aload_n hJ (j := 0) rfl rfl dX2_spread_16 ?_
  refine w_getr hJ (by omega) rfl rfl f_X2_15 dX2_spread_17 ?_
  refine j_iload_n hJ (j := 3) rfl rfl dX2_spread_20 ?_
  refine j_iconst hJ dX2_spread_21 ?_
  refine w_iast hJ (by omega) rfl (by first | decide | omega) (by omega) (by omega) dX2_spread_22 ?_
  intro μ3 hμ3
  have hM3 := hμ3
  refine j_aload_n hJ (j := 0) rfl rfl dX2_spread_23 ?_
  refine w_getr hJ (by omega) rfl rfl f_X2_18 dX2_spread_24 ?_
  refine j_iconst hJ dX2_spread_27 ?_
  refine j_iload_n hJ (j := 3) rfl rfl dX2_spread_28 ?_
  refine w_iast hJ (by omega) rfl (by first | decide | omega) (by omega) (by omega) dX2_spread_29 ?_
  intro μ4 hμ4
  have hM4 := hμ4
  refine j_iconst hJ dX2_spread_30 ?_
  refine j_istore hJ (lv' := [(4, .int (zI 1)), (0, .ref (b 5)), (1, .ref (b 2)), (2, .int (zI (n : Int))), (3, .int (zI a0))]) (by decide) rfl dX2_spread_31 ?_
  have hE4 : ExOn μ4 (EdS n L ow) := fun a a0 a1 => by rw [hM4, up_rowf (by omega), hM3, up_rowf (by omega), hM2, fillp_row (by omega)]; exact h3.1 a a0 a1
  have s7 : ∀ x, 0 ≤ x → x < 144 → μ4 7 x = if x = a0 then 0 else 144 := fun x x0 x1 => by
    rw [hM4, up_row (by omega), hM3]
    by_cases e : x = a0
    · rw [e, up_self, if_pos rfl]
    · rw [up_at e, hM2, fillp_in x0 x1, if_neg e]
  have s8 : μ4 8 0 = a0 := by rw [hM4, up_self]
  have hF4 : FrS μ μ4 := fun a a3 a4 a6 a7 a8 => by rw [hM4, up_rowf a8, hM3, up_rowf a7, hM2, fillp_row a7, h3.2 a a6]
  have hB4 : BI μ4 (EdS n L ow) a0 1 0 0 := by
    refine ⟨by omega, fun j j0 j1 => ?_, fun x x0 x1 => ?_, fun i j i0 ij j1 => ?_, fun _ j j0 j1 => ?_, fun i b i0 i1 => by omega, fun x x0 x1 h => ?_, ?_, by rw [s7 a0 ha.1 ha.2, if_pos rfl], fun _ e e0 e1 => by omega⟩
    · rw [show j = 0 by omega, s8, s7 a0 ha.1 ha.2, if_pos rfl]; omega
    · by_cases e : x = a0
      · exact Or.inr ⟨0, by omega, by omega, by rw [s8, e]⟩
      · rw [s7 x x0 x1, if_neg e]; exact Or.inl rfl
    · rw [show i = j by omega]; exact Int.le_refl _
    · rw [show j = 0 by omega]; omega
    · rw [s7 x x0 x1] at h ⊢
      by_cases e : x = a0
      · rw [if_pos e]; exact ⟨0, rfl, e.symm⟩
      · rw [if_neg e] at h; omega
    · have c0 : ∀ m : Nat, cntN (fun _ => false) m = 0 := fun m => by induction m with | zero => rfl | succ m ih => simp [cntN, ih]
      rw [cntN_flip (f := fun _ => false) (i := a0.toNat) (n := 144) (by omega) rfl (by simp [Int.toNat_of_nonneg ha.1, s7 a0 ha.1 ha.2]) (fun j j1 hj => by rw [s7 _ (by omega) (by omega), if_neg (by omega)]; rfl), c0]; rfl
  obtain ⟨μz, hμz⟩ : ∃ μz, μz = μ4 := ⟨_, rfl⟩
  rw [← hμz] at hE4 hF4 hB4 ⊢
  refine j_iconst hJ dX2_spread_33 ?_
  refine j_istore hJ (lv' := [(5, .int (zI 0)), (4, .int (zI 1)), (0, .ref (b 5)), (1, .ref (b 2)), (2, .int (zI (n : Int))), (3, .int (zI a0))]) (by decide) rfl dX2_spread_34 ?_
  have lp36 : ∀ (nn36 : Nat) (μk : Nat → Int → Int) (ct : Int) (k : Int) (hmeas36 : ((144 : Int) - k).toNat < nn36) (hk : 0 ≤ k ∧ k ≤ ct ∧ ct ≤ 144) (hBk : BI μk (EdS n L ow) a0 ct k 0) (hEk : ExOn μk (EdS n L ow)) (hFk : FrS μ μk), J (gw 105 XSh cy b μk ++ E) 0 0 36 [(0, .ref (b 5)), (1, .ref (b 2)), (2, .int (zI (n : Int))), (3, .int (zI a0)), (4, .int (zI ct)), (5, .int (zI k))] [] := by
    intro nn36
    induction nn36 with
    | zero => intro μk ct k hmeas36 hk hBk hEk hFk; omega
    | succ nn36 ih36 =>
      intro μk ct k hmeas36 hk hBk hEk hFk
      refine j_iload hJ (j := 5) rfl dX2_spread_36 ?_
      refine j_iload hJ (j := 4) rfl dX2_spread_38 ?_
      refine j_icmp_ge hJ (tgt := 72) ⟨by omega, by omega⟩ ⟨by omega, by omega⟩ (by decide) dX2_spread_40 ?_ ?_
      · intro h40
        refine j_iload hJ (j := 4) rfl dX2_spread_72 ?_
        have hct : k = ct := by omega
        rw [hct] at hBk
        obtain ⟨d1, d2⟩ := hBk.dist ha hR
        have d3 : ∀ x, 0 ≤ x → x < 144 → 0 ≤ μk 7 x ∧ μk 7 x ≤ 144 := fun y y0 y1 => by
          obtain ⟨-, bk2, bk3, -⟩ := hBk
          rcases bk3 y y0 y1 with g | ⟨j, j0, j1, g⟩
          · omega
          · have := bk2 j j0 j1; rw [g] at this; omega
        refine j_iret hJ rfl rfl (rfl) (Nat.le_of_ble_eq_true rfl) (Nat.le_of_ble_eq_true rfl) dX2_spread_74 ⟨ct, μk, rfl, rfl, ?_⟩
        exact ⟨d1, d2, d3, hFk⟩
      · intro h40
        refine j_iload hJ (j := 5) rfl dX2_spread_43 ?_
        refine j_sipush hJ (v := 144) (by decide) dX2_spread_45 ?_
        refine j_icmp_ge hJ (tgt := 72) ⟨by omega, by omega⟩ ⟨by omega, by omega⟩ (by decide) dX2_spread_48 ?_ ?_
        · intro h48
          refine j_iload hJ (j := 4) rfl dX2_spread_72 ?_
          have hct : k = ct := by omega
          rw [hct] at hBk
          obtain ⟨d1, d2⟩ := hBk.dist ha hR
          have d3 : ∀ x, 0 ≤ x → x < 144 → 0 ≤ μk 7 x ∧ μk 7 x ≤ 144 := fun y y0 y1 => by
            obtain ⟨-, bk2, bk3, -⟩ := hBk
            rcases bk3 y y0 y1 with g | ⟨j, j0, j1, g⟩
            · omega
            · have := bk2 j j0 j1; rw [g] at this; omega
          refine j_iret hJ rfl rfl (rfl) (Nat.le_of_ble_eq_true rfl) (Nat.le_of_ble_eq_true rfl) dX2_spread_74 ⟨ct, μk, rfl, rfl, ?_⟩
          exact ⟨d1, d2, d3, hFk⟩
        · intro h48
          refine j_aload_n hJ (j := 0) rfl rfl dX2_spread_51 ?_
          refine j_aload_n hJ (j := 0) rfl rfl dX2_spread_52 ?_
          refine w_getr hJ (by omega) rfl rfl f_X2_18 dX2_spread_53 ?_
          refine j_iload hJ (j := 5) rfl dX2_spread_56 ?_
          refine w_iald hJ (by omega) rfl (by first | decide | omega) (by omega) (by omega) dX2_spread_58 ?_
          refine j_iload hJ (j := 4) rfl dX2_spread_59 ?_
          refine j_callV0 hJ (c_X2_stepFrom hfl (k := k) (a0 := a0) hR hA hEk hBk h40) m_X2_31 k_X2_stepFrom (q0 := 5) (by rw [gw_get (by decide)]; rfl) rfl ⟨(Nat.le_of_ble_eq_true rfl), (Nat.le_of_ble_eq_true rfl)⟩ ⟨(Nat.le_of_ble_eq_true rfl), (Nat.le_of_ble_eq_true rfl)⟩ (Nat.le_of_ble_eq_true rfl) dX2_spread_61 rfl ?_
          intro v7 u8 hv9
          obtain ⟨q61, μ5, rfl, rfl, h61⟩ := hv9
          show J (gw 105 XSh cy b μ5 ++ E) 0 0 64 [(0, .ref (b 5)), (1, .ref (b 2)), (2, .int (zI (n : Int))), (3, .int (zI a0)), (4, .int (zI ct)), (5, .int (zI k))] [.int (zI q61)]
          refine j_istore hJ (lv' := [(4, .int (zI q61)), (0, .ref (b 5)), (1, .ref (b 2)), (2, .int (zI (n : Int))), (3, .int (zI a0)), (5, .int (zI k))]) (by decide) rfl dX2_spread_64 ?_
          refine j_iinc hJ (lv' := [(5, .int (zI (k + 1))), (4, .int (zI q61)), (0, .ref (b 5)), (1, .ref (b 2)), (2, .int (zI (n : Int))), (3, .int (zI a0))]) (j := 5) rfl (by omega) (by decide) rfl dX2_spread_66 ?_
          refine j_goto hJ (tgt := 36) (by decide) dX2_spread_69 ?_
          refine j_locs hJ [2, 3, 4, 5, 1, 0] rfl ?_
          exact ih36 μ5 q61 (k + 1) (by omega) (by have := h61.1.1; omega) (by exact h61.1) (by exact fun a a0 a1 => by rw [h61.2.2 6 (by omega) (by omega)]; exact hEk a a0 a1) (by exact fun a a3 a4 a6 a7 a8 => by rw [h61.2.2 a a7 a8]; exact hFk a a3 a4 a6 a7 a8)
  refine j_locs hJ [2, 3, 4, 5, 1, 0] rfl ?_
  exact lp36 (((144 : Int) - 0).toNat + 1) μz 1 0 (by omega) (by omega) (by exact hB4) (by exact hE4) (by exact hF4)
set_option maxHeartbeats 4000000 in
set_option maxRecDepth 100000 in
theorem c_X2_tell {μ : Nat → Int → Int} {x y : Int} (hfl : l.stackTraces = false) (hx : 0 ≤ x ∧ x < 144) (hy : 0 ≤ y ∧ y < 144) (hr : ∀ z, 0 ≤ z → z < 144 → 0 ≤ μ 7 z ∧ μ 7 z ≤ 144) : CT l D cy n0 ad yX2_tell (.code yX2_tell cX2_tell 3 (some .boolean)) ({ frames := 0, cells := 0, slots := 0, locals := 0 }) [.ref (b 5), .int (zI x), .int (zI y)] (gw 105 XSh cy b μ ++ E) (fun vv uu => ∃ q μ', vv = some (.int (zI q)) ∧ uu = (gw 105 XSh cy b μ' ++ E) ∧ ((q = 1 ∧ μ 7 y + 1 < μ 7 x ∧ μ' = up μ 7 x (μ 7 y + 1)) ∨ (q = 0 ∧ μ 7 x ≤ μ 7 y + 1 ∧ μ' = μ))) := by
  have r1 := hr x hx.1 hx.2
  have r2 := hr y hy.1 hy.2
  refine CT.walk hfl (by decide) (Nat.le_of_ble_eq_true rfl) ?_
  intro A J hJ
  show J (gw 105 XSh cy b μ ++ E) 0 0 0 [(0, .ref (b 5)), (1, .int (zI x)), (2, .int (zI y))] []
  refine j_aload_n hJ (j := 0) rfl rfl dX2_tell_0 ?_
  refine w_getr hJ (by omega) rfl rfl f_X2_15 dX2_tell_1 ?_
  refine j_iload_n hJ (j := 2) rfl rfl dX2_tell_4 ?_
  refine w_iald hJ (by omega) rfl (by first | decide | omega) (by omega) (by omega) dX2_tell_5 ?_
  refine j_iconst hJ dX2_tell_6 ?_
  refine j_iadd hJ dX2_tell_7 ?_
  refine j_aload_n hJ (j := 0) rfl rfl dX2_tell_8 ?_
  refine w_getr hJ (by omega) rfl rfl f_X2_15 dX2_tell_9 ?_
  refine j_iload_n hJ (j := 1) rfl rfl dX2_tell_12 ?_
  refine w_iald hJ (by omega) rfl (by first | decide | omega) (by omega) (by omega) dX2_tell_13 ?_
  refine j_icmp_lt hJ (tgt := 19) ⟨by omega, by omega⟩ ⟨by omega, by omega⟩ (by decide) dX2_tell_14 ?_ ?_
  · intro h14
    refine j_aload_n hJ (j := 0) rfl rfl dX2_tell_19 ?_
    refine w_getr hJ (by omega) rfl rfl f_X2_15 dX2_tell_20 ?_
    refine j_iload_n hJ (j := 1) rfl rfl dX2_tell_23 ?_
    refine j_aload_n hJ (j := 0) rfl rfl dX2_tell_24 ?_
    refine w_getr hJ (by omega) rfl rfl f_X2_15 dX2_tell_25 ?_
    refine j_iload_n hJ (j := 2) rfl rfl dX2_tell_28 ?_
    refine w_iald hJ (by omega) rfl (by first | decide | omega) (by omega) (by omega) dX2_tell_29 ?_
    refine j_iconst hJ dX2_tell_30 ?_
    refine j_iadd hJ dX2_tell_31 ?_
    refine w_iast hJ (by omega) rfl (by first | decide | omega) (by omega) (by omega) dX2_tell_32 ?_
    intro μ1 hμ1
    refine j_iconst hJ dX2_tell_33 ?_
    refine j_iret hJ rfl rfl (rfl) (Nat.le_of_ble_eq_true rfl) (Nat.le_of_ble_eq_true rfl) dX2_tell_34 ⟨1, μ1, rfl, rfl, ?_⟩
    exact Or.inl ⟨rfl, by omega, hμ1⟩
  · intro h14
    refine j_iconst hJ dX2_tell_17 ?_
    refine j_iret hJ rfl rfl (rfl) (Nat.le_of_ble_eq_true rfl) (Nat.le_of_ble_eq_true rfl) dX2_tell_18 ⟨0, μ, rfl, rfl, ?_⟩
    exact Or.inr ⟨rfl, by omega, rfl⟩
set_option maxHeartbeats 4000000 in
set_option maxRecDepth 100000 in
theorem c_X2_tellAlong {μ : Nat → Int → Int} {s : Nat} {o g : Int} {L : List Int} {Ed : Int → Int → Prop} (hfl : l.stackTraces = false) (hs : s < 16) (ho : o = 0 ∨ o = 1) (hT : TP μ s L) (hE : ∀ a b, EdL L o a b → Ed a b) (hS : SD μ Ed g) : CT l D cy n0 ad yX2_tellAlong (.code yX2_tellAlong cX2_tellAlong 5 (some .boolean)) ({ frames := 1, cells := 0, slots := 0, locals := 22 }) [.ref (b 5), .ref (b (9 + 6 * s + 2)), .int (zI o)] (gw 105 XSh cy b μ ++ E) (fun vv uu => ∃ q μ', vv = some (.int (zI q)) ∧ uu = (gw 105 XSh cy b μ' ++ E) ∧ ((q = 0 ∨ q = 1) ∧ SD μ' Ed g ∧ (∀ x, μ' 7 x ≤ μ 7 x) ∧ (∀ a b, EdL L o a b → μ' 7 a ≤ μ 7 b + 1) ∧ (q = 0 → ∀ x, μ' 7 x = μ 7 x) ∧ ∀ a, a ≠ 7 → μ' a = μ a)) := by
  obtain ⟨h1, h2, h3, h4, h5⟩ := hT
  have hley0 : ∀ x : Int, (0 : Int) ≤ 0 := fun _ => Int.le_refl _
  refine CT.walk hfl (by decide) (Nat.le_of_ble_eq_true rfl) ?_
  intro A J hJ
  show J (gw 105 XSh cy b μ ++ E) 0 0 0 [(0, .ref (b 5)), (1, .ref (b (9 + 6 * s + 2))), (2, .int (zI o))] []
  refine j_iconst hJ dX2_tellAlong_0 ?_
  refine j_istore_n hJ (lv' := [(3, .int (zI 0)), (0, .ref (b 5)), (1, .ref (b (9 + 6 * s + 2))), (2, .int (zI o))]) rfl (by decide) rfl dX2_tellAlong_1 ?_
  refine j_aload_n hJ (j := 2) rfl rfl dX2_tellAlong_2 ?_
  refine w_geti hJ (fi := 1) rfl (by omega) (XS2 _) rfl f_X2_53 dX2_tellAlong_3 ?_
  refine j_topi (y := zI (L.length : Int)) (by rw [h1]) ?_
  refine j_iconst hJ dX2_tellAlong_6 ?_
  refine j_isub hJ dX2_tellAlong_7 ?_
  refine j_istore hJ (lv' := [(4, .int (zI ((L.length : Int) - 1))), (3, .int (zI 0)), (0, .ref (b 5)), (1, .ref (b (9 + 6 * s + 2))), (2, .int (zI o))]) (by decide) rfl dX2_tellAlong_8 ?_
  have lp10 : ∀ (nn10 : Nat) (μk : Nat → Int → Int) (ls : Int) (k : Int) (hmeas10 : (k + 1).toNat < nn10) (hk : -1 ≤ k ∧ k < L.length) (hl : ls = 0 ∨ ls = 1) (hSk : SD μk Ed g) (hle : ∀ x, μk 7 x ≤ μ 7 x) (hed : ∀ (j : Nat) (a b : Int), k ≤ j → L[j]? = some a → L[j + 1]? = some b → μk 7 a ≤ μ 7 b + 1) (hz : ls = 0 → ∀ x, μk 7 x = μ 7 x) (hF : ∀ a, a ≠ 7 → μk a = μ a), J (gw 105 XSh cy b μk ++ E) 0 0 10 [(0, .ref (b 5)), (1, .ref (b (9 + 6 * s + 2))), (2, .int (zI o)), (3, .int (zI ls)), (4, .int (zI k))] [] := by
    intro nn10
    induction nn10 with
    | zero => intro μk ls k hmeas10 hk hl hSk hle hed hz hF; omega
    | succ nn10 ih10 =>
      intro μk ls k hmeas10 hk hl hSk hle hed hz hF
      refine j_iload hJ (j := 4) rfl dX2_tellAlong_10 ?_
      refine j_if_le hJ (tgt := 46) ⟨by omega, by omega⟩ (by decide) dX2_tellAlong_12 ?_ ?_
      · intro h12
        obtain ⟨μy, hμy⟩ : ∃ μy, μy = μk := ⟨_, rfl⟩
        have hSy := hSk
        have hley0 := hle
        have hedy : ∀ (j : Nat) (a b : Int), L[j]? = some a → L[j + 1]? = some b → μk 7 a ≤ μ 7 b + 1 := fun j a b g1 g2 => hed j a b (by omega) g1 g2
        have hzy := hz
        have hFy := hF
        rw [← hμy] at hSy hley0 hedy hzy hFy ⊢
        refine j_iconst hJ dX2_tellAlong_46 ?_
        refine j_istore hJ (lv' := [(4, .int (zI 1)), (0, .ref (b 5)), (1, .ref (b (9 + 6 * s + 2))), (2, .int (zI o)), (3, .int (zI ls))]) (by decide) rfl dX2_tellAlong_47 ?_
        have lp49 : ∀ (nn49 : Nat) (μk : Nat → Int → Int) (l2 : Int) (k : Int) (hmeas49 : ((L.length : Int) + 1 - k).toNat < nn49) (hk : 1 ≤ k ∧ (k ≤ L.length ∨ k = 1)) (hl : l2 = 0 ∨ l2 = 1) (hSk : SD μk Ed g) (hle : ∀ x, μk 7 x ≤ μy 7 x) (hed : ∀ (j : Nat) (a b : Int), (j : Int) + 1 < k → o = 0 → L[j]? = some b → L[j + 1]? = some a → μk 7 a ≤ μ 7 b + 1) (hz : l2 = 0 → ∀ x, μk 7 x = μ 7 x) (hF : ∀ a, a ≠ 7 → μk a = μ a), J (gw 105 XSh cy b μk ++ E) 0 0 49 [(0, .ref (b 5)), (1, .ref (b (9 + 6 * s + 2))), (2, .int (zI o)), (3, .int (zI l2)), (4, .int (zI k))] [] := by
          intro nn49
          induction nn49 with
          | zero => intro μk l2 k hmeas49 hk hl hSk hle hed hz hF; omega
          | succ nn49 ih49 =>
            intro μk l2 k hmeas49 hk hl hSk hle hed hz hF
            refine j_iload hJ (j := 4) rfl dX2_tellAlong_49 ?_
            refine j_aload_n hJ (j := 1) rfl rfl dX2_tellAlong_51 ?_
            refine w_geti hJ (fi := 1) rfl (by omega) (XS2 _) rfl f_X2_53 dX2_tellAlong_52 ?_
            refine j_topi (y := zI (L.length : Int)) (by rw [hF _ (by omega), h1]) ?_
            refine j_icmp_ge hJ (tgt := 93) ⟨by omega, by omega⟩ ⟨by omega, by omega⟩ (by decide) dX2_tellAlong_55 ?_ ?_
            · intro h55
              refine j_iload_n hJ (j := 3) rfl rfl dX2_tellAlong_93 ?_
              refine j_iret hJ rfl rfl (by rcases hl with e | e <;> rw [e] <;> rfl) (Nat.le_of_ble_eq_true rfl) (Nat.le_of_ble_eq_true rfl) dX2_tellAlong_94 ⟨l2, μk, rfl, rfl, ?_⟩
              refine ⟨hl, hSk, fun x => Int.le_trans (hle x) (hley0 x), fun a b hab => ?_, hz, hF⟩
              obtain ⟨j, hj, h⟩ := hab
              rcases h with ⟨g1, g2⟩ | ⟨ho0, g1, g2⟩
              · exact Int.le_trans (hle a) (hedy j a b g1 g2)
              · exact hed j a b (by omega) ho0 g2 g1
            · intro h55
              refine j_iload_n hJ (j := 2) rfl rfl dX2_tellAlong_58 ?_
              refine j_if_ne hJ (tgt := 93) ⟨by omega, by omega⟩ (by decide) dX2_tellAlong_59 ?_ ?_
              · intro h59
                refine j_iload_n hJ (j := 3) rfl rfl dX2_tellAlong_93 ?_
                refine j_iret hJ rfl rfl (by rcases hl with e | e <;> rw [e] <;> rfl) (Nat.le_of_ble_eq_true rfl) (Nat.le_of_ble_eq_true rfl) dX2_tellAlong_94 ⟨l2, μk, rfl, rfl, ?_⟩
                refine ⟨hl, hSk, fun x => Int.le_trans (hle x) (hley0 x), fun a b hab => ?_, hz, hF⟩
                obtain ⟨j, hj, h⟩ := hab
                rcases h with ⟨g1, g2⟩ | ⟨ho0, g1, g2⟩
                · exact Int.le_trans (hle a) (hedy j a b g1 g2)
                · exact hed j a b (by omega) ho0 g2 g1
              · intro h59
                obtain ⟨x, e1x, e2x, e3x⟩ := h2.at (z := k) (by omega) (by omega)
                obtain ⟨y, e1y, e2y, e3y⟩ := h2.at (z := k - 1) (by omega) (by omega)
                rw [show (k - 1).toNat = k.toNat - 1 by omega] at e1y
                have hx4 := h4 x e3x
                have hy4 := h4 y e3y
                have hExy : Ed x y := hE x y ⟨k.toNat - 1, by omega, Or.inr ⟨by omega, by rw [show k.toNat - 1 + 1 = k.toNat by omega]; exact e1x, e1y⟩⟩
                refine j_aload_n hJ (j := 0) rfl rfl dX2_tellAlong_62 ?_
                refine j_aload_n hJ (j := 1) rfl rfl dX2_tellAlong_63 ?_
                refine w_getr hJ (by omega) (XS2 _) rfl f_X2_59 dX2_tellAlong_64 ?_
                refine j_iload hJ (j := 4) rfl dX2_tellAlong_67 ?_
                refine w_iald hJ (by omega) (XS3 _) (by first | decide | omega) (by omega) (by omega) dX2_tellAlong_69 ?_
                refine j_topi (y := zI x) (by rw [hF _ (by omega), e2x]) ?_
                refine j_aload_n hJ (j := 1) rfl rfl dX2_tellAlong_70 ?_
                refine w_getr hJ (by omega) (XS2 _) rfl f_X2_59 dX2_tellAlong_71 ?_
                refine j_iload hJ (j := 4) rfl dX2_tellAlong_74 ?_
                refine j_iconst hJ dX2_tellAlong_76 ?_
                refine j_isub hJ dX2_tellAlong_77 ?_
                refine w_iald hJ (by omega) (XS3 _) (by first | decide | omega) (by omega) (by omega) dX2_tellAlong_78 ?_
                refine j_topi (y := zI y) (by rw [hF _ (by omega), e2y]) ?_
                refine j_callV0 hJ (c_X2_tell hfl hx4 hy4 (fun z z0 z1 => (hSk z z0 z1).1)) m_X2_66 k_X2_tell (q0 := 5) (by rw [gw_get (by decide)]; rfl) rfl ⟨(Nat.le_of_ble_eq_true rfl), (Nat.le_of_ble_eq_true rfl)⟩ ⟨(Nat.le_of_ble_eq_true rfl), (Nat.le_of_ble_eq_true rfl)⟩ (Nat.le_of_ble_eq_true rfl) dX2_tellAlong_79 rfl ?_
                intro v1 u2 hv3
                obtain ⟨q32, μ1, rfl, rfl, h32⟩ := hv3
                show J (gw 105 XSh cy b μ1 ++ E) 0 0 82 [(0, .ref (b 5)), (1, .ref (b (9 + 6 * s + 2))), (2, .int (zI o)), (3, .int (zI l2)), (4, .int (zI k))] [.int (zI q32)]
                have hS32 : SD μ1 Ed g := by
                  rcases h32 with ⟨-, a1, a2⟩ | ⟨-, -, a2⟩
                  · rw [a2]; exact hSk.tell hx4 hy4 hExy a1
                  · rw [a2]; exact hSk
                have hmono : ∀ z, μ1 7 z ≤ μk 7 z := fun z => by
                  rcases h32 with ⟨-, a1, a2⟩ | ⟨-, -, a2⟩
                  · rw [a2]
                    by_cases e : z = x
                    · rw [e, up_self]; omega
                    · rw [up_at e]; exact Int.le_refl _
                  · rw [a2]; exact Int.le_refl _
                have hle32 : ∀ z, μ1 7 z ≤ μy 7 z := fun z => Int.le_trans (hmono z) (hle z)
                have hed32 : μ1 7 x ≤ μ 7 y + 1 := by
                  have := hle y
                  have := hley0 y
                  rcases h32 with ⟨-, a1, a2⟩ | ⟨-, a1, a2⟩
                  · rw [a2, up_self]; omega
                  · rw [a2]; omega
                have hz32 : q32 = 0 → l2 = 0 → ∀ z, μ1 7 z = μ 7 z := fun hq hl0 z => by
                  rcases h32 with ⟨a0, -, -⟩ | ⟨-, -, a2⟩
                  · omega
                  · rw [a2]; exact hz hl0 z
                have hF32 : ∀ a, a ≠ 7 → μ1 a = μ a := fun a ha => by
                  rcases h32 with ⟨-, -, a2⟩ | ⟨-, -, a2⟩
                  · rw [a2, up_rowf ha, hF a ha]
                  · rw [a2, hF a ha]
                have hq32 : q32 = 0 ∨ q32 = 1 := by rcases h32 with ⟨a0, -⟩ | ⟨a0, -⟩ <;> omega
                refine j_if_eq hJ (tgt := 87) ⟨by omega, by omega⟩ (by decide) dX2_tellAlong_82 ?_ ?_
                · intro h82
                  have hz32 := hz32 h82
                  refine j_iinc hJ (lv' := [(4, .int (zI (k + 1))), (0, .ref (b 5)), (1, .ref (b (9 + 6 * s + 2))), (2, .int (zI o)), (3, .int (zI l2))]) (j := 4) rfl (by omega) (by decide) rfl dX2_tellAlong_87 ?_
                  refine j_goto hJ (tgt := 49) (by decide) dX2_tellAlong_90 ?_
                  refine j_locs hJ [1, 2, 3, 4, 0] rfl ?_
                  refine ih49 μ1 l2 (k + 1) (by omega) (by omega) (by omega) (by exact hS32) (by exact hle32) ?_ (by first | exact hz32 | (intro h; omega)) (by exact hF32)
                  · intro j a b hj ho0 g1 g2
                    by_cases e : (j : Int) + 1 = k
                    · have ej : j = k.toNat - 1 := by omega
                      subst ej
                      rw [show k.toNat - 1 + 1 = k.toNat by omega, e1x] at g2
                      rw [e1y] at g1
                      cases g1; cases g2
                      exact hed32
                    · have := hed j a b (by omega) ho0 g1 g2
                      have := hmono a
                      omega
                · intro h82
                  refine j_iconst hJ dX2_tellAlong_85 ?_
                  refine j_istore_n hJ (lv' := [(3, .int (zI 1)), (0, .ref (b 5)), (1, .ref (b (9 + 6 * s + 2))), (2, .int (zI o)), (4, .int (zI k))]) rfl (by decide) rfl dX2_tellAlong_86 ?_
                  refine j_iinc hJ (lv' := [(4, .int (zI (k + 1))), (3, .int (zI 1)), (0, .ref (b 5)), (1, .ref (b (9 + 6 * s + 2))), (2, .int (zI o))]) (j := 4) rfl (by omega) (by decide) rfl dX2_tellAlong_87 ?_
                  refine j_goto hJ (tgt := 49) (by decide) dX2_tellAlong_90 ?_
                  refine j_locs hJ [2, 3, 4, 1, 0] rfl ?_
                  refine ih49 μ1 1 (k + 1) (by omega) (by omega) (by omega) (by exact hS32) (by exact hle32) ?_ (by first | exact hz32 | (intro h; omega)) (by exact hF32)
                  · intro j a b hj ho0 g1 g2
                    by_cases e : (j : Int) + 1 = k
                    · have ej : j = k.toNat - 1 := by omega
                      subst ej
                      rw [show k.toNat - 1 + 1 = k.toNat by omega, e1x] at g2
                      rw [e1y] at g1
                      cases g1; cases g2
                      exact hed32
                    · have := hed j a b (by omega) ho0 g1 g2
                      have := hmono a
                      omega
        refine j_locs hJ [1, 2, 3, 4, 0] rfl ?_
        refine lp49 (((L.length : Int) + 1 - 1).toNat + 1) μy ls 1 (by omega) (by omega) (by omega) (by exact hSy) (by exact fun _ => Int.le_refl _) ?_ (by exact hzy) (by exact hFy)
        · intro j a b hj
          omega
      · intro h12
        obtain ⟨x, e1x, e2x, e3x⟩ := h2.at (z := k - 1) (by omega) (by omega)
        obtain ⟨y, e1y, e2y, e3y⟩ := h2.at (z := k) (by omega) (by omega)
        rw [show (k - 1).toNat = k.toNat - 1 by omega] at e1x
        have hx4 := h4 x e3x
        have hy4 := h4 y e3y
        have hExy : Ed x y := hE x y ⟨k.toNat - 1, by omega, Or.inl ⟨e1x, by rw [show k.toNat - 1 + 1 = k.toNat by omega]; exact e1y⟩⟩
        refine j_aload_n hJ (j := 0) rfl rfl dX2_tellAlong_15 ?_
        refine j_aload_n hJ (j := 1) rfl rfl dX2_tellAlong_16 ?_
        refine w_getr hJ (by omega) (XS2 _) rfl f_X2_59 dX2_tellAlong_17 ?_
        refine j_iload hJ (j := 4) rfl dX2_tellAlong_20 ?_
        refine j_iconst hJ dX2_tellAlong_22 ?_
        refine j_isub hJ dX2_tellAlong_23 ?_
        refine w_iald hJ (by omega) (XS3 _) (by first | decide | omega) (by omega) (by omega) dX2_tellAlong_24 ?_
        refine j_topi (y := zI x) (by rw [hF _ (by omega), e2x]) ?_
        refine j_aload_n hJ (j := 1) rfl rfl dX2_tellAlong_25 ?_
        refine w_getr hJ (by omega) (XS2 _) rfl f_X2_59 dX2_tellAlong_26 ?_
        refine j_iload hJ (j := 4) rfl dX2_tellAlong_29 ?_
        refine w_iald hJ (by omega) (XS3 _) (by first | decide | omega) (by omega) (by omega) dX2_tellAlong_31 ?_
        refine j_topi (y := zI y) (by rw [hF _ (by omega), e2y]) ?_
        refine j_callV0 hJ (c_X2_tell hfl hx4 hy4 (fun z z0 z1 => (hSk z z0 z1).1)) m_X2_66 k_X2_tell (q0 := 5) (by rw [gw_get (by decide)]; rfl) rfl ⟨(Nat.le_of_ble_eq_true rfl), (Nat.le_of_ble_eq_true rfl)⟩ ⟨(Nat.le_of_ble_eq_true rfl), (Nat.le_of_ble_eq_true rfl)⟩ (Nat.le_of_ble_eq_true rfl) dX2_tellAlong_32 rfl ?_
        intro v4 u5 hv6
        obtain ⟨q32, μ2, rfl, rfl, h32⟩ := hv6
        show J (gw 105 XSh cy b μ2 ++ E) 0 0 35 [(0, .ref (b 5)), (1, .ref (b (9 + 6 * s + 2))), (2, .int (zI o)), (3, .int (zI ls)), (4, .int (zI k))] [.int (zI q32)]
        have hS32 : SD μ2 Ed g := by
          rcases h32 with ⟨-, a1, a2⟩ | ⟨-, -, a2⟩
          · rw [a2]; exact hSk.tell hx4 hy4 hExy a1
          · rw [a2]; exact hSk
        have hmono : ∀ z, μ2 7 z ≤ μk 7 z := fun z => by
          rcases h32 with ⟨-, a1, a2⟩ | ⟨-, -, a2⟩
          · rw [a2]
            by_cases e : z = x
            · rw [e, up_self]; omega
            · rw [up_at e]; exact Int.le_refl _
          · rw [a2]; exact Int.le_refl _
        have hle32 : ∀ z, μ2 7 z ≤ μ 7 z := fun z => Int.le_trans (hmono z) (hle z)
        have hed32 : μ2 7 x ≤ μ 7 y + 1 := by
          have := hle y
          have := hley0 y
          rcases h32 with ⟨-, a1, a2⟩ | ⟨-, a1, a2⟩
          · rw [a2, up_self]; omega
          · rw [a2]; omega
        have hz32 : q32 = 0 → ls = 0 → ∀ z, μ2 7 z = μ 7 z := fun hq hl0 z => by
          rcases h32 with ⟨a0, -, -⟩ | ⟨-, -, a2⟩
          · omega
          · rw [a2]; exact hz hl0 z
        have hF32 : ∀ a, a ≠ 7 → μ2 a = μ a := fun a ha => by
          rcases h32 with ⟨-, -, a2⟩ | ⟨-, -, a2⟩
          · rw [a2, up_rowf ha, hF a ha]
          · rw [a2, hF a ha]
        have hq32 : q32 = 0 ∨ q32 = 1 := by rcases h32 with ⟨a0, -⟩ | ⟨a0, -⟩ <;> omega
        refine j_if_eq hJ (tgt := 40) ⟨by omega, by omega⟩ (by decide) dX2_tellAlong_35 ?_ ?_
        · intro h35
          have hz32 := hz32 h35
          refine j_iinc hJ (lv' := [(4, .int (zI (k + (-1)))), (0, .ref (b 5)), (1, .ref (b (9 + 6 * s + 2))), (2, .int (zI o)), (3, .int (zI ls))]) (j := 4) rfl (by omega) (by decide) rfl dX2_tellAlong_40 ?_
          refine j_goto hJ (tgt := 10) (by decide) dX2_tellAlong_43 ?_
          refine j_locs hJ [1, 2, 3, 4, 0] rfl ?_
          refine ih10 μ2 ls (k + (-1)) (by omega) (by omega) (by omega) (by exact hS32) (by exact hle32) ?_ (by first | exact hz32 | (intro h; omega)) (by exact hF32)
          · intro j a b hj g1 g2
            by_cases e : (j : Int) = k + (-1)
            · have ej : j = k.toNat - 1 := by omega
              subst ej
              rw [show k.toNat - 1 + 1 = k.toNat by omega, e1y] at g2
              rw [e1x] at g1
              cases g1; cases g2
              exact hed32
            · have := hed j a b (by omega) g1 g2
              have := hmono a
              omega
        · intro h35
          refine j_iconst hJ dX2_tellAlong_38 ?_
          refine j_istore_n hJ (lv' := [(3, .int (zI 1)), (0, .ref (b 5)), (1, .ref (b (9 + 6 * s + 2))), (2, .int (zI o)), (4, .int (zI k))]) rfl (by decide) rfl dX2_tellAlong_39 ?_
          refine j_iinc hJ (lv' := [(4, .int (zI (k + (-1)))), (3, .int (zI 1)), (0, .ref (b 5)), (1, .ref (b (9 + 6 * s + 2))), (2, .int (zI o))]) (j := 4) rfl (by omega) (by decide) rfl dX2_tellAlong_40 ?_
          refine j_goto hJ (tgt := 10) (by decide) dX2_tellAlong_43 ?_
          refine j_locs hJ [2, 3, 4, 1, 0] rfl ?_
          refine ih10 μ2 1 (k + (-1)) (by omega) (by omega) (by omega) (by exact hS32) (by exact hle32) ?_ (by first | exact hz32 | (intro h; omega)) (by exact hF32)
          · intro j a b hj g1 g2
            by_cases e : (j : Int) = k + (-1)
            · have ej : j = k.toNat - 1 := by omega
              subst ej
              rw [show k.toNat - 1 + 1 = k.toNat by omega, e1y] at g2
              rw [e1x] at g1
              cases g1; cases g2
              exact hed32
            · have := hed j a b (by omega) g1 g2
              have := hmono a
              omega
  refine j_locs hJ [2, 3, 4, 1, 0] rfl ?_
  refine lp10 ((((L.length : Int) - 1) + 1).toNat + 1) μ 0 ((L.length : Int) - 1) (by omega) (by omega) (by omega) (by exact hS) (by exact fun _ => Int.le_refl _) ?_ (by exact fun _ _ => rfl) (by exact fun _ _ => rfl)
  · intro j a b hj h1 h2
    have := (List.getElem?_eq_some_iff.mp h2).1
    omega
set_option maxHeartbeats 4000000 in
set_option maxRecDepth 100000 in
theorem c_X2_tellBackwards {μ : Nat → Int → Int} {n : Nat} {L : Nat → List Int} {ow : Nat → Int} {g : Int} (hfl : l.stackTraces = false) (hn : n ≤ 16) (hT : ∀ s, s < n → TP μ s (L s) ∧ AdjL (L s) ∧ μ (9 + 6 * s) 2 = ow s ∧ (ow s = 0 ∨ ow s = 1)) (hg : 0 ≤ g ∧ g < 144) : CT l D cy n0 ad yX2_tellBackwards (.code yX2_tellBackwards cX2_tellBackwards 7 none) ({ frames := 2, cells := 0, slots := 0, locals := 46 }) [.ref (b 5), .ref (b 2), .int (zI (n : Int)), .int (zI g)] (gw 105 XSh cy b μ ++ E) (fun vv uu => ∃ μ', vv = none ∧ uu = (gw 105 XSh cy b μ' ++ E) ∧ ((∀ x, 0 ≤ x → x < 144 → IsDist (EdS n L ow) x g (if 144 ≤ μ' 7 x then -1 else μ' 7 x)) ∧ (∀ x, 0 ≤ x → x < 144 → 0 ≤ μ' 7 x ∧ μ' 7 x ≤ 144) ∧ FrS μ μ')) := by
  have hR : ∀ a b, EdS n L ow a b → (0 ≤ a ∧ a < 144) ∧ 0 ≤ b ∧ b < 144 := fun a b ⟨s, s1, j, _, h⟩ => by
    obtain ⟨⟨-, -, -, g, -⟩, -⟩ := hT s s1
    rcases h with ⟨h1, h2⟩ | ⟨-, h1, h2⟩ <;> exact ⟨g _ (List.mem_of_getElem? h1), g _ (List.mem_of_getElem? h2)⟩
  refine CT.walk hfl (by decide) (Nat.le_of_ble_eq_true rfl) ?_
  intro A J hJ
  show J (gw 105 XSh cy b μ ++ E) 0 0 0 [(0, .ref (b 5)), (1, .ref (b 2)), (2, .int (zI (n : Int))), (3, .int (zI g))] []
  refine j_aload_n hJ (j := 0) rfl rfl dX2_tellBackwards_0 ?_
  refine w_getr hJ (by omega) rfl rfl f_X2_15 dX2_tellBackwards_1 ?_
  refine j_sipush hJ (v := 144) (by decide) dX2_tellBackwards_4 ?_
  refine j_callS0 hJ (c_J7_fill_53178 hfl (k := 7) (n := 144) (v := 144) (by omega) rfl (by omega)) m_X2_25 k_J7_fill_53178 ⟨(Nat.le_of_ble_eq_true rfl), (Nat.le_of_ble_eq_true rfl)⟩ ⟨(Nat.le_of_ble_eq_true rfl), (Nat.le_of_ble_eq_true rfl)⟩ (Nat.le_of_ble_eq_true rfl) dX2_tellBackwards_7 rfl ?_
  intro v1 u2 hv3
  obtain ⟨μ1, rfl, rfl, hM2⟩ := hv3
  show J (gw 105 XSh cy b μ1 ++ E) 0 0 10 [(0, .ref (b 5)), (1, .ref (b 2)), (2, .int (zI (n : Int))), (3, .int (zI g))] []
  rw [show ((144 : Nat) : Int) = 144 from rfl] at hM2
  refine j_aload_n hJ (j := 0) rfl rfl dX2_tellBackwards_10 ?_
  refine w_getr hJ (by omega) rfl rfl f_X2_15 dX2_tellBackwards_11 ?_
  refine j_iload_n hJ (j := 3) rfl rfl dX2_tellBackwards_14 ?_
  refine j_iconst hJ dX2_tellBackwards_15 ?_
  refine w_iast hJ (by omega) rfl (by first | decide | omega) (by omega) (by omega) dX2_tellBackwards_16 ?_
  intro μ2 hμ2
  have hM3 := hμ2
  have s7 : ∀ x, 0 ≤ x → x < 144 → μ2 7 x = if x = g then 0 else 144 := fun x x0 x1 => by
    rw [hM3]
    by_cases e : x = g
    · rw [e, up_self, if_pos rfl]
    · rw [up_at e, hM2, fillp_in x0 x1, if_neg e]
  have hF3 : ∀ a, a ≠ 7 → μ2 a = μ a := fun a a7 => by rw [hM3, up_rowf a7, hM2, fillp_row a7]
  have hS3 : SD μ2 (EdS n L ow) g := fun x x0 x1 => by
    rw [s7 x x0 x1]
    by_cases e : x = g
    · rw [if_pos e]; exact ⟨by omega, fun _ => ⟨0, rfl, e⟩⟩
    · rw [if_neg e]; exact ⟨by omega, fun h => by omega⟩
  obtain ⟨μz, hμz⟩ : ∃ μz, μz = μ2 := ⟨_, rfl⟩
  rw [← hμz] at s7 hF3 hS3 ⊢
  refine j_iconst hJ dX2_tellBackwards_17 ?_
  refine j_istore hJ (lv' := [(4, .int (zI 1)), (0, .ref (b 5)), (1, .ref (b 2)), (2, .int (zI (n : Int))), (3, .int (zI g))]) (by decide) rfl dX2_tellBackwards_18 ?_
  refine j_iconst hJ dX2_tellBackwards_20 ?_
  refine j_istore hJ (lv' := [(5, .int (zI 0)), (4, .int (zI 1)), (0, .ref (b 5)), (1, .ref (b 2)), (2, .int (zI (n : Int))), (3, .int (zI g))]) (by decide) rfl dX2_tellBackwards_21 ?_
  have lp23 : ∀ (nn23 : Nat) (μk : Nat → Int → Int) (ls : Int) (r : Int) (hmeas23 : ((145 : Int) - r).toNat < nn23) (hr : 0 ≤ r ∧ r ≤ 145) (hl : ls = 0 ∨ ls = 1) (hSk : SD μk (EdS n L ow) g) (hpr : ∀ (d : Nat) (x : Int), (d : Int) ≤ r → Walk (EdS n L ow) d x g → μk 7 x ≤ d) (hcl : ls = 0 → ∀ a b, EdS n L ow a b → μk 7 a ≤ μk 7 b + 1) (hg0 : μk 7 g = 0) (hF : ∀ a, a ≠ 7 → μk a = μ a), J (gw 105 XSh cy b μk ++ E) 0 0 23 [(0, .ref (b 5)), (1, .ref (b 2)), (2, .int (zI (n : Int))), (3, .int (zI g)), (4, .int (zI ls)), (5, .int (zI r))] [] := by
    intro nn23
    induction nn23 with
    | zero => intro μk ls r hmeas23 hr hl hSk hpr hcl hg0 hF; omega
    | succ nn23 ih23 =>
      intro μk ls r hmeas23 hr hl hSk hpr hcl hg0 hF
      refine j_iload hJ (j := 5) rfl dX2_tellBackwards_23 ?_
      refine j_sipush hJ (v := 144) (by decide) dX2_tellBackwards_25 ?_
      refine j_icmp_gt hJ (tgt := 84) ⟨by omega, by omega⟩ ⟨by omega, by omega⟩ (by decide) dX2_tellBackwards_28 ?_ ?_
      · intro h28
        refine j_vret hJ rfl rfl (Nat.le_of_ble_eq_true rfl) (Nat.le_of_ble_eq_true rfl) dX2_tellBackwards_84 ⟨μk, rfl, rfl, ?_⟩
        refine ⟨dist_of hSk (fun x w x0 x1 hw => ?_), fun x x0 x1 => (hSk x x0 x1).1, fun a _ _ _ a7 _ => hF a a7⟩
        obtain ⟨d, d1, d2, d3⟩ := hw.short hR
        exact ⟨d, d1, hpr d x (by omega) d3, d2⟩
      · intro h28
        refine j_iload hJ (j := 4) rfl dX2_tellBackwards_31 ?_
        refine j_if_eq hJ (tgt := 84) ⟨by omega, by omega⟩ (by decide) dX2_tellBackwards_33 ?_ ?_
        · intro h33
          refine j_vret hJ rfl rfl (Nat.le_of_ble_eq_true rfl) (Nat.le_of_ble_eq_true rfl) dX2_tellBackwards_84 ⟨μk, rfl, rfl, ?_⟩
          refine ⟨dist_of hSk (fun x w x0 x1 hw => ?_), fun x x0 x1 => (hSk x x0 x1).1, fun a _ _ _ a7 _ => hF a a7⟩
          have key : ∀ (d : Nat) (y : Int), Walk (EdS n L ow) d y g → μk 7 y ≤ d := by
            intro d
            induction d with
            | zero => intro y hy; have hy : y = g := hy; rw [hy]; omega
            | succ d ih => intro y ⟨c, c1, c2⟩; have a1 := ih c c2; have a2 := hcl h33 y c c1; omega
          obtain ⟨d, d1, d2, d3⟩ := hw.short hR
          exact ⟨d, d1, key d x d3, d2⟩
        · intro h33
          refine j_iconst hJ dX2_tellBackwards_36 ?_
          refine j_istore hJ (lv' := [(4, .int (zI 0)), (0, .ref (b 5)), (1, .ref (b 2)), (2, .int (zI (n : Int))), (3, .int (zI g)), (5, .int (zI r))]) (by decide) rfl dX2_tellBackwards_37 ?_
          refine j_iconst hJ dX2_tellBackwards_39 ?_
          refine j_istore hJ (lv' := [(6, .int (zI 0)), (4, .int (zI 0)), (0, .ref (b 5)), (1, .ref (b 2)), (2, .int (zI (n : Int))), (3, .int (zI g)), (5, .int (zI r))]) (by decide) rfl dX2_tellBackwards_40 ?_
          have lp42 : ∀ (nn42 : Nat) (μj : Nat → Int → Int) (lj : Int) (j : Int) (hmeas42 : ((n : Int) - j).toNat < nn42) (hj : 0 ≤ j ∧ j ≤ n) (hlj : lj = 0 ∨ lj = 1) (hSj : SD μj (EdS n L ow) g) (hlej : ∀ x, μj 7 x ≤ μk 7 x) (hedj : ∀ s : Nat, (s : Int) < j → ∀ a b, EdL (L s) (ow s) a b → μj 7 a ≤ μk 7 b + 1) (hzj : lj = 0 → ∀ x, μj 7 x = μk 7 x) (hFj : ∀ a, a ≠ 7 → μj a = μ a), J (gw 105 XSh cy b μj ++ E) 0 0 42 [(0, .ref (b 5)), (1, .ref (b 2)), (2, .int (zI (n : Int))), (3, .int (zI g)), (4, .int (zI lj)), (5, .int (zI r)), (6, .int (zI j))] [] := by
            intro nn42
            induction nn42 with
            | zero => intro μj lj j hmeas42 hj hlj hSj hlej hedj hzj hFj; omega
            | succ nn42 ih42 =>
              intro μj lj j hmeas42 hj hlj hSj hlej hedj hzj hFj
              refine j_iload hJ (j := 6) rfl dX2_tellBackwards_42 ?_
              refine j_iload_n hJ (j := 2) rfl rfl dX2_tellBackwards_44 ?_
              refine j_icmp_ge hJ (tgt := 78) ⟨by omega, by omega⟩ ⟨by omega, by omega⟩ (by decide) dX2_tellBackwards_45 ?_ ?_
              · intro h45
                refine j_iinc hJ (lv' := [(5, .int (zI (r + 1))), (0, .ref (b 5)), (1, .ref (b 2)), (2, .int (zI (n : Int))), (3, .int (zI g)), (4, .int (zI lj)), (6, .int (zI j))]) (j := 5) rfl (by omega) (by decide) rfl dX2_tellBackwards_78 ?_
                refine j_goto hJ (tgt := 23) (by decide) dX2_tellBackwards_81 ?_
                refine j_locs hJ [1, 2, 3, 4, 5, 0] rfl ?_
                refine ih23 μj lj (r + 1) (by omega) (by omega) (by omega) (by exact hSj) ?_ ?_ ?_ (by exact hFj)
                · intro d x hd hw
                  match d, hw with
                  | 0, hw =>
                    have hw : x = g := hw
                    rw [hw]
                    have := hlej g
                    omega
                  | d + 1, ⟨c, e1, e2⟩ =>
                    obtain ⟨s, s1, e3⟩ := e1
                    have := hedj s (by omega) x c e3
                    have := hpr d c (by omega) e2
                    omega
                · intro h a b ⟨s, s1, e3⟩
                  have := hedj s (by omega) a b e3
                  have := hzj h b
                  omega
                · have a1 := hlej g
                  have a2 := (hSj g hg.1 hg.2).1
                  omega
              · intro h45
                obtain ⟨t1, t2, t3, t4⟩ := hT j.toNat (by omega)
                have tk : TP μj j.toNat (L j.toNat) := by
                  obtain ⟨c1, c2, c3, c4, c5⟩ := t1
                  exact ⟨by rw [hFj _ (by omega)]; exact c1, by rw [hFj _ (by omega)]; exact c2, c3, c4, c5.same (hFj _ (by omega))⟩
                refine j_aload_n hJ (j := 0) rfl rfl dX2_tellBackwards_48 ?_
                refine j_aload_n hJ (j := 1) rfl rfl dX2_tellBackwards_49 ?_
                refine j_iload hJ (j := 6) rfl dX2_tellBackwards_50 ?_
                refine w_aald hJ (by omega) rfl (by decide) (by omega) (by omega) dX2_tellBackwards_52 ?_
                refine w_getr hJ (by omega) (XS0 _) rfl f_X2_39 dX2_tellBackwards_53 ?_
                refine j_aload_n hJ (j := 1) rfl rfl dX2_tellBackwards_56 ?_
                refine j_iload hJ (j := 6) rfl dX2_tellBackwards_57 ?_
                refine w_aald hJ (by omega) rfl (by decide) (by omega) (by omega) dX2_tellBackwards_59 ?_
                refine w_geti hJ (fi := 2) rfl (by omega) (XS0 _) rfl f_X2_45 dX2_tellBackwards_60 ?_
                refine j_topi (y := zI (ow j.toNat)) (by rw [hFj _ (by omega), t3]) ?_
                refine j_callV0 hJ (c_X2_tellAlong hfl (s := j.toNat) (o := ow j.toNat) (g := g) (L := L j.toNat) (Ed := EdS n L ow) (by omega) t4 tk (fun a b h => ⟨j.toNat, by omega, h⟩) hSj) m_X2_62 k_X2_tellAlong (q0 := 5) (by rw [gw_get (by decide)]; rfl) rfl ⟨(Nat.le_of_ble_eq_true rfl), (Nat.le_of_ble_eq_true rfl)⟩ ⟨(Nat.le_of_ble_eq_true rfl), (Nat.le_of_ble_eq_true rfl)⟩ (Nat.le_of_ble_eq_true rfl) dX2_tellBackwards_63 rfl ?_
                intro v4 u5 hv6
                obtain ⟨q63, μ3, rfl, rfl, h63⟩ := hv6
                show J (gw 105 XSh cy b μ3 ++ E) 0 0 66 [(0, .ref (b 5)), (1, .ref (b 2)), (2, .int (zI (n : Int))), (3, .int (zI g)), (4, .int (zI lj)), (5, .int (zI r)), (6, .int (zI j))] [.int (zI q63)]
                obtain ⟨hq63, hS63, hle63, hed63, hz63, hF63⟩ := h63
                refine j_if_eq hJ (tgt := 72) ⟨by omega, by omega⟩ (by decide) dX2_tellBackwards_66 ?_ ?_
                · intro h66
                  refine j_iinc hJ (lv' := [(6, .int (zI (j + 1))), (0, .ref (b 5)), (1, .ref (b 2)), (2, .int (zI (n : Int))), (3, .int (zI g)), (4, .int (zI lj)), (5, .int (zI r))]) (j := 6) rfl (by omega) (by decide) rfl dX2_tellBackwards_72 ?_
                  refine j_goto hJ (tgt := 42) (by decide) dX2_tellBackwards_75 ?_
                  refine j_locs hJ [1, 2, 3, 4, 5, 6, 0] rfl ?_
                  refine ih42 μ3 lj (j + 1) (by omega) (by omega) (by first | exact Or.inr rfl | exact hlj) (by exact hS63) (by exact fun x => Int.le_trans (hle63 x) (hlej x)) ?_ (by first | (intro h; omega) | exact fun h x => by rw [hz63 h66 x, hzj h x]) (by exact fun a ha => by rw [hF63 a ha, hFj a ha])
                  · intro s hs a b e
                    by_cases g1 : (s : Int) = j
                    · have : s = j.toNat := by omega
                      subst this
                      have a1 := hed63 a b e
                      have a2 := hlej b
                      omega
                    · have a1 := hedj s (by omega) a b e
                      have a2 := hle63 a
                      omega
                · intro h66
                  refine j_iconst hJ dX2_tellBackwards_69 ?_
                  refine j_istore hJ (lv' := [(4, .int (zI 1)), (0, .ref (b 5)), (1, .ref (b 2)), (2, .int (zI (n : Int))), (3, .int (zI g)), (5, .int (zI r)), (6, .int (zI j))]) (by decide) rfl dX2_tellBackwards_70 ?_
                  refine j_iinc hJ (lv' := [(6, .int (zI (j + 1))), (4, .int (zI 1)), (0, .ref (b 5)), (1, .ref (b 2)), (2, .int (zI (n : Int))), (3, .int (zI g)), (5, .int (zI r))]) (j := 6) rfl (by omega) (by decide) rfl dX2_tellBackwards_72 ?_
                  refine j_goto hJ (tgt := 42) (by decide) dX2_tellBackwards_75 ?_
                  refine j_locs hJ [2, 3, 4, 5, 1, 6, 0] rfl ?_
                  refine ih42 μ3 1 (j + 1) (by omega) (by omega) (by first | exact Or.inr rfl | exact hlj) (by exact hS63) (by exact fun x => Int.le_trans (hle63 x) (hlej x)) ?_ (by first | (intro h; omega) | exact fun h x => by rw [hz63 h66 x, hzj h x]) (by exact fun a ha => by rw [hF63 a ha, hFj a ha])
                  · intro s hs a b e
                    by_cases g1 : (s : Int) = j
                    · have : s = j.toNat := by omega
                      subst this
                      have a1 := hed63 a b e
                      have a2 := hlej b
                      omega
                    · have a1 := hedj s (by omega) a b e
                      have a2 := hle63 a
                      omega
          refine j_locs hJ [2, 3, 4, 5, 1, 6, 0] rfl ?_
          exact lp42 (((n : Int) - 0).toNat + 1) μk 0 0 (by omega) (by omega) (by omega) (by exact hSk) (by exact fun _ => Int.le_refl _) (by intro s hs; omega) (by exact fun _ _ => rfl) (by exact hF)
  refine j_locs hJ [2, 3, 4, 5, 1, 0] rfl ?_
  refine lp23 (((145 : Int) - 0).toNat + 1) μz 1 0 (by omega) (by omega) (by omega) (by exact hS3) ?_ (by intro h; omega) (by rw [s7 g hg.1 hg.2, if_pos rfl]) (by exact hF3)
  · intro d x hd hw
    have hd0 : d = 0 := by omega
    subst hd0
    have hw : x = g := hw
    rw [hw, s7 g hg.1 hg.2, if_pos rfl]
    omega
end
