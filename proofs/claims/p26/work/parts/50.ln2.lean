
set_option maxRecDepth 20000 in
theorem m_X4_226 : MF RX4 226 0 yJ4_append_cf468 1 := ⟨Or.inl (List.mem_of_getElem? (i := 607) (by decide +kernel)), (List.mem_of_getElem? (i := 59) (by decide +kernel)), ⟨by decide +kernel, by decide +kernel⟩, by decide +kernel, fun _ => ⟨(List.mem_of_getElem? (i := 608) (by decide +kernel)), (List.mem_of_getElem? (i := 609) (by decide +kernel))⟩, fun h => by omega, fun h => by omega⟩
set_option maxRecDepth 20000 in
theorem k_J4_append_cf468 : Cond.code yJ4_append_cf468 cJ4_append_cf468 2 (some (.object "java/lang/StringBuilder")) ∈ GT := (List.mem_of_getElem? (i := 610) (by decide +kernel))
set_option maxRecDepth 20000 in
theorem m_X4_257 : MF RX4 257 0 yJ4_append_bf812 1 := ⟨Or.inl (List.mem_of_getElem? (i := 736) (by decide +kernel)), (List.mem_of_getElem? (i := 59) (by decide +kernel)), ⟨by decide +kernel, by decide +kernel⟩, by decide +kernel, fun _ => ⟨(List.mem_of_getElem? (i := 737) (by decide +kernel)), (List.mem_of_getElem? (i := 738) (by decide +kernel))⟩, fun h => by omega, fun h => by omega⟩
set_option maxRecDepth 20000 in
theorem k_J4_append_bf812 : Cond.code yJ4_append_bf812 cJ4_append_bf812 2 (some (.object "java/lang/StringBuilder")) ∈ GT := (List.mem_of_getElem? (i := 739) (by decide +kernel))
set_option maxRecDepth 20000 in
theorem m_X4_244 : MF RX4 244 0 yJ4_append_15ec4 1 := ⟨Or.inl (List.mem_of_getElem? (i := 678) (by decide +kernel)), (List.mem_of_getElem? (i := 59) (by decide +kernel)), ⟨by decide +kernel, by decide +kernel⟩, by decide +kernel, fun _ => ⟨(List.mem_of_getElem? (i := 679) (by decide +kernel)), (List.mem_of_getElem? (i := 680) (by decide +kernel))⟩, fun h => by omega, fun h => by omega⟩
set_option maxRecDepth 20000 in
theorem k_J4_append_15ec4 : Cond.code yJ4_append_15ec4 cJ4_append_15ec4 2 (some (.object "java/lang/StringBuilder")) ∈ GT := (List.mem_of_getElem? (i := 681) (by decide +kernel))
set_option maxRecDepth 20000 in
theorem m_X4_234 : MF RX4 234 0 yX0_countMoved 1 := ⟨Or.inr (List.mem_of_getElem? (i := 599) (by decide +kernel)), (List.mem_of_getElem? (i := 42) (by decide +kernel)), ⟨by decide +kernel, by decide +kernel⟩, by decide +kernel, fun _ => ⟨(List.mem_of_getElem? (i := 601) (by decide +kernel)), (List.mem_of_getElem? (i := 30) (by decide +kernel))⟩, fun h => by omega, fun h => by omega⟩
set_option maxRecDepth 20000 in
theorem k_X0_countMoved : Cond.code yX0_countMoved cX0_countMoved 4 (some .int) ∈ GT := (List.mem_of_getElem? (i := 602) (by decide +kernel))
set_option maxRecDepth 20000 in
theorem m_X4_238 : MF RX4 238 0 yX4_appendWords 3 := ⟨Or.inl (List.mem_of_getElem? (i := 603) (by decide +kernel)), (List.mem_of_getElem? (i := 40) (by decide +kernel)), ⟨by decide +kernel, by decide +kernel⟩, by decide +kernel, fun _ => ⟨(List.mem_of_getElem? (i := 605) (by decide +kernel)), (List.mem_of_getElem? (i := 31) (by decide +kernel))⟩, fun h => by omega, fun h => by omega⟩
set_option maxRecDepth 20000 in
theorem k_X4_appendWords : Cond.code yX4_appendWords cX4_appendWords 7 none ∈ GT := (List.mem_of_getElem? (i := 606) (by decide +kernel))
section
variable {l : Launch} {D : va_G} {cy : Nat → ClassId} {n0 : Nat} {ad : Nat → Nat} {b : Nat → Nat} {E : va_W} {ws : va_W}
set_option maxHeartbeats 4000000 in
set_option maxRecDepth 100000 in
theorem c_X4_appendRun {s : Nat} {T T' : List Int} {w : va_W} {c r e : Int} (hfl : l.stackTraces = false) (hS : SBP cy s T w) (hT : T' = T ++ runX c r e) (hL : T'.length ≤ 1150) (hc : 0 ≤ c ∧ c < 12) (hr : 0 ≤ r ∧ r < 12) (he : r ≤ e ∧ e < 12) : CT l D cy n0 ad yX4_appendRun (.code yX4_appendRun cX4_appendRun 4 none) ({ frames := 6, cells := cpC T'.length - cpC T.length, slots := cpS T'.length - cpS T.length, locals := 135 }) [.ref s, .int (zI c), .int (zI r), .int (zI e)] (w ++ E) (fun vv uu => ∃ w', vv = none ∧ uu = (w' ++ E) ∧ (SBP cy s T' w')) := by
  obtain ⟨T1, hT1⟩ : ∃ T1, T1 = T ++ [32] := ⟨_, rfl⟩
  obtain ⟨T2, hT2⟩ : ∃ T2, T2 = T1 ++ [65 + c] := ⟨_, rfl⟩
  obtain ⟨T3, hT3⟩ : ∃ T3, T3 = T2 ++ numT (r + 1) := ⟨_, rfl⟩
  obtain ⟨T4, hT4⟩ : ∃ T4, T4 = T3 ++ [45] := ⟨_, rfl⟩
  obtain ⟨T5, hT5⟩ : ∃ T5, T5 = T4 ++ numT (e + 1) := ⟨_, rfl⟩
  have n1 : T1.length = T.length + 1 := by rw [hT1]; simp
  have n2 : T2.length = T1.length + 1 := by rw [hT2]; simp
  have n3 : T3.length = T2.length + (numT (r + 1)).length := by rw [hT3]; simp
  have n4 : T4.length = T3.length + 1 := by rw [hT4]; simp
  have n5 : T5.length = T4.length + (numT (e + 1)).length := by rw [hT5]; simp
  have hF : T' = if r < e then T5 else T3 := by
    rw [hT, hT5, hT4, hT3, hT2, hT1]; unfold runX
    split <;> simp
  have m1 := cap_mono (n := T.length) (k := T1.length) (by omega)
  have m2 := cap_mono (n := T1.length) (k := T2.length) (by omega)
  have m3 := cap_mono (n := T2.length) (k := T3.length) (by omega)
  have m4 := cap_mono (n := T3.length) (k := T4.length) (by omega)
  have m5 := cap_mono (n := T4.length) (k := T5.length) (by omega)
  have n6 : T3.length ≤ T'.length := by rw [hF]; split <;> omega
  have m6 := cap_mono n6
  refine CT.walk hfl (by decide) (Nat.le_of_ble_eq_true rfl) ?_
  intro A J hJ
  show J (w ++ E) 0 0 0 [(0, .ref s), (1, .int (zI c)), (2, .int (zI r)), (3, .int (zI e))] []
  refine j_aload_n hJ (j := 0) rfl rfl dX4_appendRun_0 ?_
  refine j_bipush hJ (v := 32) (by decide) dX4_appendRun_1 ?_
  obtain ⟨f3, g3⟩ := hS.recv (E := E)
  refine j_callV0 hJ (k_app_c hfl hS hT1 (by omega) ⟨by omega, by omega⟩) m_X4_226 k_J4_append_cf468 (q0 := 0) g3 rfl ⟨(Nat.le_of_ble_eq_true rfl), (Nat.le_of_ble_eq_true rfl)⟩ ⟨by dsimp only; omega, by dsimp only; omega⟩ (Nat.le_of_ble_eq_true rfl) dX4_appendRun_3 rfl ?_
  intro v1 u2 hv3
  obtain ⟨w4, rfl, rfl, S3⟩ := hv3
  show J (w4 ++ E) _ _ 6 [(0, .ref s), (1, .int (zI c)), (2, .int (zI r)), (3, .int (zI e))] [.ref s]
  refine j_pop hJ rfl dX4_appendRun_6 ?_
  refine j_aload_n hJ (j := 0) rfl rfl dX4_appendRun_7 ?_
  refine j_bipush hJ (v := 65) (by decide) dX4_appendRun_8 ?_
  refine j_iload_n hJ (j := 1) rfl rfl dX4_appendRun_10 ?_
  refine j_iadd hJ dX4_appendRun_11 ?_
  refine j_i2c hJ (v := (65 + c)) (i2cC (by omega) (by omega)) dX4_appendRun_12 ?_
  obtain ⟨f13, g13⟩ := S3.recv (E := E)
  refine j_callV0 hJ (k_app_c hfl S3 hT2 (by omega) ⟨by omega, by omega⟩) m_X4_226 k_J4_append_cf468 (q0 := 0) g13 rfl ⟨(Nat.le_of_ble_eq_true rfl), (Nat.le_of_ble_eq_true rfl)⟩ ⟨by dsimp only; omega, by dsimp only; omega⟩ (Nat.le_of_ble_eq_true rfl) dX4_appendRun_13 rfl ?_
  intro v5 u6 hv7
  obtain ⟨w8, rfl, rfl, S13⟩ := hv7
  show J (w8 ++ E) _ _ 16 [(0, .ref s), (1, .int (zI c)), (2, .int (zI r)), (3, .int (zI e))] [.ref s]
  refine j_pop hJ rfl dX4_appendRun_16 ?_
  refine j_aload_n hJ (j := 0) rfl rfl dX4_appendRun_17 ?_
  refine j_iload_n hJ (j := 2) rfl rfl dX4_appendRun_18 ?_
  refine j_iconst hJ dX4_appendRun_19 ?_
  refine j_iadd hJ dX4_appendRun_20 ?_
  obtain ⟨f21, g21⟩ := S13.recv (E := E)
  refine j_callV0 hJ (k_app_i hfl S13 hT3 (by omega) ⟨by omega, by omega⟩) m_X4_257 k_J4_append_bf812 (q0 := 0) g21 rfl ⟨(Nat.le_of_ble_eq_true rfl), (Nat.le_of_ble_eq_true rfl)⟩ ⟨by dsimp only; omega, by dsimp only; omega⟩ (Nat.le_of_ble_eq_true rfl) dX4_appendRun_21 rfl ?_
  intro v9 u10 hv11
  obtain ⟨w12, rfl, rfl, S21⟩ := hv11
  show J (w12 ++ E) _ _ 24 [(0, .ref s), (1, .int (zI c)), (2, .int (zI r)), (3, .int (zI e))] [.ref s]
  refine j_pop hJ rfl dX4_appendRun_24 ?_
  refine j_iload_n hJ (j := 3) rfl rfl dX4_appendRun_25 ?_
  refine j_iload_n hJ (j := 2) rfl rfl dX4_appendRun_26 ?_
  refine j_icmp_le hJ (tgt := 45) ⟨by omega, by omega⟩ ⟨by omega, by omega⟩ (by decide) dX4_appendRun_27 ?_ ?_
  · intro h27
    rw [if_neg (by omega)] at hF
    refine j_vret hJ rfl rfl (by dsimp only; omega) (by dsimp only; omega) dX4_appendRun_45 ⟨w12, rfl, rfl, ?_⟩
    rw [hF]; exact S21
  · intro h27
    rw [if_pos (by omega)] at hF
    subst hF
    refine j_aload_n hJ (j := 0) rfl rfl dX4_appendRun_30 ?_
    refine j_bipush hJ (v := 45) (by decide) dX4_appendRun_31 ?_
    obtain ⟨f33, g33⟩ := S21.recv (E := E)
    refine j_callV0 hJ (k_app_c hfl S21 hT4 (by omega) ⟨by omega, by omega⟩) m_X4_226 k_J4_append_cf468 (q0 := 0) g33 rfl ⟨(Nat.le_of_ble_eq_true rfl), (Nat.le_of_ble_eq_true rfl)⟩ ⟨by dsimp only; omega, by dsimp only; omega⟩ (Nat.le_of_ble_eq_true rfl) dX4_appendRun_33 rfl ?_
    intro v13 u14 hv15
    obtain ⟨w16, rfl, rfl, S33⟩ := hv15
    show J (w16 ++ E) _ _ 36 [(0, .ref s), (1, .int (zI c)), (2, .int (zI r)), (3, .int (zI e))] [.ref s]
    refine j_pop hJ rfl dX4_appendRun_36 ?_
    refine j_aload_n hJ (j := 0) rfl rfl dX4_appendRun_37 ?_
    refine j_iload_n hJ (j := 3) rfl rfl dX4_appendRun_38 ?_
    refine j_iconst hJ dX4_appendRun_39 ?_
    refine j_iadd hJ dX4_appendRun_40 ?_
    obtain ⟨f41, g41⟩ := S33.recv (E := E)
    refine j_callV0 hJ (k_app_i hfl S33 hT5 (by omega) ⟨by omega, by omega⟩) m_X4_257 k_J4_append_bf812 (q0 := 0) g41 rfl ⟨(Nat.le_of_ble_eq_true rfl), (Nat.le_of_ble_eq_true rfl)⟩ ⟨by dsimp only; omega, by dsimp only; omega⟩ (Nat.le_of_ble_eq_true rfl) dX4_appendRun_41 rfl ?_
    intro v17 u18 hv19
    obtain ⟨w20, rfl, rfl, S41⟩ := hv19
    show J (w20 ++ E) _ _ 44 [(0, .ref s), (1, .int (zI c)), (2, .int (zI r)), (3, .int (zI e))] [.ref s]
    refine j_pop hJ rfl dX4_appendRun_44 ?_
    refine j_vret hJ rfl rfl (by dsimp only; omega) (by dsimp only; omega) dX4_appendRun_45 ⟨w20, rfl, rfl, ?_⟩
    exact S41
set_option maxHeartbeats 4000000 in
set_option maxRecDepth 100000 in
theorem c_X4_appendWords {μ : Nat → Int → Int} {i : Nat} {s : Nat} {T T' : List Int} {w : va_W} {v : Int} {N : List Int} (hfl : l.stackTraces = false) (hi : i < 16) (hN : NmI μ i N) (hkr : KdR (μ 1)) (hS : SBP cy s T w) (hT : T' = T ++ joinT (selK (μ 1) v N)) (hL : T'.length ≤ 1150) (hv : v = 0 ∨ v = 1) : CT l D cy n0 ad yX4_appendWords (.code yX4_appendWords cX4_appendWords 7 none) ({ frames := 6, cells := cpC T'.length - cpC T.length, slots := cpS T'.length - cpS T.length, locals := 134 }) [.ref (b 0), .ref s, .ref (b (9 + 6 * i)), .int (zI v)] (gw 105 XSh cy b μ ++ (w ++ E)) (fun vv uu => ∃ w', vv = none ∧ uu = (gw 105 XSh cy b μ ++ (w' ++ E)) ∧ (SBP cy s T' w')) := by
  obtain ⟨k1, k2, k3, k4, k5⟩ := id hN
  obtain ⟨F, hF⟩ : ∃ F : Nat → List Int, F = fun k => T ++ joinT (selK (μ 1) v (N.take k)) := ⟨_, rfl⟩
  have F0 : F 0 = T := by rw [hF]; simp [selK, joinT]
  have FN : F N.length = T' := by rw [hF, hT]; simp
  have Fs : ∀ (k : Nat) (x : Int), N[k]? = some x → F (k + 1) = if mvd (μ 1) x = v then F k ++ ((if selK (μ 1) v (N.take k) = [] then [] else [32]) ++ wordT x.toNat) else F k := by
    intro k x hx
    rw [hF]
    show T ++ joinT (selK (μ 1) v (N.take (k + 1))) = _
    rw [selK_step hx]
    split
    · rw [joinT_snoc, List.append_assoc]
    · rw [List.append_nil]
  have Fm : ∀ k, k < N.length → (F k).length ≤ (F (k + 1)).length := by
    intro k hk
    rw [Fs k _ (List.getElem?_eq_getElem hk)]
    split
    · rw [List.length_append]; omega
    · exact Nat.le_refl _
  have Fe : ∀ d k, k + d = N.length → (F k).length ≤ T'.length := by
    intro d
    induction d with
    | zero => intro k hk; rw [← FN, show k = N.length by omega]; exact Nat.le_refl _
    | succ d ih => intro k hk; exact Nat.le_trans (Fm k (by omega)) (ih (k + 1) (by omega))
  have Fb : ∀ k, k ≤ N.length → T.length ≤ (F k).length := by
    intro k
    induction k with
    | zero => intro _; rw [F0]; exact Nat.le_refl _
    | succ k ih => intro hk; exact Nat.le_trans (ih (by omega)) (Fm k (by omega))
  refine CT.walk hfl (by decide) (Nat.le_of_ble_eq_true rfl) ?_
  intro A J hJ
  show J (gw 105 XSh cy b μ ++ (w ++ E)) 0 0 0 [(0, .ref (b 0)), (1, .ref s), (2, .ref (b (9 + 6 * i))), (3, .int (zI v))] []
  refine j_iconst hJ dX4_appendWords_0 ?_
  refine j_istore hJ (lv' := [(4, .int (zI 1)), (0, .ref (b 0)), (1, .ref s), (2, .ref (b (9 + 6 * i))), (3, .int (zI v))]) (by decide) rfl dX4_appendWords_1 ?_
  refine j_iconst hJ dX4_appendWords_3 ?_
  refine j_istore hJ (lv' := [(5, .int (zI 0)), (4, .int (zI 1)), (0, .ref (b 0)), (1, .ref s), (2, .ref (b (9 + 6 * i))), (3, .int (zI v))]) (by decide) rfl dX4_appendWords_4 ?_
  have lp6 : ∀ (nn6 : Nat) (w1 : va_W) (f : Int) (k : Nat) (hmeas6 : N.length - k < nn6) (hk : k ≤ N.length) (hf : f = if selK (μ 1) v (N.take k) = [] then 1 else 0) (hS1 : SBP cy s (F k) w1), J (gw 105 XSh cy b μ ++ (w1 ++ E)) (cpC (F k).length - cpC T.length) (cpS (F k).length - cpS T.length) 6 [(0, .ref (b 0)), (1, .ref s), (2, .ref (b (9 + 6 * i))), (3, .int (zI v)), (4, .int (zI f)), (5, .int (zI (k : Int)))] [] := by
    intro nn6
    induction nn6 with
    | zero => intro w1 f k hmeas6 hk hf hS1; omega
    | succ nn6 ih6 =>
      intro w1 f k hmeas6 hk hf hS1
      refine j_iload hJ (j := 5) rfl dX4_appendWords_6 ?_
      have hf01 : f = 0 ∨ f = 1 := by rw [hf]; split <;> omega
      have mB := cap_mono (Fb k hk)
      refine j_aload_n hJ (j := 2) rfl rfl dX4_appendWords_8 ?_
      refine w_geti hJ (fi := 1) rfl (by omega) (XS0 _) rfl f_X4_197 dX4_appendWords_9 ?_
      refine j_topi (y := zI (N.length : Int)) (by rw [k1]) ?_
      refine j_icmp_ge hJ (tgt := 79) ⟨by omega, by omega⟩ ⟨by omega, by omega⟩ (by decide) dX4_appendWords_12 ?_ ?_
      · intro h12
        obtain rfl : k = N.length := by omega
        rw [FN] at hS1
        have eC : cpC (F N.length).length = cpC T'.length := by rw [FN]
        have eS : cpS (F N.length).length = cpS T'.length := by rw [FN]
        refine j_vret hJ rfl rfl (by dsimp only; omega) (by dsimp only; omega) dX4_appendWords_79 ⟨w1, rfl, rfl, ?_⟩
        exact hS1
      · intro h12
        have hk2 : k < N.length := by omega
        obtain ⟨x, hx⟩ : ∃ x, N[k]? = some x := ⟨_, List.getElem?_eq_getElem hk2⟩
        have hxr := k5 x (List.mem_of_getElem? hx)
        have hkx := hkr x hxr.1 hxr.2
        have mk := cap_mono (Fm k hk2)
        have nE := Fe (N.length - (k + 1)) (k + 1) (by omega)
        have mE := cap_mono nE
        refine j_aload_n hJ (j := 2) rfl rfl dX4_appendWords_15 ?_
        refine w_getr hJ (by omega) (XS0 _) rfl f_X4_194 dX4_appendWords_16 ?_
        refine j_iload hJ (j := 5) rfl dX4_appendWords_19 ?_
        refine w_iald hJ (by omega) (XS1 _) (by first | decide | omega) (by omega) (by omega) dX4_appendWords_21 ?_
        refine j_topi (y := zI x) (by rw [k4 k x hx]) ?_
        refine j_istore hJ (lv' := [(6, .int (zI x)), (0, .ref (b 0)), (1, .ref s), (2, .ref (b (9 + 6 * i))), (3, .int (zI v)), (4, .int (zI f)), (5, .int (zI (k : Int)))]) (by decide) rfl dX4_appendWords_22 ?_
        refine j_aload_n hJ (j := 1) rfl rfl dX4_appendWords_24 ?_
        refine w_getr hJ (by omega) rfl rfl f_X4_9 dX4_appendWords_25 ?_
        refine j_iload hJ (j := 0) rfl dX4_appendWords_28 ?_
        refine w_iald hJ (by omega) rfl (by first | decide | omega) (by omega) (by omega) dX4_appendWords_30 ?_
        have j40 : ∀ (y : Int) (hy : y = mvd (μ 1) x), J (gw 105 XSh cy b μ ++ (w1 ++ E)) (cpC (F k).length - cpC T.length) (cpS (F k).length - cpS T.length) 40 [(6, .int (zI x)), (0, .ref (b 0)), (1, .ref s), (2, .ref (b (9 + 6 * i))), (3, .int (zI v)), (4, .int (zI f)), (5, .int (zI (k : Int)))] [.int (zI y)] := by
          intro y hy
          have hy01 : y = 0 ∨ y = 1 := by rw [hy]; unfold mvd; split <;> omega
          refine j_iload_n hJ (j := 4) rfl rfl dX4_appendWords_40 ?_
          refine j_icmp_ne hJ (tgt := 73) ⟨by omega, by omega⟩ ⟨by omega, by omega⟩ (by decide) dX4_appendWords_41 ?_ ?_
          · intro h41
            have hy0 : ¬ mvd (μ 1) x = v := by rw [← hy]; omega
            refine j_iinc hJ (lv' := [(5, .int (zI ((k : Int) + 1))), (6, .int (zI x)), (0, .ref (b 0)), (1, .ref s), (2, .ref (b (9 + 6 * i))), (3, .int (zI v)), (4, .int (zI f))]) (j := 6) rfl (by omega) (by decide) rfl dX4_appendWords_73 ?_
            refine j_goto hJ (tgt := 6) (by decide) dX4_appendWords_76 ?_
            refine j_locs hJ [2, 3, 4, 5, 6, 0] rfl ?_
            refine j_widen hJ (ce' := cpC (F (k + 1)).length - cpC T.length) (sl' := cpS (F (k + 1)).length - cpS T.length) (by (try dsimp only); omega) (by (try dsimp only); omega) ?_
            refine ih6 w1 f (k + 1) (by omega) (by omega) ?_ ?_
            · rw [selK_step hx]
              first
              | (rw [if_neg hy0, List.append_nil]; exact hf)
              | (rw [if_pos hy1, if_neg (by simp)])
            · first
              | exact S66
              | (rw [Fs k x hx, if_neg hy0]; exact hS1)
          · intro h41
            have hy1 : mvd (μ 1) x = v := by rw [← hy]; omega
            have hFx := Fs k x hx
            rw [if_pos hy1] at hFx
            refine j_iload hJ (j := 5) rfl dX4_appendWords_44 ?_
            refine j_if_ne hJ (tgt := 56) ⟨by omega, by omega⟩ (by decide) dX4_appendWords_46 ?_ ?_
            · intro h46
              have hK : selK (μ 1) v (N.take k) = [] := by
                by_cases e : selK (μ 1) v (N.take k) = []
                · exact e
                · rw [if_neg e] at hf; omega
              rw [if_pos hK, List.nil_append] at hFx
              refine j_aload_n hJ (j := 2) rfl rfl dX4_appendWords_56 ?_
              refine j_gets (v := .ref (ad 0)) hJ (fun _ h => h.2.2.1) g_X4_203 dX4_appendWords_57 ?_
              refine j_iload hJ (j := 0) rfl dX4_appendWords_60 ?_
              refine j_aaldK (N := 24) (v := .ref (ad (1 + ((x).toNat)))) hJ (fun _ h => h.2.2.2.1) (by omega) (by omega) (by decide) rfl dX4_appendWords_62 ?_
              refine j_getK (v := .ref (ad (30 + ((x).toNat)))) hJ (fun _ h => h.2.2.2.2.1 _ (by omega)) g_X4_209 dX4_appendWords_63 ?_
              obtain ⟨f66, g66⟩ := hS1.recv' (N := 105) (sh := XSh) (b := b) (μ := μ) (E := E)
              refine j_callV0 hJ (l_app_s hfl hS1 hFx (by omega) (by omega)) m_X4_244 k_J4_append_15ec4 (q0 := 105) g66 rfl ⟨(Nat.le_of_ble_eq_true rfl), (Nat.le_of_ble_eq_true rfl)⟩ ⟨by dsimp only; omega, by dsimp only; omega⟩ (Nat.le_of_ble_eq_true rfl) dX4_appendWords_66 rfl ?_
              intro v1 u2 hv3
              obtain ⟨w4, rfl, rfl, S66⟩ := hv3
              show J (gw 105 XSh cy b μ ++ (w4 ++ E)) _ _ 69 [(6, .int (zI x)), (0, .ref (b 0)), (1, .ref s), (2, .ref (b (9 + 6 * i))), (3, .int (zI v)), (4, .int (zI f)), (5, .int (zI (k : Int)))] [.ref s]
              refine j_pop hJ rfl dX4_appendWords_69 ?_
              refine j_iconst hJ dX4_appendWords_70 ?_
              refine j_istore hJ (lv' := [(4, .int (zI 0)), (6, .int (zI x)), (0, .ref (b 0)), (1, .ref s), (2, .ref (b (9 + 6 * i))), (3, .int (zI v)), (5, .int (zI (k : Int)))]) (by decide) rfl dX4_appendWords_71 ?_
              refine j_iinc hJ (lv' := [(5, .int (zI ((k : Int) + 1))), (4, .int (zI 0)), (6, .int (zI x)), (0, .ref (b 0)), (1, .ref s), (2, .ref (b (9 + 6 * i))), (3, .int (zI v))]) (j := 6) rfl (by omega) (by decide) rfl dX4_appendWords_73 ?_
              refine j_goto hJ (tgt := 6) (by decide) dX4_appendWords_76 ?_
              refine j_locs hJ [3, 4, 5, 6, 1, 0] rfl ?_
              refine j_widen hJ (ce' := cpC (F (k + 1)).length - cpC T.length) (sl' := cpS (F (k + 1)).length - cpS T.length) (by (try dsimp only); omega) (by (try dsimp only); omega) ?_
              refine ih6 w4 0 (k + 1) (by omega) (by omega) ?_ ?_
              · rw [selK_step hx]
                first
                | (rw [if_neg hy0, List.append_nil]; exact hf)
                | (rw [if_pos hy1, if_neg (by simp)])
              · first
                | exact S66
                | (rw [Fs k x hx, if_neg hy0]; exact hS1)
            · intro h46
              have hK : ¬ selK (μ 1) v (N.take k) = [] := fun e => by rw [if_pos e] at hf; omega
              rw [if_neg hK] at hFx
              obtain ⟨T1, hT1⟩ : ∃ T1, T1 = F k ++ [32] := ⟨_, rfl⟩
              have n1 : T1.length = (F k).length + 1 := by rw [hT1]; simp
              rw [← List.append_assoc, ← hT1] at hFx
              have n2 : (F (k + 1)).length = T1.length + (wordT x.toNat).length := by rw [hFx]; simp
              have m1 := cap_mono (n := (F k).length) (k := T1.length) (by omega)
              have m2 := cap_mono (n := T1.length) (k := (F (k + 1)).length) (by omega)
              refine j_aload_n hJ (j := 2) rfl rfl dX4_appendWords_49 ?_
              refine j_bipush hJ (v := 32) (by decide) dX4_appendWords_50 ?_
              obtain ⟨f52, g52⟩ := hS1.recv' (N := 105) (sh := XSh) (b := b) (μ := μ) (E := E)
              refine j_callV0 hJ (l_app_c hfl hS1 hT1 (by omega) ⟨by omega, by omega⟩) m_X4_226 k_J4_append_cf468 (q0 := 105) g52 rfl ⟨(Nat.le_of_ble_eq_true rfl), (Nat.le_of_ble_eq_true rfl)⟩ ⟨by dsimp only; omega, by dsimp only; omega⟩ (Nat.le_of_ble_eq_true rfl) dX4_appendWords_52 rfl ?_
              intro v5 u6 hv7
              obtain ⟨w8, rfl, rfl, S52⟩ := hv7
              show J (gw 105 XSh cy b μ ++ (w8 ++ E)) _ _ 55 [(6, .int (zI x)), (0, .ref (b 0)), (1, .ref s), (2, .ref (b (9 + 6 * i))), (3, .int (zI v)), (4, .int (zI f)), (5, .int (zI (k : Int)))] [.ref s]
              refine j_pop hJ rfl dX4_appendWords_55 ?_
              refine j_aload_n hJ (j := 2) rfl rfl dX4_appendWords_56 ?_
              refine j_gets (v := .ref (ad 0)) hJ (fun _ h => h.2.2.1) g_X4_203 dX4_appendWords_57 ?_
              refine j_iload hJ (j := 0) rfl dX4_appendWords_60 ?_
              refine j_aaldK (N := 24) (v := .ref (ad (1 + ((x).toNat)))) hJ (fun _ h => h.2.2.2.1) (by omega) (by omega) (by decide) rfl dX4_appendWords_62 ?_
              refine j_getK (v := .ref (ad (30 + ((x).toNat)))) hJ (fun _ h => h.2.2.2.2.1 _ (by omega)) g_X4_209 dX4_appendWords_63 ?_
              obtain ⟨f66, g66⟩ := S52.recv' (N := 105) (sh := XSh) (b := b) (μ := μ) (E := E)
              refine j_callV0 hJ (l_app_s hfl S52 hFx (by omega) (by omega)) m_X4_244 k_J4_append_15ec4 (q0 := 105) g66 rfl ⟨(Nat.le_of_ble_eq_true rfl), (Nat.le_of_ble_eq_true rfl)⟩ ⟨by dsimp only; omega, by dsimp only; omega⟩ (Nat.le_of_ble_eq_true rfl) dX4_appendWords_66 rfl ?_
              intro v9 u10 hv11
              obtain ⟨w12, rfl, rfl, S66⟩ := hv11
              show J (gw 105 XSh cy b μ ++ (w12 ++ E)) _ _ 69 [(6, .int (zI x)), (0, .ref (b 0)), (1, .ref s), (2, .ref (b (9 + 6 * i))), (3, .int (zI v)), (4, .int (zI f)), (5, .int (zI (k : Int)))] [.ref s]
              refine j_pop hJ rfl dX4_appendWords_69 ?_
              refine j_iconst hJ dX4_appendWords_70 ?_
              refine j_istore hJ (lv' := [(4, .int (zI 0)), (6, .int (zI x)), (0, .ref (b 0)), (1, .ref s), (2, .ref (b (9 + 6 * i))), (3, .int (zI v)), (5, .int (zI (k : Int)))]) (by decide) rfl dX4_appendWords_71 ?_
              refine j_iinc hJ (lv' := [(5, .int (zI ((k : Int) + 1))), (4, .int (zI 0)), (6, .int (zI x)), (0, .ref (b 0)), (1, .ref s), (2, .ref (b (9 + 6 * i))), (3, .int (zI v))]) (j := 6) rfl (by omega) (by decide) rfl dX4_appendWords_73 ?_
              refine j_goto hJ (tgt := 6) (by decide) dX4_appendWords_76 ?_
              refine j_locs hJ [3, 4, 5, 6, 1, 0] rfl ?_
              refine j_widen hJ (ce' := cpC (F (k + 1)).length - cpC T.length) (sl' := cpS (F (k + 1)).length - cpS T.length) (by (try dsimp only); omega) (by (try dsimp only); omega) ?_
              refine ih6 w12 0 (k + 1) (by omega) (by omega) ?_ ?_
              · rw [selK_step hx]
                first
                | (rw [if_neg hy0, List.append_nil]; exact hf)
                | (rw [if_pos hy1, if_neg (by simp)])
              · first
                | exact S66
                | (rw [Fs k x hx, if_neg hy0]; exact hS1)
        refine j_iconst hJ dX4_appendWords_31 ?_
        refine j_icmp_ne hJ (tgt := 39) ⟨by omega, by omega⟩ ⟨by omega, by omega⟩ (by decide) dX4_appendWords_32 ?_ ?_
        · intro h32
          refine j_iconst hJ dX4_appendWords_39 ?_
          refine j40 0 ?_
          · unfold mvd
            split <;> omega
        · intro h32
          refine j_iconst hJ dX4_appendWords_35 ?_
          refine j_goto hJ (tgt := 40) (by decide) dX4_appendWords_36 ?_
          refine j40 1 ?_
          · unfold mvd
            split <;> omega
  refine j_locs hJ [2, 3, 4, 5, 1, 0] rfl ?_
  refine j_widen hJ (ce' := cpC (F 0).length - cpC T.length) (sl' := cpS (F 0).length - cpS T.length) (by (try dsimp only); omega) (by (try dsimp only); omega) ?_
  exact lp6 (N.length - 0 + 1) w 1 0 (by omega) (by omega) (by simp [selK]) (by rw [F0]; exact hS)
set_option maxHeartbeats 4000000 in
set_option maxRecDepth 100000 in
theorem c_X4_appendName {μ : Nat → Int → Int} {i : Nat} {s : Nat} {T T' : List Int} {w : va_W} {N : List Int} (hfl : l.stackTraces = false) (hi : i < 16) (hN : NmI μ i N) (hkr : KdR (μ 1)) (hS : SBP cy s T w) (hT : T' = T ++ nameT (μ 1) N) (hL : T'.length ≤ 1150) : CT l D cy n0 ad yX4_appendName (.code yX4_appendName cX4_appendName 5 none) ({ frames := 7, cells := cpC T'.length - cpC T.length, slots := cpS T'.length - cpS T.length, locals := 160 }) [.ref (b 0), .ref s, .ref (b (9 + 6 * i))] (gw 105 XSh cy b μ ++ (w ++ E)) (fun vv uu => ∃ w', vv = none ∧ uu = (gw 105 XSh cy b μ ++ (w' ++ E)) ∧ (SBP cy s T' w')) := by
  obtain ⟨k1, k2, k3, k4, k5⟩ := id hN
  have q1 := selK_sum (μ 1) N
  have q2 := selK_two (μ 1) N
  obtain ⟨T1, hT1⟩ : ∃ T1, T1 = T ++ joinT (selK (μ 1) 0 N) := ⟨_, rfl⟩
  have n1 : T1.length = T.length + (joinT (selK (μ 1) 0 N)).length := by rw [hT1]; simp
  have m1 := cap_mono (n := T.length) (k := T1.length) (by omega)
  have hT0 : T' = T1 ++ ((if 0 < (selK (μ 1) 0 N).length ∧ 0 < (selK (μ 1) 1 N).length then [44, 32] else []) ++ joinT (selK (μ 1) 1 N)) := by
    rw [hT, hT1]; unfold nameT; rw [List.append_assoc]
  have n2 : T1.length ≤ T'.length := by rw [hT0, List.length_append]; omega
  have m2 := cap_mono n2
  have hw : ([44, 32] : List Int) = wordT 24 := by decide
  refine CT.walk hfl (by decide) (Nat.le_of_ble_eq_true rfl) ?_
  intro A J hJ
  show J (gw 105 XSh cy b μ ++ (w ++ E)) 0 0 0 [(0, .ref (b 0)), (1, .ref s), (2, .ref (b (9 + 6 * i)))] []
  refine j_aload_n hJ (j := 2) rfl rfl dX4_appendName_0 ?_
  refine j_aload_n hJ (j := 0) rfl rfl dX4_appendName_1 ?_
  refine w_getr hJ (by omega) rfl rfl f_X4_9 dX4_appendName_2 ?_
  refine j_callV0 hJ (c_X0_countMoved hfl hi hN hkr) m_X4_234 k_X0_countMoved (q0 := 9 + 6 * i) (by rw [gw_get (by omega), XS0]; rfl) rfl ⟨(Nat.le_of_ble_eq_true rfl), (Nat.le_of_ble_eq_true rfl)⟩ ⟨(Nat.le_of_ble_eq_true rfl), (Nat.le_of_ble_eq_true rfl)⟩ (Nat.le_of_ble_eq_true rfl) dX4_appendName_5 rfl ?_
  intro v1 u2 hv3
  obtain ⟨_, rfl, rfl, rfl⟩ := hv3
  show J (gw 105 XSh cy b μ ++ (w ++ E)) 0 0 8 [(0, .ref (b 0)), (1, .ref s), (2, .ref (b (9 + 6 * i)))] [.int (zI ((filK (μ 1) 2 N).length : Int))]
  refine j_topi (y := zI ((selK (μ 1) 1 N).length : Int)) (by rw [q2]) ?_
  refine j_istore_n hJ (lv' := [(3, .int (zI ((selK (μ 1) 1 N).length : Int))), (0, .ref (b 0)), (1, .ref s), (2, .ref (b (9 + 6 * i)))]) rfl (by decide) rfl dX4_appendName_8 ?_
  refine j_aload_n hJ (j := 3) rfl rfl dX4_appendName_9 ?_
  refine w_geti hJ (fi := 1) rfl (by omega) (XS0 _) rfl f_X4_197 dX4_appendName_10 ?_
  refine j_topi (y := zI (N.length : Int)) (by rw [k1]) ?_
  refine j_iload_n hJ (j := 0) rfl rfl dX4_appendName_13 ?_
  refine j_isub hJ dX4_appendName_14 ?_
  refine j_istore hJ (lv' := [(4, .int (zI ((N.length : Int) - ((selK (μ 1) 1 N).length : Int)))), (3, .int (zI ((selK (μ 1) 1 N).length : Int))), (0, .ref (b 0)), (1, .ref s), (2, .ref (b (9 + 6 * i)))]) (by decide) rfl dX4_appendName_15 ?_
  refine j_aload_n hJ (j := 2) rfl rfl dX4_appendName_17 ?_
  refine j_aload_n hJ (j := 3) rfl rfl dX4_appendName_18 ?_
  refine j_aload_n hJ (j := 4) rfl rfl dX4_appendName_19 ?_
  refine j_iconst hJ dX4_appendName_20 ?_
  refine j_callV0 hJ (c_X4_appendWords hfl (v := 0) hi hN hkr hS hT1 (by omega) (Or.inl rfl)) m_X4_238 k_X4_appendWords (q0 := 0) (by rw [gw_get (by decide)]; rfl) rfl ⟨(Nat.le_of_ble_eq_true rfl), (Nat.le_of_ble_eq_true rfl)⟩ ⟨by dsimp only; omega, by dsimp only; omega⟩ (Nat.le_of_ble_eq_true rfl) dX4_appendName_21 rfl ?_
  intro v4 u5 hv6
  obtain ⟨w7, rfl, rfl, S21⟩ := hv6
  show J (gw 105 XSh cy b μ ++ (w7 ++ E)) _ _ 24 [(4, .int (zI ((N.length : Int) - ((selK (μ 1) 1 N).length : Int)))), (3, .int (zI ((selK (μ 1) 1 N).length : Int))), (0, .ref (b 0)), (1, .ref s), (2, .ref (b (9 + 6 * i)))] []
  refine j_iload hJ (j := 0) rfl dX4_appendName_24 ?_
  refine j_if_le hJ (tgt := 40) ⟨by omega, by omega⟩ (by decide) dX4_appendName_26 ?_ ?_
  · intro h26
    rw [if_neg (by omega), List.nil_append] at hT0
    refine j_aload_n hJ (j := 2) rfl rfl dX4_appendName_40 ?_
    refine j_aload_n hJ (j := 3) rfl rfl dX4_appendName_41 ?_
    refine j_aload_n hJ (j := 4) rfl rfl dX4_appendName_42 ?_
    refine j_iconst hJ dX4_appendName_43 ?_
    refine j_callV0 hJ (c_X4_appendWords hfl (v := 1) hi hN hkr S21 hT0 hL (Or.inr rfl)) m_X4_238 k_X4_appendWords (q0 := 0) (by rw [gw_get (by decide)]; rfl) rfl ⟨(Nat.le_of_ble_eq_true rfl), (Nat.le_of_ble_eq_true rfl)⟩ ⟨by dsimp only; omega, by dsimp only; omega⟩ (Nat.le_of_ble_eq_true rfl) dX4_appendName_44 rfl ?_
    intro v8 u9 hv10
    obtain ⟨w11, rfl, rfl, S44⟩ := hv10
    show J (gw 105 XSh cy b μ ++ (w11 ++ E)) _ _ 47 [(4, .int (zI ((N.length : Int) - ((selK (μ 1) 1 N).length : Int)))), (3, .int (zI ((selK (μ 1) 1 N).length : Int))), (0, .ref (b 0)), (1, .ref s), (2, .ref (b (9 + 6 * i)))] []
    refine j_vret hJ rfl rfl (by dsimp only; omega) (by dsimp only; omega) dX4_appendName_47 ⟨w11, rfl, rfl, ?_⟩
    exact S44
  · intro h26
    refine j_iload_n hJ (j := 1) rfl rfl dX4_appendName_29 ?_
    refine j_if_le hJ (tgt := 40) ⟨by omega, by omega⟩ (by decide) dX4_appendName_30 ?_ ?_
    · intro h30
      rw [if_neg (by omega), List.nil_append] at hT0
      refine j_aload_n hJ (j := 2) rfl rfl dX4_appendName_40 ?_
      refine j_aload_n hJ (j := 3) rfl rfl dX4_appendName_41 ?_
      refine j_aload_n hJ (j := 4) rfl rfl dX4_appendName_42 ?_
      refine j_iconst hJ dX4_appendName_43 ?_
      refine j_callV0 hJ (c_X4_appendWords hfl (v := 1) hi hN hkr S21 hT0 hL (Or.inr rfl)) m_X4_238 k_X4_appendWords (q0 := 0) (by rw [gw_get (by decide)]; rfl) rfl ⟨(Nat.le_of_ble_eq_true rfl), (Nat.le_of_ble_eq_true rfl)⟩ ⟨by dsimp only; omega, by dsimp only; omega⟩ (Nat.le_of_ble_eq_true rfl) dX4_appendName_44 rfl ?_
      intro v12 u13 hv14
      obtain ⟨w15, rfl, rfl, S44⟩ := hv14
      show J (gw 105 XSh cy b μ ++ (w15 ++ E)) _ _ 47 [(4, .int (zI ((N.length : Int) - ((selK (μ 1) 1 N).length : Int)))), (3, .int (zI ((selK (μ 1) 1 N).length : Int))), (0, .ref (b 0)), (1, .ref s), (2, .ref (b (9 + 6 * i)))] []
      refine j_vret hJ rfl rfl (by dsimp only; omega) (by dsimp only; omega) dX4_appendName_47 ⟨w15, rfl, rfl, ?_⟩
      exact S44
    · intro h30
      rw [if_pos (by omega), hw] at hT0
      obtain ⟨T2, hT2⟩ : ∃ T2, T2 = T1 ++ wordT 24 := ⟨_, rfl⟩
      have n3 : T2.length = T1.length + (wordT 24).length := by rw [hT2]; simp
      rw [← List.append_assoc, ← hT2] at hT0
      have n4 : T2.length ≤ T'.length := by rw [hT0, List.length_append]; omega
      have m3 := cap_mono (n := T1.length) (k := T2.length) (by omega)
      have m4 := cap_mono n4
      refine j_aload_n hJ (j := 3) rfl rfl dX4_appendName_33 ?_
      refine j_ldcs (i := 24) hJ tx_cs dX4_appendName_34 ?_
      obtain ⟨f36, g36⟩ := S21.recv' (N := 105) (sh := XSh) (b := b) (μ := μ) (E := E)
      refine j_callV0 hJ (l_app_s hfl S21 hT2 (by omega) (by decide)) m_X4_244 k_J4_append_15ec4 (q0 := 105) g36 rfl ⟨(Nat.le_of_ble_eq_true rfl), (Nat.le_of_ble_eq_true rfl)⟩ ⟨by dsimp only; omega, by dsimp only; omega⟩ (Nat.le_of_ble_eq_true rfl) dX4_appendName_36 rfl ?_
      intro v16 u17 hv18
      obtain ⟨w19, rfl, rfl, S36⟩ := hv18
      show J (gw 105 XSh cy b μ ++ (w19 ++ E)) _ _ 39 [(4, .int (zI ((N.length : Int) - ((selK (μ 1) 1 N).length : Int)))), (3, .int (zI ((selK (μ 1) 1 N).length : Int))), (0, .ref (b 0)), (1, .ref s), (2, .ref (b (9 + 6 * i)))] [.ref s]
      refine j_pop hJ rfl dX4_appendName_39 ?_
      refine j_aload_n hJ (j := 2) rfl rfl dX4_appendName_40 ?_
      refine j_aload_n hJ (j := 3) rfl rfl dX4_appendName_41 ?_
      refine j_aload_n hJ (j := 4) rfl rfl dX4_appendName_42 ?_
      refine j_iconst hJ dX4_appendName_43 ?_
      refine j_callV0 hJ (c_X4_appendWords hfl (v := 1) hi hN hkr S36 hT0 hL (Or.inr rfl)) m_X4_238 k_X4_appendWords (q0 := 0) (by rw [gw_get (by decide)]; rfl) rfl ⟨(Nat.le_of_ble_eq_true rfl), (Nat.le_of_ble_eq_true rfl)⟩ ⟨by dsimp only; omega, by dsimp only; omega⟩ (Nat.le_of_ble_eq_true rfl) dX4_appendName_44 rfl ?_
      intro v20 u21 hv22
      obtain ⟨w23, rfl, rfl, S44⟩ := hv22
      show J (gw 105 XSh cy b μ ++ (w23 ++ E)) _ _ 47 [(4, .int (zI ((N.length : Int) - ((selK (μ 1) 1 N).length : Int)))), (3, .int (zI ((selK (μ 1) 1 N).length : Int))), (0, .ref (b 0)), (1, .ref s), (2, .ref (b (9 + 6 * i)))] []
      refine j_vret hJ rfl rfl (by dsimp only; omega) (by dsimp only; omega) dX4_appendName_47 ⟨w23, rfl, rfl, ?_⟩
      exact S44
end
