
set_option maxRecDepth 20000 in
theorem m_X4_110 : MF RX4 110 0 yX4_lineOf 1 := ⟨Or.inl (List.mem_of_getElem? (i := 561) (by decide +kernel)), (List.mem_of_getElem? (i := 40) (by decide +kernel)), ⟨by decide +kernel, by decide +kernel⟩, by decide +kernel, fun _ => ⟨(List.mem_of_getElem? (i := 563) (by decide +kernel)), (List.mem_of_getElem? (i := 28) (by decide +kernel))⟩, fun h => by omega, fun h => by omega⟩
set_option maxRecDepth 20000 in
theorem k_X4_lineOf : Cond.code yX4_lineOf cX4_lineOf 3 (some (.object "java/lang/StringBuilder")) ∈ GT := (List.mem_of_getElem? (i := 564) (by decide +kernel))
set_option maxRecDepth 20000 in
theorem m_X4_114 : MF RX4 114 0 yJ4_length_8abf5 0 := ⟨Or.inl (List.mem_of_getElem? (i := 761) (by decide +kernel)), (List.mem_of_getElem? (i := 59) (by decide +kernel)), ⟨by decide +kernel, by decide +kernel⟩, by decide +kernel, fun _ => ⟨(List.mem_of_getElem? (i := 762) (by decide +kernel)), (List.mem_of_getElem? (i := 763) (by decide +kernel))⟩, fun h => by omega, fun h => by omega⟩
set_option maxRecDepth 20000 in
theorem k_J4_length_8abf5 : Cond.code yJ4_length_8abf5 cJ4_length_8abf5 1 (some .int) ∈ GT := (List.mem_of_getElem? (i := 764) (by decide +kernel))
set_option maxRecDepth 20000 in
theorem m_X4_121 : MF RX4 121 0 yJ4_charAt_5068e 1 := ⟨Or.inl (List.mem_of_getElem? (i := 773) (by decide +kernel)), (List.mem_of_getElem? (i := 59) (by decide +kernel)), ⟨by decide +kernel, by decide +kernel⟩, by decide +kernel, fun _ => ⟨(List.mem_of_getElem? (i := 774) (by decide +kernel)), (List.mem_of_getElem? (i := 775) (by decide +kernel))⟩, fun h => by omega, fun h => by omega⟩
set_option maxRecDepth 20000 in
theorem k_J4_charAt_5068e : Cond.code yJ4_charAt_5068e cJ4_charAt_5068e 2 (some .char) ∈ GT := (List.mem_of_getElem? (i := 776) (by decide +kernel))
section
variable {l : Launch} {D : va_G} {cy : Nat → ClassId} {n0 : Nat} {ad : Nat → Nat} {b : Nat → Nat} {E : va_W} {ws : va_W}
set_option maxHeartbeats 4000000 in
set_option maxRecDepth 100000 in
theorem c_X4_lineLength {μ : Nat → Int → Int} {n : Nat} {N : Nat → List Int} {ow : Nat → Int} {m : Nat → Nat} {p : Nat → Nat → Int} {s : Int} (hfl : l.stackTraces = false) (hX : XI μ n N ow m p) (hsR : -2147483648 ≤ s ∧ s < 2147483648) : CV l D cy n0 ad yX4_lineLength (.code yX4_lineLength cX4_lineLength 2 (some .int)) ({ frames := 9, cells := 9, slots := 2282, locals := 206 }) [.ref (b 0), .int (zI s)] (gw 105 XSh cy b μ ++ E) (fun vv uu => ∃ q, vv = some (.int (zI q)) ∧ uu = (gw 105 XSh cy b μ ++ E) ∧ (StOK n s ∧ q = ((lineT (μ 1) (N s.toNat) (trk (p s.toNat) (m s.toNat))).length : Nat))) (fun q uu => ∃ μ', uu = (gw 105 XSh cy b μ' ++ E) ∧ ((q = xIO ∧ ¬ StOK n s) ∧ μ' = μ)) := by
  obtain ⟨x1, x2, x3, x4, x5, x6, x7⟩ := id hX
  refine CV.walk hfl (by decide) (Nat.le_of_ble_eq_true rfl) ?_
  intro A J hJ
  show J (gw 105 XSh cy b μ ++ E) 0 0 0 [(0, .ref (b 0)), (1, .int (zI s))] []
  refine j_aload_n hJ (j := 0) rfl rfl dX4_lineLength_0 ?_
  refine j_iload_n hJ (j := 1) rfl rfl dX4_lineLength_1 ?_
  refine j_callVX0 hJ (c_X4_checkStreet hfl (n := n) hsR x1 x2) mx_X4_51 k_X4_checkStreet (q0 := 0) (by rw [gw_get (by decide)]; rfl) rfl ⟨(Nat.le_of_ble_eq_true rfl), (Nat.le_of_ble_eq_true rfl)⟩ ⟨(Nat.le_of_ble_eq_true rfl), (Nat.le_of_ble_eq_true rfl)⟩ (Nat.le_of_ble_eq_true rfl) dX4_lineLength_2 (by rintro q u ⟨_, rfl, ⟨rfl, h⟩, rfl⟩; exact ⟨_, rfl, ⟨rfl, h⟩, rfl⟩) rfl ?_
  intro v1 u2 hv3
  obtain ⟨rfl, rfl, hs⟩ := hv3
  show J (gw 105 XSh cy b μ ++ E) 1 6 5 [(0, .ref (b 0)), (1, .int (zI s))] []
  have hs1 := hs.1
  have hs2 := hs.2
  have hs16 : s.toNat < 16 := by omega
  refine j_aload_n hJ (j := 0) rfl rfl dX4_lineLength_5 ?_
  refine j_aload_n hJ (j := 0) rfl rfl dX4_lineLength_6 ?_
  refine w_getr hJ (by omega) rfl rfl f_X4_15 dX4_lineLength_7 ?_
  refine j_iload_n hJ (j := 1) rfl rfl dX4_lineLength_10 ?_
  refine w_aald hJ (by omega) rfl (by decide) (by omega) (by omega) dX4_lineLength_11 ?_
  refine j_callV0 hJ (c_X4_lineOf hfl (i := s.toNat) hs16 (x4 s.toNat (by omega)) x3 (x6 s.toNat hs16).1) m_X4_110 k_X4_lineOf (q0 := 0) (by rw [gw_get (by decide)]; rfl) rfl ⟨(Nat.le_of_ble_eq_true rfl), (Nat.le_of_ble_eq_true rfl)⟩ ⟨(Nat.le_of_ble_eq_true rfl), (Nat.le_of_ble_eq_true rfl)⟩ (Nat.le_of_ble_eq_true rfl) dX4_lineLength_12 rfl ?_
  intro v8 u8 hv8
  obtain ⟨a8, w8, rfl, rfl, S8⟩ := hv8
  show J (gw 105 XSh cy b μ ++ (w8 ++ E)) 9 2282 15 [(0, .ref (b 0)), (1, .int (zI s))] [.ref a8]
  obtain ⟨f15, g15⟩ := S8.recv' (N := 105) (sh := XSh) (b := b) (μ := μ) (E := E)
  refine j_callV0 hJ (l_len hfl S8) m_X4_114 k_J4_length_8abf5 (q0 := 105) g15 rfl ⟨(Nat.le_of_ble_eq_true rfl), (Nat.le_of_ble_eq_true rfl)⟩ ⟨(Nat.le_of_ble_eq_true rfl), (Nat.le_of_ble_eq_true rfl)⟩ (Nat.le_of_ble_eq_true rfl) dX4_lineLength_15 rfl ?_
  intro v4 u5 hv6
  obtain ⟨_, rfl, rfl, rfl⟩ := hv6
  show J (gw 105 XSh cy b μ ++ (w8 ++ E)) 9 2282 18 [(0, .ref (b 0)), (1, .int (zI s))] [.int (zI ((lineT (μ 1) (N s.toNat) (trk (p s.toNat) (m s.toNat))).length : Int))]
  refine j_drop hJ (ws' := gw 105 XSh cy b μ ++ E) (X := w8) (perm_end _ _ _) ?_
  show J (gw 105 XSh cy b μ ++ E) 9 2282 18 [(0, .ref (b 0)), (1, .int (zI s))] [.int (zI ((lineT (μ 1) (N s.toNat) (trk (p s.toNat) (m s.toNat))).length : Int))]
  refine j_iret hJ rfl rfl (rfl) (Nat.le_of_ble_eq_true rfl) (Nat.le_of_ble_eq_true rfl) dX4_lineLength_18 ⟨((lineT (μ 1) (N s.toNat) (trk (p s.toNat) (m s.toNat))).length : Int), rfl, rfl, ?_⟩
  exact ⟨hs, rfl⟩
set_option maxHeartbeats 4000000 in
set_option maxRecDepth 100000 in
theorem c_X4_lineChar {μ : Nat → Int → Int} {n : Nat} {N : Nat → List Int} {ow : Nat → Int} {m : Nat → Nat} {p : Nat → Nat → Int} {s k : Int} (hfl : l.stackTraces = false) (hX : XI μ n N ow m p) (hsR : -2147483648 ≤ s ∧ s < 2147483648) (hkR : -2147483648 ≤ k ∧ k < 2147483648) : CV l D cy n0 ad yX4_lineChar (.code yX4_lineChar cX4_lineChar 4 (some .char)) ({ frames := 9, cells := 10, slots := 2288, locals := 206 }) [.ref (b 0), .int (zI s), .int (zI k)] (gw 105 XSh cy b μ ++ E) (fun vv uu => ∃ q, vv = some (.int (zI q)) ∧ uu = (gw 105 XSh cy b μ ++ E) ∧ ((StOK n s ∧ 0 ≤ k ∧ k < ((lineT (μ 1) (N s.toNat) (trk (p s.toNat) (m s.toNat))).length : Nat)) ∧ (lineT (μ 1) (N s.toNat) (trk (p s.toNat) (m s.toNat)))[k.toNat]? = some q ∧ 0 ≤ q ∧ q < 128)) (fun q uu => ∃ μ', uu = (gw 105 XSh cy b μ' ++ E) ∧ ((q = xIO ∧ ¬ (StOK n s ∧ 0 ≤ k ∧ k < ((lineT (μ 1) (N s.toNat) (trk (p s.toNat) (m s.toNat))).length : Nat))) ∧ μ' = μ)) := by
  obtain ⟨x1, x2, x3, x4, x5, x6, x7⟩ := id hX
  have hl6 : StOK n s → (lineT (μ 1) (N s.toNat) (trk (p s.toNat) (m s.toNat))).length ≤ 600 := fun g => lineT_le (x4 s.toNat (by have := g.1; have := g.2; omega)).2.2.1
  refine CV.walk hfl (by decide) (Nat.le_of_ble_eq_true rfl) ?_
  intro A J hJ
  show J (gw 105 XSh cy b μ ++ E) 0 0 0 [(0, .ref (b 0)), (1, .int (zI s)), (2, .int (zI k))] []
  refine j_aload_n hJ (j := 0) rfl rfl dX4_lineChar_0 ?_
  refine j_iload_n hJ (j := 1) rfl rfl dX4_lineChar_1 ?_
  refine j_callVX0 hJ (c_X4_checkStreet hfl (n := n) hsR x1 x2) mx_X4_51 k_X4_checkStreet (q0 := 0) (by rw [gw_get (by decide)]; rfl) rfl ⟨(Nat.le_of_ble_eq_true rfl), (Nat.le_of_ble_eq_true rfl)⟩ ⟨(Nat.le_of_ble_eq_true rfl), (Nat.le_of_ble_eq_true rfl)⟩ (Nat.le_of_ble_eq_true rfl) dX4_lineChar_2 (by rintro q u ⟨_, rfl, ⟨rfl, h⟩, rfl⟩; exact ⟨_, rfl, ⟨rfl, fun g => h g.1⟩, rfl⟩) rfl ?_
  intro v1 u2 hv3
  obtain ⟨rfl, rfl, hs⟩ := hv3
  show J (gw 105 XSh cy b μ ++ E) 1 6 5 [(0, .ref (b 0)), (1, .int (zI s)), (2, .int (zI k))] []
  have hs1 := hs.1
  have hs2 := hs.2
  have hs16 : s.toNat < 16 := by omega
  have hl7 := hl6 hs
  refine j_aload_n hJ (j := 0) rfl rfl dX4_lineChar_5 ?_
  refine j_aload_n hJ (j := 0) rfl rfl dX4_lineChar_6 ?_
  refine w_getr hJ (by omega) rfl rfl f_X4_15 dX4_lineChar_7 ?_
  refine j_iload_n hJ (j := 1) rfl rfl dX4_lineChar_10 ?_
  refine w_aald hJ (by omega) rfl (by decide) (by omega) (by omega) dX4_lineChar_11 ?_
  refine j_callV0 hJ (c_X4_lineOf hfl (i := s.toNat) hs16 (x4 s.toNat (by omega)) x3 (x6 s.toNat hs16).1) m_X4_110 k_X4_lineOf (q0 := 0) (by rw [gw_get (by decide)]; rfl) rfl ⟨(Nat.le_of_ble_eq_true rfl), (Nat.le_of_ble_eq_true rfl)⟩ ⟨(Nat.le_of_ble_eq_true rfl), (Nat.le_of_ble_eq_true rfl)⟩ (Nat.le_of_ble_eq_true rfl) dX4_lineChar_12 rfl ?_
  intro v8 u8 hv8
  obtain ⟨a8, w8, rfl, rfl, S8⟩ := hv8
  show J (gw 105 XSh cy b μ ++ (w8 ++ E)) 9 2282 15 [(0, .ref (b 0)), (1, .int (zI s)), (2, .int (zI k))] [.ref a8]
  refine j_astore_n hJ (lv' := [(3, .ref a8), (0, .ref (b 0)), (1, .int (zI s)), (2, .int (zI k))]) rfl (by decide) rfl dX4_lineChar_15 ?_
  refine j_iload_n hJ (j := 3) rfl rfl dX4_lineChar_16 ?_
  refine j_if_lt hJ (tgt := 28) ⟨by omega, by omega⟩ (by decide) dX4_lineChar_17 ?_ ?_
  · intro h17
    refine j_drop hJ (ws' := gw 105 XSh cy b μ ++ E) (X := w8) (perm_end _ _ _) ?_
    show J (gw 105 XSh cy b μ ++ E) 9 2282 28 [(3, .ref a8), (0, .ref (b 0)), (1, .int (zI s)), (2, .int (zI k))] []
    refine j_throw hJ tf_ioobe (is := 119) (tx := "no such character") (by decide) (Nat.le_of_ble_eq_true rfl) (Nat.le_of_ble_eq_true rfl) ⟨(Nat.le_of_ble_eq_true rfl), (Nat.le_of_ble_eq_true rfl)⟩ dX4_lineChar_28 dX4_lineChar_31 dX4_lineChar_32 dX4_lineChar_34 dX4_lineChar_37 ⟨μ, rfl, ?_⟩
    exact ⟨⟨rfl, fun g => by omega⟩, rfl⟩
  · intro h17
    refine j_iload_n hJ (j := 3) rfl rfl dX4_lineChar_20 ?_
    refine j_aload_n hJ (j := 0) rfl rfl dX4_lineChar_21 ?_
    obtain ⟨f22, g22⟩ := S8.recv' (N := 105) (sh := XSh) (b := b) (μ := μ) (E := E)
    refine j_callV0 hJ (l_len hfl S8) m_X4_114 k_J4_length_8abf5 (q0 := 105) g22 rfl ⟨(Nat.le_of_ble_eq_true rfl), (Nat.le_of_ble_eq_true rfl)⟩ ⟨(Nat.le_of_ble_eq_true rfl), (Nat.le_of_ble_eq_true rfl)⟩ (Nat.le_of_ble_eq_true rfl) dX4_lineChar_22 rfl ?_
    intro v4 u5 hv6
    obtain ⟨_, rfl, rfl, rfl⟩ := hv6
    show J (gw 105 XSh cy b μ ++ (w8 ++ E)) 9 2282 25 [(3, .ref a8), (0, .ref (b 0)), (1, .int (zI s)), (2, .int (zI k))] [.int (zI ((lineT (μ 1) (N s.toNat) (trk (p s.toNat) (m s.toNat))).length : Int)), .int (zI k)]
    refine j_icmp_lt hJ (tgt := 38) ⟨by omega, by omega⟩ ⟨by omega, by omega⟩ (by decide) dX4_lineChar_25 ?_ ?_
    · intro h25
      refine j_aload_n hJ (j := 0) rfl rfl dX4_lineChar_38 ?_
      refine j_iload_n hJ (j := 3) rfl rfl dX4_lineChar_39 ?_
      obtain ⟨f40, g40⟩ := S8.recv' (N := 105) (sh := XSh) (b := b) (μ := μ) (E := E)
      refine j_callV0 hJ (l_char hfl S8 (by omega) (by omega)) m_X4_121 k_J4_charAt_5068e (q0 := 105) g40 rfl ⟨(Nat.le_of_ble_eq_true rfl), (Nat.le_of_ble_eq_true rfl)⟩ ⟨(Nat.le_of_ble_eq_true rfl), (Nat.le_of_ble_eq_true rfl)⟩ (Nat.le_of_ble_eq_true rfl) dX4_lineChar_40 rfl ?_
      intro v7 u8 hv9
      obtain ⟨q40, rfl, rfl, h40⟩ := hv9
      show J (gw 105 XSh cy b μ ++ (w8 ++ E)) 9 2282 43 [(3, .ref a8), (0, .ref (b 0)), (1, .int (zI s)), (2, .int (zI k))] [.int (zI q40)]
      refine j_drop hJ (ws' := gw 105 XSh cy b μ ++ E) (X := w8) (perm_end _ _ _) ?_
      show J (gw 105 XSh cy b μ ++ E) 9 2282 43 [(3, .ref a8), (0, .ref (b 0)), (1, .int (zI s)), (2, .int (zI k))] [.int (zI q40)]
      refine j_iret hJ rfl rfl (narC h40.2.1 h40.2.2) (Nat.le_of_ble_eq_true rfl) (Nat.le_of_ble_eq_true rfl) dX4_lineChar_43 ⟨q40, rfl, rfl, ?_⟩
      exact ⟨⟨hs, by omega, by omega⟩, h40⟩
    · intro h25
      refine j_drop hJ (ws' := gw 105 XSh cy b μ ++ E) (X := w8) (perm_end _ _ _) ?_
      show J (gw 105 XSh cy b μ ++ E) 9 2282 28 [(3, .ref a8), (0, .ref (b 0)), (1, .int (zI s)), (2, .int (zI k))] []
      refine j_throw hJ tf_ioobe (is := 119) (tx := "no such character") (by decide) (Nat.le_of_ble_eq_true rfl) (Nat.le_of_ble_eq_true rfl) ⟨(Nat.le_of_ble_eq_true rfl), (Nat.le_of_ble_eq_true rfl)⟩ dX4_lineChar_28 dX4_lineChar_31 dX4_lineChar_32 dX4_lineChar_34 dX4_lineChar_37 ⟨μ, rfl, ?_⟩
      exact ⟨⟨rfl, fun g => by omega⟩, rfl⟩
end
