set_option maxRecDepth 20000 in
theorem m_J4_1 : MF RJ4 1 2 yJ5_init_d00df 1 := ⟨Or.inl (List.mem_of_getElem? (i := 570) (by decide +kernel)), (List.mem_of_getElem? (i := 58) (by decide +kernel)), ⟨by decide +kernel, by decide +kernel⟩, by decide +kernel, fun h => by omega, fun h => by omega, fun _ => ⟨(List.mem_of_getElem? (i := 571) (by decide +kernel)), rfl⟩⟩
set_option maxRecDepth 20000 in
theorem k_J5_init_d00df : Cond.code yJ5_init_d00df cJ5_init_d00df 2 none ∈ GT := (List.mem_of_getElem? (i := 572) (by decide +kernel))
/-! a builder as a whole: what its methods do to the text -/
theorem perm_mid (A B C : va_W) : (A ++ (B ++ C)).Perm (B ++ (A ++ C)) := by
  rw [← List.append_assoc, ← List.append_assoc]
  exact (List.perm_append_comm).append_right C
theorem perm_end (A B C : va_W) : (A ++ (B ++ C)).Perm ((A ++ C) ++ B) := by
  rw [List.append_assoc]
  exact (List.perm_append_comm).append_left A
theorem obj_i : Cond.instanceMethod objectInit ∈ GT := (List.mem_of_getElem? (i := 79) (by decide +kernel))
set_option maxRecDepth 20000 in
theorem obj_c : Cond.code objectInit ⟨#[0xb1]⟩ 1 none ∈ GT := (List.mem_of_getElem? (i := 80) (by decide +kernel))
section JO
variable {l : Launch} {D : va_G} {cy : Nat → ClassId} {n0 : Nat} {ad : Nat → Nat} {own : String} {cc : ByteArray} {nL : Nat} {ret : Option FieldType} {R : Room} {A : Nat → Prop} {PR : Option Value → va_W → Prop} {PX : String → va_W → Prop} {XS : State → Prop} {fin : Bool} {ET : List ExceptionTableEntry} {J : JT}
variable {ws : va_W} {ce sl pc : Nat} {lv : List (Nat × Value)} {st : List Value}
theorem j_objInit {a idx : Nat} (hJ : Cx l D cy n0 ad own cc nL ret R A PR PX XS fin ET J) (hlk : Cond.methodLink own idx objectInit ∈ GT) (hR : 1 ≤ R.frames) (hRl : (st.map fun v => v.category).sum + 12 ≤ R.locals) (hd : decode cc pc = .ok (.invokespecial idx, 3)) (kk : J ws ce sl (pc + 3) lv st) : J ws ce sl pc lv (.ref a :: st) := by
  obtain ⟨p, e, s, m, args, below, meth, c, Q, ⟨hx, hb, hml, hown⟩, hK, hA, hAn, hM, hXS, hQ, rfl⟩ := hJ
  intro H locs ls hP hD hS hl
  exact W.objInit hx hb hown (hK.2.1.good hlk rfl) (hK.2.1.good obj_i rfl) (hK.2.1.good obj_c rfl) rfl (hl.1.trans hml.symm) rfl hd hR (by show 2 * 0 + _ + _ ≤ _; omega) (kk H locs ls hP hD hS hl)
theorem j_new {idx ci N : Nat} {C : String} {T : u_T} (ty : Nat → FieldType) {fs : List Value} (hJ : Cx l D cy n0 ad own cc nL ret R A PR PX XS fin ET J) (hc : vwCl[ci]? = some (C, T, N)) (hin : ∀ w ∈ u_ws C T N, w ∈ GT ∧ goodWord w = true) (hty : ∀ k, k < N → parseFieldDescriptor (T k).2.2.1 = some (ty k)) (hlk : Cond.classLink own idx C ∈ GT) (hinst : Cond.instantiable C N ∈ GT) (hini : Cond.initialized C ∈ GT) (hfs : ∀ j, j < N → defaultValue (ty j) = vp_V fs j) (hc1 : ce + 1 ≤ R.cells) (hs1 : sl + N ≤ R.slots) (hd : decode cc pc = .ok (.new idx, 3))
    (kk : ∀ q, J (ws ++ [(q, .inr (ci, fs))]) (ce + 1) (sl + N) (pc + 3) lv (.ref q :: st)) : J ws ce sl pc lv st := by
  obtain ⟨p, e, s, m, args, below, meth, c, Q, ⟨hx, hb, hml, hown⟩, hK, hA, hAn, hM, hXS, hQ, rfl⟩ := hJ
  intro H locs ls hP hD hS hl
  exact va_new (Ts := u_ws C T N) hx hb (fun w hw => hK.2.1.good (hin w hw).1 (hin w hw).2) (fun _ h => h) ty hty hown (hK.2.1.good hlk rfl) (hK.2.1.good hinst rfl) (hK.2.1.good hini rfl) hK.1 hP hD hS hA hc hfs hc1 hs1 hd (fun q H1 hP1 hD1 hS1 => kk q H1 locs ls hP1 hD1 hS1 hl)
end JO
section
variable {l : Launch} {D : va_G} {cy : Nat → ClassId} {n0 : Nat} {ad : Nat → Nat} {E : va_W} {b : Nat → Nat} {μ : Nat → Int → Int} {s : Nat} {T T' : List Int} {w : va_W}
theorem k_app_c {c : Int} (hfl : l.stackTraces = false) (hS : SBP cy s T w) (hT : T' = T ++ [c]) (hL : T'.length ≤ 1150) (hk : 0 ≤ c ∧ c < 128) : CT l D cy n0 ad yJ4_append_cf468 (.code yJ4_append_cf468 cJ4_append_cf468 2 (some (.object "java/lang/StringBuilder"))) ({ frames := 5, cells := cpC T'.length - cpC T.length, slots := cpS T'.length - cpS T.length, locals := 112 }) [.ref s, .int (zI c)] (w ++ E) (fun vv uu => ∃ w', vv = some (.ref s) ∧ uu = (w' ++ E) ∧ SBP cy s T' w') := by
  obtain ⟨t, m, ν, rfl, hI⟩ := hS
  have e : T'.length = T.length + 1 := by rw [hT]; simp
  rw [e] at hL
  rw [e]
  exact (c_J4_append_cf468 hfl hI hL hk).mono (fun v u ⟨t', m', ν', h1, h2, h3⟩ => ⟨_, h1, h2, t', m', ν', rfl, by rw [hT]; exact h3⟩)
theorem k_app_s {i : Nat} (hfl : l.stackTraces = false) (hS : SBP cy s T w) (hT : T' = T ++ wordT i) (hL : T'.length ≤ 1150) (hi : i < 25) : CT l D cy n0 ad yJ4_append_15ec4 (.code yJ4_append_15ec4 cJ4_append_15ec4 2 (some (.object "java/lang/StringBuilder"))) ({ frames := 5, cells := cpC T'.length - cpC T.length, slots := cpS T'.length - cpS T.length, locals := 113 }) [.ref s, .ref (ad (30 + i))] (w ++ E) (fun vv uu => ∃ w', vv = some (.ref s) ∧ uu = (w' ++ E) ∧ SBP cy s T' w') := by
  obtain ⟨t, m, ν, rfl, hI⟩ := hS
  have e : T'.length = T.length + wL i := by rw [hT, List.length_append, wordT_len]
  rw [e] at hL
  rw [e]
  exact (c_J4_append_15ec4 hfl hI hi hL).mono (fun v u ⟨t', m', ν', h1, h2, h3⟩ => ⟨_, h1, h2, t', m', ν', rfl, by rw [hT]; exact h3⟩)
theorem k_app_i {z : Int} (hfl : l.stackTraces = false) (hS : SBP cy s T w) (hT : T' = T ++ numT z) (hL : T'.length ≤ 1150) (hz : 1 ≤ z ∧ z ≤ 12) : CT l D cy n0 ad yJ4_append_bf812 (.code yJ4_append_bf812 cJ4_append_bf812 2 (some (.object "java/lang/StringBuilder"))) ({ frames := 5, cells := cpC T'.length - cpC T.length, slots := cpS T'.length - cpS T.length, locals := 114 }) [.ref s, .int (zI z)] (w ++ E) (fun vv uu => ∃ w', vv = some (.ref s) ∧ uu = (w' ++ E) ∧ SBP cy s T' w') := by
  obtain ⟨t, m, ν, rfl, hI⟩ := hS
  have e : T'.length = T.length + (numT z).length := by rw [hT, List.length_append]
  rw [e] at hL
  rw [e]
  exact (c_J4_append_bf812 hfl hI hz hL).mono (fun v u ⟨t', m', ν', h1, h2, h3⟩ => ⟨_, h1, h2, t', m', ν', rfl, by rw [hT]; exact h3⟩)
theorem l_app_c {c : Int} (hfl : l.stackTraces = false) (hS : SBP cy s T w) (hT : T' = T ++ [c]) (hL : T'.length ≤ 1150) (hk : 0 ≤ c ∧ c < 128) : CT l D cy n0 ad yJ4_append_cf468 (.code yJ4_append_cf468 cJ4_append_cf468 2 (some (.object "java/lang/StringBuilder"))) ({ frames := 5, cells := cpC T'.length - cpC T.length, slots := cpS T'.length - cpS T.length, locals := 112 }) [.ref s, .int (zI c)] (gw 105 XSh cy b μ ++ (w ++ E)) (fun vv uu => ∃ w', vv = some (.ref s) ∧ uu = (gw 105 XSh cy b μ ++ (w' ++ E)) ∧ SBP cy s T' w') :=
  (k_app_c (E := gw 105 XSh cy b μ ++ E) hfl hS hT hL hk).perm (perm_mid _ _ _) (fun v u ⟨w', h1, h2, h3⟩ => ⟨gw 105 XSh cy b μ ++ (w' ++ E), by rw [h2]; exact perm_mid _ _ _, w', h1, rfl, h3⟩)
theorem l_app_s {i : Nat} (hfl : l.stackTraces = false) (hS : SBP cy s T w) (hT : T' = T ++ wordT i) (hL : T'.length ≤ 1150) (hi : i < 25) : CT l D cy n0 ad yJ4_append_15ec4 (.code yJ4_append_15ec4 cJ4_append_15ec4 2 (some (.object "java/lang/StringBuilder"))) ({ frames := 5, cells := cpC T'.length - cpC T.length, slots := cpS T'.length - cpS T.length, locals := 113 }) [.ref s, .ref (ad (30 + i))] (gw 105 XSh cy b μ ++ (w ++ E)) (fun vv uu => ∃ w', vv = some (.ref s) ∧ uu = (gw 105 XSh cy b μ ++ (w' ++ E)) ∧ SBP cy s T' w') :=
  (k_app_s (E := gw 105 XSh cy b μ ++ E) hfl hS hT hL hi).perm (perm_mid _ _ _) (fun v u ⟨w', h1, h2, h3⟩ => ⟨gw 105 XSh cy b μ ++ (w' ++ E), by rw [h2]; exact perm_mid _ _ _, w', h1, rfl, h3⟩)
theorem l_len (hfl : l.stackTraces = false) (hS : SBP cy s T w) : CT l D cy n0 ad yJ4_length_8abf5 (.code yJ4_length_8abf5 cJ4_length_8abf5 1 (some .int)) ({ frames := 1, cells := 0, slots := 0, locals := 20 }) [.ref s] (gw 105 XSh cy b μ ++ (w ++ E)) (fun vv uu => ∃ q, vv = some (.int (zI q)) ∧ uu = (gw 105 XSh cy b μ ++ (w ++ E)) ∧ q = (T.length : Int)) := by
  obtain ⟨t, m, ν, rfl, hI⟩ := hS
  exact (c_J4_length_8abf5 (E := gw 105 XSh cy b μ ++ E) hfl).perm (perm_mid _ _ _) (fun v u ⟨q, h1, h2, h3⟩ => ⟨_, by rw [h2]; exact perm_mid _ _ _, q, h1, rfl, h3.trans hI.2.1⟩)
theorem l_char {k : Int} (hfl : l.stackTraces = false) (hS : SBP cy s T w) (h0 : 0 ≤ k) (h1 : k < T.length) : CT l D cy n0 ad yJ4_charAt_5068e (.code yJ4_charAt_5068e cJ4_charAt_5068e 2 (some .char)) ({ frames := 3, cells := 0, slots := 0, locals := 67 }) [.ref s, .int (zI k)] (gw 105 XSh cy b μ ++ (w ++ E)) (fun vv uu => ∃ q, vv = some (.int (zI q)) ∧ uu = (gw 105 XSh cy b μ ++ (w ++ E)) ∧ T[k.toNat]? = some q ∧ 0 ≤ q ∧ q < 128) := by
  obtain ⟨t, m, ν, rfl, hI⟩ := hS
  have h2 : T[k.toNat]? = some (ν 1 k) := by
    have h3 : k.toNat < T.length := by omega
    rw [List.getElem?_eq_getElem h3]
    have := hI.2.2.2.2.2 k.toNat _ (List.getElem?_eq_getElem h3)
    rw [Int.toNat_of_nonneg h0] at this
    rw [this]
  exact (c_J4_charAt_5068e (E := gw 105 XSh cy b μ ++ E) hfl hI h0 h1).perm (perm_mid _ _ _) (fun v u ⟨q, g1, g2, g3⟩ => ⟨_, by rw [g2]; exact perm_mid _ _ _, q, g1, rfl, by rw [g3]; exact h2, by rw [g3]; exact hI.2.2.2.2.1 k⟩)
set_option maxHeartbeats 4000000 in
set_option maxRecDepth 100000 in
theorem c_J5_init_d00df (hfl : l.stackTraces = false) : CT l D cy n0 ad yJ5_init_d00df (.code yJ5_init_d00df cJ5_init_d00df 2 none) ({ frames := 1, cells := 1, slots := 16, locals := 40 }) [.ref s, .int (zI 16)] ((s, .inr (0, [.null, .int (zI 0), .int (zI 0), .int (zI 0)])) :: E) (fun vv uu => ∃ w', vv = none ∧ uu = (w' ++ E) ∧ SBP cy s [] w') := by
  refine CT.walk hfl (by decide) (Nat.le_of_ble_eq_true rfl) ?_
  intro A J hJ
  show J ((s, .inr (0, [.null, .int (zI 0), .int (zI 0), .int (zI 0)])) :: E) 0 0 0 [(0, .ref s), (1, .int (zI 16))] []
  refine j_aload_n hJ (j := 0) rfl rfl dJ5_init_d00df_0 ?_
  refine j_objInit hJ (List.mem_of_getElem? (i := 573) (by decide +kernel)) (Nat.le_of_ble_eq_true rfl) (Nat.le_of_ble_eq_true rfl) dJ5_init_d00df_1 ?_
  refine j_gets (v := .int (zI 1)) hJ (fun _ h => h.2.2.2.2.2.2.1) g_J5_18 dJ5_init_d00df_4 ?_
  refine j_if_eq hJ (tgt := 25) ⟨by omega, by omega⟩ (by decide) dJ5_init_d00df_7 ?_ ?_
  · intro h; omega
  · intro h
    refine j_aload_n hJ (j := 0) rfl rfl dJ5_init_d00df_10 ?_
    refine j_iload_n hJ (j := 1) rfl rfl dJ5_init_d00df_11 ?_
    refine j_newa hJ (ty := .byte) (t := 3) (N' := 16) rfl (fun _ => rfl) arr_b rfl (by decide) (by decide) (fun _ => rfl) (Nat.le_of_ble_eq_true rfl) (Nat.le_of_ble_eq_true rfl) dJ5_init_d00df_12 (fun q => ?_)
    refine j_put hJ (q0 := 0) (a := s) (ci := 0) (k := 0) (ty := .array .byte) (v := .ref q) rfl f_J5_15 rfl rfl (by simp) dJ5_init_d00df_14 ?_
    refine j_aload_n hJ (j := 0) rfl rfl dJ5_init_d00df_17 ?_
    refine j_iconst hJ dJ5_init_d00df_18 ?_
    refine j_put hJ (q0 := 0) (a := s) (ci := 0) (k := 1) (ty := .byte) (v := .int (zI 0)) rfl f_J5_22 (by decide) (by decide) (by simp) dJ5_init_d00df_19 ?_
    refine j_goto hJ (tgt := 38) (by decide) dJ5_init_d00df_22 ?_
    refine j_perm hJ (ws' := gw 2 (SBSh 16) cy (sbb s q) (fun _ _ => 0) ++ E) ?_ ?_
    · exact (List.perm_append_singleton _ E).cons _
    · refine j_vret hJ rfl rfl (Nat.le_of_ble_eq_true rfl) (Nat.le_of_ble_eq_true rfl) dJ5_init_d00df_38 ⟨gw 2 (SBSh 16) cy (sbb s q) (fun _ _ => 0), rfl, rfl, q, 16, fun _ _ => 0, rfl, rfl, rfl, rfl, by simp, fun j => ⟨Int.le_refl 0, (by decide : (0 : Int) < 128)⟩, fun k x hx => by simp at hx⟩
set_option maxHeartbeats 4000000 in
set_option maxRecDepth 100000 in
theorem c_J4_init_da8c8 (hfl : l.stackTraces = false) : CT l D cy n0 ad yJ4_init_da8c8 (.code yJ4_init_da8c8 cJ4_init_da8c8 1 none) ({ frames := 2, cells := 1, slots := 16, locals := 61 }) [.ref s] ((s, .inr (0, [.null, .int (zI 0), .int (zI 0), .int (zI 0)])) :: E) (fun vv uu => ∃ w', vv = none ∧ uu = (w' ++ E) ∧ SBP cy s [] w') := by
  refine CT.walk hfl (by decide) (Nat.le_of_ble_eq_true rfl) ?_
  intro A J hJ
  show J ((s, .inr (0, [.null, .int (zI 0), .int (zI 0), .int (zI 0)])) :: E) 0 0 0 [(0, .ref s)] []
  refine j_aload_n hJ (j := 0) rfl rfl dJ4_init_da8c8_0 ?_
  refine j_bipush hJ (v := 16) (by decide) dJ4_init_da8c8_1 ?_
  refine j_callI0 hJ (c_J5_init_d00df hfl) m_J4_1 k_J5_init_d00df ⟨Nat.le_of_ble_eq_true rfl, Nat.le_of_ble_eq_true rfl⟩ ⟨Nat.le_of_ble_eq_true rfl, Nat.le_of_ble_eq_true rfl⟩ (Nat.le_of_ble_eq_true rfl) dJ4_init_da8c8_3 rfl ?_
  intro v u hv
  obtain ⟨w', rfl, rfl, h⟩ := hv
  exact j_vret hJ rfl rfl (Nat.le_of_ble_eq_true rfl) (Nat.le_of_ble_eq_true rfl) dJ4_init_da8c8_6 ⟨w', rfl, rfl, h⟩
end
