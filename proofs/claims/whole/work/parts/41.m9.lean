
set_option maxRecDepth 20000 in
theorem m_X5_148 : MF RX5 148 0 yX5_passes 2 := ⟨Or.inl (List.mem_of_getElem? (i := 1105) (by decide +kernel)), (List.mem_of_getElem? (i := 63) (by decide +kernel)), ⟨by decide +kernel, by decide +kernel⟩, by decide +kernel, fun _ => ⟨(List.mem_of_getElem? (i := 1107) (by decide +kernel)), (List.mem_of_getElem? (i := 57) (by decide +kernel))⟩, fun h => by omega, fun h => by omega⟩
set_option maxRecDepth 20000 in
theorem k_X5_passes : Cond.code yX5_passes cX5_passes 4 (some .boolean) ∈ GT := (List.mem_of_getElem? (i := 1108) (by decide +kernel))
theorem q_X5_147 : Cond.constant RX5 147 (zI 99999) ∈ GT := (List.mem_of_getElem? (i := 1104) (by decide +kernel))
section
variable {l : Launch} {D : va_G} {cy : Nat → ClassId} {n0 : Nat} {ad : Nat → Nat} {b : Nat → Nat} {E : va_W} {ws : va_W}
set_option maxHeartbeats 4000000 in
set_option maxRecDepth 100000 in
theorem c_X5_walks {ν : Nat → Int → Int} {kd : Int → Int} {n : Nat} {N : Nat → List Int} {ow : Nat → Int} {m : Nat → Nat} {p : Nat → Nat → Int} {a0 : Int} (hfl : l.stackTraces = false) (hX : MI ν kd n N ow m p) (ha : 0 ≤ a0 ∧ a0 < 144) : CT l D cy n0 ad yX5_walks (.code yX5_walks cX5_walks 5 none) ({ frames := 2, cells := 0, slots := 0, locals := 45 }) [.ref (b 0), .int (zI a0)] (gw 14 MSh cy b ν ++ E) (fun vv uu => ∃ μ', vv = none ∧ uu = (gw 14 MSh cy b μ' ++ E) ∧ (FI (μ' 13) (EdS n (fun s => trk (p s) (m s)) ow) a0 ∧ (∀ a c, (EdS n (fun s => trk (p s) (m s)) ow) a c → μ' 13 c ≤ μ' 13 a + 1) ∧ MI μ' kd n N ow m p ∧ μ' 0 16 = ν 0 16)) := by
  obtain ⟨x1, x2, x3, x4, x5, x6, x7, x8⟩ := id hX
  refine CT.walk hfl (by decide) (Nat.le_of_ble_eq_true rfl) ?_
  intro A J hJ
  show J (gw 14 MSh cy b ν ++ E) 0 0 0 [(0, .ref (b 0)), (1, .int (zI a0))] []
  refine j_iconst hJ dX5_walks_0 ?_
  refine j_istore_n hJ (lv' := [(2, .int (zI 0)), (0, .ref (b 0)), (1, .int (zI a0))]) rfl (by decide) rfl dX5_walks_1 ?_
  have lp2 : ∀ (nn2 : Nat) (νk : Nat → Int → Int) (k : Int) (hmeas2 : (144 - k).toNat < nn2) (hk : 0 ≤ k ∧ k ≤ 144) (hst : ∀ x, 0 ≤ x → x < k → νk 13 x = if x = a0 then 0 else 99999) (hF : ∀ a, a ≠ 13 → νk a = ν a), J (gw 14 MSh cy b νk ++ E) 0 0 2 [(0, .ref (b 0)), (1, .int (zI a0)), (2, .int (zI k))] [] := by
    intro nn2
    induction nn2 with
    | zero => intro νk k hmeas2 hk hst hF; omega
    | succ nn2 ih2 =>
      intro νk k hmeas2 hk hst hF
      refine j_iload_n hJ (j := 2) rfl rfl dX5_walks_2 ?_
      refine j_sipush hJ (v := 144) (by decide) dX5_walks_3 ?_
      refine j_icmp_ge hJ (tgt := 32) ⟨by omega, by omega⟩ ⟨by omega, by omega⟩ (by decide) dX5_walks_6 ?_ ?_
      · intro h6
        refine j_iconst hJ dX5_walks_32 ?_
        refine j_istore_n hJ (lv' := [(2, .int (zI 1)), (0, .ref (b 0)), (1, .int (zI a0))]) rfl (by decide) rfl dX5_walks_33 ?_
        have lp34 : ∀ (nn34 : Nat) (νq : Nat → Int → Int) (mo : Int) (hmeas34 : (2 * sm (νq 13) 144 + mo).toNat < nn34) (hFI : FI (νq 13) (EdS n (fun s => trk (p s) (m s)) ow) a0) (hS : MI νq kd n N ow m p) (h16 : νq 0 16 = ν 0 16) (hmo : mo = 1 ∨ (mo = 0 ∧ ∀ a c, (EdS n (fun s => trk (p s) (m s)) ow) a c → νq 13 c ≤ νq 13 a + 1)), J (gw 14 MSh cy b νq ++ E) 0 0 34 [(0, .ref (b 0)), (1, .int (zI a0)), (2, .int (zI mo))] [] := by
          intro nn34
          induction nn34 with
          | zero => intro νq mo hmeas34 hFI hS h16 hmo; omega
          | succ nn34 ih34 =>
            intro νq mo hmeas34 hFI hS h16 hmo
            refine j_iload_n hJ (j := 2) rfl rfl dX5_walks_34 ?_
            refine j_if_eq hJ (tgt := 159) ⟨by omega, by omega⟩ (by decide) dX5_walks_35 ?_ ?_
            · intro h35
              refine j_vret hJ rfl rfl (Nat.le_of_ble_eq_true rfl) (Nat.le_of_ble_eq_true rfl) dX5_walks_159 ⟨νq, rfl, rfl, ?_⟩
              exact ⟨hFI, (hmo.resolve_left (by omega)).2, hS, h16⟩
            · intro h35
              have hm1 : mo = 1 := by omega
              refine j_iconst hJ dX5_walks_38 ?_
              refine j_istore_n hJ (lv' := [(2, .int (zI 0)), (0, .ref (b 0)), (1, .int (zI a0))]) rfl (by decide) rfl dX5_walks_39 ?_
              refine j_iconst hJ dX5_walks_40 ?_
              refine j_istore_n hJ (lv' := [(3, .int (zI 0)), (2, .int (zI 0)), (0, .ref (b 0)), (1, .int (zI a0))]) rfl (by decide) rfl dX5_walks_41 ?_
              have lp42 : ∀ (nn42 : Nat) (νj : Nat → Int → Int) (mj : Int) (k : Nat) (hmeas42 : n - k < nn42) (hkj : k ≤ n) (hFj : FI (νj 13) (EdS n (fun s => trk (p s) (m s)) ow) a0) (hSj : MI νj kd n N ow m p) (h16j : νj 0 16 = ν 0 16) (hEj : (mj = 1 ∧ sm (νj 13) 144 < sm (νq 13) 144) ∨ (mj = 0 ∧ νj 13 = νq 13 ∧ (∀ s, s < k → ∀ a c, EdL (trk (p s) (m s)) (ow s) a c → νq 13 c ≤ νq 13 a + 1))), J (gw 14 MSh cy b νj ++ E) 0 0 42 [(0, .ref (b 0)), (1, .int (zI a0)), (2, .int (zI mj)), (3, .int (zI (k : Int)))] [] := by
                intro nn42
                induction nn42 with
                | zero => intro νj mj k hmeas42 hkj hFj hSj h16j hEj; omega
                | succ nn42 ih42 =>
                  intro νj mj k hmeas42 hkj hFj hSj h16j hEj
                  refine j_iload_n hJ (j := 3) rfl rfl dX5_walks_42 ?_
                  refine j_aload_n hJ (j := 0) rfl rfl dX5_walks_43 ?_
                  refine w_geti hJ (fi := 7) rfl (by omega) rfl rfl f_X5_58 dX5_walks_44 ?_
                  refine j_topi (y := zI (n : Int)) (by rw [hSj.1]) ?_
                  refine j_icmp_ge hJ (tgt := 156) ⟨by omega, by omega⟩ ⟨by omega, by omega⟩ (by decide) dX5_walks_47 ?_ ?_
                  · intro h47
                    have hsn := sm_nn (σ := νj 13) (n := 144) (fun x a c => (hFj.2 x a (by omega)).1.1)
                    have hsq : (mj = 1 ∧ sm (νj 13) 144 < sm (νq 13) 144) ∨ (mj = 0 ∧ sm (νj 13) 144 = sm (νq 13) 144) := by
                      rcases hEj with h | ⟨e, e2, -⟩
                      · exact Or.inl h
                      · exact Or.inr ⟨e, by rw [e2]⟩
                    refine j_goto hJ (tgt := 34) (by decide) dX5_walks_156 ?_
                    refine j_locs hJ [0, 1, 2] rfl ?_
                    refine ih34 νj mj (by omega) (by exact hFj) (by exact hSj) (by exact h16j) ?_
                    · rcases hEj with ⟨e, -⟩ | ⟨e, e2, e3⟩
                      · exact Or.inl e
                      · exact Or.inr ⟨e, fun a c ⟨s, hs, he⟩ => by rw [e2]; exact e3 s (by omega) a c he⟩
                  · intro h47
                    refine j_aload_n hJ (j := 0) rfl rfl dX5_walks_50 ?_
                    refine j_iload_n hJ (j := 3) rfl rfl dX5_walks_51 ?_
                    refine j_callV0 hJ (c_X5_tracks hfl (i := k) (by omega) (hSj.2.2.2.2.2.2.1 k (by omega))) m_X5_86 k_X5_tracks (q0 := 0) (by rw [gw_get (by decide)]; rfl) rfl ⟨(Nat.le_of_ble_eq_true rfl), (Nat.le_of_ble_eq_true rfl)⟩ ⟨(Nat.le_of_ble_eq_true rfl), (Nat.le_of_ble_eq_true rfl)⟩ (Nat.le_of_ble_eq_true rfl) dX5_walks_52 rfl ?_
                    intro v1 u2 hv3
                    obtain ⟨ν1, rfl, rfl, h52⟩ := hv3
                    show J (gw 14 MSh cy b ν1 ++ E) 0 0 55 [(0, .ref (b 0)), (1, .int (zI a0)), (2, .int (zI mj)), (3, .int (zI (k : Int)))] []
                    obtain ⟨g2, g3⟩ := h52
                    have hS5 := hSj.scratch g3.M
                    have e13 : ν1 13 = νj 13 := g3.1 13 (by omega) (by omega) (by omega)
                    have hPk := (hSj.2.2.2.2.2.2.1 k (by omega)).2.2.1
                    have hm10 := (hSj.2.2.2.2.2.2.1 k (by omega)).2.1
                    have hrg := trk_rng hPk
                    have hln := (trk_len hPk).1
                    have how := hSj.2.2.2.2.2.1 k (by omega)
                    refine j_iconst hJ dX5_walks_55 ?_
                    refine j_istore hJ (lv' := [(4, .int (zI 0)), (0, .ref (b 0)), (1, .int (zI a0)), (2, .int (zI mj)), (3, .int (zI (k : Int)))]) (by decide) rfl dX5_walks_56 ?_
                    have lp58 : ∀ (nn58 : Nat) (νi : Nat → Int → Int) (mi : Int) (t : Nat) (hmeas58 : 200 - t < nn58) (ht : t ≤ 100) (hTi : TrM νi (trk (p k) (m k))) (hFi : FI (νi 13) (EdS n (fun s => trk (p s) (m s)) ow) a0) (hSi : MI νi kd n N ow m p) (h16i : νi 0 16 = ν 0 16) (hEi : (mi = 1 ∧ sm (νi 13) 144 < sm (νq 13) 144) ∨ (mi = 0 ∧ νi 13 = νq 13 ∧ (∀ s, s < k → ∀ a c, EdL (trk (p s) (m s)) (ow s) a c → νq 13 c ≤ νq 13 a + 1) ∧ ∀ a c, EdK (trk (p k) (m k)) (ow k) (t + 1) a c → νq 13 c ≤ νq 13 a + 1)), J (gw 14 MSh cy b νi ++ E) 0 0 58 [(0, .ref (b 0)), (1, .int (zI a0)), (2, .int (zI mi)), (3, .int (zI (k : Int))), (4, .int (zI (t : Int)))] [] := by
                      intro nn58
                      induction nn58 with
                      | zero => intro νi mi t hmeas58 ht hTi hFi hSi h16i hEi; omega
                      | succ nn58 ih58 =>
                        intro νi mi t hmeas58 ht hTi hFi hSi h16i hEi
                        refine j_iload hJ (j := 4) rfl dX5_walks_58 ?_
                        refine j_iconst hJ dX5_walks_60 ?_
                        refine j_iadd hJ dX5_walks_61 ?_
                        refine j_aload_n hJ (j := 0) rfl rfl dX5_walks_62 ?_
                        refine w_geti hJ (fi := 9) rfl (by omega) rfl rfl f_X5_80 dX5_walks_63 ?_
                        refine j_topi (y := zI ((trk (p k) (m k)).length : Nat)) (by rw [hTi.1]) ?_
                        refine j_icmp_ge hJ (tgt := 150) ⟨by omega, by omega⟩ ⟨by omega, by omega⟩ (by decide) dX5_walks_66 ?_ ?_
                        · intro h66
                          refine j_iinc hJ (lv' := [(3, .int (zI ((k : Int) + 1))), (0, .ref (b 0)), (1, .int (zI a0)), (2, .int (zI mi)), (4, .int (zI (t : Int)))]) (j := 3) rfl (by omega) (by decide) rfl dX5_walks_150 ?_
                          refine j_goto hJ (tgt := 42) (by decide) dX5_walks_153 ?_
                          refine j_locs hJ [1, 2, 3, 0] rfl ?_
                          refine ih42 νi mi (k + 1) (by omega) (by omega) (by exact hFi) (by exact hSi) (by exact h16i) ?_
                          · rcases hEi with h | ⟨e, e2, e3, e4⟩
                            · exact Or.inl h
                            · refine Or.inr ⟨e, e2, fun s hs a c he => ?_⟩
                              by_cases es : s = k
                              · rw [es] at he
                                obtain ⟨j, hj, h⟩ := he
                                exact e4 a c ⟨j, by omega, h⟩
                              · exact e3 s (by omega) a c he
                        · intro h66
                          obtain ⟨x, e1x, e2x, e3x⟩ := hTi.2.1.at (z := (t : Int)) (by omega) (by omega)
                          obtain ⟨z, e1z, e2z, e3z⟩ := hTi.2.1.at (z := (t : Int) + 1) (by omega) (by omega)
                          rw [Int.toNat_natCast] at e1x
                          rw [show ((t : Int) + 1).toNat = t + 1 by omega] at e1z
                          have hx := hrg x e3x
                          have hz := hrg z e3z
                          have hval := fun y a c => (hFi.2 y a c).1
                          have hEdx : (EdS n (fun s => trk (p s) (m s)) ow) x z := ⟨k, by omega, t, (by show t + 1 < (trk (p k) (m k)).length; omega), Or.inl ⟨e1x, e1z⟩⟩
                          have hEdz : ow k = 0 → (EdS n (fun s => trk (p s) (m s)) ow) z x := fun g => ⟨k, by omega, t, (by show t + 1 < (trk (p k) (m k)).length; omega), Or.inr ⟨g, e1z, e1x⟩⟩
                          have j101 : ∀ (νy : Nat → Int → Int) (my : Int) (hTy : TrM νy (trk (p k) (m k))) (hFy : FI (νy 13) (EdS n (fun s => trk (p s) (m s)) ow) a0) (hSy : MI νy kd n N ow m p) (h16y : νy 0 16 = ν 0 16) (hEy : (my = 1 ∧ sm (νy 13) 144 < sm (νq 13) 144) ∨ (my = 0 ∧ νy 13 = νq 13 ∧ (∀ s, s < k → ∀ a c, EdL (trk (p s) (m s)) (ow s) a c → νq 13 c ≤ νq 13 a + 1) ∧ (∀ a c, EdK (trk (p k) (m k)) (ow k) (t + 1) a c → νq 13 c ≤ νq 13 a + 1) ∧ νq 13 z ≤ νq 13 x + 1)), J (gw 14 MSh cy b νy ++ E) 0 0 101 [(0, .ref (b 0)), (1, .int (zI a0)), (3, .int (zI (k : Int))), (4, .int (zI (t : Int)))] [.int (zI my)] := by
                            intro νy my hTy hFy hSy h16y hEy
                            have hvay := fun y a c => (hFy.2 y a c).1
                            have hmy : my = 0 ∨ my = 1 := by rcases hEy with h | h <;> omega
                            have howy := hSy.2.2.2.2.2.1 k (by omega)
                            refine j_istore_n hJ (lv' := [(2, .int (zI my)), (0, .ref (b 0)), (1, .int (zI a0)), (3, .int (zI (k : Int))), (4, .int (zI (t : Int)))]) rfl (by decide) rfl dX5_walks_101 ?_
                            refine j_aload_n hJ (j := 1) rfl rfl dX5_walks_102 ?_
                            refine w_getr hJ (by omega) rfl rfl f_X5_28 dX5_walks_103 ?_
                            refine j_iload_n hJ (j := 3) rfl rfl dX5_walks_106 ?_
                            refine w_zald hJ (by omega) rfl (by first | decide | omega) (by omega) (by omega) dX5_walks_107 ?_
                            refine j_topi (y := zI (ow k)) (by rw [howy.1]) ?_
                            refine j_if_ne hJ (tgt := 134) ⟨by omega, by omega⟩ (by decide) dX5_walks_108 ?_ ?_
                            · intro h108
                              refine j_iload_n hJ (j := 0) rfl rfl dX5_walks_134 ?_
                              refine j_if_eq hJ (tgt := 142) ⟨by omega, by omega⟩ (by decide) dX5_walks_135 ?_ ?_
                              · intro h135
                                refine j_iconst hJ dX5_walks_142 ?_
                                refine j_istore_n hJ (lv' := [(2, .int (zI 0)), (0, .ref (b 0)), (1, .int (zI a0)), (3, .int (zI (k : Int))), (4, .int (zI (t : Int)))]) rfl (by decide) rfl dX5_walks_143 ?_
                                refine j_iinc hJ (lv' := [(4, .int (zI ((t : Int) + 1))), (2, .int (zI 0)), (0, .ref (b 0)), (1, .int (zI a0)), (3, .int (zI (k : Int)))]) (j := 4) rfl (by omega) (by decide) rfl dX5_walks_144 ?_
                                refine j_goto hJ (tgt := 58) (by decide) dX5_walks_147 ?_
                                refine j_locs hJ [2, 3, 1, 4, 0] rfl ?_
                                refine ih58 νy 0 (t + 1) (by omega) (by omega) (by first | exact hTy.keep K2.1 | exact hTy) (by first | exact K2.2.1 _ _ hFy (hEdz (by omega)) | exact hFy) (by first | exact hSy.scratch (FrM.st K2.1) | exact hSy) (by first | (rw [K2.1 0 (by omega)]; exact h16y) | exact h16y) ?_
                                · have hst : ∀ a c, (∀ a c, EdK (trk (p k) (m k)) (ow k) (t + 1) a c → νq 13 c ≤ νq 13 a + 1) → νq 13 z ≤ νq 13 x + 1 → (ow k = 0 → νq 13 x ≤ νq 13 z + 1) → EdK (trk (p k) (m k)) (ow k) (t + 1 + 1) a c → νq 13 c ≤ νq 13 a + 1 := fun a c f1 f2 f3 he => by
                                    rcases EdK_step e1x e1z he with h | ⟨ea, ec⟩ | ⟨eo, ea, ec⟩
                                    · exact f1 a c h
                                    · rw [ea, ec]; exact f2
                                    · rw [ea, ec]; exact f3 eo
                                  first
                                  | (rcases hEy with ⟨e, h⟩ | ⟨e, e2, e3, e4, e5⟩
                                     · rcases K2.2.2 with ⟨e6, h6⟩ | ⟨e6, h6, h7⟩
                                       · first
                                         | exact Or.inl ⟨rfl, by omega⟩
                                         | (exfalso; omega)
                                       · first
                                         | exact Or.inl ⟨rfl, by rw [h6]; exact h⟩
                                         | (exfalso; omega)
                                     · rcases K2.2.2 with ⟨e6, h6⟩ | ⟨e6, h6, h7⟩
                                       · first
                                         | exact Or.inl ⟨rfl, by rw [← e2]; exact h6⟩
                                         | (exfalso; omega)
                                       · first
                                         | exact Or.inr ⟨rfl, by rw [h6, e2], e3, fun a c => hst a c e4 e5 (fun _ => by rw [← e2]; exact h7)⟩
                                         | (exfalso; omega))
                                  | (rcases hEy with ⟨e, h⟩ | ⟨e, e2, e3, e4, e5⟩
                                     · first
                                       | exact Or.inl ⟨rfl, h⟩
                                       | (exfalso; omega)
                                     · first
                                       | exact Or.inr ⟨rfl, e2, e3, fun a c => hst a c e4 e5 (fun g => by omega)⟩
                                       | (exfalso; omega))
                              · intro h135
                                refine j_iconst hJ dX5_walks_138 ?_
                                refine j_goto hJ (tgt := 143) (by decide) dX5_walks_139 ?_
                                refine j_istore_n hJ (lv' := [(2, .int (zI 1)), (0, .ref (b 0)), (1, .int (zI a0)), (3, .int (zI (k : Int))), (4, .int (zI (t : Int)))]) rfl (by decide) rfl dX5_walks_143 ?_
                                refine j_iinc hJ (lv' := [(4, .int (zI ((t : Int) + 1))), (2, .int (zI 1)), (0, .ref (b 0)), (1, .int (zI a0)), (3, .int (zI (k : Int)))]) (j := 4) rfl (by omega) (by decide) rfl dX5_walks_144 ?_
                                refine j_goto hJ (tgt := 58) (by decide) dX5_walks_147 ?_
                                refine j_locs hJ [2, 3, 1, 4, 0] rfl ?_
                                refine ih58 νy 1 (t + 1) (by omega) (by omega) (by first | exact hTy.keep K2.1 | exact hTy) (by first | exact K2.2.1 _ _ hFy (hEdz (by omega)) | exact hFy) (by first | exact hSy.scratch (FrM.st K2.1) | exact hSy) (by first | (rw [K2.1 0 (by omega)]; exact h16y) | exact h16y) ?_
                                · have hst : ∀ a c, (∀ a c, EdK (trk (p k) (m k)) (ow k) (t + 1) a c → νq 13 c ≤ νq 13 a + 1) → νq 13 z ≤ νq 13 x + 1 → (ow k = 0 → νq 13 x ≤ νq 13 z + 1) → EdK (trk (p k) (m k)) (ow k) (t + 1 + 1) a c → νq 13 c ≤ νq 13 a + 1 := fun a c f1 f2 f3 he => by
                                    rcases EdK_step e1x e1z he with h | ⟨ea, ec⟩ | ⟨eo, ea, ec⟩
                                    · exact f1 a c h
                                    · rw [ea, ec]; exact f2
                                    · rw [ea, ec]; exact f3 eo
                                  first
                                  | (rcases hEy with ⟨e, h⟩ | ⟨e, e2, e3, e4, e5⟩
                                     · rcases K2.2.2 with ⟨e6, h6⟩ | ⟨e6, h6, h7⟩
                                       · first
                                         | exact Or.inl ⟨rfl, by omega⟩
                                         | (exfalso; omega)
                                       · first
                                         | exact Or.inl ⟨rfl, by rw [h6]; exact h⟩
                                         | (exfalso; omega)
                                     · rcases K2.2.2 with ⟨e6, h6⟩ | ⟨e6, h6, h7⟩
                                       · first
                                         | exact Or.inl ⟨rfl, by rw [← e2]; exact h6⟩
                                         | (exfalso; omega)
                                       · first
                                         | exact Or.inr ⟨rfl, by rw [h6, e2], e3, fun a c => hst a c e4 e5 (fun _ => by rw [← e2]; exact h7)⟩
                                         | (exfalso; omega))
                                  | (rcases hEy with ⟨e, h⟩ | ⟨e, e2, e3, e4, e5⟩
                                     · first
                                       | exact Or.inl ⟨rfl, h⟩
                                       | (exfalso; omega)
                                     · first
                                       | exact Or.inr ⟨rfl, e2, e3, fun a c => hst a c e4 e5 (fun g => by omega)⟩
                                       | (exfalso; omega))
                            · intro h108
                              refine j_aload_n hJ (j := 1) rfl rfl dX5_walks_111 ?_
                              refine j_aload_n hJ (j := 1) rfl rfl dX5_walks_112 ?_
                              refine w_getr hJ (by omega) rfl rfl f_X5_32 dX5_walks_113 ?_
                              refine j_iload hJ (j := 4) rfl dX5_walks_116 ?_
                              refine j_iconst hJ dX5_walks_118 ?_
                              refine j_iadd hJ dX5_walks_119 ?_
                              refine w_iald hJ (by omega) rfl (by first | decide | omega) (by omega) (by omega) dX5_walks_120 ?_
                              refine j_topi (y := zI z) (by rw [show νy 8 ((t : Int) + 1) = z from hTy.2.1 (t + 1) z e1z]) ?_
                              refine j_aload_n hJ (j := 1) rfl rfl dX5_walks_121 ?_
                              refine w_getr hJ (by omega) rfl rfl f_X5_32 dX5_walks_122 ?_
                              refine j_iload hJ (j := 4) rfl dX5_walks_125 ?_
                              refine w_iald hJ (by omega) rfl (by first | decide | omega) (by omega) (by omega) dX5_walks_127 ?_
                              refine j_topi (y := zI x) (by rw [hTy.2.1 t x e1x]) ?_
                              refine j_callV0 hJ (c_X5_passes hfl hz hx hvay) m_X5_148 k_X5_passes (q0 := 0) (by rw [gw_get (by decide)]; rfl) rfl ⟨(Nat.le_of_ble_eq_true rfl), (Nat.le_of_ble_eq_true rfl)⟩ ⟨(Nat.le_of_ble_eq_true rfl), (Nat.le_of_ble_eq_true rfl)⟩ (Nat.le_of_ble_eq_true rfl) dX5_walks_128 rfl ?_
                              intro v4 u5 hv6
                              obtain ⟨q128, ν2, rfl, rfl, h128⟩ := hv6
                              show J (gw 14 MSh cy b ν2 ++ E) 0 0 131 [(2, .int (zI my)), (0, .ref (b 0)), (1, .int (zI a0)), (3, .int (zI (k : Int))), (4, .int (zI (t : Int)))] [.int (zI q128)]
                              have hq128 : q128 = 0 ∨ q128 = 1 := by rcases h128 with h | h <;> omega
                              have K2 := pass_keep hx h128 hz (hvay z hz.1 hz.2).1
                              refine j_if_ne hJ (tgt := 138) ⟨by omega, by omega⟩ (by decide) dX5_walks_131 ?_ ?_
                              · intro h131
                                refine j_iconst hJ dX5_walks_138 ?_
                                refine j_goto hJ (tgt := 143) (by decide) dX5_walks_139 ?_
                                refine j_istore_n hJ (lv' := [(2, .int (zI 1)), (0, .ref (b 0)), (1, .int (zI a0)), (3, .int (zI (k : Int))), (4, .int (zI (t : Int)))]) rfl (by decide) rfl dX5_walks_143 ?_
                                refine j_iinc hJ (lv' := [(4, .int (zI ((t : Int) + 1))), (2, .int (zI 1)), (0, .ref (b 0)), (1, .int (zI a0)), (3, .int (zI (k : Int)))]) (j := 4) rfl (by omega) (by decide) rfl dX5_walks_144 ?_
                                refine j_goto hJ (tgt := 58) (by decide) dX5_walks_147 ?_
                                refine j_locs hJ [2, 3, 1, 4, 0] rfl ?_
                                refine ih58 ν2 1 (t + 1) (by omega) (by omega) (by first | exact hTy.keep K2.1 | exact hTy) (by first | exact K2.2.1 _ _ hFy (hEdz (by omega)) | exact hFy) (by first | exact hSy.scratch (FrM.st K2.1) | exact hSy) (by first | (rw [K2.1 0 (by omega)]; exact h16y) | exact h16y) ?_
                                · have hst : ∀ a c, (∀ a c, EdK (trk (p k) (m k)) (ow k) (t + 1) a c → νq 13 c ≤ νq 13 a + 1) → νq 13 z ≤ νq 13 x + 1 → (ow k = 0 → νq 13 x ≤ νq 13 z + 1) → EdK (trk (p k) (m k)) (ow k) (t + 1 + 1) a c → νq 13 c ≤ νq 13 a + 1 := fun a c f1 f2 f3 he => by
                                    rcases EdK_step e1x e1z he with h | ⟨ea, ec⟩ | ⟨eo, ea, ec⟩
                                    · exact f1 a c h
                                    · rw [ea, ec]; exact f2
                                    · rw [ea, ec]; exact f3 eo
                                  first
                                  | (rcases hEy with ⟨e, h⟩ | ⟨e, e2, e3, e4, e5⟩
                                     · rcases K2.2.2 with ⟨e6, h6⟩ | ⟨e6, h6, h7⟩
                                       · first
                                         | exact Or.inl ⟨rfl, by omega⟩
                                         | (exfalso; omega)
                                       · first
                                         | exact Or.inl ⟨rfl, by rw [h6]; exact h⟩
                                         | (exfalso; omega)
                                     · rcases K2.2.2 with ⟨e6, h6⟩ | ⟨e6, h6, h7⟩
                                       · first
                                         | exact Or.inl ⟨rfl, by rw [← e2]; exact h6⟩
                                         | (exfalso; omega)
                                       · first
                                         | exact Or.inr ⟨rfl, by rw [h6, e2], e3, fun a c => hst a c e4 e5 (fun _ => by rw [← e2]; exact h7)⟩
                                         | (exfalso; omega))
                                  | (rcases hEy with ⟨e, h⟩ | ⟨e, e2, e3, e4, e5⟩
                                     · first
                                       | exact Or.inl ⟨rfl, h⟩
                                       | (exfalso; omega)
                                     · first
                                       | exact Or.inr ⟨rfl, e2, e3, fun a c => hst a c e4 e5 (fun g => by omega)⟩
                                       | (exfalso; omega))
                              · intro h131
                                refine j_iload_n hJ (j := 0) rfl rfl dX5_walks_134 ?_
                                refine j_if_eq hJ (tgt := 142) ⟨by omega, by omega⟩ (by decide) dX5_walks_135 ?_ ?_
                                · intro h135
                                  refine j_iconst hJ dX5_walks_142 ?_
                                  refine j_istore_n hJ (lv' := [(2, .int (zI 0)), (0, .ref (b 0)), (1, .int (zI a0)), (3, .int (zI (k : Int))), (4, .int (zI (t : Int)))]) rfl (by decide) rfl dX5_walks_143 ?_
                                  refine j_iinc hJ (lv' := [(4, .int (zI ((t : Int) + 1))), (2, .int (zI 0)), (0, .ref (b 0)), (1, .int (zI a0)), (3, .int (zI (k : Int)))]) (j := 4) rfl (by omega) (by decide) rfl dX5_walks_144 ?_
                                  refine j_goto hJ (tgt := 58) (by decide) dX5_walks_147 ?_
                                  refine j_locs hJ [2, 3, 1, 4, 0] rfl ?_
                                  refine ih58 ν2 0 (t + 1) (by omega) (by omega) (by first | exact hTy.keep K2.1 | exact hTy) (by first | exact K2.2.1 _ _ hFy (hEdz (by omega)) | exact hFy) (by first | exact hSy.scratch (FrM.st K2.1) | exact hSy) (by first | (rw [K2.1 0 (by omega)]; exact h16y) | exact h16y) ?_
                                  · have hst : ∀ a c, (∀ a c, EdK (trk (p k) (m k)) (ow k) (t + 1) a c → νq 13 c ≤ νq 13 a + 1) → νq 13 z ≤ νq 13 x + 1 → (ow k = 0 → νq 13 x ≤ νq 13 z + 1) → EdK (trk (p k) (m k)) (ow k) (t + 1 + 1) a c → νq 13 c ≤ νq 13 a + 1 := fun a c f1 f2 f3 he => by
                                      rcases EdK_step e1x e1z he with h | ⟨ea, ec⟩ | ⟨eo, ea, ec⟩
                                      · exact f1 a c h
                                      · rw [ea, ec]; exact f2
                                      · rw [ea, ec]; exact f3 eo
                                    first
                                    | (rcases hEy with ⟨e, h⟩ | ⟨e, e2, e3, e4, e5⟩
                                       · rcases K2.2.2 with ⟨e6, h6⟩ | ⟨e6, h6, h7⟩
                                         · first
                                           | exact Or.inl ⟨rfl, by omega⟩
                                           | (exfalso; omega)
                                         · first
                                           | exact Or.inl ⟨rfl, by rw [h6]; exact h⟩
                                           | (exfalso; omega)
                                       · rcases K2.2.2 with ⟨e6, h6⟩ | ⟨e6, h6, h7⟩
                                         · first
                                           | exact Or.inl ⟨rfl, by rw [← e2]; exact h6⟩
                                           | (exfalso; omega)
                                         · first
                                           | exact Or.inr ⟨rfl, by rw [h6, e2], e3, fun a c => hst a c e4 e5 (fun _ => by rw [← e2]; exact h7)⟩
                                           | (exfalso; omega))
                                    | (rcases hEy with ⟨e, h⟩ | ⟨e, e2, e3, e4, e5⟩
                                       · first
                                         | exact Or.inl ⟨rfl, h⟩
                                         | (exfalso; omega)
                                       · first
                                         | exact Or.inr ⟨rfl, e2, e3, fun a c => hst a c e4 e5 (fun g => by omega)⟩
                                         | (exfalso; omega))
                                · intro h135
                                  refine j_iconst hJ dX5_walks_138 ?_
                                  refine j_goto hJ (tgt := 143) (by decide) dX5_walks_139 ?_
                                  refine j_istore_n hJ (lv' := [(2, .int (zI 1)), (0, .ref (b 0)), (1, .int (zI a0)), (3, .int (zI (k : Int))), (4, .int (zI (t : Int)))]) rfl (by decide) rfl dX5_walks_143 ?_
                                  refine j_iinc hJ (lv' := [(4, .int (zI ((t : Int) + 1))), (2, .int (zI 1)), (0, .ref (b 0)), (1, .int (zI a0)), (3, .int (zI (k : Int)))]) (j := 4) rfl (by omega) (by decide) rfl dX5_walks_144 ?_
                                  refine j_goto hJ (tgt := 58) (by decide) dX5_walks_147 ?_
                                  refine j_locs hJ [2, 3, 1, 4, 0] rfl ?_
                                  refine ih58 ν2 1 (t + 1) (by omega) (by omega) (by first | exact hTy.keep K2.1 | exact hTy) (by first | exact K2.2.1 _ _ hFy (hEdz (by omega)) | exact hFy) (by first | exact hSy.scratch (FrM.st K2.1) | exact hSy) (by first | (rw [K2.1 0 (by omega)]; exact h16y) | exact h16y) ?_
                                  · have hst : ∀ a c, (∀ a c, EdK (trk (p k) (m k)) (ow k) (t + 1) a c → νq 13 c ≤ νq 13 a + 1) → νq 13 z ≤ νq 13 x + 1 → (ow k = 0 → νq 13 x ≤ νq 13 z + 1) → EdK (trk (p k) (m k)) (ow k) (t + 1 + 1) a c → νq 13 c ≤ νq 13 a + 1 := fun a c f1 f2 f3 he => by
                                      rcases EdK_step e1x e1z he with h | ⟨ea, ec⟩ | ⟨eo, ea, ec⟩
                                      · exact f1 a c h
                                      · rw [ea, ec]; exact f2
                                      · rw [ea, ec]; exact f3 eo
                                    first
                                    | (rcases hEy with ⟨e, h⟩ | ⟨e, e2, e3, e4, e5⟩
                                       · rcases K2.2.2 with ⟨e6, h6⟩ | ⟨e6, h6, h7⟩
                                         · first
                                           | exact Or.inl ⟨rfl, by omega⟩
                                           | (exfalso; omega)
                                         · first
                                           | exact Or.inl ⟨rfl, by rw [h6]; exact h⟩
                                           | (exfalso; omega)
                                       · rcases K2.2.2 with ⟨e6, h6⟩ | ⟨e6, h6, h7⟩
                                         · first
                                           | exact Or.inl ⟨rfl, by rw [← e2]; exact h6⟩
                                           | (exfalso; omega)
                                         · first
                                           | exact Or.inr ⟨rfl, by rw [h6, e2], e3, fun a c => hst a c e4 e5 (fun _ => by rw [← e2]; exact h7)⟩
                                           | (exfalso; omega))
                                    | (rcases hEy with ⟨e, h⟩ | ⟨e, e2, e3, e4, e5⟩
                                       · first
                                         | exact Or.inl ⟨rfl, h⟩
                                         | (exfalso; omega)
                                       · first
                                         | exact Or.inr ⟨rfl, e2, e3, fun a c => hst a c e4 e5 (fun g => by omega)⟩
                                         | (exfalso; omega))
                          refine j_aload_n hJ (j := 0) rfl rfl dX5_walks_69 ?_
                          refine j_aload_n hJ (j := 0) rfl rfl dX5_walks_70 ?_
                          refine w_getr hJ (by omega) rfl rfl f_X5_32 dX5_walks_71 ?_
                          refine j_iload hJ (j := 4) rfl dX5_walks_74 ?_
                          refine w_iald hJ (by omega) rfl (by first | decide | omega) (by omega) (by omega) dX5_walks_76 ?_
                          refine j_topi (y := zI x) (by rw [e2x]) ?_
                          refine j_aload_n hJ (j := 0) rfl rfl dX5_walks_77 ?_
                          refine w_getr hJ (by omega) rfl rfl f_X5_32 dX5_walks_78 ?_
                          refine j_iload hJ (j := 4) rfl dX5_walks_81 ?_
                          refine j_iconst hJ dX5_walks_83 ?_
                          refine j_iadd hJ dX5_walks_84 ?_
                          refine w_iald hJ (by omega) rfl (by first | decide | omega) (by omega) (by omega) dX5_walks_85 ?_
                          refine j_topi (y := zI z) (by rw [e2z]) ?_
                          refine j_callV0 hJ (c_X5_passes hfl hx hz hval) m_X5_148 k_X5_passes (q0 := 0) (by rw [gw_get (by decide)]; rfl) rfl ⟨(Nat.le_of_ble_eq_true rfl), (Nat.le_of_ble_eq_true rfl)⟩ ⟨(Nat.le_of_ble_eq_true rfl), (Nat.le_of_ble_eq_true rfl)⟩ (Nat.le_of_ble_eq_true rfl) dX5_walks_86 rfl ?_
                          intro v7 u8 hv9
                          obtain ⟨q86, ν3, rfl, rfl, h86⟩ := hv9
                          show J (gw 14 MSh cy b ν3 ++ E) 0 0 89 [(0, .ref (b 0)), (1, .int (zI a0)), (2, .int (zI mi)), (3, .int (zI (k : Int))), (4, .int (zI (t : Int)))] [.int (zI q86)]
                          have hq86 : q86 = 0 ∨ q86 = 1 := by rcases h86 with h | h <;> omega
                          have K1 := pass_keep hz h86 hx (hval x hx.1 hx.2).1
                          have hmi : mi = 0 ∨ mi = 1 := by rcases hEi with h | h <;> omega
                          refine j_if_ne hJ (tgt := 96) ⟨by omega, by omega⟩ (by decide) dX5_walks_89 ?_ ?_
                          · intro h89
                            refine j_iconst hJ dX5_walks_96 ?_
                            refine j_goto hJ (tgt := 101) (by decide) dX5_walks_97 ?_
                            refine j_locs hJ [0, 1, 3, 4] rfl ?_
                            refine j101 ν3 1 (by exact hTi.keep K1.1) (by exact K1.2.1 _ _ hFi hEdx) (by exact hSi.scratch (FrM.st K1.1)) (by rw [K1.1 0 (by omega)]; exact h16i) ?_
                            · rcases hEi with ⟨e, h⟩ | ⟨e, e2, e3, e4⟩
                              · rcases K1.2.2 with ⟨e6, h6⟩ | ⟨e6, h6, h7⟩
                                · first
                                  | exact Or.inl ⟨rfl, by omega⟩
                                  | (exfalso; omega)
                                · first
                                  | exact Or.inl ⟨rfl, by rw [h6]; exact h⟩
                                  | (exfalso; omega)
                              · rcases K1.2.2 with ⟨e6, h6⟩ | ⟨e6, h6, h7⟩
                                · first
                                  | exact Or.inl ⟨rfl, by rw [← e2]; exact h6⟩
                                  | (exfalso; omega)
                                · first
                                  | exact Or.inr ⟨rfl, by rw [h6, e2], e3, e4, by rw [← e2]; exact h7⟩
                                  | (exfalso; omega)
                          · intro h89
                            refine j_iload_n hJ (j := 2) rfl rfl dX5_walks_92 ?_
                            refine j_if_eq hJ (tgt := 100) ⟨by omega, by omega⟩ (by decide) dX5_walks_93 ?_ ?_
                            · intro h93
                              refine j_iconst hJ dX5_walks_100 ?_
                              refine j_locs hJ [0, 1, 3, 4] rfl ?_
                              refine j101 ν3 0 (by exact hTi.keep K1.1) (by exact K1.2.1 _ _ hFi hEdx) (by exact hSi.scratch (FrM.st K1.1)) (by rw [K1.1 0 (by omega)]; exact h16i) ?_
                              · rcases hEi with ⟨e, h⟩ | ⟨e, e2, e3, e4⟩
                                · rcases K1.2.2 with ⟨e6, h6⟩ | ⟨e6, h6, h7⟩
                                  · first
                                    | exact Or.inl ⟨rfl, by omega⟩
                                    | (exfalso; omega)
                                  · first
                                    | exact Or.inl ⟨rfl, by rw [h6]; exact h⟩
                                    | (exfalso; omega)
                                · rcases K1.2.2 with ⟨e6, h6⟩ | ⟨e6, h6, h7⟩
                                  · first
                                    | exact Or.inl ⟨rfl, by rw [← e2]; exact h6⟩
                                    | (exfalso; omega)
                                  · first
                                    | exact Or.inr ⟨rfl, by rw [h6, e2], e3, e4, by rw [← e2]; exact h7⟩
                                    | (exfalso; omega)
                            · intro h93
                              refine j_iconst hJ dX5_walks_96 ?_
                              refine j_goto hJ (tgt := 101) (by decide) dX5_walks_97 ?_
                              refine j_locs hJ [0, 1, 3, 4] rfl ?_
                              refine j101 ν3 1 (by exact hTi.keep K1.1) (by exact K1.2.1 _ _ hFi hEdx) (by exact hSi.scratch (FrM.st K1.1)) (by rw [K1.1 0 (by omega)]; exact h16i) ?_
                              · rcases hEi with ⟨e, h⟩ | ⟨e, e2, e3, e4⟩
                                · rcases K1.2.2 with ⟨e6, h6⟩ | ⟨e6, h6, h7⟩
                                  · first
                                    | exact Or.inl ⟨rfl, by omega⟩
                                    | (exfalso; omega)
                                  · first
                                    | exact Or.inl ⟨rfl, by rw [h6]; exact h⟩
                                    | (exfalso; omega)
                                · rcases K1.2.2 with ⟨e6, h6⟩ | ⟨e6, h6, h7⟩
                                  · first
                                    | exact Or.inl ⟨rfl, by rw [← e2]; exact h6⟩
                                    | (exfalso; omega)
                                  · first
                                    | exact Or.inr ⟨rfl, by rw [h6, e2], e3, e4, by rw [← e2]; exact h7⟩
                                    | (exfalso; omega)
                    refine j_locs hJ [1, 2, 3, 4, 0] rfl ?_
                    refine lp58 (200 - 0 + 1) ν1 mj 0 (by omega) (by omega) (by exact g2) (by rw [e13]; exact hFj) (by exact hS5) (by rw [g3.2 16 (by omega), h16j]) ?_
                    · rw [e13]
                      rcases hEj with h | ⟨e, e2, e3⟩
                      · exact Or.inl h
                      · exact Or.inr ⟨e, e2, e3, fun a c ⟨j, hj, _⟩ => by omega⟩
              refine j_locs hJ [2, 3, 1, 0] rfl ?_
              exact lp42 (n - 0 + 1) νq 0 0 (by omega) (by omega) (by exact hFI) (by exact hS) (by exact h16) (by exact Or.inr ⟨rfl, rfl, fun s hs => absurd hs (by omega)⟩)
        refine j_locs hJ [1, 2, 0] rfl ?_
        refine lp34 ((2 * sm (νk 13) 144 + 1).toNat + 1) νk 1 (by omega) ?_ (by exact hX.scratch (FrM.st hF)) (by rw [hF 0 (by omega)]) (by exact Or.inl rfl)
        · refine ⟨by rw [hst a0 ha.1 (by omega), if_pos rfl], fun x x0 x1 => ?_⟩
          rw [hst x x0 (by omega)]
          by_cases e : x = a0
          · rw [if_pos e]; exact ⟨by omega, Or.inr ⟨0, rfl, e.symm⟩⟩
          · rw [if_neg e]; exact ⟨by omega, Or.inl rfl⟩
      · intro h6
        refine j_aload_n hJ (j := 0) rfl rfl dX5_walks_9 ?_
        refine w_getr hJ (by omega) rfl rfl f_X5_47 dX5_walks_10 ?_
        refine j_iload_n hJ (j := 2) rfl rfl dX5_walks_13 ?_
        refine j_iload_n hJ (j := 2) rfl rfl dX5_walks_14 ?_
        refine j_iload_n hJ (j := 1) rfl rfl dX5_walks_15 ?_
        refine j_icmp_ne hJ (tgt := 23) ⟨by omega, by omega⟩ ⟨by omega, by omega⟩ (by decide) dX5_walks_16 ?_ ?_
        · intro h16
          refine j_ldc hJ q_X5_147 dX5_walks_23 ?_
          refine w_iast hJ (by omega) rfl (by first | decide | omega) (by omega) (by omega) dX5_walks_25 ?_
          intro ν4 hν4
          have hM25 := hν4
          refine j_iinc hJ (lv' := [(2, .int (zI (k + 1))), (0, .ref (b 0)), (1, .int (zI a0))]) (j := 2) rfl (by omega) (by decide) rfl dX5_walks_26 ?_
          refine j_goto hJ (tgt := 2) (by decide) dX5_walks_29 ?_
          refine j_locs hJ [1, 2, 0] rfl ?_
          refine ih2 ν4 (k + 1) (by omega) (by omega) ?_ (by intro a g; rw [hM25, up_rowf g]; exact hF a g)
          · intro x x0 x1
            rw [hM25]
            by_cases e : x = k
            · rw [e, up_self]
              first
              | (rw [if_pos (by omega)]; done)
              | (rw [if_neg (by omega)]; done)
            · rw [up_at e]; exact hst x x0 (by omega)
        · intro h16
          refine j_iconst hJ dX5_walks_19 ?_
          refine j_goto hJ (tgt := 25) (by decide) dX5_walks_20 ?_
          refine w_iast hJ (by omega) rfl (by first | decide | omega) (by omega) (by omega) dX5_walks_25 ?_
          intro ν5 hν5
          have hM25 := hν5
          refine j_iinc hJ (lv' := [(2, .int (zI (k + 1))), (0, .ref (b 0)), (1, .int (zI a0))]) (j := 2) rfl (by omega) (by decide) rfl dX5_walks_26 ?_
          refine j_goto hJ (tgt := 2) (by decide) dX5_walks_29 ?_
          refine j_locs hJ [1, 2, 0] rfl ?_
          refine ih2 ν5 (k + 1) (by omega) (by omega) ?_ (by intro a g; rw [hM25, up_rowf g]; exact hF a g)
          · intro x x0 x1
            rw [hM25]
            by_cases e : x = k
            · rw [e, up_self]
              first
              | (rw [if_pos (by omega)]; done)
              | (rw [if_neg (by omega)]; done)
            · rw [up_at e]; exact hst x x0 (by omega)
  refine j_locs hJ [1, 2, 0] rfl ?_
  exact lp2 145 ν 0 (by omega) (by omega) (by intro x x0 x1; omega) (by exact fun _ _ => rfl)
end
