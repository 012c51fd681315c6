
set_option maxRecDepth 20000 in
theorem f_X5_80 : FF RX5 80 5 9 .int false := ⟨RX5, TX5, 17, tyX5, rfl, by decide, lays_X5, tyX5_ok, rfl, rfl, nmX5, Or.inl (List.mem_of_getElem? (i := 885) (by decide +kernel))⟩
set_option maxRecDepth 20000 in
theorem f_X5_25 : FF RX5 25 5 5 (.array .int) true := ⟨RX5, TX5, 17, tyX5, rfl, by decide, lays_X5, tyX5_ok, rfl, rfl, nmX5, Or.inl (List.mem_of_getElem? (i := 881) (by decide +kernel))⟩
set_option maxRecDepth 20000 in
theorem f_X5_35 : FF RX5 35 5 10 (.array .boolean) true := ⟨RX5, TX5, 17, tyX5, rfl, by decide, lays_X5, tyX5_ok, rfl, rfl, nmX5, Or.inl (List.mem_of_getElem? (i := 886) (by decide +kernel))⟩
set_option maxRecDepth 20000 in
theorem f_X5_32 : FF RX5 32 5 8 (.array .int) true := ⟨RX5, TX5, 17, tyX5, rfl, by decide, lays_X5, tyX5_ok, rfl, rfl, nmX5, Or.inl (List.mem_of_getElem? (i := 884) (by decide +kernel))⟩
set_option maxRecDepth 20000 in
theorem f_X5_22 : FF RX5 22 5 4 (.array .int) true := ⟨RX5, TX5, 17, tyX5, rfl, by decide, lays_X5, tyX5_ok, rfl, rfl, nmX5, Or.inl (List.mem_of_getElem? (i := 880) (by decide +kernel))⟩
set_option maxRecDepth 20000 in
theorem m_X5_83 : MF RX5 83 1 yX5_way 2 := ⟨Or.inl (List.mem_of_getElem? (i := 970) (by decide +kernel)), (List.mem_of_getElem? (i := 63) (by decide +kernel)), ⟨by decide +kernel, by decide +kernel⟩, by decide +kernel, fun h => by omega, fun _ => (List.mem_of_getElem? (i := 971) (by decide +kernel)), fun h => by omega⟩
set_option maxRecDepth 20000 in
theorem k_X5_way : Cond.code yX5_way cX5_way 2 (some .int) ∈ GT := (List.mem_of_getElem? (i := 972) (by decide +kernel))
set_option maxRecDepth 20000 in
theorem m_X5_86 : MF RX5 86 0 yX5_tracks 1 := ⟨Or.inl (List.mem_of_getElem? (i := 966) (by decide +kernel)), (List.mem_of_getElem? (i := 63) (by decide +kernel)), ⟨by decide +kernel, by decide +kernel⟩, by decide +kernel, fun _ => ⟨(List.mem_of_getElem? (i := 968) (by decide +kernel)), (List.mem_of_getElem? (i := 44) (by decide +kernel))⟩, fun h => by omega, fun h => by omega⟩
set_option maxRecDepth 20000 in
theorem k_X5_tracks : Cond.code yX5_tracks cX5_tracks 5 none ∈ GT := (List.mem_of_getElem? (i := 969) (by decide +kernel))
section
variable {l : Launch} {D : va_G} {cy : Nat → ClassId} {n0 : Nat} {ad : Nat → Nat} {b : Nat → Nat} {E : va_W} {ws : va_W}
set_option maxHeartbeats 4000000 in
set_option maxRecDepth 100000 in
theorem c_X5_tracks {ν : Nat → Int → Int} {i m : Nat} {p : Nat → Int} (hfl : l.stackTraces = false) (hi : i < 16) (hP : PtM ν i p m) : CT l D cy n0 ad yX5_tracks (.code yX5_tracks cX5_tracks 5 none) ({ frames := 1, cells := 0, slots := 0, locals := 21 }) [.ref (b 0), .int (zI (i : Int))] (gw 14 MSh cy b ν ++ E) (fun vv uu => ∃ μ', vv = none ∧ uu = (gw 14 MSh cy b μ' ++ E) ∧ (TrM μ' (trk p m) ∧ FrD ν μ')) := by
  obtain ⟨p1, p2, p3, p4⟩ := id hP
  refine CT.walk hfl (by decide) (Nat.le_of_ble_eq_true rfl) ?_
  intro A J hJ
  show J (gw 14 MSh cy b ν ++ E) 0 0 0 [(0, .ref (b 0)), (1, .int (zI (i : Int)))] []
  refine j_aload_n hJ (j := 0) rfl rfl dX5_tracks_0 ?_
  refine j_iconst hJ dX5_tracks_1 ?_
  refine w_puti hJ (fi := 9) rfl (by omega) rfl rfl f_X5_80 rfl rfl dX5_tracks_2 ?_
  intro ν1 hν1
  have hM2 := hν1
  refine j_iconst hJ dX5_tracks_5 ?_
  refine j_istore_n hJ (lv' := [(2, .int (zI 0)), (0, .ref (b 0)), (1, .int (zI (i : Int)))]) rfl (by decide) rfl dX5_tracks_6 ?_
  have lp7 : ∀ (nn7 : Nat) (νk : Nat → Int → Int) (k : Int) (hmeas7 : (144 - k).toNat < nn7) (hk : 0 ≤ k ∧ k ≤ 144) (hl : νk 0 9 = 0) (ho : ∀ x, 0 ≤ x → x < k → νk 9 x = 0) (hF : ∀ a, a ≠ 0 → a ≠ 9 → νk a = ν a) (h0 : ∀ j, j ≠ 9 → νk 0 j = ν 0 j), J (gw 14 MSh cy b νk ++ E) 0 0 7 [(0, .ref (b 0)), (1, .int (zI (i : Int))), (2, .int (zI k))] [] := by
    intro nn7
    induction nn7 with
    | zero => intro νk k hmeas7 hk hl ho hF h0; omega
    | succ nn7 ih7 =>
      intro νk k hmeas7 hk hl ho hF h0
      refine j_iload_n hJ (j := 2) rfl rfl dX5_tracks_7 ?_
      refine j_sipush hJ (v := 144) (by decide) dX5_tracks_8 ?_
      refine j_icmp_ge hJ (tgt := 27) ⟨by omega, by omega⟩ ⟨by omega, by omega⟩ (by decide) dX5_tracks_11 ?_ ?_
      · intro h11
        refine j_iconst hJ dX5_tracks_27 ?_
        refine j_istore_n hJ (lv' := [(2, .int (zI 0)), (0, .ref (b 0)), (1, .int (zI (i : Int)))]) rfl (by decide) rfl dX5_tracks_28 ?_
        have lp29 : ∀ (nn29 : Nat) (νq : Nat → Int → Int) (k : Nat) (hmeas29 : m - k < nn29) (hk : k ≤ m) (hl : νq 0 9 = ((trk p k).length : Nat)) (hA : ArrL (νq 8) (trk p k)) (ho : ∀ x, 0 ≤ x → x < 144 → νq 9 x = 0) (hF : ∀ a, a ≠ 0 → a ≠ 8 → a ≠ 9 → νq a = ν a) (h0 : ∀ j, j ≠ 9 → νq 0 j = ν 0 j), J (gw 14 MSh cy b νq ++ E) 0 0 29 [(0, .ref (b 0)), (1, .int (zI (i : Int))), (2, .int (zI (k : Int)))] [] := by
          intro nn29
          induction nn29 with
          | zero => intro νq k hmeas29 hk hl hA ho hF h0; omega
          | succ nn29 ih29 =>
            intro νq k hmeas29 hk hl hA ho hF h0
            refine j_iload_n hJ (j := 2) rfl rfl dX5_tracks_29 ?_
            refine j_aload_n hJ (j := 0) rfl rfl dX5_tracks_30 ?_
            refine w_getr hJ (by omega) rfl rfl f_X5_25 dX5_tracks_31 ?_
            refine j_iload_n hJ (j := 1) rfl rfl dX5_tracks_34 ?_
            refine w_iald hJ (by omega) rfl (by first | decide | omega) (by omega) (by omega) dX5_tracks_35 ?_
            refine j_topi (y := zI (m : Int)) (by rw [hF _ (by omega) (by omega) (by omega), p1]) ?_
            refine j_icmp_ge hJ (tgt := 157) ⟨by omega, by omega⟩ ⟨by omega, by omega⟩ (by decide) dX5_tracks_36 ?_ ?_
            · intro h36
              have hkm : k = m := by omega
              rw [hkm] at hl hA
              have hlen := trk_len p3
              refine j_iconst hJ dX5_tracks_157 ?_
              refine j_istore_n hJ (lv' := [(2, .int (zI 0)), (0, .ref (b 0)), (1, .int (zI (i : Int)))]) rfl (by decide) rfl dX5_tracks_158 ?_
              have lp159 : ∀ (nn159 : Nat) (νr : Nat → Int → Int) (t : Int) (hmeas159 : (200 - t).toNat < nn159) (ht : 0 ≤ t ∧ t ≤ ((trk p m).length : Nat)) (hlr : νr 0 9 = ((trk p m).length : Nat)) (hAr : ArrL (νr 8) (trk p m)) (hor : ∀ x, 0 ≤ x → x < 144 → (νr 9 x = 1 ∧ x ∈ (trk p m).take t.toNat) ∨ (νr 9 x = 0 ∧ ¬ x ∈ (trk p m).take t.toNat)) (hFr : ∀ a, a ≠ 0 → a ≠ 8 → a ≠ 9 → νr a = ν a) (h0r : ∀ j, j ≠ 9 → νr 0 j = ν 0 j), J (gw 14 MSh cy b νr ++ E) 0 0 159 [(0, .ref (b 0)), (1, .int (zI (i : Int))), (2, .int (zI t))] [] := by
                intro nn159
                induction nn159 with
                | zero => intro νr t hmeas159 ht hlr hAr hor hFr h0r; omega
                | succ nn159 ih159 =>
                  intro νr t hmeas159 ht hlr hAr hor hFr h0r
                  refine j_iload_n hJ (j := 2) rfl rfl dX5_tracks_159 ?_
                  refine j_aload_n hJ (j := 0) rfl rfl dX5_tracks_160 ?_
                  refine w_geti hJ (fi := 9) rfl (by omega) rfl rfl f_X5_80 dX5_tracks_161 ?_
                  refine j_topi (y := zI ((trk p m).length : Nat)) (by rw [hlr]) ?_
                  refine j_icmp_ge hJ (tgt := 185) ⟨by omega, by omega⟩ ⟨by omega, by omega⟩ (by decide) dX5_tracks_164 ?_ ?_
                  · intro h164
                    refine j_vret hJ rfl rfl (Nat.le_of_ble_eq_true rfl) (Nat.le_of_ble_eq_true rfl) dX5_tracks_185 ⟨νr, rfl, rfl, ?_⟩
                    rw [show t.toNat = (trk p m).length by omega, List.take_length] at hor
                    exact ⟨⟨hlr, hAr, hor⟩, hFr, h0r⟩
                  · intro h164
                    obtain ⟨x, e1x, e2x, e3x⟩ := hAr.at (z := t) ht.1 h164
                    have hxr := trk_rng p3 x e3x
                    refine j_aload_n hJ (j := 0) rfl rfl dX5_tracks_167 ?_
                    refine w_getr hJ (by omega) rfl rfl f_X5_35 dX5_tracks_168 ?_
                    refine j_aload_n hJ (j := 0) rfl rfl dX5_tracks_171 ?_
                    refine w_getr hJ (by omega) rfl rfl f_X5_32 dX5_tracks_172 ?_
                    refine j_iload_n hJ (j := 2) rfl rfl dX5_tracks_175 ?_
                    refine w_iald hJ (by omega) rfl (by first | decide | omega) (by omega) (by omega) dX5_tracks_176 ?_
                    refine j_topi (y := zI x) (by rw [e2x]) ?_
                    refine j_iconst hJ dX5_tracks_177 ?_
                    refine w_zast hJ (by omega) rfl (by first | decide | omega) (by omega) (by omega) (by omega) dX5_tracks_178 ?_
                    intro ν2 hν2
                    have hM178 := hν2
                    refine j_iinc hJ (lv' := [(2, .int (zI (t + 1))), (0, .ref (b 0)), (1, .int (zI (i : Int)))]) (j := 2) rfl (by omega) (by decide) rfl dX5_tracks_179 ?_
                    refine j_goto hJ (tgt := 159) (by decide) dX5_tracks_182 ?_
                    refine j_locs hJ [1, 2, 0] rfl ?_
                    refine ih159 ν2 (t + 1) (by omega) (by omega) (by rw [hM178, up_rowf (by omega)]; exact hlr) (by rw [hM178, up_rowf (by omega)]; exact hAr) ?_ (by intro a g1 g2 g3; rw [hM178, up_rowf g3]; exact hFr a g1 g2 g3) (by intro j g; rw [hM178, up_rowf (by omega)]; exact h0r j g)
                    · intro z a c
                      rw [show (t + 1).toNat = t.toNat + 1 by omega, List.take_succ, e1x, hM178]
                      by_cases e : z = x
                      · subst e
                        left
                        rw [up_self]
                        exact ⟨rfl, by simp⟩
                      · rw [up_at e]
                        rcases hor z a c with ⟨g1, g2⟩ | ⟨g1, g2⟩
                        · left; exact ⟨g1, by simp [g2]⟩
                        · right; exact ⟨g1, by simp [g2, e]⟩
              refine j_locs hJ [1, 2, 0] rfl ?_
              exact lp159 201 νq 0 (by omega) (by omega) (by exact hl) (by exact hA) (by intro x a c; right; exact ⟨ho x a c, by simp⟩) (by exact hF) (by exact h0)
            · intro h36
              have hkm : k < m := by omega
              have pr := p3.1 k hkm
              obtain ⟨qr, qo⟩ := q_ok p3 hkm
              have ql := qT_len p3 hkm p2
              have hlen := trk_len (p3.less (k := k) hk)
              refine j_aload_n hJ (j := 0) rfl rfl dX5_tracks_39 ?_
              refine w_getr hJ (by omega) rfl rfl f_X5_22 dX5_tracks_40 ?_
              refine j_bipush hJ (v := 10) (by decide) dX5_tracks_43 ?_
              refine j_iload_n hJ (j := 1) rfl rfl dX5_tracks_45 ?_
              refine j_imul hJ dX5_tracks_46 ?_
              refine j_iload_n hJ (j := 2) rfl rfl dX5_tracks_47 ?_
              refine j_iadd hJ dX5_tracks_48 ?_
              refine w_iald hJ (by omega) rfl (by first | decide | omega) (by omega) (by omega) dX5_tracks_49 ?_
              refine j_topi (y := zI (p k)) (by rw [hF _ (by omega) (by omega) (by omega), ← p4 k hkm]) ?_
              refine j_istore_n hJ (lv' := [(3, .int (zI (p k))), (0, .ref (b 0)), (1, .int (zI (i : Int))), (2, .int (zI (k : Int)))]) rfl (by decide) rfl dX5_tracks_50 ?_
              refine j_iload_n hJ (j := 3) rfl rfl dX5_tracks_51 ?_
              refine j_if_ne hJ (tgt := 59) ⟨by omega, by omega⟩ (by decide) dX5_tracks_52 ?_ ?_
              · intro h52
                have hk0 : 0 < k := by omega
                obtain ⟨L, hL⟩ := trk_last (p := p) (m := k - 1) (p3.less (by omega))
                rw [show k - 1 + 1 = k by omega] at hL
                have e1 : νq 0 9 - 1 = ((L.length : Nat) : Int) := by
                  rw [hl, hL, List.length_append]; simp
                have e69 : νq 8 (νq 0 9 - 1) = p (k - 1) := by
                  rw [e1]; exact hA L.length _ (by rw [hL]; simp)
                have pr1 := p3.1 (k - 1) (by omega)
                refine j_aload_n hJ (j := 1) rfl rfl dX5_tracks_59 ?_
                refine w_getr hJ (by omega) rfl rfl f_X5_32 dX5_tracks_60 ?_
                refine j_aload_n hJ (j := 1) rfl rfl dX5_tracks_63 ?_
                refine w_geti hJ (fi := 9) rfl (by omega) rfl rfl f_X5_80 dX5_tracks_64 ?_
                refine j_iconst hJ dX5_tracks_67 ?_
                refine j_isub hJ dX5_tracks_68 ?_
                refine w_iald hJ (by omega) rfl (by first | decide | omega) (by omega) (by omega) dX5_tracks_69 ?_
                refine j_topi (y := zI (p (k - 1))) (by rw [e69]) ?_
                refine j_istore hJ (lv' := [(4, .int (zI (p (k - 1)))), (3, .int (zI (p k))), (0, .ref (b 0)), (1, .int (zI (i : Int))), (2, .int (zI (k : Int)))]) (by decide) rfl dX5_tracks_70 ?_
                refine j_iload_n hJ (j := 4) rfl rfl dX5_tracks_72 ?_
                refine j_if_ne hJ (tgt := 88) ⟨by omega, by omega⟩ (by decide) dX5_tracks_73 ?_ ?_
                · intro h73
                  have lp88 : ∀ (nn88 : Nat) (νj : Nat → Int → Int) (y : Int) (s : Nat) (hmeas88 : 100 - s < nn88) (hs : (s : Int) ≤ far (qa p k) (p k / 12) (p k % 12)) (hy : y = qa p k + s * stp (qa p k) (p k / 12) (p k % 12)) (hlj : νj 0 9 = ((qT p k ++ segk (qa p k) (stp (qa p k) (p k / 12) (p k % 12)) s).length : Nat)) (hAj : ArrL (νj 8) (qT p k ++ segk (qa p k) (stp (qa p k) (p k / 12) (p k % 12)) s)) (hoj : ∀ x, 0 ≤ x → x < 144 → νj 9 x = 0) (hFj : ∀ a, a ≠ 0 → a ≠ 8 → a ≠ 9 → νj a = ν a) (h0j : ∀ j, j ≠ 9 → νj 0 j = ν 0 j), J (gw 14 MSh cy b νj ++ E) 0 0 88 [(0, .ref (b 0)), (1, .int (zI (i : Int))), (2, .int (zI (k : Int))), (3, .int (zI (p k))), (4, .int (zI y))] [] := by
                    intro nn88
                    induction nn88 with
                    | zero => intro νj y s hmeas88 hs hy hlj hAj hoj hFj h0j; omega
                    | succ nn88 ih88 =>
                      intro νj y s hmeas88 hs hy hlj hAj hoj hFj h0j
                      refine j_iload hJ (j := 4) rfl dX5_tracks_88 ?_
                      refine j_iload_n hJ (j := 3) rfl rfl dX5_tracks_90 ?_
                      obtain ⟨w1, w2, w3⟩ := walk_step qr pr qo hs hy
                      refine j_icmp_eq hJ (tgt := 151) ⟨by omega, by omega⟩ ⟨by omega, by omega⟩ (by decide) dX5_tracks_91 ?_ ?_
                      · intro h91
                        have hfin : s = (far (qa p k) (p k / 12) (p k % 12)).toNat := by have := w2.mp h91; omega
                        refine j_iinc hJ (lv' := [(2, .int (zI ((k : Int) + 1))), (0, .ref (b 0)), (1, .int (zI (i : Int))), (3, .int (zI (p k))), (4, .int (zI y))]) (j := 2) rfl (by omega) (by decide) rfl dX5_tracks_151 ?_
                        refine j_goto hJ (tgt := 29) (by decide) dX5_tracks_154 ?_
                        refine j_locs hJ [1, 2, 0] rfl ?_
                        exact ih29 νj (k + 1) (by omega) (by omega) (by rw [qT_seg, seg, ← hfin]; exact hlj) (by rw [qT_seg, seg, ← hfin]; exact hAj) (by exact hoj) (by exact hFj) (by exact h0j)
                      · intro h91
                        have hsf : (s : Int) < far (qa p k) (p k / 12) (p k % 12) := by
                          have := fun e => h91 (w2.mpr e)
                          omega
                        have hst := w3 hsf
                        have hlen2 : ((qT p k ++ segk (qa p k) (stp (qa p k) (p k / 12) (p k % 12)) s).length : Int) < 100 := by rw [List.length_append, segk_len]; push_cast; omega
                        refine j_iload hJ (j := 4) rfl dX5_tracks_94 ?_
                        refine j_bipush hJ (v := 12) (by decide) dX5_tracks_96 ?_
                        refine j_iload hJ (j := 4) rfl dX5_tracks_98 ?_
                        refine j_bipush hJ (v := 12) (by decide) dX5_tracks_100 ?_
                        refine j_idiv hJ (by omega) (by omega) (by omega) (by omega) dX5_tracks_102 ?_
                        refine j_iload_n hJ (j := 3) rfl rfl dX5_tracks_103 ?_
                        refine j_bipush hJ (v := 12) (by decide) dX5_tracks_104 ?_
                        refine j_idiv hJ (by omega) (by omega) (by omega) (by omega) dX5_tracks_106 ?_
                        refine j_callS0 hJ (c_X5_way hfl ⟨by omega, by omega⟩ ⟨by omega, by omega⟩) m_X5_83 k_X5_way ⟨(Nat.le_of_ble_eq_true rfl), (Nat.le_of_ble_eq_true rfl)⟩ ⟨(Nat.le_of_ble_eq_true rfl), (Nat.le_of_ble_eq_true rfl)⟩ (Nat.le_of_ble_eq_true rfl) dX5_tracks_107 rfl ?_
                        intro v1 u2 hv3
                        obtain ⟨_, rfl, rfl, rfl⟩ := hv3
                        show J (gw 14 MSh cy b νj ++ E) 0 0 110 [(0, .ref (b 0)), (1, .int (zI (i : Int))), (2, .int (zI (k : Int))), (3, .int (zI (p k))), (4, .int (zI y))] [.int (zI (sg (p k / 12 - y / 12))), .int (zI 12), .int (zI y)]
                        refine j_imul hJ dX5_tracks_110 ?_
                        refine j_iload hJ (j := 4) rfl dX5_tracks_111 ?_
                        refine j_bipush hJ (v := 12) (by decide) dX5_tracks_113 ?_
                        refine j_irem hJ (by omega) (by omega) (by omega) (by omega) dX5_tracks_115 ?_
                        refine j_iload_n hJ (j := 3) rfl rfl dX5_tracks_116 ?_
                        refine j_bipush hJ (v := 12) (by decide) dX5_tracks_117 ?_
                        refine j_irem hJ (by omega) (by omega) (by omega) (by omega) dX5_tracks_119 ?_
                        refine j_callS0 hJ (c_X5_way hfl ⟨by omega, by omega⟩ ⟨by omega, by omega⟩) m_X5_83 k_X5_way ⟨(Nat.le_of_ble_eq_true rfl), (Nat.le_of_ble_eq_true rfl)⟩ ⟨(Nat.le_of_ble_eq_true rfl), (Nat.le_of_ble_eq_true rfl)⟩ (Nat.le_of_ble_eq_true rfl) dX5_tracks_120 rfl ?_
                        intro v4 u5 hv6
                        obtain ⟨_, rfl, rfl, rfl⟩ := hv6
                        show J (gw 14 MSh cy b νj ++ E) 0 0 123 [(0, .ref (b 0)), (1, .int (zI (i : Int))), (2, .int (zI (k : Int))), (3, .int (zI (p k))), (4, .int (zI y))] [.int (zI (sg (p k % 12 - y % 12))), .int (zI (12 * (sg (p k / 12 - y / 12)))), .int (zI y)]
                        refine j_iadd hJ dX5_tracks_123 ?_
                        refine j_iadd hJ dX5_tracks_124 ?_
                        refine j_topi (y := zI (y + stp (qa p k) (p k / 12) (p k % 12))) (by rw [← hst]) ?_
                        refine j_istore hJ (lv' := [(4, .int (zI (y + stp (qa p k) (p k / 12) (p k % 12)))), (0, .ref (b 0)), (1, .int (zI (i : Int))), (2, .int (zI (k : Int))), (3, .int (zI (p k)))]) (by decide) rfl dX5_tracks_125 ?_
                        refine j_aload_n hJ (j := 1) rfl rfl dX5_tracks_127 ?_
                        refine w_getr hJ (by omega) rfl rfl f_X5_32 dX5_tracks_128 ?_
                        refine j_aload_n hJ (j := 1) rfl rfl dX5_tracks_131 ?_
                        refine w_geti hJ (fi := 9) rfl (by omega) rfl rfl f_X5_80 dX5_tracks_132 ?_
                        refine j_topi (y := zI ((qT p k ++ segk (qa p k) (stp (qa p k) (p k / 12) (p k % 12)) s).length : Nat)) (by rw [hlj]) ?_
                        refine j_iload hJ (j := 0) rfl dX5_tracks_135 ?_
                        refine w_iast hJ (by omega) rfl (by first | decide | omega) (by omega) (by omega) dX5_tracks_137 ?_
                        intro ν3 hν3
                        have hM137 := hν3
                        refine j_aload_n hJ (j := 1) rfl rfl dX5_tracks_138 ?_
                        refine j_dup hJ rfl dX5_tracks_139 ?_
                        refine w_geti hJ (fi := 9) rfl (by omega) rfl rfl f_X5_80 dX5_tracks_140 ?_
                        refine j_topi (y := zI ((qT p k ++ segk (qa p k) (stp (qa p k) (p k / 12) (p k % 12)) s).length : Nat)) (by rw [hM137, up_rowf (by omega), hlj]) ?_
                        refine j_iconst hJ dX5_tracks_143 ?_
                        refine j_iadd hJ dX5_tracks_144 ?_
                        refine w_puti hJ (fi := 9) rfl (by omega) rfl rfl f_X5_80 rfl rfl dX5_tracks_145 ?_
                        intro ν4 hν4
                        have hM145 := hν4
                        refine j_goto hJ (tgt := 88) (by decide) dX5_tracks_148 ?_
                        refine j_locs hJ [1, 2, 3, 4, 0] rfl ?_
                        refine ih88 ν4 (y + stp (qa p k) (p k / 12) (p k % 12)) (s + 1) (by omega) (by omega) (by rw [hy]; push_cast; rw [Int.add_mul, Int.one_mul]; omega) (by rw [hM145, up_self, qT_step]; exact len_snoc _ _) ?_ (by intro x a c; rw [hM145, up_rowf (by omega), hM137, up_rowf (by omega)]; exact hoj x a c) (by intro a g1 g2 g3; rw [hM145, up_rowf g1, hM137, up_rowf g2]; exact hFj a g1 g2 g3) (by intro j g; rw [hM145]; unfold up; rw [if_neg (by omega), hM137, up_rowf (by omega)]; exact h0j j g)
                        · rw [hM145, up_rowf (by omega), qT_step, hM137]
                          exact hAj.snoc (fun q q0 q1 => by rw [up_at (by omega)]) (by rw [up_self, hy, Int.add_mul, Int.one_mul]; omega)
                  refine j_locs hJ [2, 3, 4, 1, 0] rfl ?_
                  refine lp88 (100 - 0 + 1) νq (p (k - 1)) 0 (by omega) (by exact far_nn _ _) (by first | exact qa_i1 (by omega) | exact qa_i0 (by omega) | (exfalso; omega)) ?_ ?_ ?_ ?_ ?_
                  · first
                    | (exfalso; omega)
                    | (rw [qT_0, qT_pos hk0]; exact hl)
                    | (rw [hM85, up_self, qT_0, show k = 0 by omega]; rfl)
                  · first
                    | (exfalso; omega)
                    | (rw [qT_0, qT_pos hk0]; exact hA)
                    | (rw [hM85, up_rowf (by omega), qT_0, show k = 0 by omega]; exact arr1 (by rw [hM82, up_self, show k = 0 by omega]))
                  · first
                    | (exfalso; omega)
                    | exact ho
                    | (intro x a c; rw [hM85, up_rowf (by omega), hM82, up_rowf (by omega)]; exact ho x a c)
                  · first
                    | (exfalso; omega)
                    | exact hF
                    | (intro a g1 g2 g3; rw [hM85, up_rowf g1, hM82, up_rowf g2]; exact hF a g1 g2 g3)
                  · first
                    | (exfalso; omega)
                    | exact h0
                    | (intro j g; rw [hM85]; unfold up; rw [if_neg (by omega), hM82, up_rowf (by omega)]; exact h0 j g)
                · intro h73
                  refine j_aload_n hJ (j := 2) rfl rfl dX5_tracks_76 ?_
                  refine w_getr hJ (by omega) rfl rfl f_X5_32 dX5_tracks_77 ?_
                  refine j_iconst hJ dX5_tracks_80 ?_
                  refine j_iload_n hJ (j := 1) rfl rfl dX5_tracks_81 ?_
                  refine w_iast hJ (by omega) rfl (by first | decide | omega) (by omega) (by omega) dX5_tracks_82 ?_
                  intro ν5 hν5
                  have hM82 := hν5
                  refine j_aload_n hJ (j := 2) rfl rfl dX5_tracks_83 ?_
                  refine j_iconst hJ dX5_tracks_84 ?_
                  refine w_puti hJ (fi := 9) rfl (by omega) rfl rfl f_X5_80 rfl rfl dX5_tracks_85 ?_
                  intro ν6 hν6
                  have hM85 := hν6
                  have lp88 : ∀ (nn88 : Nat) (νj : Nat → Int → Int) (y : Int) (s : Nat) (hmeas88 : 100 - s < nn88) (hs : (s : Int) ≤ far (qa p k) (p k / 12) (p k % 12)) (hy : y = qa p k + s * stp (qa p k) (p k / 12) (p k % 12)) (hlj : νj 0 9 = ((qT p k ++ segk (qa p k) (stp (qa p k) (p k / 12) (p k % 12)) s).length : Nat)) (hAj : ArrL (νj 8) (qT p k ++ segk (qa p k) (stp (qa p k) (p k / 12) (p k % 12)) s)) (hoj : ∀ x, 0 ≤ x → x < 144 → νj 9 x = 0) (hFj : ∀ a, a ≠ 0 → a ≠ 8 → a ≠ 9 → νj a = ν a) (h0j : ∀ j, j ≠ 9 → νj 0 j = ν 0 j), J (gw 14 MSh cy b νj ++ E) 0 0 88 [(0, .ref (b 0)), (1, .int (zI (i : Int))), (2, .int (zI (k : Int))), (3, .int (zI (p k))), (4, .int (zI y))] [] := by
                    intro nn88
                    induction nn88 with
                    | zero => intro νj y s hmeas88 hs hy hlj hAj hoj hFj h0j; omega
                    | succ nn88 ih88 =>
                      intro νj y s hmeas88 hs hy hlj hAj hoj hFj h0j
                      refine j_iload hJ (j := 4) rfl dX5_tracks_88 ?_
                      refine j_iload_n hJ (j := 3) rfl rfl dX5_tracks_90 ?_
                      obtain ⟨w1, w2, w3⟩ := walk_step qr pr qo hs hy
                      refine j_icmp_eq hJ (tgt := 151) ⟨by omega, by omega⟩ ⟨by omega, by omega⟩ (by decide) dX5_tracks_91 ?_ ?_
                      · intro h91
                        have hfin : s = (far (qa p k) (p k / 12) (p k % 12)).toNat := by have := w2.mp h91; omega
                        refine j_iinc hJ (lv' := [(2, .int (zI ((k : Int) + 1))), (0, .ref (b 0)), (1, .int (zI (i : Int))), (3, .int (zI (p k))), (4, .int (zI y))]) (j := 2) rfl (by omega) (by decide) rfl dX5_tracks_151 ?_
                        refine j_goto hJ (tgt := 29) (by decide) dX5_tracks_154 ?_
                        refine j_locs hJ [1, 2, 0] rfl ?_
                        exact ih29 νj (k + 1) (by omega) (by omega) (by rw [qT_seg, seg, ← hfin]; exact hlj) (by rw [qT_seg, seg, ← hfin]; exact hAj) (by exact hoj) (by exact hFj) (by exact h0j)
                      · intro h91
                        have hsf : (s : Int) < far (qa p k) (p k / 12) (p k % 12) := by
                          have := fun e => h91 (w2.mpr e)
                          omega
                        have hst := w3 hsf
                        have hlen2 : ((qT p k ++ segk (qa p k) (stp (qa p k) (p k / 12) (p k % 12)) s).length : Int) < 100 := by rw [List.length_append, segk_len]; push_cast; omega
                        refine j_iload hJ (j := 4) rfl dX5_tracks_94 ?_
                        refine j_bipush hJ (v := 12) (by decide) dX5_tracks_96 ?_
                        refine j_iload hJ (j := 4) rfl dX5_tracks_98 ?_
                        refine j_bipush hJ (v := 12) (by decide) dX5_tracks_100 ?_
                        refine j_idiv hJ (by omega) (by omega) (by omega) (by omega) dX5_tracks_102 ?_
                        refine j_iload_n hJ (j := 3) rfl rfl dX5_tracks_103 ?_
                        refine j_bipush hJ (v := 12) (by decide) dX5_tracks_104 ?_
                        refine j_idiv hJ (by omega) (by omega) (by omega) (by omega) dX5_tracks_106 ?_
                        refine j_callS0 hJ (c_X5_way hfl ⟨by omega, by omega⟩ ⟨by omega, by omega⟩) m_X5_83 k_X5_way ⟨(Nat.le_of_ble_eq_true rfl), (Nat.le_of_ble_eq_true rfl)⟩ ⟨(Nat.le_of_ble_eq_true rfl), (Nat.le_of_ble_eq_true rfl)⟩ (Nat.le_of_ble_eq_true rfl) dX5_tracks_107 rfl ?_
                        intro v7 u8 hv9
                        obtain ⟨_, rfl, rfl, rfl⟩ := hv9
                        show J (gw 14 MSh cy b νj ++ E) 0 0 110 [(0, .ref (b 0)), (1, .int (zI (i : Int))), (2, .int (zI (k : Int))), (3, .int (zI (p k))), (4, .int (zI y))] [.int (zI (sg (p k / 12 - y / 12))), .int (zI 12), .int (zI y)]
                        refine j_imul hJ dX5_tracks_110 ?_
                        refine j_iload hJ (j := 4) rfl dX5_tracks_111 ?_
                        refine j_bipush hJ (v := 12) (by decide) dX5_tracks_113 ?_
                        refine j_irem hJ (by omega) (by omega) (by omega) (by omega) dX5_tracks_115 ?_
                        refine j_iload_n hJ (j := 3) rfl rfl dX5_tracks_116 ?_
                        refine j_bipush hJ (v := 12) (by decide) dX5_tracks_117 ?_
                        refine j_irem hJ (by omega) (by omega) (by omega) (by omega) dX5_tracks_119 ?_
                        refine j_callS0 hJ (c_X5_way hfl ⟨by omega, by omega⟩ ⟨by omega, by omega⟩) m_X5_83 k_X5_way ⟨(Nat.le_of_ble_eq_true rfl), (Nat.le_of_ble_eq_true rfl)⟩ ⟨(Nat.le_of_ble_eq_true rfl), (Nat.le_of_ble_eq_true rfl)⟩ (Nat.le_of_ble_eq_true rfl) dX5_tracks_120 rfl ?_
                        intro v10 u11 hv12
                        obtain ⟨_, rfl, rfl, rfl⟩ := hv12
                        show J (gw 14 MSh cy b νj ++ E) 0 0 123 [(0, .ref (b 0)), (1, .int (zI (i : Int))), (2, .int (zI (k : Int))), (3, .int (zI (p k))), (4, .int (zI y))] [.int (zI (sg (p k % 12 - y % 12))), .int (zI (12 * (sg (p k / 12 - y / 12)))), .int (zI y)]
                        refine j_iadd hJ dX5_tracks_123 ?_
                        refine j_iadd hJ dX5_tracks_124 ?_
                        refine j_topi (y := zI (y + stp (qa p k) (p k / 12) (p k % 12))) (by rw [← hst]) ?_
                        refine j_istore hJ (lv' := [(4, .int (zI (y + stp (qa p k) (p k / 12) (p k % 12)))), (0, .ref (b 0)), (1, .int (zI (i : Int))), (2, .int (zI (k : Int))), (3, .int (zI (p k)))]) (by decide) rfl dX5_tracks_125 ?_
                        refine j_aload_n hJ (j := 1) rfl rfl dX5_tracks_127 ?_
                        refine w_getr hJ (by omega) rfl rfl f_X5_32 dX5_tracks_128 ?_
                        refine j_aload_n hJ (j := 1) rfl rfl dX5_tracks_131 ?_
                        refine w_geti hJ (fi := 9) rfl (by omega) rfl rfl f_X5_80 dX5_tracks_132 ?_
                        refine j_topi (y := zI ((qT p k ++ segk (qa p k) (stp (qa p k) (p k / 12) (p k % 12)) s).length : Nat)) (by rw [hlj]) ?_
                        refine j_iload hJ (j := 0) rfl dX5_tracks_135 ?_
                        refine w_iast hJ (by omega) rfl (by first | decide | omega) (by omega) (by omega) dX5_tracks_137 ?_
                        intro ν7 hν7
                        have hM137 := hν7
                        refine j_aload_n hJ (j := 1) rfl rfl dX5_tracks_138 ?_
                        refine j_dup hJ rfl dX5_tracks_139 ?_
                        refine w_geti hJ (fi := 9) rfl (by omega) rfl rfl f_X5_80 dX5_tracks_140 ?_
                        refine j_topi (y := zI ((qT p k ++ segk (qa p k) (stp (qa p k) (p k / 12) (p k % 12)) s).length : Nat)) (by rw [hM137, up_rowf (by omega), hlj]) ?_
                        refine j_iconst hJ dX5_tracks_143 ?_
                        refine j_iadd hJ dX5_tracks_144 ?_
                        refine w_puti hJ (fi := 9) rfl (by omega) rfl rfl f_X5_80 rfl rfl dX5_tracks_145 ?_
                        intro ν8 hν8
                        have hM145 := hν8
                        refine j_goto hJ (tgt := 88) (by decide) dX5_tracks_148 ?_
                        refine j_locs hJ [1, 2, 3, 4, 0] rfl ?_
                        refine ih88 ν8 (y + stp (qa p k) (p k / 12) (p k % 12)) (s + 1) (by omega) (by omega) (by rw [hy]; push_cast; rw [Int.add_mul, Int.one_mul]; omega) (by rw [hM145, up_self, qT_step]; exact len_snoc _ _) ?_ (by intro x a c; rw [hM145, up_rowf (by omega), hM137, up_rowf (by omega)]; exact hoj x a c) (by intro a g1 g2 g3; rw [hM145, up_rowf g1, hM137, up_rowf g2]; exact hFj a g1 g2 g3) (by intro j g; rw [hM145]; unfold up; rw [if_neg (by omega), hM137, up_rowf (by omega)]; exact h0j j g)
                        · rw [hM145, up_rowf (by omega), qT_step, hM137]
                          exact hAj.snoc (fun q q0 q1 => by rw [up_at (by omega)]) (by rw [up_self, hy, Int.add_mul, Int.one_mul]; omega)
                  refine j_locs hJ [2, 3, 4, 1, 0] rfl ?_
                  refine lp88 (100 - 0 + 1) ν6 (p (k - 1)) 0 (by omega) (by exact far_nn _ _) (by first | exact qa_i1 (by omega) | exact qa_i0 (by omega) | (exfalso; omega)) ?_ ?_ ?_ ?_ ?_
                  · first
                    | (exfalso; omega)
                    | (rw [qT_0, qT_pos hk0]; exact hl)
                    | (rw [hM85, up_self, qT_0, show k = 0 by omega]; rfl)
                  · first
                    | (exfalso; omega)
                    | (rw [qT_0, qT_pos hk0]; exact hA)
                    | (rw [hM85, up_rowf (by omega), qT_0, show k = 0 by omega]; exact arr1 (by rw [hM82, up_self, show k = 0 by omega]))
                  · first
                    | (exfalso; omega)
                    | exact ho
                    | (intro x a c; rw [hM85, up_rowf (by omega), hM82, up_rowf (by omega)]; exact ho x a c)
                  · first
                    | (exfalso; omega)
                    | exact hF
                    | (intro a g1 g2 g3; rw [hM85, up_rowf g1, hM82, up_rowf g2]; exact hF a g1 g2 g3)
                  · first
                    | (exfalso; omega)
                    | exact h0
                    | (intro j g; rw [hM85]; unfold up; rw [if_neg (by omega), hM82, up_rowf (by omega)]; exact h0 j g)
              · intro h52
                refine j_iload_n hJ (j := 0) rfl rfl dX5_tracks_55 ?_
                refine j_goto hJ (tgt := 70) (by decide) dX5_tracks_56 ?_
                refine j_istore hJ (lv' := [(4, .int (zI (p k))), (3, .int (zI (p k))), (0, .ref (b 0)), (1, .int (zI (i : Int))), (2, .int (zI (k : Int)))]) (by decide) rfl dX5_tracks_70 ?_
                refine j_iload_n hJ (j := 4) rfl rfl dX5_tracks_72 ?_
                refine j_if_ne hJ (tgt := 88) ⟨by omega, by omega⟩ (by decide) dX5_tracks_73 ?_ ?_
                · intro h73
                  have lp88 : ∀ (nn88 : Nat) (νj : Nat → Int → Int) (y : Int) (s : Nat) (hmeas88 : 100 - s < nn88) (hs : (s : Int) ≤ far (qa p k) (p k / 12) (p k % 12)) (hy : y = qa p k + s * stp (qa p k) (p k / 12) (p k % 12)) (hlj : νj 0 9 = ((qT p k ++ segk (qa p k) (stp (qa p k) (p k / 12) (p k % 12)) s).length : Nat)) (hAj : ArrL (νj 8) (qT p k ++ segk (qa p k) (stp (qa p k) (p k / 12) (p k % 12)) s)) (hoj : ∀ x, 0 ≤ x → x < 144 → νj 9 x = 0) (hFj : ∀ a, a ≠ 0 → a ≠ 8 → a ≠ 9 → νj a = ν a) (h0j : ∀ j, j ≠ 9 → νj 0 j = ν 0 j), J (gw 14 MSh cy b νj ++ E) 0 0 88 [(0, .ref (b 0)), (1, .int (zI (i : Int))), (2, .int (zI (k : Int))), (3, .int (zI (p k))), (4, .int (zI y))] [] := by
                    intro nn88
                    induction nn88 with
                    | zero => intro νj y s hmeas88 hs hy hlj hAj hoj hFj h0j; omega
                    | succ nn88 ih88 =>
                      intro νj y s hmeas88 hs hy hlj hAj hoj hFj h0j
                      refine j_iload hJ (j := 4) rfl dX5_tracks_88 ?_
                      refine j_iload_n hJ (j := 3) rfl rfl dX5_tracks_90 ?_
                      obtain ⟨w1, w2, w3⟩ := walk_step qr pr qo hs hy
                      refine j_icmp_eq hJ (tgt := 151) ⟨by omega, by omega⟩ ⟨by omega, by omega⟩ (by decide) dX5_tracks_91 ?_ ?_
                      · intro h91
                        have hfin : s = (far (qa p k) (p k / 12) (p k % 12)).toNat := by have := w2.mp h91; omega
                        refine j_iinc hJ (lv' := [(2, .int (zI ((k : Int) + 1))), (0, .ref (b 0)), (1, .int (zI (i : Int))), (3, .int (zI (p k))), (4, .int (zI y))]) (j := 2) rfl (by omega) (by decide) rfl dX5_tracks_151 ?_
                        refine j_goto hJ (tgt := 29) (by decide) dX5_tracks_154 ?_
                        refine j_locs hJ [1, 2, 0] rfl ?_
                        exact ih29 νj (k + 1) (by omega) (by omega) (by rw [qT_seg, seg, ← hfin]; exact hlj) (by rw [qT_seg, seg, ← hfin]; exact hAj) (by exact hoj) (by exact hFj) (by exact h0j)
                      · intro h91
                        have hsf : (s : Int) < far (qa p k) (p k / 12) (p k % 12) := by
                          have := fun e => h91 (w2.mpr e)
                          omega
                        have hst := w3 hsf
                        have hlen2 : ((qT p k ++ segk (qa p k) (stp (qa p k) (p k / 12) (p k % 12)) s).length : Int) < 100 := by rw [List.length_append, segk_len]; push_cast; omega
                        refine j_iload hJ (j := 4) rfl dX5_tracks_94 ?_
                        refine j_bipush hJ (v := 12) (by decide) dX5_tracks_96 ?_
                        refine j_iload hJ (j := 4) rfl dX5_tracks_98 ?_
                        refine j_bipush hJ (v := 12) (by decide) dX5_tracks_100 ?_
                        refine j_idiv hJ (by omega) (by omega) (by omega) (by omega) dX5_tracks_102 ?_
                        refine j_iload_n hJ (j := 3) rfl rfl dX5_tracks_103 ?_
                        refine j_bipush hJ (v := 12) (by decide) dX5_tracks_104 ?_
                        refine j_idiv hJ (by omega) (by omega) (by omega) (by omega) dX5_tracks_106 ?_
                        refine j_callS0 hJ (c_X5_way hfl ⟨by omega, by omega⟩ ⟨by omega, by omega⟩) m_X5_83 k_X5_way ⟨(Nat.le_of_ble_eq_true rfl), (Nat.le_of_ble_eq_true rfl)⟩ ⟨(Nat.le_of_ble_eq_true rfl), (Nat.le_of_ble_eq_true rfl)⟩ (Nat.le_of_ble_eq_true rfl) dX5_tracks_107 rfl ?_
                        intro v13 u14 hv15
                        obtain ⟨_, rfl, rfl, rfl⟩ := hv15
                        show J (gw 14 MSh cy b νj ++ E) 0 0 110 [(0, .ref (b 0)), (1, .int (zI (i : Int))), (2, .int (zI (k : Int))), (3, .int (zI (p k))), (4, .int (zI y))] [.int (zI (sg (p k / 12 - y / 12))), .int (zI 12), .int (zI y)]
                        refine j_imul hJ dX5_tracks_110 ?_
                        refine j_iload hJ (j := 4) rfl dX5_tracks_111 ?_
                        refine j_bipush hJ (v := 12) (by decide) dX5_tracks_113 ?_
                        refine j_irem hJ (by omega) (by omega) (by omega) (by omega) dX5_tracks_115 ?_
                        refine j_iload_n hJ (j := 3) rfl rfl dX5_tracks_116 ?_
                        refine j_bipush hJ (v := 12) (by decide) dX5_tracks_117 ?_
                        refine j_irem hJ (by omega) (by omega) (by omega) (by omega) dX5_tracks_119 ?_
                        refine j_callS0 hJ (c_X5_way hfl ⟨by omega, by omega⟩ ⟨by omega, by omega⟩) m_X5_83 k_X5_way ⟨(Nat.le_of_ble_eq_true rfl), (Nat.le_of_ble_eq_true rfl)⟩ ⟨(Nat.le_of_ble_eq_true rfl), (Nat.le_of_ble_eq_true rfl)⟩ (Nat.le_of_ble_eq_true rfl) dX5_tracks_120 rfl ?_
                        intro v16 u17 hv18
                        obtain ⟨_, rfl, rfl, rfl⟩ := hv18
                        show J (gw 14 MSh cy b νj ++ E) 0 0 123 [(0, .ref (b 0)), (1, .int (zI (i : Int))), (2, .int (zI (k : Int))), (3, .int (zI (p k))), (4, .int (zI y))] [.int (zI (sg (p k % 12 - y % 12))), .int (zI (12 * (sg (p k / 12 - y / 12)))), .int (zI y)]
                        refine j_iadd hJ dX5_tracks_123 ?_
                        refine j_iadd hJ dX5_tracks_124 ?_
                        refine j_topi (y := zI (y + stp (qa p k) (p k / 12) (p k % 12))) (by rw [← hst]) ?_
                        refine j_istore hJ (lv' := [(4, .int (zI (y + stp (qa p k) (p k / 12) (p k % 12)))), (0, .ref (b 0)), (1, .int (zI (i : Int))), (2, .int (zI (k : Int))), (3, .int (zI (p k)))]) (by decide) rfl dX5_tracks_125 ?_
                        refine j_aload_n hJ (j := 1) rfl rfl dX5_tracks_127 ?_
                        refine w_getr hJ (by omega) rfl rfl f_X5_32 dX5_tracks_128 ?_
                        refine j_aload_n hJ (j := 1) rfl rfl dX5_tracks_131 ?_
                        refine w_geti hJ (fi := 9) rfl (by omega) rfl rfl f_X5_80 dX5_tracks_132 ?_
                        refine j_topi (y := zI ((qT p k ++ segk (qa p k) (stp (qa p k) (p k / 12) (p k % 12)) s).length : Nat)) (by rw [hlj]) ?_
                        refine j_iload hJ (j := 0) rfl dX5_tracks_135 ?_
                        refine w_iast hJ (by omega) rfl (by first | decide | omega) (by omega) (by omega) dX5_tracks_137 ?_
                        intro ν9 hν9
                        have hM137 := hν9
                        refine j_aload_n hJ (j := 1) rfl rfl dX5_tracks_138 ?_
                        refine j_dup hJ rfl dX5_tracks_139 ?_
                        refine w_geti hJ (fi := 9) rfl (by omega) rfl rfl f_X5_80 dX5_tracks_140 ?_
                        refine j_topi (y := zI ((qT p k ++ segk (qa p k) (stp (qa p k) (p k / 12) (p k % 12)) s).length : Nat)) (by rw [hM137, up_rowf (by omega), hlj]) ?_
                        refine j_iconst hJ dX5_tracks_143 ?_
                        refine j_iadd hJ dX5_tracks_144 ?_
                        refine w_puti hJ (fi := 9) rfl (by omega) rfl rfl f_X5_80 rfl rfl dX5_tracks_145 ?_
                        intro ν10 hν10
                        have hM145 := hν10
                        refine j_goto hJ (tgt := 88) (by decide) dX5_tracks_148 ?_
                        refine j_locs hJ [1, 2, 3, 4, 0] rfl ?_
                        refine ih88 ν10 (y + stp (qa p k) (p k / 12) (p k % 12)) (s + 1) (by omega) (by omega) (by rw [hy]; push_cast; rw [Int.add_mul, Int.one_mul]; omega) (by rw [hM145, up_self, qT_step]; exact len_snoc _ _) ?_ (by intro x a c; rw [hM145, up_rowf (by omega), hM137, up_rowf (by omega)]; exact hoj x a c) (by intro a g1 g2 g3; rw [hM145, up_rowf g1, hM137, up_rowf g2]; exact hFj a g1 g2 g3) (by intro j g; rw [hM145]; unfold up; rw [if_neg (by omega), hM137, up_rowf (by omega)]; exact h0j j g)
                        · rw [hM145, up_rowf (by omega), qT_step, hM137]
                          exact hAj.snoc (fun q q0 q1 => by rw [up_at (by omega)]) (by rw [up_self, hy, Int.add_mul, Int.one_mul]; omega)
                  refine j_locs hJ [2, 3, 4, 1, 0] rfl ?_
                  refine lp88 (100 - 0 + 1) νq (p k) 0 (by omega) (by exact far_nn _ _) (by first | exact qa_i1 (by omega) | exact qa_i0 (by omega) | (exfalso; omega)) ?_ ?_ ?_ ?_ ?_
                  · first
                    | (exfalso; omega)
                    | (rw [qT_0, qT_pos hk0]; exact hl)
                    | (rw [hM85, up_self, qT_0, show k = 0 by omega]; rfl)
                  · first
                    | (exfalso; omega)
                    | (rw [qT_0, qT_pos hk0]; exact hA)
                    | (rw [hM85, up_rowf (by omega), qT_0, show k = 0 by omega]; exact arr1 (by rw [hM82, up_self, show k = 0 by omega]))
                  · first
                    | (exfalso; omega)
                    | exact ho
                    | (intro x a c; rw [hM85, up_rowf (by omega), hM82, up_rowf (by omega)]; exact ho x a c)
                  · first
                    | (exfalso; omega)
                    | exact hF
                    | (intro a g1 g2 g3; rw [hM85, up_rowf g1, hM82, up_rowf g2]; exact hF a g1 g2 g3)
                  · first
                    | (exfalso; omega)
                    | exact h0
                    | (intro j g; rw [hM85]; unfold up; rw [if_neg (by omega), hM82, up_rowf (by omega)]; exact h0 j g)
                · intro h73
                  refine j_aload_n hJ (j := 2) rfl rfl dX5_tracks_76 ?_
                  refine w_getr hJ (by omega) rfl rfl f_X5_32 dX5_tracks_77 ?_
                  refine j_iconst hJ dX5_tracks_80 ?_
                  refine j_iload_n hJ (j := 1) rfl rfl dX5_tracks_81 ?_
                  refine w_iast hJ (by omega) rfl (by first | decide | omega) (by omega) (by omega) dX5_tracks_82 ?_
                  intro ν11 hν11
                  have hM82 := hν11
                  refine j_aload_n hJ (j := 2) rfl rfl dX5_tracks_83 ?_
                  refine j_iconst hJ dX5_tracks_84 ?_
                  refine w_puti hJ (fi := 9) rfl (by omega) rfl rfl f_X5_80 rfl rfl dX5_tracks_85 ?_
                  intro ν12 hν12
                  have hM85 := hν12
                  have lp88 : ∀ (nn88 : Nat) (νj : Nat → Int → Int) (y : Int) (s : Nat) (hmeas88 : 100 - s < nn88) (hs : (s : Int) ≤ far (qa p k) (p k / 12) (p k % 12)) (hy : y = qa p k + s * stp (qa p k) (p k / 12) (p k % 12)) (hlj : νj 0 9 = ((qT p k ++ segk (qa p k) (stp (qa p k) (p k / 12) (p k % 12)) s).length : Nat)) (hAj : ArrL (νj 8) (qT p k ++ segk (qa p k) (stp (qa p k) (p k / 12) (p k % 12)) s)) (hoj : ∀ x, 0 ≤ x → x < 144 → νj 9 x = 0) (hFj : ∀ a, a ≠ 0 → a ≠ 8 → a ≠ 9 → νj a = ν a) (h0j : ∀ j, j ≠ 9 → νj 0 j = ν 0 j), J (gw 14 MSh cy b νj ++ E) 0 0 88 [(0, .ref (b 0)), (1, .int (zI (i : Int))), (2, .int (zI (k : Int))), (3, .int (zI (p k))), (4, .int (zI y))] [] := by
                    intro nn88
                    induction nn88 with
                    | zero => intro νj y s hmeas88 hs hy hlj hAj hoj hFj h0j; omega
                    | succ nn88 ih88 =>
                      intro νj y s hmeas88 hs hy hlj hAj hoj hFj h0j
                      refine j_iload hJ (j := 4) rfl dX5_tracks_88 ?_
                      refine j_iload_n hJ (j := 3) rfl rfl dX5_tracks_90 ?_
                      obtain ⟨w1, w2, w3⟩ := walk_step qr pr qo hs hy
                      refine j_icmp_eq hJ (tgt := 151) ⟨by omega, by omega⟩ ⟨by omega, by omega⟩ (by decide) dX5_tracks_91 ?_ ?_
                      · intro h91
                        have hfin : s = (far (qa p k) (p k / 12) (p k % 12)).toNat := by have := w2.mp h91; omega
                        refine j_iinc hJ (lv' := [(2, .int (zI ((k : Int) + 1))), (0, .ref (b 0)), (1, .int (zI (i : Int))), (3, .int (zI (p k))), (4, .int (zI y))]) (j := 2) rfl (by omega) (by decide) rfl dX5_tracks_151 ?_
                        refine j_goto hJ (tgt := 29) (by decide) dX5_tracks_154 ?_
                        refine j_locs hJ [1, 2, 0] rfl ?_
                        exact ih29 νj (k + 1) (by omega) (by omega) (by rw [qT_seg, seg, ← hfin]; exact hlj) (by rw [qT_seg, seg, ← hfin]; exact hAj) (by exact hoj) (by exact hFj) (by exact h0j)
                      · intro h91
                        have hsf : (s : Int) < far (qa p k) (p k / 12) (p k % 12) := by
                          have := fun e => h91 (w2.mpr e)
                          omega
                        have hst := w3 hsf
                        have hlen2 : ((qT p k ++ segk (qa p k) (stp (qa p k) (p k / 12) (p k % 12)) s).length : Int) < 100 := by rw [List.length_append, segk_len]; push_cast; omega
                        refine j_iload hJ (j := 4) rfl dX5_tracks_94 ?_
                        refine j_bipush hJ (v := 12) (by decide) dX5_tracks_96 ?_
                        refine j_iload hJ (j := 4) rfl dX5_tracks_98 ?_
                        refine j_bipush hJ (v := 12) (by decide) dX5_tracks_100 ?_
                        refine j_idiv hJ (by omega) (by omega) (by omega) (by omega) dX5_tracks_102 ?_
                        refine j_iload_n hJ (j := 3) rfl rfl dX5_tracks_103 ?_
                        refine j_bipush hJ (v := 12) (by decide) dX5_tracks_104 ?_
                        refine j_idiv hJ (by omega) (by omega) (by omega) (by omega) dX5_tracks_106 ?_
                        refine j_callS0 hJ (c_X5_way hfl ⟨by omega, by omega⟩ ⟨by omega, by omega⟩) m_X5_83 k_X5_way ⟨(Nat.le_of_ble_eq_true rfl), (Nat.le_of_ble_eq_true rfl)⟩ ⟨(Nat.le_of_ble_eq_true rfl), (Nat.le_of_ble_eq_true rfl)⟩ (Nat.le_of_ble_eq_true rfl) dX5_tracks_107 rfl ?_
                        intro v19 u20 hv21
                        obtain ⟨_, rfl, rfl, rfl⟩ := hv21
                        show J (gw 14 MSh cy b νj ++ E) 0 0 110 [(0, .ref (b 0)), (1, .int (zI (i : Int))), (2, .int (zI (k : Int))), (3, .int (zI (p k))), (4, .int (zI y))] [.int (zI (sg (p k / 12 - y / 12))), .int (zI 12), .int (zI y)]
                        refine j_imul hJ dX5_tracks_110 ?_
                        refine j_iload hJ (j := 4) rfl dX5_tracks_111 ?_
                        refine j_bipush hJ (v := 12) (by decide) dX5_tracks_113 ?_
                        refine j_irem hJ (by omega) (by omega) (by omega) (by omega) dX5_tracks_115 ?_
                        refine j_iload_n hJ (j := 3) rfl rfl dX5_tracks_116 ?_
                        refine j_bipush hJ (v := 12) (by decide) dX5_tracks_117 ?_
                        refine j_irem hJ (by omega) (by omega) (by omega) (by omega) dX5_tracks_119 ?_
                        refine j_callS0 hJ (c_X5_way hfl ⟨by omega, by omega⟩ ⟨by omega, by omega⟩) m_X5_83 k_X5_way ⟨(Nat.le_of_ble_eq_true rfl), (Nat.le_of_ble_eq_true rfl)⟩ ⟨(Nat.le_of_ble_eq_true rfl), (Nat.le_of_ble_eq_true rfl)⟩ (Nat.le_of_ble_eq_true rfl) dX5_tracks_120 rfl ?_
                        intro v22 u23 hv24
                        obtain ⟨_, rfl, rfl, rfl⟩ := hv24
                        show J (gw 14 MSh cy b νj ++ E) 0 0 123 [(0, .ref (b 0)), (1, .int (zI (i : Int))), (2, .int (zI (k : Int))), (3, .int (zI (p k))), (4, .int (zI y))] [.int (zI (sg (p k % 12 - y % 12))), .int (zI (12 * (sg (p k / 12 - y / 12)))), .int (zI y)]
                        refine j_iadd hJ dX5_tracks_123 ?_
                        refine j_iadd hJ dX5_tracks_124 ?_
                        refine j_topi (y := zI (y + stp (qa p k) (p k / 12) (p k % 12))) (by rw [← hst]) ?_
                        refine j_istore hJ (lv' := [(4, .int (zI (y + stp (qa p k) (p k / 12) (p k % 12)))), (0, .ref (b 0)), (1, .int (zI (i : Int))), (2, .int (zI (k : Int))), (3, .int (zI (p k)))]) (by decide) rfl dX5_tracks_125 ?_
                        refine j_aload_n hJ (j := 1) rfl rfl dX5_tracks_127 ?_
                        refine w_getr hJ (by omega) rfl rfl f_X5_32 dX5_tracks_128 ?_
                        refine j_aload_n hJ (j := 1) rfl rfl dX5_tracks_131 ?_
                        refine w_geti hJ (fi := 9) rfl (by omega) rfl rfl f_X5_80 dX5_tracks_132 ?_
                        refine j_topi (y := zI ((qT p k ++ segk (qa p k) (stp (qa p k) (p k / 12) (p k % 12)) s).length : Nat)) (by rw [hlj]) ?_
                        refine j_iload hJ (j := 0) rfl dX5_tracks_135 ?_
                        refine w_iast hJ (by omega) rfl (by first | decide | omega) (by omega) (by omega) dX5_tracks_137 ?_
                        intro ν13 hν13
                        have hM137 := hν13
                        refine j_aload_n hJ (j := 1) rfl rfl dX5_tracks_138 ?_
                        refine j_dup hJ rfl dX5_tracks_139 ?_
                        refine w_geti hJ (fi := 9) rfl (by omega) rfl rfl f_X5_80 dX5_tracks_140 ?_
                        refine j_topi (y := zI ((qT p k ++ segk (qa p k) (stp (qa p k) (p k / 12) (p k % 12)) s).length : Nat)) (by rw [hM137, up_rowf (by omega), hlj]) ?_
                        refine j_iconst hJ dX5_tracks_143 ?_
                        refine j_iadd hJ dX5_tracks_144 ?_
                        refine w_puti hJ (fi := 9) rfl (by omega) rfl rfl f_X5_80 rfl rfl dX5_tracks_145 ?_
                        intro ν14 hν14
                        have hM145 := hν14
                        refine j_goto hJ (tgt := 88) (by decide) dX5_tracks_148 ?_
                        refine j_locs hJ [1, 2, 3, 4, 0] rfl ?_
                        refine ih88 ν14 (y + stp (qa p k) (p k / 12) (p k % 12)) (s + 1) (by omega) (by omega) (by rw [hy]; push_cast; rw [Int.add_mul, Int.one_mul]; omega) (by rw [hM145, up_self, qT_step]; exact len_snoc _ _) ?_ (by intro x a c; rw [hM145, up_rowf (by omega), hM137, up_rowf (by omega)]; exact hoj x a c) (by intro a g1 g2 g3; rw [hM145, up_rowf g1, hM137, up_rowf g2]; exact hFj a g1 g2 g3) (by intro j g; rw [hM145]; unfold up; rw [if_neg (by omega), hM137, up_rowf (by omega)]; exact h0j j g)
                        · rw [hM145, up_rowf (by omega), qT_step, hM137]
                          exact hAj.snoc (fun q q0 q1 => by rw [up_at (by omega)]) (by rw [up_self, hy, Int.add_mul, Int.one_mul]; omega)
                  refine j_locs hJ [2, 3, 4, 1, 0] rfl ?_
                  refine lp88 (100 - 0 + 1) ν12 (p k) 0 (by omega) (by exact far_nn _ _) (by first | exact qa_i1 (by omega) | exact qa_i0 (by omega) | (exfalso; omega)) ?_ ?_ ?_ ?_ ?_
                  · first
                    | (exfalso; omega)
                    | (rw [qT_0, qT_pos hk0]; exact hl)
                    | (rw [hM85, up_self, qT_0, show k = 0 by omega]; rfl)
                  · first
                    | (exfalso; omega)
                    | (rw [qT_0, qT_pos hk0]; exact hA)
                    | (rw [hM85, up_rowf (by omega), qT_0, show k = 0 by omega]; exact arr1 (by rw [hM82, up_self, show k = 0 by omega]))
                  · first
                    | (exfalso; omega)
                    | exact ho
                    | (intro x a c; rw [hM85, up_rowf (by omega), hM82, up_rowf (by omega)]; exact ho x a c)
                  · first
                    | (exfalso; omega)
                    | exact hF
                    | (intro a g1 g2 g3; rw [hM85, up_rowf g1, hM82, up_rowf g2]; exact hF a g1 g2 g3)
                  · first
                    | (exfalso; omega)
                    | exact h0
                    | (intro j g; rw [hM85]; unfold up; rw [if_neg (by omega), hM82, up_rowf (by omega)]; exact h0 j g)
        refine j_locs hJ [1, 2, 0] rfl ?_
        exact lp29 (m - 0 + 1) νk 0 (by omega) (by omega) (by rw [hl]; rfl) (by intro q x hx; simp [trk] at hx) (by exact fun x a b => ho x a (by omega)) (by exact fun a g1 _ g3 => hF a g1 g3) (by exact h0)
      · intro h11
        refine j_aload_n hJ (j := 0) rfl rfl dX5_tracks_14 ?_
        refine w_getr hJ (by omega) rfl rfl f_X5_35 dX5_tracks_15 ?_
        refine j_iload_n hJ (j := 2) rfl rfl dX5_tracks_18 ?_
        refine j_iconst hJ dX5_tracks_19 ?_
        refine w_zast hJ (by omega) rfl (by first | decide | omega) (by omega) (by omega) (by omega) dX5_tracks_20 ?_
        intro ν15 hν15
        have hM20 := hν15
        refine j_iinc hJ (lv' := [(2, .int (zI (k + 1))), (0, .ref (b 0)), (1, .int (zI (i : Int)))]) (j := 2) rfl (by omega) (by decide) rfl dX5_tracks_21 ?_
        refine j_goto hJ (tgt := 7) (by decide) dX5_tracks_24 ?_
        refine j_locs hJ [1, 2, 0] rfl ?_
        refine ih7 ν15 (k + 1) (by omega) (by omega) (by rw [hM20, up_rowf (by omega)]; exact hl) ?_ (by intro a g1 g2; rw [hM20, up_rowf g2]; exact hF a g1 g2) (by intro j g; rw [hM20, up_rowf (by omega)]; exact h0 j g)
        · intro x a b
          rw [hM20]
          unfold up
          by_cases e : x = k
          · rw [if_pos ⟨rfl, e⟩]
          · rw [if_neg (by omega)]; exact ho x a (by omega)
  refine j_locs hJ [1, 2, 0] rfl ?_
  exact lp7 145 ν1 0 (by omega) (by omega) (by rw [hM2, up_self]) (by intro x a b; omega) (by intro a g1 g2; rw [hM2]; exact up_rowf g1) (by intro j g; rw [hM2]; unfold up; rw [if_neg (by omega)])
set_option maxHeartbeats 4000000 in
set_option maxRecDepth 100000 in
theorem c_X5_tracked {ν : Nat → Int → Int} {i m : Nat} {p : Nat → Int} (hfl : l.stackTraces = false) (hi : i < 16) (hP : PtM ν i p m) : CT l D cy n0 ad yX5_tracked (.code yX5_tracked cX5_tracked 2 (some .int)) ({ frames := 2, cells := 0, slots := 0, locals := 45 }) [.ref (b 0), .int (zI (i : Int))] (gw 14 MSh cy b ν ++ E) (fun vv uu => ∃ q μ', vv = some (.int (zI q)) ∧ uu = (gw 14 MSh cy b μ' ++ E) ∧ (q = ((trk p m).length : Nat) ∧ TrM μ' (trk p m) ∧ FrD ν μ')) := by
  refine CT.walk hfl (by decide) (Nat.le_of_ble_eq_true rfl) ?_
  intro A J hJ
  show J (gw 14 MSh cy b ν ++ E) 0 0 0 [(0, .ref (b 0)), (1, .int (zI (i : Int)))] []
  refine j_aload_n hJ (j := 0) rfl rfl dX5_tracked_0 ?_
  refine j_iload_n hJ (j := 1) rfl rfl dX5_tracked_1 ?_
  refine j_callV0 hJ (c_X5_tracks hfl hi hP) m_X5_86 k_X5_tracks (q0 := 0) (by rw [gw_get (by decide)]; rfl) rfl ⟨(Nat.le_of_ble_eq_true rfl), (Nat.le_of_ble_eq_true rfl)⟩ ⟨(Nat.le_of_ble_eq_true rfl), (Nat.le_of_ble_eq_true rfl)⟩ (Nat.le_of_ble_eq_true rfl) dX5_tracked_2 rfl ?_
  intro v1 u2 hv3
  obtain ⟨ν1, rfl, rfl, h2⟩ := hv3
  show J (gw 14 MSh cy b ν1 ++ E) 0 0 5 [(0, .ref (b 0)), (1, .int (zI (i : Int)))] []
  refine j_aload_n hJ (j := 0) rfl rfl dX5_tracked_5 ?_
  refine w_geti hJ (fi := 9) rfl (by omega) rfl rfl f_X5_80 dX5_tracked_6 ?_
  refine j_topi (y := zI ((trk p m).length : Nat)) (by rw [h2.1.1]) ?_
  refine j_iret hJ rfl rfl (rfl) (Nat.le_of_ble_eq_true rfl) (Nat.le_of_ble_eq_true rfl) dX5_tracked_9 ⟨((trk p m).length : Nat), ν1, rfl, rfl, ?_⟩
  exact ⟨rfl, h2.1, h2.2⟩
set_option maxHeartbeats 4000000 in
set_option maxRecDepth 100000 in
theorem c_X5_thrown {ν : Nat → Int → Int} (hfl : l.stackTraces = false)  : CT l D cy n0 ad yX5_thrown (.code yX5_thrown cX5_thrown 1 (some .int)) ({ frames := 0, cells := 0, slots := 0, locals := 0 }) [.ref (b 0)] (gw 14 MSh cy b ν ++ E) (fun vv uu => ∃ q, vv = some (.int (zI q)) ∧ uu = (gw 14 MSh cy b ν ++ E) ∧ (q = ν 0 16)) := by
  refine CT.walk hfl (by decide) (Nat.le_of_ble_eq_true rfl) ?_
  intro A J hJ
  show J (gw 14 MSh cy b ν ++ E) 0 0 0 [(0, .ref (b 0))] []
  refine j_aload_n hJ (j := 0) rfl rfl dX5_thrown_0 ?_
  refine w_geti hJ (fi := 16) rfl (by omega) rfl rfl f_X5_54 dX5_thrown_1 ?_
  refine j_iret hJ rfl rfl (rfl) (Nat.le_of_ble_eq_true rfl) (Nat.le_of_ble_eq_true rfl) dX5_thrown_4 ⟨(ν 0 16), rfl, rfl, ?_⟩
  rfl
set_option maxHeartbeats 4000000 in
set_option maxRecDepth 100000 in
theorem c_X5_streets {ν : Nat → Int → Int} {kd : Int → Int} {n : Nat} {N : Nat → List Int} {ow : Nat → Int} {m : Nat → Nat} {p : Nat → Nat → Int} (hfl : l.stackTraces = false) (hX : MI ν kd n N ow m p) : CT l D cy n0 ad yX5_streets (.code yX5_streets cX5_streets 1 (some .int)) ({ frames := 0, cells := 0, slots := 0, locals := 0 }) [.ref (b 0)] (gw 14 MSh cy b ν ++ E) (fun vv uu => ∃ q μ', vv = some (.int (zI q)) ∧ uu = (gw 14 MSh cy b μ' ++ E) ∧ (μ' 0 16 = 0 ∧ q = n ∧ MI μ' kd n N ow m p)) := by
  obtain ⟨x1, x2, x3, x4, x5, x6, x7, x8⟩ := id hX
  refine CT.walk hfl (by decide) (Nat.le_of_ble_eq_true rfl) ?_
  intro A J hJ
  show J (gw 14 MSh cy b ν ++ E) 0 0 0 [(0, .ref (b 0))] []
  refine j_aload_n hJ (j := 0) rfl rfl dX5_streets_0 ?_
  refine j_iconst hJ dX5_streets_1 ?_
  refine w_puti hJ (fi := 16) rfl (by omega) rfl rfl f_X5_54 rfl rfl dX5_streets_2 ?_
  intro ν1 hν1
  have hM := hν1
  refine j_aload_n hJ (j := 0) rfl rfl dX5_streets_5 ?_
  refine w_geti hJ (fi := 7) rfl (by omega) rfl rfl f_X5_58 dX5_streets_6 ?_
  refine j_topi (y := zI (n : Int)) (by rw [hM, show up ν 0 16 0 0 7 = ν 0 7 by unfold up; rw [if_neg (by omega)], x1]) ?_
  refine j_iret hJ rfl rfl (rfl) (Nat.le_of_ble_eq_true rfl) (Nat.le_of_ble_eq_true rfl) dX5_streets_9 ⟨(n : Int), ν1, rfl, rfl, ?_⟩
  exact ⟨by rw [hM, up_self], rfl, by rw [hM]; exact hX.scratch FrM.last⟩
end
