/-! the law: words, keys, their order -/
set_option maxRecDepth 20000 in
theorem m_L_15 : MF RL 15 1 yL_rank 1 := ⟨Or.inl (List.mem_of_getElem? (i := 396) (by decide +kernel)), (List.mem_of_getElem? (i := 39) (by decide +kernel)), ⟨by decide +kernel, by decide +kernel⟩, by decide +kernel, fun h => by omega, fun _ => (List.mem_of_getElem? (i := 397) (by decide +kernel)), fun h => by omega⟩
set_option maxRecDepth 20000 in
theorem k_L_rank : Cond.code yL_rank cL_rank 3 (some .int) ∈ GT := (List.mem_of_getElem? (i := 398) (by decide +kernel))
set_option maxRecDepth 20000 in
theorem m_L_9 : MF RL 9 1 yL_keyWord 4 := ⟨Or.inl (List.mem_of_getElem? (i := 393) (by decide +kernel)), (List.mem_of_getElem? (i := 39) (by decide +kernel)), ⟨by decide +kernel, by decide +kernel⟩, by decide +kernel, fun h => by omega, fun _ => (List.mem_of_getElem? (i := 394) (by decide +kernel)), fun h => by omega⟩
set_option maxRecDepth 20000 in
theorem k_L_keyWord : Cond.code yL_keyWord cL_keyWord 10 (some .int) ∈ GT := (List.mem_of_getElem? (i := 395) (by decide +kernel))
set_option maxRecDepth 20000 in
theorem m_L_19 : MF RL 19 1 yL_compare 5 := ⟨Or.inl (List.mem_of_getElem? (i := 390) (by decide +kernel)), (List.mem_of_getElem? (i := 39) (by decide +kernel)), ⟨by decide +kernel, by decide +kernel⟩, by decide +kernel, fun h => by omega, fun _ => (List.mem_of_getElem? (i := 391) (by decide +kernel)), fun h => by omega⟩
set_option maxRecDepth 20000 in
theorem k_L_compare : Cond.code yL_compare cL_compare 9 (some .int) ∈ GT := (List.mem_of_getElem? (i := 392) (by decide +kernel))
section
variable {l : Launch} {D : va_G} {cy : Nat → ClassId} {n0 : Nat} {ad : Nat → Nat} {b ba : Nat → Nat} {E : va_W} {ws : va_W}
set_option maxHeartbeats 4000000 in
set_option maxRecDepth 100000 in
theorem c_L_rank {w : Int} (hfl : l.stackTraces = false) (hw : 0 ≤ w ∧ w < 24) : CT l D cy n0 ad yL_rank (.code yL_rank cL_rank 3 (some .int)) ({ frames := 0, cells := 0, slots := 0, locals := 0 }) [.int (zI w)] ws (fun vv uu => ∃ q, vv = some (.int (zI q)) ∧ uu = ws ∧ (q = rk w)) := by
  refine CT.walk hfl (by decide) (Nat.le_of_ble_eq_true rfl) ?_
  intro A J hJ
  show J ws 0 0 0 [(0, .int (zI w))] []
  have j124 : ∀ (lo : Int) (hlo : (w < 12 ∧ lo = rk w) ∨ (12 ≤ w ∧ lo = -1)), J ws 0 0 124 [(0, .int (zI w))] [.int (zI lo)] := by
    intro lo hlo
    refine j_istore_n hJ (lv' := [(1, .int (zI lo)), (0, .int (zI w))]) rfl (by decide) rfl dL_rank_124 ?_
    have j244 : ∀ (hi : Int) (hhi : 12 ≤ w → hi = rk w), J ws 0 0 244 [(0, .int (zI w)), (1, .int (zI lo))] [.int (zI hi)] := by
      intro hi hhi
      refine j_istore_n hJ (lv' := [(2, .int (zI hi)), (0, .int (zI w)), (1, .int (zI lo))]) rfl (by decide) rfl dL_rank_244 ?_
      refine j_iload_n hJ (j := 2) rfl rfl dL_rank_245 ?_
      have hr := rk_rng w
      refine j_if_lt hJ (tgt := 253) ⟨by omega, by omega⟩ (by decide) dL_rank_246 ?_ ?_
      · intro h246
        refine j_iload_n hJ (j := 0) rfl rfl dL_rank_253 ?_
        refine j_iret hJ rfl rfl (rfl) (Nat.le_of_ble_eq_true rfl) (Nat.le_of_ble_eq_true rfl) dL_rank_254 ⟨hi, rfl, rfl, ?_⟩
        exact hhi (by omega)
      · intro h246
        refine j_iload_n hJ (j := 2) rfl rfl dL_rank_249 ?_
        refine j_goto hJ (tgt := 254) (by decide) dL_rank_250 ?_
        refine j_iret hJ rfl rfl (rfl) (Nat.le_of_ble_eq_true rfl) (Nat.le_of_ble_eq_true rfl) dL_rank_254 ⟨lo, rfl, rfl, ?_⟩
        omega
    refine j_iload_n hJ (j := 1) rfl rfl dL_rank_125 ?_
    refine j_bipush hJ (v := 12) (by decide) dL_rank_126 ?_
    refine j_icmp_ne hJ (tgt := 136) ⟨by omega, by omega⟩ ⟨by omega, by omega⟩ (by decide) dL_rank_128 ?_ ?_
    · intro h128
      refine j_iload_n hJ (j := 1) rfl rfl dL_rank_136 ?_
      refine j_bipush hJ (v := 13) (by decide) dL_rank_137 ?_
      refine j_icmp_ne hJ (tgt := 147) ⟨by omega, by omega⟩ ⟨by omega, by omega⟩ (by decide) dL_rank_139 ?_ ?_
      · intro h139
        refine j_iload_n hJ (j := 1) rfl rfl dL_rank_147 ?_
        refine j_bipush hJ (v := 14) (by decide) dL_rank_148 ?_
        refine j_icmp_ne hJ (tgt := 157) ⟨by omega, by omega⟩ ⟨by omega, by omega⟩ (by decide) dL_rank_150 ?_ ?_
        · intro h150
          refine j_iload_n hJ (j := 1) rfl rfl dL_rank_157 ?_
          refine j_bipush hJ (v := 15) (by decide) dL_rank_158 ?_
          refine j_icmp_ne hJ (tgt := 167) ⟨by omega, by omega⟩ ⟨by omega, by omega⟩ (by decide) dL_rank_160 ?_ ?_
          · intro h160
            refine j_iload_n hJ (j := 1) rfl rfl dL_rank_167 ?_
            refine j_bipush hJ (v := 16) (by decide) dL_rank_168 ?_
            refine j_icmp_ne hJ (tgt := 178) ⟨by omega, by omega⟩ ⟨by omega, by omega⟩ (by decide) dL_rank_170 ?_ ?_
            · intro h170
              refine j_iload_n hJ (j := 1) rfl rfl dL_rank_178 ?_
              refine j_bipush hJ (v := 17) (by decide) dL_rank_179 ?_
              refine j_icmp_ne hJ (tgt := 188) ⟨by omega, by omega⟩ ⟨by omega, by omega⟩ (by decide) dL_rank_181 ?_ ?_
              · intro h181
                refine j_iload_n hJ (j := 1) rfl rfl dL_rank_188 ?_
                refine j_bipush hJ (v := 18) (by decide) dL_rank_189 ?_
                refine j_icmp_ne hJ (tgt := 199) ⟨by omega, by omega⟩ ⟨by omega, by omega⟩ (by decide) dL_rank_191 ?_ ?_
                · intro h191
                  refine j_iload_n hJ (j := 1) rfl rfl dL_rank_199 ?_
                  refine j_bipush hJ (v := 19) (by decide) dL_rank_200 ?_
                  refine j_icmp_ne hJ (tgt := 210) ⟨by omega, by omega⟩ ⟨by omega, by omega⟩ (by decide) dL_rank_202 ?_ ?_
                  · intro h202
                    refine j_iload_n hJ (j := 1) rfl rfl dL_rank_210 ?_
                    refine j_bipush hJ (v := 20) (by decide) dL_rank_211 ?_
                    refine j_icmp_ne hJ (tgt := 221) ⟨by omega, by omega⟩ ⟨by omega, by omega⟩ (by decide) dL_rank_213 ?_ ?_
                    · intro h213
                      refine j_iload_n hJ (j := 1) rfl rfl dL_rank_221 ?_
                      refine j_bipush hJ (v := 21) (by decide) dL_rank_222 ?_
                      refine j_icmp_ne hJ (tgt := 232) ⟨by omega, by omega⟩ ⟨by omega, by omega⟩ (by decide) dL_rank_224 ?_ ?_
                      · intro h224
                        refine j_iload_n hJ (j := 1) rfl rfl dL_rank_232 ?_
                        refine j_bipush hJ (v := 22) (by decide) dL_rank_233 ?_
                        refine j_icmp_ne hJ (tgt := 243) ⟨by omega, by omega⟩ ⟨by omega, by omega⟩ (by decide) dL_rank_235 ?_ ?_
                        · intro h235
                          refine j_iconst hJ dL_rank_243 ?_
                          refine j_locs hJ [1, 0] rfl ?_
                          exact j244 4 (by intro h12; first | (obtain rfl : w = 12 := (by omega); decide) | (obtain rfl : w = 13 := (by omega); decide) | (obtain rfl : w = 14 := (by omega); decide) | (obtain rfl : w = 15 := (by omega); decide) | (obtain rfl : w = 16 := (by omega); decide) | (obtain rfl : w = 17 := (by omega); decide) | (obtain rfl : w = 18 := (by omega); decide) | (obtain rfl : w = 19 := (by omega); decide) | (obtain rfl : w = 20 := (by omega); decide) | (obtain rfl : w = 21 := (by omega); decide) | (obtain rfl : w = 22 := (by omega); decide) | (obtain rfl : w = 23 := (by omega); decide))
                        · intro h235
                          refine j_bipush hJ (v := 17) (by decide) dL_rank_238 ?_
                          refine j_goto hJ (tgt := 244) (by decide) dL_rank_240 ?_
                          refine j_locs hJ [1, 0] rfl ?_
                          exact j244 17 (by intro h12; first | (obtain rfl : w = 12 := (by omega); decide) | (obtain rfl : w = 13 := (by omega); decide) | (obtain rfl : w = 14 := (by omega); decide) | (obtain rfl : w = 15 := (by omega); decide) | (obtain rfl : w = 16 := (by omega); decide) | (obtain rfl : w = 17 := (by omega); decide) | (obtain rfl : w = 18 := (by omega); decide) | (obtain rfl : w = 19 := (by omega); decide) | (obtain rfl : w = 20 := (by omega); decide) | (obtain rfl : w = 21 := (by omega); decide) | (obtain rfl : w = 22 := (by omega); decide) | (obtain rfl : w = 23 := (by omega); decide))
                      · intro h224
                        refine j_bipush hJ (v := 16) (by decide) dL_rank_227 ?_
                        refine j_goto hJ (tgt := 244) (by decide) dL_rank_229 ?_
                        refine j_locs hJ [1, 0] rfl ?_
                        exact j244 16 (by intro h12; first | (obtain rfl : w = 12 := (by omega); decide) | (obtain rfl : w = 13 := (by omega); decide) | (obtain rfl : w = 14 := (by omega); decide) | (obtain rfl : w = 15 := (by omega); decide) | (obtain rfl : w = 16 := (by omega); decide) | (obtain rfl : w = 17 := (by omega); decide) | (obtain rfl : w = 18 := (by omega); decide) | (obtain rfl : w = 19 := (by omega); decide) | (obtain rfl : w = 20 := (by omega); decide) | (obtain rfl : w = 21 := (by omega); decide) | (obtain rfl : w = 22 := (by omega); decide) | (obtain rfl : w = 23 := (by omega); decide))
                    · intro h213
                      refine j_bipush hJ (v := 6) (by decide) dL_rank_216 ?_
                      refine j_goto hJ (tgt := 244) (by decide) dL_rank_218 ?_
                      refine j_locs hJ [1, 0] rfl ?_
                      exact j244 6 (by intro h12; first | (obtain rfl : w = 12 := (by omega); decide) | (obtain rfl : w = 13 := (by omega); decide) | (obtain rfl : w = 14 := (by omega); decide) | (obtain rfl : w = 15 := (by omega); decide) | (obtain rfl : w = 16 := (by omega); decide) | (obtain rfl : w = 17 := (by omega); decide) | (obtain rfl : w = 18 := (by omega); decide) | (obtain rfl : w = 19 := (by omega); decide) | (obtain rfl : w = 20 := (by omega); decide) | (obtain rfl : w = 21 := (by omega); decide) | (obtain rfl : w = 22 := (by omega); decide) | (obtain rfl : w = 23 := (by omega); decide))
                  · intro h202
                    refine j_bipush hJ (v := 20) (by decide) dL_rank_205 ?_
                    refine j_goto hJ (tgt := 244) (by decide) dL_rank_207 ?_
                    refine j_locs hJ [1, 0] rfl ?_
                    exact j244 20 (by intro h12; first | (obtain rfl : w = 12 := (by omega); decide) | (obtain rfl : w = 13 := (by omega); decide) | (obtain rfl : w = 14 := (by omega); decide) | (obtain rfl : w = 15 := (by omega); decide) | (obtain rfl : w = 16 := (by omega); decide) | (obtain rfl : w = 17 := (by omega); decide) | (obtain rfl : w = 18 := (by omega); decide) | (obtain rfl : w = 19 := (by omega); decide) | (obtain rfl : w = 20 := (by omega); decide) | (obtain rfl : w = 21 := (by omega); decide) | (obtain rfl : w = 22 := (by omega); decide) | (obtain rfl : w = 23 := (by omega); decide))
                · intro h191
                  refine j_bipush hJ (v := 19) (by decide) dL_rank_194 ?_
                  refine j_goto hJ (tgt := 244) (by decide) dL_rank_196 ?_
                  refine j_locs hJ [1, 0] rfl ?_
                  exact j244 19 (by intro h12; first | (obtain rfl : w = 12 := (by omega); decide) | (obtain rfl : w = 13 := (by omega); decide) | (obtain rfl : w = 14 := (by omega); decide) | (obtain rfl : w = 15 := (by omega); decide) | (obtain rfl : w = 16 := (by omega); decide) | (obtain rfl : w = 17 := (by omega); decide) | (obtain rfl : w = 18 := (by omega); decide) | (obtain rfl : w = 19 := (by omega); decide) | (obtain rfl : w = 20 := (by omega); decide) | (obtain rfl : w = 21 := (by omega); decide) | (obtain rfl : w = 22 := (by omega); decide) | (obtain rfl : w = 23 := (by omega); decide))
              · intro h181
                refine j_iconst hJ dL_rank_184 ?_
                refine j_goto hJ (tgt := 244) (by decide) dL_rank_185 ?_
                refine j_locs hJ [1, 0] rfl ?_
                exact j244 1 (by intro h12; first | (obtain rfl : w = 12 := (by omega); decide) | (obtain rfl : w = 13 := (by omega); decide) | (obtain rfl : w = 14 := (by omega); decide) | (obtain rfl : w = 15 := (by omega); decide) | (obtain rfl : w = 16 := (by omega); decide) | (obtain rfl : w = 17 := (by omega); decide) | (obtain rfl : w = 18 := (by omega); decide) | (obtain rfl : w = 19 := (by omega); decide) | (obtain rfl : w = 20 := (by omega); decide) | (obtain rfl : w = 21 := (by omega); decide) | (obtain rfl : w = 22 := (by omega); decide) | (obtain rfl : w = 23 := (by omega); decide))
            · intro h170
              refine j_bipush hJ (v := 9) (by decide) dL_rank_173 ?_
              refine j_goto hJ (tgt := 244) (by decide) dL_rank_175 ?_
              refine j_locs hJ [1, 0] rfl ?_
              exact j244 9 (by intro h12; first | (obtain rfl : w = 12 := (by omega); decide) | (obtain rfl : w = 13 := (by omega); decide) | (obtain rfl : w = 14 := (by omega); decide) | (obtain rfl : w = 15 := (by omega); decide) | (obtain rfl : w = 16 := (by omega); decide) | (obtain rfl : w = 17 := (by omega); decide) | (obtain rfl : w = 18 := (by omega); decide) | (obtain rfl : w = 19 := (by omega); decide) | (obtain rfl : w = 20 := (by omega); decide) | (obtain rfl : w = 21 := (by omega); decide) | (obtain rfl : w = 22 := (by omega); decide) | (obtain rfl : w = 23 := (by omega); decide))
          · intro h160
            refine j_iconst hJ dL_rank_163 ?_
            refine j_goto hJ (tgt := 244) (by decide) dL_rank_164 ?_
            refine j_locs hJ [1, 0] rfl ?_
            exact j244 0 (by intro h12; first | (obtain rfl : w = 12 := (by omega); decide) | (obtain rfl : w = 13 := (by omega); decide) | (obtain rfl : w = 14 := (by omega); decide) | (obtain rfl : w = 15 := (by omega); decide) | (obtain rfl : w = 16 := (by omega); decide) | (obtain rfl : w = 17 := (by omega); decide) | (obtain rfl : w = 18 := (by omega); decide) | (obtain rfl : w = 19 := (by omega); decide) | (obtain rfl : w = 20 := (by omega); decide) | (obtain rfl : w = 21 := (by omega); decide) | (obtain rfl : w = 22 := (by omega); decide) | (obtain rfl : w = 23 := (by omega); decide))
        · intro h150
          refine j_iconst hJ dL_rank_153 ?_
          refine j_goto hJ (tgt := 244) (by decide) dL_rank_154 ?_
          refine j_locs hJ [1, 0] rfl ?_
          exact j244 2 (by intro h12; first | (obtain rfl : w = 12 := (by omega); decide) | (obtain rfl : w = 13 := (by omega); decide) | (obtain rfl : w = 14 := (by omega); decide) | (obtain rfl : w = 15 := (by omega); decide) | (obtain rfl : w = 16 := (by omega); decide) | (obtain rfl : w = 17 := (by omega); decide) | (obtain rfl : w = 18 := (by omega); decide) | (obtain rfl : w = 19 := (by omega); decide) | (obtain rfl : w = 20 := (by omega); decide) | (obtain rfl : w = 21 := (by omega); decide) | (obtain rfl : w = 22 := (by omega); decide) | (obtain rfl : w = 23 := (by omega); decide))
      · intro h139
        refine j_bipush hJ (v := 12) (by decide) dL_rank_142 ?_
        refine j_goto hJ (tgt := 244) (by decide) dL_rank_144 ?_
        refine j_locs hJ [1, 0] rfl ?_
        exact j244 12 (by intro h12; first | (obtain rfl : w = 12 := (by omega); decide) | (obtain rfl : w = 13 := (by omega); decide) | (obtain rfl : w = 14 := (by omega); decide) | (obtain rfl : w = 15 := (by omega); decide) | (obtain rfl : w = 16 := (by omega); decide) | (obtain rfl : w = 17 := (by omega); decide) | (obtain rfl : w = 18 := (by omega); decide) | (obtain rfl : w = 19 := (by omega); decide) | (obtain rfl : w = 20 := (by omega); decide) | (obtain rfl : w = 21 := (by omega); decide) | (obtain rfl : w = 22 := (by omega); decide) | (obtain rfl : w = 23 := (by omega); decide))
    · intro h128
      refine j_bipush hJ (v := 10) (by decide) dL_rank_131 ?_
      refine j_goto hJ (tgt := 244) (by decide) dL_rank_133 ?_
      refine j_locs hJ [1, 0] rfl ?_
      exact j244 10 (by intro h12; first | (obtain rfl : w = 12 := (by omega); decide) | (obtain rfl : w = 13 := (by omega); decide) | (obtain rfl : w = 14 := (by omega); decide) | (obtain rfl : w = 15 := (by omega); decide) | (obtain rfl : w = 16 := (by omega); decide) | (obtain rfl : w = 17 := (by omega); decide) | (obtain rfl : w = 18 := (by omega); decide) | (obtain rfl : w = 19 := (by omega); decide) | (obtain rfl : w = 20 := (by omega); decide) | (obtain rfl : w = 21 := (by omega); decide) | (obtain rfl : w = 22 := (by omega); decide) | (obtain rfl : w = 23 := (by omega); decide))
  refine j_iload_n hJ (j := 0) rfl rfl dL_rank_0 ?_
  refine j_if_ne hJ (tgt := 9) ⟨by omega, by omega⟩ (by decide) dL_rank_1 ?_ ?_
  · intro h1
    refine j_iload_n hJ (j := 0) rfl rfl dL_rank_9 ?_
    refine j_iconst hJ dL_rank_10 ?_
    refine j_icmp_ne hJ (tgt := 19) ⟨by omega, by omega⟩ ⟨by omega, by omega⟩ (by decide) dL_rank_11 ?_ ?_
    · intro h11
      refine j_iload_n hJ (j := 0) rfl rfl dL_rank_19 ?_
      refine j_iconst hJ dL_rank_20 ?_
      refine j_icmp_ne hJ (tgt := 29) ⟨by omega, by omega⟩ ⟨by omega, by omega⟩ (by decide) dL_rank_21 ?_ ?_
      · intro h21
        refine j_iload_n hJ (j := 0) rfl rfl dL_rank_29 ?_
        refine j_iconst hJ dL_rank_30 ?_
        refine j_icmp_ne hJ (tgt := 39) ⟨by omega, by omega⟩ ⟨by omega, by omega⟩ (by decide) dL_rank_31 ?_ ?_
        · intro h31
          refine j_iload_n hJ (j := 0) rfl rfl dL_rank_39 ?_
          refine j_iconst hJ dL_rank_40 ?_
          refine j_icmp_ne hJ (tgt := 49) ⟨by omega, by omega⟩ ⟨by omega, by omega⟩ (by decide) dL_rank_41 ?_ ?_
          · intro h41
            refine j_iload_n hJ (j := 0) rfl rfl dL_rank_49 ?_
            refine j_iconst hJ dL_rank_50 ?_
            refine j_icmp_ne hJ (tgt := 59) ⟨by omega, by omega⟩ ⟨by omega, by omega⟩ (by decide) dL_rank_51 ?_ ?_
            · intro h51
              refine j_iload_n hJ (j := 0) rfl rfl dL_rank_59 ?_
              refine j_bipush hJ (v := 6) (by decide) dL_rank_60 ?_
              refine j_icmp_ne hJ (tgt := 70) ⟨by omega, by omega⟩ ⟨by omega, by omega⟩ (by decide) dL_rank_62 ?_ ?_
              · intro h62
                refine j_iload_n hJ (j := 0) rfl rfl dL_rank_70 ?_
                refine j_bipush hJ (v := 7) (by decide) dL_rank_71 ?_
                refine j_icmp_ne hJ (tgt := 81) ⟨by omega, by omega⟩ ⟨by omega, by omega⟩ (by decide) dL_rank_73 ?_ ?_
                · intro h73
                  refine j_iload_n hJ (j := 0) rfl rfl dL_rank_81 ?_
                  refine j_bipush hJ (v := 8) (by decide) dL_rank_82 ?_
                  refine j_icmp_ne hJ (tgt := 91) ⟨by omega, by omega⟩ ⟨by omega, by omega⟩ (by decide) dL_rank_84 ?_ ?_
                  · intro h84
                    refine j_iload_n hJ (j := 0) rfl rfl dL_rank_91 ?_
                    refine j_bipush hJ (v := 9) (by decide) dL_rank_92 ?_
                    refine j_icmp_ne hJ (tgt := 102) ⟨by omega, by omega⟩ ⟨by omega, by omega⟩ (by decide) dL_rank_94 ?_ ?_
                    · intro h94
                      refine j_iload_n hJ (j := 0) rfl rfl dL_rank_102 ?_
                      refine j_bipush hJ (v := 10) (by decide) dL_rank_103 ?_
                      refine j_icmp_ne hJ (tgt := 113) ⟨by omega, by omega⟩ ⟨by omega, by omega⟩ (by decide) dL_rank_105 ?_ ?_
                      · intro h105
                        refine j_iload_n hJ (j := 0) rfl rfl dL_rank_113 ?_
                        refine j_bipush hJ (v := 11) (by decide) dL_rank_114 ?_
                        refine j_icmp_ne hJ (tgt := 123) ⟨by omega, by omega⟩ ⟨by omega, by omega⟩ (by decide) dL_rank_116 ?_ ?_
                        · intro h116
                          refine j_iconst hJ dL_rank_123 ?_
                          exact j124 (-1) (by first | (obtain rfl : w = 0 := (by omega); exact Or.inl ⟨by decide, by decide⟩) | (obtain rfl : w = 1 := (by omega); exact Or.inl ⟨by decide, by decide⟩) | (obtain rfl : w = 2 := (by omega); exact Or.inl ⟨by decide, by decide⟩) | (obtain rfl : w = 3 := (by omega); exact Or.inl ⟨by decide, by decide⟩) | (obtain rfl : w = 4 := (by omega); exact Or.inl ⟨by decide, by decide⟩) | (obtain rfl : w = 5 := (by omega); exact Or.inl ⟨by decide, by decide⟩) | (obtain rfl : w = 6 := (by omega); exact Or.inl ⟨by decide, by decide⟩) | (obtain rfl : w = 7 := (by omega); exact Or.inl ⟨by decide, by decide⟩) | (obtain rfl : w = 8 := (by omega); exact Or.inl ⟨by decide, by decide⟩) | (obtain rfl : w = 9 := (by omega); exact Or.inl ⟨by decide, by decide⟩) | (obtain rfl : w = 10 := (by omega); exact Or.inl ⟨by decide, by decide⟩) | (obtain rfl : w = 11 := (by omega); exact Or.inl ⟨by decide, by decide⟩) | exact Or.inr ⟨by omega, rfl⟩)
                        · intro h116
                          refine j_iconst hJ dL_rank_119 ?_
                          refine j_goto hJ (tgt := 124) (by decide) dL_rank_120 ?_
                          exact j124 5 (by first | (obtain rfl : w = 0 := (by omega); exact Or.inl ⟨by decide, by decide⟩) | (obtain rfl : w = 1 := (by omega); exact Or.inl ⟨by decide, by decide⟩) | (obtain rfl : w = 2 := (by omega); exact Or.inl ⟨by decide, by decide⟩) | (obtain rfl : w = 3 := (by omega); exact Or.inl ⟨by decide, by decide⟩) | (obtain rfl : w = 4 := (by omega); exact Or.inl ⟨by decide, by decide⟩) | (obtain rfl : w = 5 := (by omega); exact Or.inl ⟨by decide, by decide⟩) | (obtain rfl : w = 6 := (by omega); exact Or.inl ⟨by decide, by decide⟩) | (obtain rfl : w = 7 := (by omega); exact Or.inl ⟨by decide, by decide⟩) | (obtain rfl : w = 8 := (by omega); exact Or.inl ⟨by decide, by decide⟩) | (obtain rfl : w = 9 := (by omega); exact Or.inl ⟨by decide, by decide⟩) | (obtain rfl : w = 10 := (by omega); exact Or.inl ⟨by decide, by decide⟩) | (obtain rfl : w = 11 := (by omega); exact Or.inl ⟨by decide, by decide⟩) | exact Or.inr ⟨by omega, rfl⟩)
                      · intro h105
                        refine j_bipush hJ (v := 18) (by decide) dL_rank_108 ?_
                        refine j_goto hJ (tgt := 124) (by decide) dL_rank_110 ?_
                        exact j124 18 (by first | (obtain rfl : w = 0 := (by omega); exact Or.inl ⟨by decide, by decide⟩) | (obtain rfl : w = 1 := (by omega); exact Or.inl ⟨by decide, by decide⟩) | (obtain rfl : w = 2 := (by omega); exact Or.inl ⟨by decide, by decide⟩) | (obtain rfl : w = 3 := (by omega); exact Or.inl ⟨by decide, by decide⟩) | (obtain rfl : w = 4 := (by omega); exact Or.inl ⟨by decide, by decide⟩) | (obtain rfl : w = 5 := (by omega); exact Or.inl ⟨by decide, by decide⟩) | (obtain rfl : w = 6 := (by omega); exact Or.inl ⟨by decide, by decide⟩) | (obtain rfl : w = 7 := (by omega); exact Or.inl ⟨by decide, by decide⟩) | (obtain rfl : w = 8 := (by omega); exact Or.inl ⟨by decide, by decide⟩) | (obtain rfl : w = 9 := (by omega); exact Or.inl ⟨by decide, by decide⟩) | (obtain rfl : w = 10 := (by omega); exact Or.inl ⟨by decide, by decide⟩) | (obtain rfl : w = 11 := (by omega); exact Or.inl ⟨by decide, by decide⟩) | exact Or.inr ⟨by omega, rfl⟩)
                    · intro h94
                      refine j_bipush hJ (v := 7) (by decide) dL_rank_97 ?_
                      refine j_goto hJ (tgt := 124) (by decide) dL_rank_99 ?_
                      exact j124 7 (by first | (obtain rfl : w = 0 := (by omega); exact Or.inl ⟨by decide, by decide⟩) | (obtain rfl : w = 1 := (by omega); exact Or.inl ⟨by decide, by decide⟩) | (obtain rfl : w = 2 := (by omega); exact Or.inl ⟨by decide, by decide⟩) | (obtain rfl : w = 3 := (by omega); exact Or.inl ⟨by decide, by decide⟩) | (obtain rfl : w = 4 := (by omega); exact Or.inl ⟨by decide, by decide⟩) | (obtain rfl : w = 5 := (by omega); exact Or.inl ⟨by decide, by decide⟩) | (obtain rfl : w = 6 := (by omega); exact Or.inl ⟨by decide, by decide⟩) | (obtain rfl : w = 7 := (by omega); exact Or.inl ⟨by decide, by decide⟩) | (obtain rfl : w = 8 := (by omega); exact Or.inl ⟨by decide, by decide⟩) | (obtain rfl : w = 9 := (by omega); exact Or.inl ⟨by decide, by decide⟩) | (obtain rfl : w = 10 := (by omega); exact Or.inl ⟨by decide, by decide⟩) | (obtain rfl : w = 11 := (by omega); exact Or.inl ⟨by decide, by decide⟩) | exact Or.inr ⟨by omega, rfl⟩)
                  · intro h84
                    refine j_iconst hJ dL_rank_87 ?_
                    refine j_goto hJ (tgt := 124) (by decide) dL_rank_88 ?_
                    exact j124 3 (by first | (obtain rfl : w = 0 := (by omega); exact Or.inl ⟨by decide, by decide⟩) | (obtain rfl : w = 1 := (by omega); exact Or.inl ⟨by decide, by decide⟩) | (obtain rfl : w = 2 := (by omega); exact Or.inl ⟨by decide, by decide⟩) | (obtain rfl : w = 3 := (by omega); exact Or.inl ⟨by decide, by decide⟩) | (obtain rfl : w = 4 := (by omega); exact Or.inl ⟨by decide, by decide⟩) | (obtain rfl : w = 5 := (by omega); exact Or.inl ⟨by decide, by decide⟩) | (obtain rfl : w = 6 := (by omega); exact Or.inl ⟨by decide, by decide⟩) | (obtain rfl : w = 7 := (by omega); exact Or.inl ⟨by decide, by decide⟩) | (obtain rfl : w = 8 := (by omega); exact Or.inl ⟨by decide, by decide⟩) | (obtain rfl : w = 9 := (by omega); exact Or.inl ⟨by decide, by decide⟩) | (obtain rfl : w = 10 := (by omega); exact Or.inl ⟨by decide, by decide⟩) | (obtain rfl : w = 11 := (by omega); exact Or.inl ⟨by decide, by decide⟩) | exact Or.inr ⟨by omega, rfl⟩)
                · intro h73
                  refine j_bipush hJ (v := 8) (by decide) dL_rank_76 ?_
                  refine j_goto hJ (tgt := 124) (by decide) dL_rank_78 ?_
                  exact j124 8 (by first | (obtain rfl : w = 0 := (by omega); exact Or.inl ⟨by decide, by decide⟩) | (obtain rfl : w = 1 := (by omega); exact Or.inl ⟨by decide, by decide⟩) | (obtain rfl : w = 2 := (by omega); exact Or.inl ⟨by decide, by decide⟩) | (obtain rfl : w = 3 := (by omega); exact Or.inl ⟨by decide, by decide⟩) | (obtain rfl : w = 4 := (by omega); exact Or.inl ⟨by decide, by decide⟩) | (obtain rfl : w = 5 := (by omega); exact Or.inl ⟨by decide, by decide⟩) | (obtain rfl : w = 6 := (by omega); exact Or.inl ⟨by decide, by decide⟩) | (obtain rfl : w = 7 := (by omega); exact Or.inl ⟨by decide, by decide⟩) | (obtain rfl : w = 8 := (by omega); exact Or.inl ⟨by decide, by decide⟩) | (obtain rfl : w = 9 := (by omega); exact Or.inl ⟨by decide, by decide⟩) | (obtain rfl : w = 10 := (by omega); exact Or.inl ⟨by decide, by decide⟩) | (obtain rfl : w = 11 := (by omega); exact Or.inl ⟨by decide, by decide⟩) | exact Or.inr ⟨by omega, rfl⟩)
              · intro h62
                refine j_bipush hJ (v := 23) (by decide) dL_rank_65 ?_
                refine j_goto hJ (tgt := 124) (by decide) dL_rank_67 ?_
                exact j124 23 (by first | (obtain rfl : w = 0 := (by omega); exact Or.inl ⟨by decide, by decide⟩) | (obtain rfl : w = 1 := (by omega); exact Or.inl ⟨by decide, by decide⟩) | (obtain rfl : w = 2 := (by omega); exact Or.inl ⟨by decide, by decide⟩) | (obtain rfl : w = 3 := (by omega); exact Or.inl ⟨by decide, by decide⟩) | (obtain rfl : w = 4 := (by omega); exact Or.inl ⟨by decide, by decide⟩) | (obtain rfl : w = 5 := (by omega); exact Or.inl ⟨by decide, by decide⟩) | (obtain rfl : w = 6 := (by omega); exact Or.inl ⟨by decide, by decide⟩) | (obtain rfl : w = 7 := (by omega); exact Or.inl ⟨by decide, by decide⟩) | (obtain rfl : w = 8 := (by omega); exact Or.inl ⟨by decide, by decide⟩) | (obtain rfl : w = 9 := (by omega); exact Or.inl ⟨by decide, by decide⟩) | (obtain rfl : w = 10 := (by omega); exact Or.inl ⟨by decide, by decide⟩) | (obtain rfl : w = 11 := (by omega); exact Or.inl ⟨by decide, by decide⟩) | exact Or.inr ⟨by omega, rfl⟩)
            · intro h51
              refine j_bipush hJ (v := 11) (by decide) dL_rank_54 ?_
              refine j_goto hJ (tgt := 124) (by decide) dL_rank_56 ?_
              exact j124 11 (by first | (obtain rfl : w = 0 := (by omega); exact Or.inl ⟨by decide, by decide⟩) | (obtain rfl : w = 1 := (by omega); exact Or.inl ⟨by decide, by decide⟩) | (obtain rfl : w = 2 := (by omega); exact Or.inl ⟨by decide, by decide⟩) | (obtain rfl : w = 3 := (by omega); exact Or.inl ⟨by decide, by decide⟩) | (obtain rfl : w = 4 := (by omega); exact Or.inl ⟨by decide, by decide⟩) | (obtain rfl : w = 5 := (by omega); exact Or.inl ⟨by decide, by decide⟩) | (obtain rfl : w = 6 := (by omega); exact Or.inl ⟨by decide, by decide⟩) | (obtain rfl : w = 7 := (by omega); exact Or.inl ⟨by decide, by decide⟩) | (obtain rfl : w = 8 := (by omega); exact Or.inl ⟨by decide, by decide⟩) | (obtain rfl : w = 9 := (by omega); exact Or.inl ⟨by decide, by decide⟩) | (obtain rfl : w = 10 := (by omega); exact Or.inl ⟨by decide, by decide⟩) | (obtain rfl : w = 11 := (by omega); exact Or.inl ⟨by decide, by decide⟩) | exact Or.inr ⟨by omega, rfl⟩)
          · intro h41
            refine j_bipush hJ (v := 14) (by decide) dL_rank_44 ?_
            refine j_goto hJ (tgt := 124) (by decide) dL_rank_46 ?_
            exact j124 14 (by first | (obtain rfl : w = 0 := (by omega); exact Or.inl ⟨by decide, by decide⟩) | (obtain rfl : w = 1 := (by omega); exact Or.inl ⟨by decide, by decide⟩) | (obtain rfl : w = 2 := (by omega); exact Or.inl ⟨by decide, by decide⟩) | (obtain rfl : w = 3 := (by omega); exact Or.inl ⟨by decide, by decide⟩) | (obtain rfl : w = 4 := (by omega); exact Or.inl ⟨by decide, by decide⟩) | (obtain rfl : w = 5 := (by omega); exact Or.inl ⟨by decide, by decide⟩) | (obtain rfl : w = 6 := (by omega); exact Or.inl ⟨by decide, by decide⟩) | (obtain rfl : w = 7 := (by omega); exact Or.inl ⟨by decide, by decide⟩) | (obtain rfl : w = 8 := (by omega); exact Or.inl ⟨by decide, by decide⟩) | (obtain rfl : w = 9 := (by omega); exact Or.inl ⟨by decide, by decide⟩) | (obtain rfl : w = 10 := (by omega); exact Or.inl ⟨by decide, by decide⟩) | (obtain rfl : w = 11 := (by omega); exact Or.inl ⟨by decide, by decide⟩) | exact Or.inr ⟨by omega, rfl⟩)
        · intro h31
          refine j_bipush hJ (v := 22) (by decide) dL_rank_34 ?_
          refine j_goto hJ (tgt := 124) (by decide) dL_rank_36 ?_
          exact j124 22 (by first | (obtain rfl : w = 0 := (by omega); exact Or.inl ⟨by decide, by decide⟩) | (obtain rfl : w = 1 := (by omega); exact Or.inl ⟨by decide, by decide⟩) | (obtain rfl : w = 2 := (by omega); exact Or.inl ⟨by decide, by decide⟩) | (obtain rfl : w = 3 := (by omega); exact Or.inl ⟨by decide, by decide⟩) | (obtain rfl : w = 4 := (by omega); exact Or.inl ⟨by decide, by decide⟩) | (obtain rfl : w = 5 := (by omega); exact Or.inl ⟨by decide, by decide⟩) | (obtain rfl : w = 6 := (by omega); exact Or.inl ⟨by decide, by decide⟩) | (obtain rfl : w = 7 := (by omega); exact Or.inl ⟨by decide, by decide⟩) | (obtain rfl : w = 8 := (by omega); exact Or.inl ⟨by decide, by decide⟩) | (obtain rfl : w = 9 := (by omega); exact Or.inl ⟨by decide, by decide⟩) | (obtain rfl : w = 10 := (by omega); exact Or.inl ⟨by decide, by decide⟩) | (obtain rfl : w = 11 := (by omega); exact Or.inl ⟨by decide, by decide⟩) | exact Or.inr ⟨by omega, rfl⟩)
      · intro h21
        refine j_bipush hJ (v := 15) (by decide) dL_rank_24 ?_
        refine j_goto hJ (tgt := 124) (by decide) dL_rank_26 ?_
        exact j124 15 (by first | (obtain rfl : w = 0 := (by omega); exact Or.inl ⟨by decide, by decide⟩) | (obtain rfl : w = 1 := (by omega); exact Or.inl ⟨by decide, by decide⟩) | (obtain rfl : w = 2 := (by omega); exact Or.inl ⟨by decide, by decide⟩) | (obtain rfl : w = 3 := (by omega); exact Or.inl ⟨by decide, by decide⟩) | (obtain rfl : w = 4 := (by omega); exact Or.inl ⟨by decide, by decide⟩) | (obtain rfl : w = 5 := (by omega); exact Or.inl ⟨by decide, by decide⟩) | (obtain rfl : w = 6 := (by omega); exact Or.inl ⟨by decide, by decide⟩) | (obtain rfl : w = 7 := (by omega); exact Or.inl ⟨by decide, by decide⟩) | (obtain rfl : w = 8 := (by omega); exact Or.inl ⟨by decide, by decide⟩) | (obtain rfl : w = 9 := (by omega); exact Or.inl ⟨by decide, by decide⟩) | (obtain rfl : w = 10 := (by omega); exact Or.inl ⟨by decide, by decide⟩) | (obtain rfl : w = 11 := (by omega); exact Or.inl ⟨by decide, by decide⟩) | exact Or.inr ⟨by omega, rfl⟩)
    · intro h11
      refine j_bipush hJ (v := 13) (by decide) dL_rank_14 ?_
      refine j_goto hJ (tgt := 124) (by decide) dL_rank_16 ?_
      exact j124 13 (by first | (obtain rfl : w = 0 := (by omega); exact Or.inl ⟨by decide, by decide⟩) | (obtain rfl : w = 1 := (by omega); exact Or.inl ⟨by decide, by decide⟩) | (obtain rfl : w = 2 := (by omega); exact Or.inl ⟨by decide, by decide⟩) | (obtain rfl : w = 3 := (by omega); exact Or.inl ⟨by decide, by decide⟩) | (obtain rfl : w = 4 := (by omega); exact Or.inl ⟨by decide, by decide⟩) | (obtain rfl : w = 5 := (by omega); exact Or.inl ⟨by decide, by decide⟩) | (obtain rfl : w = 6 := (by omega); exact Or.inl ⟨by decide, by decide⟩) | (obtain rfl : w = 7 := (by omega); exact Or.inl ⟨by decide, by decide⟩) | (obtain rfl : w = 8 := (by omega); exact Or.inl ⟨by decide, by decide⟩) | (obtain rfl : w = 9 := (by omega); exact Or.inl ⟨by decide, by decide⟩) | (obtain rfl : w = 10 := (by omega); exact Or.inl ⟨by decide, by decide⟩) | (obtain rfl : w = 11 := (by omega); exact Or.inl ⟨by decide, by decide⟩) | exact Or.inr ⟨by omega, rfl⟩)
  · intro h1
    refine j_bipush hJ (v := 21) (by decide) dL_rank_4 ?_
    refine j_goto hJ (tgt := 124) (by decide) dL_rank_6 ?_
    exact j124 21 (by first | (obtain rfl : w = 0 := (by omega); exact Or.inl ⟨by decide, by decide⟩) | (obtain rfl : w = 1 := (by omega); exact Or.inl ⟨by decide, by decide⟩) | (obtain rfl : w = 2 := (by omega); exact Or.inl ⟨by decide, by decide⟩) | (obtain rfl : w = 3 := (by omega); exact Or.inl ⟨by decide, by decide⟩) | (obtain rfl : w = 4 := (by omega); exact Or.inl ⟨by decide, by decide⟩) | (obtain rfl : w = 5 := (by omega); exact Or.inl ⟨by decide, by decide⟩) | (obtain rfl : w = 6 := (by omega); exact Or.inl ⟨by decide, by decide⟩) | (obtain rfl : w = 7 := (by omega); exact Or.inl ⟨by decide, by decide⟩) | (obtain rfl : w = 8 := (by omega); exact Or.inl ⟨by decide, by decide⟩) | (obtain rfl : w = 9 := (by omega); exact Or.inl ⟨by decide, by decide⟩) | (obtain rfl : w = 10 := (by omega); exact Or.inl ⟨by decide, by decide⟩) | (obtain rfl : w = 11 := (by omega); exact Or.inl ⟨by decide, by decide⟩) | exact Or.inr ⟨by omega, rfl⟩)
set_option maxHeartbeats 4000000 in
set_option maxRecDepth 100000 in
theorem c_L_keyWord {ν : Nat → Int → Int} {kd : Int → Int} {N : List Int} {i pl : Nat} (hfl : l.stackTraces = false) (hK : AK ν kd) (hA : AWr ν) (hi : i < 5) (hN : ANm ν i N) (hpl : pl < 4) : CT l D cy n0 ad yL_keyWord (.code yL_keyWord cL_keyWord 10 (some .int)) ({ frames := 0, cells := 0, slots := 0, locals := 0 }) [.ref (b 0), .ref (b 1), .int (zI (i : Int)), .int (zI (pl : Int))] (gw 3 ASh cy b ν ++ E) (fun vv uu => ∃ q, vv = some (.int (zI q)) ∧ uu = (gw 3 ASh cy b ν ++ E) ∧ (q = sqA (keyL kd N) pl)) := by
  obtain ⟨n1, n2, n3, n4, n5⟩ := id hN
  have ke := KW_end (kd := kd) n3
  refine CT.walk hfl (by decide) (Nat.le_of_ble_eq_true rfl) ?_
  intro A J hJ
  show J (gw 3 ASh cy b ν ++ E) 0 0 0 [(0, .ref (b 0)), (1, .ref (b 1)), (2, .int (zI (i : Int))), (3, .int (zI (pl : Int)))] []
  refine j_iload_n hJ (j := 3) rfl rfl dL_keyWord_0 ?_
  refine j_istore hJ (lv' := [(4, .int (zI (pl : Int))), (0, .ref (b 0)), (1, .ref (b 1)), (2, .int (zI (i : Int))), (3, .int (zI (pl : Int)))]) (by decide) rfl dL_keyWord_1 ?_
  refine j_iconst hJ dL_keyWord_3 ?_
  refine j_istore hJ (lv' := [(5, .int (zI 0)), (4, .int (zI (pl : Int))), (0, .ref (b 0)), (1, .ref (b 1)), (2, .int (zI (i : Int))), (3, .int (zI (pl : Int)))]) (by decide) rfl dL_keyWord_4 ?_
  refine j_iconst hJ dL_keyWord_6 ?_
  refine j_istore hJ (lv' := [(6, .int (zI 0)), (5, .int (zI 0)), (4, .int (zI (pl : Int))), (0, .ref (b 0)), (1, .ref (b 1)), (2, .int (zI (i : Int))), (3, .int (zI (pl : Int)))]) (by decide) rfl dL_keyWord_7 ?_
  have lp9 : ∀ (nn9 : Nat) (lf : Int) (al : Int) (k : Nat) (hmeas9 : 8 - k < nn9) (hk : k ≤ 8) (hal : al = (KW kd N k).length) (hlf : lf = pl - (KW kd N k).length) (hle : (KW kd N k).length ≤ pl), J (gw 3 ASh cy b ν ++ E) 0 0 9 [(0, .ref (b 0)), (1, .ref (b 1)), (2, .int (zI (i : Int))), (3, .int (zI (pl : Int))), (4, .int (zI lf)), (5, .int (zI al)), (6, .int (zI (k : Int)))] [] := by
    intro nn9
    induction nn9 with
    | zero => intro lf al k hmeas9 hk hal hlf hle; omega
    | succ nn9 ih9 =>
      intro lf al k hmeas9 hk hal hlf hle
      refine j_iload hJ (j := 6) rfl dL_keyWord_9 ?_
      refine j_bipush hJ (v := 8) (by decide) dL_keyWord_11 ?_
      refine j_icmp_ge hJ (tgt := 118) ⟨by omega, by omega⟩ ⟨by omega, by omega⟩ (by decide) dL_keyWord_13 ?_ ?_
      · intro h13
        obtain rfl : k = 8 := by omega
        have ke1 := ke.1
        have ke2 := ke.2
        have j145 : ∀ (q : Int) (hq : q = sqA (keyL kd N) pl), J (gw 3 ASh cy b ν ++ E) 0 0 145 [(0, .ref (b 0)), (1, .ref (b 1)), (2, .int (zI (i : Int))), (3, .int (zI (pl : Int)))] [.int (zI q)] := by
          intro q hq
          refine j_iret hJ rfl rfl (rfl) (Nat.le_of_ble_eq_true rfl) (Nat.le_of_ble_eq_true rfl) dL_keyWord_145 ⟨q, rfl, rfl, ?_⟩
          exact hq
        refine j_iload hJ (j := 5) rfl dL_keyWord_118 ?_
        refine j_if_ne hJ (tgt := 144) ⟨by omega, by omega⟩ (by decide) dL_keyWord_120 ?_ ?_
        · intro h120
          refine j_iconst hJ dL_keyWord_144 ?_
          refine j_locs hJ [0, 1, 2, 3] rfl ?_
          exact j145 (-1) (by first | (rw [ke.2 (by omega)]; done) | (rw [ke.1 (by omega), sqA_none (by omega)]) | (rw [ke.2 (by omega), sqA_none (by omega)]))
        · intro h120
          refine j_iload_n hJ (j := 3) rfl rfl dL_keyWord_123 ?_
          refine j_aload_n hJ (j := 1) rfl rfl dL_keyWord_124 ?_
          refine j_iconst hJ dL_keyWord_125 ?_
          refine j_iload_n hJ (j := 2) rfl rfl dL_keyWord_126 ?_
          refine j_imul hJ dL_keyWord_127 ?_
          refine w_iald hJ (by omega) rfl (by first | decide | omega) (by omega) (by omega) dL_keyWord_128 ?_
          refine j_topi (y := zI (N.length : Int)) (by rw [n1]) ?_
          refine j_icmp_ge hJ (tgt := 144) ⟨by omega, by omega⟩ ⟨by omega, by omega⟩ (by decide) dL_keyWord_129 ?_ ?_
          · intro h129
            refine j_iconst hJ dL_keyWord_144 ?_
            refine j_locs hJ [0, 1, 2, 3] rfl ?_
            exact j145 (-1) (by first | (rw [ke.2 (by omega)]; done) | (rw [ke.1 (by omega), sqA_none (by omega)]) | (rw [ke.2 (by omega), sqA_none (by omega)]))
          · intro h129
            refine j_aload_n hJ (j := 1) rfl rfl dL_keyWord_132 ?_
            refine j_iconst hJ dL_keyWord_133 ?_
            refine j_iload_n hJ (j := 2) rfl rfl dL_keyWord_134 ?_
            refine j_imul hJ dL_keyWord_135 ?_
            refine j_iconst hJ dL_keyWord_136 ?_
            refine j_iadd hJ dL_keyWord_137 ?_
            refine j_iload_n hJ (j := 3) rfl rfl dL_keyWord_138 ?_
            refine j_iadd hJ dL_keyWord_139 ?_
            refine w_iald hJ (by omega) rfl (by first | decide | omega) (by omega) (by omega) dL_keyWord_140 ?_
            refine j_topi (y := zI (sqA N pl)) (by rw [n4 pl _ (sqA_get (by omega))]) ?_
            refine j_goto hJ (tgt := 145) (by decide) dL_keyWord_141 ?_
            refine j_locs hJ [0, 1, 2, 3] rfl ?_
            exact j145 (sqA N pl) (by first | (rw [ke.2 (by omega)]; done) | (rw [ke.1 (by omega), sqA_none (by omega)]) | (rw [ke.2 (by omega), sqA_none (by omega)]))
      · intro h13
        have hk8 : k < 8 := by omega
        refine j_iload hJ (j := 6) rfl dL_keyWord_16 ?_
        refine j_iconst hJ dL_keyWord_18 ?_
        refine j_irem hJ (by omega) (by omega) (by omega) (by omega) dL_keyWord_19 ?_
        refine j_istore hJ (lv' := [(7, .int (zI ((k : Int) % 4))), (0, .ref (b 0)), (1, .ref (b 1)), (2, .int (zI (i : Int))), (3, .int (zI (pl : Int))), (4, .int (zI lf)), (5, .int (zI al)), (6, .int (zI (k : Int)))]) (by decide) rfl dL_keyWord_20 ?_
        refine j_aload_n hJ (j := 2) rfl rfl dL_keyWord_22 ?_
        refine j_iconst hJ dL_keyWord_23 ?_
        refine j_iload_n hJ (j := 3) rfl rfl dL_keyWord_24 ?_
        refine j_imul hJ dL_keyWord_25 ?_
        refine j_iconst hJ dL_keyWord_26 ?_
        refine j_iadd hJ dL_keyWord_27 ?_
        refine j_iload hJ (j := 0) rfl dL_keyWord_28 ?_
        refine j_iadd hJ dL_keyWord_30 ?_
        refine w_iald hJ (by omega) rfl (by first | decide | omega) (by omega) (by omega) dL_keyWord_31 ?_
        obtain ⟨w, hw⟩ : ∃ w, w = ν 1 (5 * (i : Int) + 1 + (k : Int) % 4) := ⟨_, rfl⟩
        have hwr : 0 ≤ w ∧ w < 24 := by rw [hw]; exact hA _ (by omega) (by omega) (by omega)
        refine j_topi (y := zI w) (by rw [hw]) ?_
        refine j_istore hJ (lv' := [(8, .int (zI w)), (7, .int (zI ((k : Int) % 4))), (0, .ref (b 0)), (1, .ref (b 1)), (2, .int (zI (i : Int))), (3, .int (zI (pl : Int))), (4, .int (zI lf)), (5, .int (zI al)), (6, .int (zI (k : Int)))]) (by decide) rfl dL_keyWord_32 ?_
        have j67 : ∀ (z : Int) (hz : (z = 1 ∧ KW kd N (k + 1) = KW kd N k ++ [w]) ∨ (z = 0 ∧ KW kd N (k + 1) = KW kd N k)), J (gw 3 ASh cy b ν ++ E) 0 0 67 [(0, .ref (b 0)), (1, .ref (b 1)), (2, .int (zI (i : Int))), (3, .int (zI (pl : Int))), (4, .int (zI lf)), (5, .int (zI al)), (6, .int (zI (k : Int))), (7, .int (zI ((k : Int) % 4))), (8, .int (zI w))] [.int (zI z)] := by
          intro z hz
          have hz01 : z = 0 ∨ z = 1 := by omega
          have hzl : (KW kd N (k + 1)).length = (KW kd N k).length + z.toNat := by rcases hz with ⟨e1, e2⟩ | ⟨e1, e2⟩ <;> rw [e2, e1] <;> simp
          refine j_istore hJ (lv' := [(9, .int (zI z)), (0, .ref (b 0)), (1, .ref (b 1)), (2, .int (zI (i : Int))), (3, .int (zI (pl : Int))), (4, .int (zI lf)), (5, .int (zI al)), (6, .int (zI (k : Int))), (7, .int (zI ((k : Int) % 4))), (8, .int (zI w))]) (by decide) rfl dL_keyWord_67 ?_
          refine j_iload hJ (j := 0) rfl dL_keyWord_69 ?_
          have j94 : ∀ (z2 : Int) (hz2 : z2 = z) (hlz : z = 0 ∨ 1 ≤ lf), J (gw 3 ASh cy b ν ++ E) 0 0 94 [(0, .ref (b 0)), (1, .ref (b 1)), (2, .int (zI (i : Int))), (3, .int (zI (pl : Int))), (4, .int (zI lf)), (5, .int (zI al)), (6, .int (zI (k : Int))), (7, .int (zI ((k : Int) % 4))), (8, .int (zI w)), (9, .int (zI z))] [.int (zI z2), .int (zI lf)] := by
            intro z2 hz2 hlz
            refine j_isub hJ dL_keyWord_94 ?_
            refine j_topi (y := zI (lf - z)) (by rw [hz2]) ?_
            have j109 : ∀ (z3 : Int) (hz3 : z3 = z), J (gw 3 ASh cy b ν ++ E) 0 0 109 [(0, .ref (b 0)), (1, .ref (b 1)), (2, .int (zI (i : Int))), (3, .int (zI (pl : Int))), (4, .int (zI (lf - z))), (5, .int (zI al)), (6, .int (zI (k : Int))), (7, .int (zI ((k : Int) % 4))), (8, .int (zI w)), (9, .int (zI z))] [.int (zI z3), .int (zI al)] := by
              intro z3 hz3
              refine j_iadd hJ dL_keyWord_109 ?_
              refine j_istore hJ (lv' := [(5, .int (zI (al + z3))), (0, .ref (b 0)), (1, .ref (b 1)), (2, .int (zI (i : Int))), (3, .int (zI (pl : Int))), (4, .int (zI (lf - z))), (6, .int (zI (k : Int))), (7, .int (zI ((k : Int) % 4))), (8, .int (zI w)), (9, .int (zI z))]) (by decide) rfl dL_keyWord_110 ?_
              refine j_iinc hJ (lv' := [(6, .int (zI ((k : Int) + 1))), (5, .int (zI (al + z3))), (0, .ref (b 0)), (1, .ref (b 1)), (2, .int (zI (i : Int))), (3, .int (zI (pl : Int))), (4, .int (zI (lf - z))), (7, .int (zI ((k : Int) % 4))), (8, .int (zI w)), (9, .int (zI z))]) (j := 6) rfl (by omega) (by decide) rfl dL_keyWord_112 ?_
              refine j_goto hJ (tgt := 9) (by decide) dL_keyWord_115 ?_
              refine j_locs hJ [2, 3, 4, 5, 6, 1, 0] rfl ?_
              exact ih9 (lf - z) (al + z3) (k + 1) (by omega) (by omega) (by rw [hzl]; omega) (by rw [hzl]; omega) (by rw [hzl]; omega)
            refine j_istore hJ (lv' := [(4, .int (zI (lf - z))), (0, .ref (b 0)), (1, .ref (b 1)), (2, .int (zI (i : Int))), (3, .int (zI (pl : Int))), (5, .int (zI al)), (6, .int (zI (k : Int))), (7, .int (zI ((k : Int) % 4))), (8, .int (zI w)), (9, .int (zI z))]) (by decide) rfl dL_keyWord_95 ?_
            refine j_iload hJ (j := 5) rfl dL_keyWord_97 ?_
            refine j_iload hJ (j := 9) rfl dL_keyWord_99 ?_
            refine j_if_eq hJ (tgt := 108) ⟨by omega, by omega⟩ (by decide) dL_keyWord_101 ?_ ?_
            · intro h101
              refine j_iconst hJ dL_keyWord_108 ?_
              refine j_locs hJ [1, 2, 3, 4, 0, 5, 6, 7, 8, 9] rfl ?_
              exact j109 0 (by omega)
            · intro h101
              refine j_iconst hJ dL_keyWord_104 ?_
              refine j_goto hJ (tgt := 109) (by decide) dL_keyWord_105 ?_
              refine j_locs hJ [1, 2, 3, 4, 0, 5, 6, 7, 8, 9] rfl ?_
              exact j109 1 (by omega)
          refine j_if_eq hJ (tgt := 82) ⟨by omega, by omega⟩ (by decide) dL_keyWord_71 ?_ ?_
          · intro h71
            refine j_iload hJ (j := 5) rfl dL_keyWord_82 ?_
            refine j_iload hJ (j := 0) rfl dL_keyWord_84 ?_
            refine j_if_eq hJ (tgt := 93) ⟨by omega, by omega⟩ (by decide) dL_keyWord_86 ?_ ?_
            · intro h86
              refine j_iconst hJ dL_keyWord_93 ?_
              refine j_locs hJ [1, 2, 3, 4, 5, 6, 7, 8, 9, 0] rfl ?_
              exact j94 0 (by omega) (by omega)
            · intro h86
              refine j_iconst hJ dL_keyWord_89 ?_
              refine j_goto hJ (tgt := 94) (by decide) dL_keyWord_90 ?_
              refine j_locs hJ [1, 2, 3, 4, 5, 6, 7, 8, 9, 0] rfl ?_
              exact j94 1 (by omega) (by omega)
          · intro h71
            refine j_iload hJ (j := 5) rfl dL_keyWord_74 ?_
            refine j_if_ne hJ (tgt := 82) ⟨by omega, by omega⟩ (by decide) dL_keyWord_76 ?_ ?_
            · intro h76
              refine j_iload hJ (j := 5) rfl dL_keyWord_82 ?_
              refine j_iload hJ (j := 0) rfl dL_keyWord_84 ?_
              refine j_if_eq hJ (tgt := 93) ⟨by omega, by omega⟩ (by decide) dL_keyWord_86 ?_ ?_
              · intro h86
                refine j_iconst hJ dL_keyWord_93 ?_
                refine j_locs hJ [1, 2, 3, 4, 5, 6, 7, 8, 9, 0] rfl ?_
                exact j94 0 (by omega) (by omega)
              · intro h86
                refine j_iconst hJ dL_keyWord_89 ?_
                refine j_goto hJ (tgt := 94) (by decide) dL_keyWord_90 ?_
                refine j_locs hJ [1, 2, 3, 4, 5, 6, 7, 8, 9, 0] rfl ?_
                exact j94 1 (by omega) (by omega)
            · intro h76
              refine j_iload hJ (j := 9) rfl dL_keyWord_79 ?_
              refine j_iret hJ rfl rfl (rfl) (Nat.le_of_ble_eq_true rfl) (Nat.le_of_ble_eq_true rfl) dL_keyWord_81 ⟨w, rfl, rfl, ?_⟩
              have hkx := KW_at n3 hk8 ((hz.resolve_right (fun g => absurd g.1 (by omega))).2)
              rw [show (KW kd N k).length = pl by omega] at hkx
              exact hkx.symm
        refine j_iload hJ (j := 1) rfl dL_keyWord_34 ?_
        refine j_aload_n hJ (j := 3) rfl rfl dL_keyWord_36 ?_
        refine j_iconst hJ dL_keyWord_37 ?_
        refine j_iload_n hJ (j := 4) rfl rfl dL_keyWord_38 ?_
        refine j_imul hJ dL_keyWord_39 ?_
        refine w_iald hJ (by omega) rfl (by first | decide | omega) (by omega) (by omega) dL_keyWord_40 ?_
        refine j_topi (y := zI (N.length : Int)) (by rw [n1]) ?_
        refine j_icmp_ge hJ (tgt := 66) ⟨by omega, by omega⟩ ⟨by omega, by omega⟩ (by decide) dL_keyWord_41 ?_ ?_
        · intro h41
          have hkn := KW_none (kd := kd) (N := N) (k := k) (by omega) hk8
          refine j_iconst hJ dL_keyWord_66 ?_
          refine j_locs hJ [2, 3, 4, 5, 6, 7, 8, 1, 0] rfl ?_
          exact j67 0 (by first | exact Or.inr ⟨rfl, hkn⟩ | exact Or.inr ⟨rfl, by rw [hks, if_neg (by rw [← hkk]; exact h59), List.append_nil]⟩ | exact Or.inl ⟨rfl, by rw [hks, if_pos (by rw [← hkk]; exact h59)]⟩)
        · intro h41
          have hlt : k % 4 < N.length := by omega
          obtain ⟨x, hx⟩ : ∃ x, N[k % 4]? = some x := ⟨_, List.getElem?_eq_getElem hlt⟩
          have hxw : w = x := by rw [hw]; have := n4 (k % 4) x hx; rw [← this]; congr 1
          have hks := KW_some (kd := kd) hx hk8
          rw [← hxw] at hks
          refine j_aload_n hJ (j := 2) rfl rfl dL_keyWord_44 ?_
          refine j_iload hJ (j := 0) rfl dL_keyWord_45 ?_
          refine w_iald hJ (by omega) rfl (by first | decide | omega) (by omega) (by omega) dL_keyWord_47 ?_
          have hkw := (hK w hwr.1 hwr.2).2
          refine j_topi (y := zI (kd w)) (by rw [(hK w hwr.1 hwr.2).1]) ?_
          have j59 : ∀ (kk : Int) (hkk : kk = if k < 4 then 0 else 2), J (gw 3 ASh cy b ν ++ E) 0 0 59 [(0, .ref (b 0)), (1, .ref (b 1)), (2, .int (zI (i : Int))), (3, .int (zI (pl : Int))), (4, .int (zI lf)), (5, .int (zI al)), (6, .int (zI (k : Int))), (7, .int (zI ((k : Int) % 4))), (8, .int (zI w))] [.int (zI kk), .int (zI (kd w))] := by
            intro kk hkk
            have hkk2 : kk = 0 ∨ kk = 2 := by rw [hkk]; split <;> omega
            refine j_icmp_ne hJ (tgt := 66) ⟨by omega, by omega⟩ ⟨by omega, by omega⟩ (by decide) dL_keyWord_59 ?_ ?_
            · intro h59
              refine j_iconst hJ dL_keyWord_66 ?_
              exact j67 0 (by first | exact Or.inr ⟨rfl, hkn⟩ | exact Or.inr ⟨rfl, by rw [hks, if_neg (by rw [← hkk]; exact h59), List.append_nil]⟩ | exact Or.inl ⟨rfl, by rw [hks, if_pos (by rw [← hkk]; exact h59)]⟩)
            · intro h59
              refine j_iconst hJ dL_keyWord_62 ?_
              refine j_goto hJ (tgt := 67) (by decide) dL_keyWord_63 ?_
              exact j67 1 (by first | exact Or.inr ⟨rfl, hkn⟩ | exact Or.inr ⟨rfl, by rw [hks, if_neg (by rw [← hkk]; exact h59), List.append_nil]⟩ | exact Or.inl ⟨rfl, by rw [hks, if_pos (by rw [← hkk]; exact h59)]⟩)
          refine j_iload hJ (j := 8) rfl dL_keyWord_48 ?_
          refine j_iconst hJ dL_keyWord_50 ?_
          refine j_icmp_ge hJ (tgt := 58) ⟨by omega, by omega⟩ ⟨by omega, by omega⟩ (by decide) dL_keyWord_51 ?_ ?_
          · intro h51
            refine j_iconst hJ dL_keyWord_58 ?_
            refine j_locs hJ [2, 3, 4, 5, 6, 7, 8, 1, 0] rfl ?_
            exact j59 2 (by split <;> omega)
          · intro h51
            refine j_iconst hJ dL_keyWord_54 ?_
            refine j_goto hJ (tgt := 59) (by decide) dL_keyWord_55 ?_
            refine j_locs hJ [2, 3, 4, 5, 6, 7, 8, 1, 0] rfl ?_
            exact j59 0 (by split <;> omega)
  refine j_locs hJ [3, 4, 5, 6, 2, 1, 0] rfl ?_
  exact lp9 (8 - 0 + 1) (pl : Int) 0 0 (by omega) (by omega) (by rw [KW_0]; rfl) (by rw [KW_0]; simp) (by rw [KW_0]; simp)
set_option maxHeartbeats 4000000 in
set_option maxRecDepth 100000 in
theorem c_L_compare {ν : Nat → Int → Int} {kd : Int → Int} {N M : List Int} {i j : Nat} {nm : Int} (hfl : l.stackTraces = false) (hK : AK ν kd) (hA : AWr ν) (hi : i < 5) (hj : j < 5) (hN : ANm ν i N) (hM : ANm ν j M) (hnm : nm = 0 ∨ nm = 1) : CT l D cy n0 ad yL_compare (.code yL_compare cL_compare 9 (some .int)) ({ frames := 1, cells := 0, slots := 0, locals := 29 }) [.ref (b 0), .ref (b 1), .int (zI (i : Int)), .int (zI (j : Int)), .int (zI nm)] (gw 3 ASh cy b ν ++ E) (fun vv uu => ∃ q, vv = some (.int (zI q)) ∧ uu = (gw 3 ASh cy b ν ++ E) ∧ (q = if nm = 1 then wo N M else wo (keyL kd N) (keyL kd M))) := by
  obtain ⟨n1, n2, n3, n4, n5⟩ := id hN
  obtain ⟨o1, o2, o3, o4, o5⟩ := id hM
  obtain ⟨A9, hA9⟩ : ∃ A9, A9 = if nm = 1 then N else keyL kd N := ⟨_, rfl⟩
  obtain ⟨B9, hB9⟩ : ∃ B9, B9 = if nm = 1 then M else keyL kd M := ⟨_, rfl⟩
  have hW : (if nm = 1 then wo N M else wo (keyL kd N) (keyL kd M)) = wo A9 B9 := by rw [hA9, hB9]; split <;> rfl
  rw [hW]
  have hAm : ∀ x ∈ A9, x ∈ N := by rw [hA9]; split <;> intro x hx <;> first | exact hx | exact keyL_mem hx
  have hBm : ∀ x ∈ B9, x ∈ M := by rw [hB9]; split <;> intro x hx <;> first | exact hx | exact keyL_mem hx
  have hAr : ∀ x ∈ A9, 0 ≤ x ∧ x < 24 := fun x hx => (n5 x (hAm x hx)).rng
  have hBr : ∀ x ∈ B9, 0 ≤ x ∧ x < 24 := fun x hx => (o5 x (hBm x hx)).rng
  have hA4 : A9.length ≤ 4 := by rw [hA9]; split; exact n3; exact (keyL_len ⟨n2, n3⟩).2
  have hB4 : B9.length ≤ 4 := by rw [hB9]; split; exact o3; exact (keyL_len ⟨o2, o3⟩).2
  refine CT.walk hfl (by decide) (Nat.le_of_ble_eq_true rfl) ?_
  intro A J hJ
  show J (gw 3 ASh cy b ν ++ E) 0 0 0 [(0, .ref (b 0)), (1, .ref (b 1)), (2, .int (zI (i : Int))), (3, .int (zI (j : Int))), (4, .int (zI nm))] []
  refine j_iconst hJ dL_compare_0 ?_
  refine j_istore hJ (lv' := [(5, .int (zI 0)), (0, .ref (b 0)), (1, .ref (b 1)), (2, .int (zI (i : Int))), (3, .int (zI (j : Int))), (4, .int (zI nm))]) (by decide) rfl dL_compare_1 ?_
  refine j_iconst hJ dL_compare_3 ?_
  refine j_istore hJ (lv' := [(6, .int (zI 0)), (5, .int (zI 0)), (0, .ref (b 0)), (1, .ref (b 1)), (2, .int (zI (i : Int))), (3, .int (zI (j : Int))), (4, .int (zI nm))]) (by decide) rfl dL_compare_4 ?_
  have lp6 : ∀ (nn6 : Nat) (by_ : Int) (k : Nat) (hmeas6 : 4 - k < nn6) (hk : k ≤ 4) (hby : (by_ = 0 ∧ wo A9 B9 = wo (A9.drop k) (B9.drop k)) ∨ (by_ ≠ 0 ∧ sg by_ = wo A9 B9)) (hbr : -25 ≤ by_ ∧ by_ ≤ 25), J (gw 3 ASh cy b ν ++ E) 0 0 6 [(0, .ref (b 0)), (1, .ref (b 1)), (2, .int (zI (i : Int))), (3, .int (zI (j : Int))), (4, .int (zI nm)), (5, .int (zI by_)), (6, .int (zI (k : Int)))] [] := by
    intro nn6
    induction nn6 with
    | zero => intro by_ k hmeas6 hk hby hbr; omega
    | succ nn6 ih6 =>
      intro by_ k hmeas6 hk hby hbr
      refine j_iload hJ (j := 6) rfl dL_compare_6 ?_
      refine j_iconst hJ dL_compare_8 ?_
      refine j_icmp_ge hJ (tgt := 138) ⟨by omega, by omega⟩ ⟨by omega, by omega⟩ (by decide) dL_compare_9 ?_ ?_
      · intro h9
        obtain rfl : k = 4 := by omega
        have he4 := wo_end4 hA4 hB4
        have hfin : (by_ = 0 → wo A9 B9 = 0) := fun h => by rw [(hby.resolve_right (fun g => g.1 h)).2, he4]
        have j157 : ∀ (q : Int) (hq : q = wo A9 B9), J (gw 3 ASh cy b ν ++ E) 0 0 157 [(0, .ref (b 0)), (1, .ref (b 1)), (2, .int (zI (i : Int))), (3, .int (zI (j : Int))), (4, .int (zI nm))] [.int (zI q)] := by
          intro q hq
          refine j_iret hJ rfl rfl (rfl) (Nat.le_of_ble_eq_true rfl) (Nat.le_of_ble_eq_true rfl) dL_compare_157 ⟨q, rfl, rfl, ?_⟩
          exact hq
        refine j_iload hJ (j := 5) rfl dL_compare_138 ?_
        refine j_if_ge hJ (tgt := 147) ⟨by omega, by omega⟩ (by decide) dL_compare_140 ?_ ?_
        · intro h140
          refine j_iload hJ (j := 5) rfl dL_compare_147 ?_
          refine j_if_le hJ (tgt := 156) ⟨by omega, by omega⟩ (by decide) dL_compare_149 ?_ ?_
          · intro h149
            refine j_iconst hJ dL_compare_156 ?_
            refine j_locs hJ [0, 1, 2, 3, 4] rfl ?_
            refine j157 0 ?_
            · have hs9 := sg_cases by_
              have hb9 := hby
              first | omega | (rcases hby with ⟨g1, g2⟩ | ⟨g1, g2⟩ <;> omega)
          · intro h149
            refine j_iconst hJ dL_compare_152 ?_
            refine j_goto hJ (tgt := 157) (by decide) dL_compare_153 ?_
            refine j_locs hJ [0, 1, 2, 3, 4] rfl ?_
            refine j157 1 ?_
            · have hs9 := sg_cases by_
              have hb9 := hby
              first | omega | (rcases hby with ⟨g1, g2⟩ | ⟨g1, g2⟩ <;> omega)
        · intro h140
          refine j_iconst hJ dL_compare_143 ?_
          refine j_goto hJ (tgt := 157) (by decide) dL_compare_144 ?_
          refine j_locs hJ [0, 1, 2, 3, 4] rfl ?_
          refine j157 (-1) ?_
          · have hs9 := sg_cases by_
            have hb9 := hby
            first | omega | (rcases hby with ⟨g1, g2⟩ | ⟨g1, g2⟩ <;> omega)
      · intro h9
        have hk4 : k < 4 := by omega
        refine j_iload hJ (j := 5) rfl dL_compare_12 ?_
        refine j_if_ne hJ (tgt := 138) ⟨by omega, by omega⟩ (by decide) dL_compare_14 ?_ ?_
        · intro h14
          have hfin : (by_ = 0 → wo A9 B9 = 0) := fun h => absurd h h14
          have j157 : ∀ (q : Int) (hq : q = wo A9 B9), J (gw 3 ASh cy b ν ++ E) 0 0 157 [(0, .ref (b 0)), (1, .ref (b 1)), (2, .int (zI (i : Int))), (3, .int (zI (j : Int))), (4, .int (zI nm))] [.int (zI q)] := by
            intro q hq
            refine j_iret hJ rfl rfl (rfl) (Nat.le_of_ble_eq_true rfl) (Nat.le_of_ble_eq_true rfl) dL_compare_157 ⟨q, rfl, rfl, ?_⟩
            exact hq
          refine j_iload hJ (j := 5) rfl dL_compare_138 ?_
          refine j_if_ge hJ (tgt := 147) ⟨by omega, by omega⟩ (by decide) dL_compare_140 ?_ ?_
          · intro h140
            refine j_iload hJ (j := 5) rfl dL_compare_147 ?_
            refine j_if_le hJ (tgt := 156) ⟨by omega, by omega⟩ (by decide) dL_compare_149 ?_ ?_
            · intro h149
              refine j_iconst hJ dL_compare_156 ?_
              refine j_locs hJ [0, 1, 2, 3, 4] rfl ?_
              refine j157 0 ?_
              · have hs9 := sg_cases by_
                have hb9 := hby
                first | omega | (rcases hby with ⟨g1, g2⟩ | ⟨g1, g2⟩ <;> omega)
            · intro h149
              refine j_iconst hJ dL_compare_152 ?_
              refine j_goto hJ (tgt := 157) (by decide) dL_compare_153 ?_
              refine j_locs hJ [0, 1, 2, 3, 4] rfl ?_
              refine j157 1 ?_
              · have hs9 := sg_cases by_
                have hb9 := hby
                first | omega | (rcases hby with ⟨g1, g2⟩ | ⟨g1, g2⟩ <;> omega)
          · intro h140
            refine j_iconst hJ dL_compare_143 ?_
            refine j_goto hJ (tgt := 157) (by decide) dL_compare_144 ?_
            refine j_locs hJ [0, 1, 2, 3, 4] rfl ?_
            refine j157 (-1) ?_
            · have hs9 := sg_cases by_
              have hb9 := hby
              first | omega | (rcases hby with ⟨g1, g2⟩ | ⟨g1, g2⟩ <;> omega)
        · intro h14
          have hwk : wo A9 B9 = wo (A9.drop k) (B9.drop k) := (hby.resolve_right (fun g => g.1 h14)).2
          have hst := rr_step hAr hBr k
          have rA := sqA_rng (L := A9) (fun x hx => by have := hAr x hx; omega) k
          have rB := sqA_rng (L := B9) (fun x hx => by have := hBr x hx; omega) k
          have q1 := rr_rng A9 k
          have rA2 : sqA A9 k < 24 := by
            by_cases g : k < A9.length
            · exact (hAr _ (sqA_mem g)).2
            · rw [sqA_none (by omega)]; decide
          have rB2 : sqA B9 k < 24 := by
            by_cases g : k < B9.length
            · exact (hBr _ (sqA_mem g)).2
            · rw [sqA_none (by omega)]; decide
          have q2 := rr_rng B9 k
          have j57 : ∀ (f : Int) (hf : f = sqA A9 k), J (gw 3 ASh cy b ν ++ E) 0 0 57 [(0, .ref (b 0)), (1, .ref (b 1)), (2, .int (zI (i : Int))), (3, .int (zI (j : Int))), (4, .int (zI nm)), (5, .int (zI by_)), (6, .int (zI (k : Int)))] [.int (zI f)] := by
            intro f hf
            refine j_istore hJ (lv' := [(7, .int (zI f)), (0, .ref (b 0)), (1, .ref (b 1)), (2, .int (zI (i : Int))), (3, .int (zI (j : Int))), (4, .int (zI nm)), (5, .int (zI by_)), (6, .int (zI (k : Int)))]) (by decide) rfl dL_compare_57 ?_
            have j99 : ∀ (g : Int) (hg : g = sqA B9 k), J (gw 3 ASh cy b ν ++ E) 0 0 99 [(0, .ref (b 0)), (1, .ref (b 1)), (2, .int (zI (i : Int))), (3, .int (zI (j : Int))), (4, .int (zI nm)), (5, .int (zI by_)), (6, .int (zI (k : Int))), (7, .int (zI f))] [.int (zI g)] := by
              intro g hg
              refine j_istore hJ (lv' := [(8, .int (zI g)), (0, .ref (b 0)), (1, .ref (b 1)), (2, .int (zI (i : Int))), (3, .int (zI (j : Int))), (4, .int (zI nm)), (5, .int (zI by_)), (6, .int (zI (k : Int))), (7, .int (zI f))]) (by decide) rfl dL_compare_99 ?_
              have j115 : ∀ (r1 : Int) (hr1 : r1 = rr A9 k), J (gw 3 ASh cy b ν ++ E) 0 0 115 [(0, .ref (b 0)), (1, .ref (b 1)), (2, .int (zI (i : Int))), (3, .int (zI (j : Int))), (4, .int (zI nm)), (5, .int (zI by_)), (6, .int (zI (k : Int))), (7, .int (zI f)), (8, .int (zI g))] [.int (zI r1)] := by
                intro r1 hr1
                refine j_iload hJ (j := 8) rfl dL_compare_115 ?_
                have j129 : ∀ (r2 : Int) (hr2 : r2 = rr B9 k), J (gw 3 ASh cy b ν ++ E) 0 0 129 [(0, .ref (b 0)), (1, .ref (b 1)), (2, .int (zI (i : Int))), (3, .int (zI (j : Int))), (4, .int (zI nm)), (5, .int (zI by_)), (6, .int (zI (k : Int))), (7, .int (zI f)), (8, .int (zI g))] [.int (zI r2), .int (zI r1)] := by
                  intro r2 hr2
                  refine j_isub hJ dL_compare_129 ?_
                  refine j_istore hJ (lv' := [(5, .int (zI (r1 - r2))), (0, .ref (b 0)), (1, .ref (b 1)), (2, .int (zI (i : Int))), (3, .int (zI (j : Int))), (4, .int (zI nm)), (6, .int (zI (k : Int))), (7, .int (zI f)), (8, .int (zI g))]) (by decide) rfl dL_compare_130 ?_
                  refine j_iinc hJ (lv' := [(6, .int (zI ((k : Int) + 1))), (5, .int (zI (r1 - r2))), (0, .ref (b 0)), (1, .ref (b 1)), (2, .int (zI (i : Int))), (3, .int (zI (j : Int))), (4, .int (zI nm)), (7, .int (zI f)), (8, .int (zI g))]) (j := 6) rfl (by omega) (by decide) rfl dL_compare_132 ?_
                  refine j_goto hJ (tgt := 6) (by decide) dL_compare_135 ?_
                  refine j_locs hJ [2, 3, 4, 5, 6, 1, 0] rfl ?_
                  refine ih6 (r1 - r2) (k + 1) (by omega) (by omega) ?_ (by omega)
                  · by_cases h0 : r1 - r2 = 0
                    · exact Or.inl ⟨h0, by rw [hwk, hst.1 (by rw [← hr1, ← hr2]; exact h0)]⟩
                    · exact Or.inr ⟨h0, by rw [hwk]; have := hst.2 (by rw [← hr1, ← hr2]; exact h0); rw [← hr1, ← hr2] at this; exact this⟩
                refine j_if_ge hJ (tgt := 124) ⟨by omega, by omega⟩ (by decide) dL_compare_117 ?_ ?_
                · intro h117
                  refine j_iload hJ (j := 8) rfl dL_compare_124 ?_
                  refine j_callS0 hJ (c_L_rank hfl ⟨by omega, by omega⟩) m_L_15 k_L_rank ⟨(Nat.le_of_ble_eq_true rfl), (Nat.le_of_ble_eq_true rfl)⟩ ⟨(Nat.le_of_ble_eq_true rfl), (Nat.le_of_ble_eq_true rfl)⟩ (Nat.le_of_ble_eq_true rfl) dL_compare_126 rfl ?_
                  intro v1 u2 hv3
                  obtain ⟨g8, rfl, rfl, hg8⟩ := hv3
                  show J (gw 3 ASh cy b ν ++ E) 0 0 129 [(0, .ref (b 0)), (1, .ref (b 1)), (2, .int (zI (i : Int))), (3, .int (zI (j : Int))), (4, .int (zI nm)), (5, .int (zI by_)), (6, .int (zI (k : Int))), (7, .int (zI f)), (8, .int (zI g))] [.int (zI g8), .int (zI r1)]
                  exact j129 g8 (by unfold rr; first | (rw [if_pos (by omega)]; done) | (rw [if_neg (by omega), hg8, hg]; done))
                · intro h117
                  refine j_iconst hJ dL_compare_120 ?_
                  refine j_goto hJ (tgt := 129) (by decide) dL_compare_121 ?_
                  exact j129 (-1) (by unfold rr; first | (rw [if_pos (by omega)]; done) | (rw [if_neg (by omega), hg8, hg]; done))
              refine j_iload hJ (j := 8) rfl dL_compare_101 ?_
              refine j_if_ge hJ (tgt := 110) ⟨by omega, by omega⟩ (by decide) dL_compare_103 ?_ ?_
              · intro h103
                refine j_iload hJ (j := 8) rfl dL_compare_110 ?_
                refine j_callS0 hJ (c_L_rank hfl ⟨by omega, by omega⟩) m_L_15 k_L_rank ⟨(Nat.le_of_ble_eq_true rfl), (Nat.le_of_ble_eq_true rfl)⟩ ⟨(Nat.le_of_ble_eq_true rfl), (Nat.le_of_ble_eq_true rfl)⟩ (Nat.le_of_ble_eq_true rfl) dL_compare_112 rfl ?_
                intro v4 u5 hv6
                obtain ⟨f8, rfl, rfl, hf8⟩ := hv6
                show J (gw 3 ASh cy b ν ++ E) 0 0 115 [(8, .int (zI g)), (0, .ref (b 0)), (1, .ref (b 1)), (2, .int (zI (i : Int))), (3, .int (zI (j : Int))), (4, .int (zI nm)), (5, .int (zI by_)), (6, .int (zI (k : Int))), (7, .int (zI f))] [.int (zI f8)]
                refine j_locs hJ [1, 2, 3, 4, 5, 6, 7, 8, 0] rfl ?_
                exact j115 f8 (by unfold rr; first | (rw [if_pos (by omega)]; done) | (rw [if_neg (by omega), hf8, hf]; done))
              · intro h103
                refine j_iconst hJ dL_compare_106 ?_
                refine j_goto hJ (tgt := 115) (by decide) dL_compare_107 ?_
                refine j_locs hJ [1, 2, 3, 4, 5, 6, 7, 8, 0] rfl ?_
                exact j115 (-1) (by unfold rr; first | (rw [if_pos (by omega)]; done) | (rw [if_neg (by omega), hf8, hf]; done))
            refine j_iload hJ (j := 5) rfl dL_compare_59 ?_
            refine j_if_eq hJ (tgt := 91) ⟨by omega, by omega⟩ (by decide) dL_compare_61 ?_ ?_
            · intro h61
              have hnm0 : ¬ nm = 1 := by omega
              rw [if_neg hnm0] at hB9
              refine j_aload_n hJ (j := 1) rfl rfl dL_compare_91 ?_
              refine j_aload_n hJ (j := 2) rfl rfl dL_compare_92 ?_
              refine j_iload_n hJ (j := 4) rfl rfl dL_compare_93 ?_
              refine j_iload hJ (j := 7) rfl dL_compare_94 ?_
              refine j_callS0 hJ (c_L_keyWord hfl hK hA hj hM hk4) m_L_9 k_L_keyWord ⟨(Nat.le_of_ble_eq_true rfl), (Nat.le_of_ble_eq_true rfl)⟩ ⟨(Nat.le_of_ble_eq_true rfl), (Nat.le_of_ble_eq_true rfl)⟩ (Nat.le_of_ble_eq_true rfl) dL_compare_96 rfl ?_
              intro v7 u8 hv9
              obtain ⟨g9, rfl, rfl, hg9⟩ := hv9
              show J (gw 3 ASh cy b ν ++ E) 0 0 99 [(7, .int (zI f)), (0, .ref (b 0)), (1, .ref (b 1)), (2, .int (zI (i : Int))), (3, .int (zI (j : Int))), (4, .int (zI nm)), (5, .int (zI by_)), (6, .int (zI (k : Int)))] [.int (zI g9)]
              refine j_locs hJ [1, 2, 3, 4, 5, 6, 7, 0] rfl ?_
              exact j99 g9 (by first | rfl | (rw [hB9]; exact hg9) | (rw [hB9]; exact (sqA_none (by omega)).symm))
            · intro h61
              have hnm1 : nm = 1 := by omega
              rw [if_pos hnm1] at hB9
              refine j_iload hJ (j := 7) rfl dL_compare_64 ?_
              refine j_aload_n hJ (j := 2) rfl rfl dL_compare_66 ?_
              refine j_iconst hJ dL_compare_67 ?_
              refine j_iload_n hJ (j := 4) rfl rfl dL_compare_68 ?_
              refine j_imul hJ dL_compare_69 ?_
              refine w_iald hJ (by omega) rfl (by first | decide | omega) (by omega) (by omega) dL_compare_70 ?_
              refine j_topi (y := zI (M.length : Int)) (by rw [o1]) ?_
              refine j_icmp_ge hJ (tgt := 87) ⟨by omega, by omega⟩ ⟨by omega, by omega⟩ (by decide) dL_compare_71 ?_ ?_
              · intro h71
                refine j_iconst hJ dL_compare_87 ?_
                refine j_goto hJ (tgt := 99) (by decide) dL_compare_88 ?_
                refine j_locs hJ [1, 2, 3, 4, 5, 6, 7, 0] rfl ?_
                exact j99 (-1) (by first | rfl | (rw [hB9]; exact hg9) | (rw [hB9]; exact (sqA_none (by omega)).symm))
              · intro h71
                refine j_aload_n hJ (j := 2) rfl rfl dL_compare_74 ?_
                refine j_iconst hJ dL_compare_75 ?_
                refine j_iload_n hJ (j := 4) rfl rfl dL_compare_76 ?_
                refine j_imul hJ dL_compare_77 ?_
                refine j_iconst hJ dL_compare_78 ?_
                refine j_iadd hJ dL_compare_79 ?_
                refine j_iload hJ (j := 7) rfl dL_compare_80 ?_
                refine j_iadd hJ dL_compare_82 ?_
                refine w_iald hJ (by omega) rfl (by first | decide | omega) (by omega) (by omega) dL_compare_83 ?_
                refine j_topi (y := zI (sqA B9 k)) (by rw [o4 k _ (sqA_get (by omega)), hB9]) ?_
                refine j_goto hJ (tgt := 99) (by decide) dL_compare_84 ?_
                refine j_locs hJ [1, 2, 3, 4, 5, 6, 7, 0] rfl ?_
                exact j99 (sqA B9 k) (by first | rfl | (rw [hB9]; exact hg9) | (rw [hB9]; exact (sqA_none (by omega)).symm))
          refine j_iload hJ (j := 4) rfl dL_compare_17 ?_
          refine j_if_eq hJ (tgt := 49) ⟨by omega, by omega⟩ (by decide) dL_compare_19 ?_ ?_
          · intro h19
            have hnm0 : ¬ nm = 1 := by omega
            rw [if_neg hnm0] at hA9 hB9
            refine j_aload_n hJ (j := 0) rfl rfl dL_compare_49 ?_
            refine j_aload_n hJ (j := 1) rfl rfl dL_compare_50 ?_
            refine j_iload_n hJ (j := 2) rfl rfl dL_compare_51 ?_
            refine j_iload hJ (j := 6) rfl dL_compare_52 ?_
            refine j_callS0 hJ (c_L_keyWord hfl hK hA hi hN hk4) m_L_9 k_L_keyWord ⟨(Nat.le_of_ble_eq_true rfl), (Nat.le_of_ble_eq_true rfl)⟩ ⟨(Nat.le_of_ble_eq_true rfl), (Nat.le_of_ble_eq_true rfl)⟩ (Nat.le_of_ble_eq_true rfl) dL_compare_54 rfl ?_
            intro v10 u11 hv12
            obtain ⟨f9, rfl, rfl, hf9⟩ := hv12
            show J (gw 3 ASh cy b ν ++ E) 0 0 57 [(0, .ref (b 0)), (1, .ref (b 1)), (2, .int (zI (i : Int))), (3, .int (zI (j : Int))), (4, .int (zI nm)), (5, .int (zI by_)), (6, .int (zI (k : Int)))] [.int (zI f9)]
            exact j57 f9 (by first | rfl | (rw [hA9]; exact hf9) | (rw [hA9]; exact (sqA_none (by omega)).symm))
          · intro h19
            have hnm1 : nm = 1 := by omega
            rw [if_pos hnm1] at hA9 hB9
            refine j_iload hJ (j := 6) rfl dL_compare_22 ?_
            refine j_aload_n hJ (j := 1) rfl rfl dL_compare_24 ?_
            refine j_iconst hJ dL_compare_25 ?_
            refine j_iload_n hJ (j := 2) rfl rfl dL_compare_26 ?_
            refine j_imul hJ dL_compare_27 ?_
            
            refine w_iald hJ (by omega) rfl (by first | decide | omega) (by omega) (by omega) dL_compare_28 ?_
            refine j_topi (y := zI (N.length : Int)) (by rw [n1]) ?_
            refine j_icmp_ge hJ (tgt := 45) ⟨by omega, by omega⟩ ⟨by omega, by omega⟩ (by decide) dL_compare_29 ?_ ?_
            · intro h29
              refine j_iconst hJ dL_compare_45 ?_
              refine j_goto hJ (tgt := 57) (by decide) dL_compare_46 ?_
              exact j57 (-1) (by first | rfl | (rw [hA9]; exact hf9) | (rw [hA9]; exact (sqA_none (by omega)).symm))
            · intro h29
              refine j_aload_n hJ (j := 1) rfl rfl dL_compare_32 ?_
              refine j_iconst hJ dL_compare_33 ?_
              refine j_iload_n hJ (j := 2) rfl rfl dL_compare_34 ?_
              refine j_imul hJ dL_compare_35 ?_
              refine j_iconst hJ dL_compare_36 ?_
              refine j_iadd hJ dL_compare_37 ?_
              refine j_iload hJ (j := 6) rfl dL_compare_38 ?_
              refine j_iadd hJ dL_compare_40 ?_
              refine w_iald hJ (by omega) rfl (by first | decide | omega) (by omega) (by omega) dL_compare_41 ?_
              refine j_topi (y := zI (sqA A9 k)) (by rw [n4 k _ (sqA_get (by omega)), hA9]) ?_
              refine j_goto hJ (tgt := 57) (by decide) dL_compare_42 ?_
              exact j57 (sqA A9 k) (by first | rfl | (rw [hA9]; exact hf9) | (rw [hA9]; exact (sqA_none (by omega)).symm))
  refine j_locs hJ [2, 3, 4, 5, 6, 1, 0] rfl ?_
  exact lp6 (4 - 0 + 1) 0 0 (by omega) (by omega) (by exact Or.inl ⟨rfl, rfl⟩) (by omega)
set_option maxHeartbeats 4000000 in
set_option maxRecDepth 100000 in
theorem c_L_isAhead {ν : Nat → Int → Int} {kd : Int → Int} {N : Nat → List Int} {i j : Nat} (hfl : l.stackTraces = false) (hK : AK ν kd) (hA : AWr ν) (hi : i < 5) (hj : j < 5) (hN : ANm ν i (N i)) (hM : ANm ν j (N j)) : CT l D cy n0 ad yL_isAhead (.code yL_isAhead cL_isAhead 5 (some .boolean)) ({ frames := 2, cells := 0, slots := 0, locals := 57 }) [.ref (b 0), .ref (b 1), .int (zI (i : Int)), .int (zI (j : Int))] (gw 3 ASh cy b ν ++ E) (fun vv uu => ∃ q, vv = some (.int (zI q)) ∧ uu = (gw 3 ASh cy b ν ++ E) ∧ ((q = 0 ∨ q = 1) ∧ (q = 1 ↔ io kd N i j < 0))) := by
  refine CT.walk hfl (by decide) (Nat.le_of_ble_eq_true rfl) ?_
  intro A J hJ
  show J (gw 3 ASh cy b ν ++ E) 0 0 0 [(0, .ref (b 0)), (1, .ref (b 1)), (2, .int (zI (i : Int))), (3, .int (zI (j : Int)))] []
  refine j_aload_n hJ (j := 0) rfl rfl dL_isAhead_0 ?_
  refine j_aload_n hJ (j := 1) rfl rfl dL_isAhead_1 ?_
  refine j_iload_n hJ (j := 2) rfl rfl dL_isAhead_2 ?_
  refine j_iload_n hJ (j := 3) rfl rfl dL_isAhead_3 ?_
  refine j_iconst hJ dL_isAhead_4 ?_
  refine j_callS0 hJ (c_L_compare hfl hK hA hi hj hN hM (Or.inl rfl)) m_L_19 k_L_compare ⟨(Nat.le_of_ble_eq_true rfl), (Nat.le_of_ble_eq_true rfl)⟩ ⟨(Nat.le_of_ble_eq_true rfl), (Nat.le_of_ble_eq_true rfl)⟩ (Nat.le_of_ble_eq_true rfl) dL_isAhead_5 rfl ?_
  intro v1 u2 hv3
  obtain ⟨c, rfl, rfl, hc⟩ := hv3
  show J (gw 3 ASh cy b ν ++ E) 0 0 8 [(0, .ref (b 0)), (1, .ref (b 1)), (2, .int (zI (i : Int))), (3, .int (zI (j : Int)))] [.int (zI c)]
  rw [if_neg (by decide)] at hc
  have hcr := wo_rng (keyL kd (N i)) (keyL kd (N j))
  have hnr := wo_rng (N i) (N j)
  refine j_istore hJ (lv' := [(4, .int (zI c)), (0, .ref (b 0)), (1, .ref (b 1)), (2, .int (zI (i : Int))), (3, .int (zI (j : Int)))]) (by decide) rfl dL_isAhead_8 ?_
  have j58 : ∀ (q : Int) (hq : (q = 0 ∨ q = 1) ∧ (q = 1 ↔ io kd N i j < 0)), J (gw 3 ASh cy b ν ++ E) 0 0 58 [(0, .ref (b 0)), (1, .ref (b 1)), (2, .int (zI (i : Int))), (3, .int (zI (j : Int)))] [.int (zI q)] := by
    intro q hq
    refine j_iret hJ rfl rfl (by rcases hq.1 with h | h <;> rw [h] <;> rfl) (Nat.le_of_ble_eq_true rfl) (Nat.le_of_ble_eq_true rfl) dL_isAhead_58 ⟨q, rfl, rfl, ?_⟩
    exact hq
  have j28 : ∀ (c2 : Int) (hc2 : (c = 0 ∧ c2 = wo (N i) (N j)) ∨ (c ≠ 0 ∧ c2 = c)), J (gw 3 ASh cy b ν ++ E) 0 0 28 [(0, .ref (b 0)), (1, .ref (b 1)), (2, .int (zI (i : Int))), (3, .int (zI (j : Int)))] [.int (zI c2)] := by
    intro c2 hc2
    have hc2r : -1 ≤ c2 ∧ c2 ≤ 1 := by omega
    have hio : io kd N i j = if c = 0 then (if c2 = 0 then sg ((i : Int) - j) else c2) else c := by
      unfold io ko
      rw [← hc]
      by_cases g : c = 0
      · rw [if_pos g, if_pos g, (hc2.resolve_right (fun x => x.1 g)).2]
      · rw [if_neg g, if_neg g]
    have hsg := sg_cases ((i : Int) - j)
    refine j_istore hJ (lv' := [(4, .int (zI c2)), (0, .ref (b 0)), (1, .ref (b 1)), (2, .int (zI (i : Int))), (3, .int (zI (j : Int)))]) (by decide) rfl dL_isAhead_28 ?_
    refine j_iload hJ (j := 0) rfl dL_isAhead_30 ?_
    refine j_if_ne hJ (tgt := 48) ⟨by omega, by omega⟩ (by decide) dL_isAhead_32 ?_ ?_
    · intro h32
      refine j_iload hJ (j := 0) rfl dL_isAhead_48 ?_
      refine j_if_ge hJ (tgt := 57) ⟨by omega, by omega⟩ (by decide) dL_isAhead_50 ?_ ?_
      · intro h50
        refine j_iconst hJ dL_isAhead_57 ?_
        refine j_locs hJ [1, 2, 3, 4] rfl ?_
        refine j58 0 ?_
        · rw [hio]
          refine ⟨by first | exact Or.inl rfl | exact Or.inr rfl, ?_⟩
          rcases hc2 with ⟨g1, g2⟩ | ⟨g1, g2⟩
          · rw [if_pos g1]
            split <;> constructor <;> intro g <;> omega
          · rw [if_neg g1]
            constructor <;> intro g <;> omega
      · intro h50
        refine j_iconst hJ dL_isAhead_53 ?_
        refine j_goto hJ (tgt := 58) (by decide) dL_isAhead_54 ?_
        refine j_locs hJ [1, 2, 3, 4] rfl ?_
        refine j58 1 ?_
        · rw [hio]
          refine ⟨by first | exact Or.inl rfl | exact Or.inr rfl, ?_⟩
          rcases hc2 with ⟨g1, g2⟩ | ⟨g1, g2⟩
          · rw [if_pos g1]
            split <;> constructor <;> intro g <;> omega
          · rw [if_neg g1]
            constructor <;> intro g <;> omega
    · intro h32
      refine j_iload_n hJ (j := 3) rfl rfl dL_isAhead_35 ?_
      refine j_iload_n hJ (j := 4) rfl rfl dL_isAhead_36 ?_
      refine j_icmp_ge hJ (tgt := 44) ⟨by omega, by omega⟩ ⟨by omega, by omega⟩ (by decide) dL_isAhead_37 ?_ ?_
      · intro h37
        refine j_iconst hJ dL_isAhead_44 ?_
        refine j_goto hJ (tgt := 58) (by decide) dL_isAhead_45 ?_
        refine j_locs hJ [1, 2, 3, 4] rfl ?_
        refine j58 0 ?_
        · rw [hio]
          refine ⟨by first | exact Or.inl rfl | exact Or.inr rfl, ?_⟩
          rcases hc2 with ⟨g1, g2⟩ | ⟨g1, g2⟩
          · rw [if_pos g1]
            split <;> constructor <;> intro g <;> omega
          · rw [if_neg g1]
            constructor <;> intro g <;> omega
      · intro h37
        refine j_iconst hJ dL_isAhead_40 ?_
        refine j_goto hJ (tgt := 58) (by decide) dL_isAhead_41 ?_
        refine j_locs hJ [1, 2, 3, 4] rfl ?_
        refine j58 1 ?_
        · rw [hio]
          refine ⟨by first | exact Or.inl rfl | exact Or.inr rfl, ?_⟩
          rcases hc2 with ⟨g1, g2⟩ | ⟨g1, g2⟩
          · rw [if_pos g1]
            split <;> constructor <;> intro g <;> omega
          · rw [if_neg g1]
            constructor <;> intro g <;> omega
  refine j_iload hJ (j := 0) rfl dL_isAhead_10 ?_
  refine j_if_ne hJ (tgt := 26) ⟨by omega, by omega⟩ (by decide) dL_isAhead_12 ?_ ?_
  · intro h12
    refine j_iload hJ (j := 0) rfl dL_isAhead_26 ?_
    refine j_locs hJ [1, 2, 3, 4] rfl ?_
    exact j28 c (by first | exact Or.inl ⟨h12, hc1⟩ | exact Or.inr ⟨h12, rfl⟩)
  · intro h12
    refine j_aload_n hJ (j := 1) rfl rfl dL_isAhead_15 ?_
    refine j_aload_n hJ (j := 2) rfl rfl dL_isAhead_16 ?_
    refine j_iload_n hJ (j := 3) rfl rfl dL_isAhead_17 ?_
    refine j_iload_n hJ (j := 4) rfl rfl dL_isAhead_18 ?_
    refine j_iconst hJ dL_isAhead_19 ?_
    refine j_callS0 hJ (c_L_compare hfl hK hA hi hj hN hM (Or.inr rfl)) m_L_19 k_L_compare ⟨(Nat.le_of_ble_eq_true rfl), (Nat.le_of_ble_eq_true rfl)⟩ ⟨(Nat.le_of_ble_eq_true rfl), (Nat.le_of_ble_eq_true rfl)⟩ (Nat.le_of_ble_eq_true rfl) dL_isAhead_20 rfl ?_
    intro v4 u5 hv6
    obtain ⟨c1, rfl, rfl, hc1⟩ := hv6
    show J (gw 3 ASh cy b ν ++ E) 0 0 23 [(4, .int (zI c)), (0, .ref (b 0)), (1, .ref (b 1)), (2, .int (zI (i : Int))), (3, .int (zI (j : Int)))] [.int (zI c1)]
    rw [if_pos rfl] at hc1
    refine j_goto hJ (tgt := 28) (by decide) dL_isAhead_23 ?_
    refine j_locs hJ [1, 2, 3, 4] rfl ?_
    exact j28 c1 (by first | exact Or.inl ⟨h12, hc1⟩ | exact Or.inr ⟨h12, rfl⟩)
end
