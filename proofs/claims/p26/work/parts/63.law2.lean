/-! the law: tracks, letters -/
set_option maxRecDepth 20000 in
theorem m_L_23 : MF RL 23 1 yL_square 3 := ⟨Or.inl (List.mem_of_getElem? (i := 332) (by decide +kernel)), (List.mem_of_getElem? (i := 39) (by decide +kernel)), ⟨by decide +kernel, by decide +kernel⟩, by decide +kernel, fun h => by omega, fun _ => (List.mem_of_getElem? (i := 333) (by decide +kernel)), fun h => by omega⟩
set_option maxRecDepth 20000 in
theorem k_L_square : Cond.code yL_square cL_square 10 (some .int) ∈ GT := (List.mem_of_getElem? (i := 334) (by decide +kernel))
section
variable {l : Launch} {D : va_G} {cy : Nat → ClassId} {n0 : Nat} {ad : Nat → Nat} {b ba : Nat → Nat} {E : va_W} {ws : va_W}
set_option maxHeartbeats 4000000 in
set_option maxRecDepth 100000 in
theorem c_L_square {ν : Nat → Int → Int} {pp : Nat → Int} {i m st : Nat} (hfl : l.stackTraces = false) (hi : i < 5) (hP : APt ν i pp m) (hst : st ≤ 1000) : CT l D cy n0 ad yL_square (.code yL_square cL_square 10 (some .int)) ({ frames := 0, cells := 0, slots := 0, locals := 0 }) [.ref (b 2), .int (zI (i : Int)), .int (zI (st : Int))] (gw 3 ASh cy b ν ++ E) (fun vv uu => ∃ q, vv = some (.int (zI q)) ∧ uu = (gw 3 ASh cy b ν ++ E) ∧ (q = sqA (trk pp m) st)) := by
  obtain ⟨p1, p2, p3, p4⟩ := id hP
  have hr := trk_rng p4
  have h1l : (trk pp 1).length = 1 := rfl
  have hpr := p4.1
  refine CT.walk hfl (by decide) (Nat.le_of_ble_eq_true rfl) ?_
  intro A J hJ
  show J (gw 3 ASh cy b ν ++ E) 0 0 0 [(0, .ref (b 2)), (1, .int (zI (i : Int))), (2, .int (zI (st : Int)))] []
  refine j_iload_n hJ (j := 2) rfl rfl dL_square_0 ?_
  refine j_istore_n hJ (lv' := [(3, .int (zI (st : Int))), (0, .ref (b 2)), (1, .int (zI (i : Int))), (2, .int (zI (st : Int)))]) rfl (by decide) rfl dL_square_1 ?_
  refine j_iconst hJ dL_square_2 ?_
  refine j_istore hJ (lv' := [(4, .int (zI 1)), (3, .int (zI (st : Int))), (0, .ref (b 2)), (1, .int (zI (i : Int))), (2, .int (zI (st : Int)))]) (by decide) rfl dL_square_3 ?_
  have lp5 : ∀ (nn5 : Nat) (lf : Int) (j : Nat) (hmeas5 : m + 1 - j < nn5) (hj : j ≤ m) (hlf : (j = 0 ∧ lf = st) ∨ (1 ≤ j ∧ lf = st - ((trk pp j).length : Int) + 1 ∧ (trk pp j).length ≤ st)), J (gw 3 ASh cy b ν ++ E) 0 0 5 [(0, .ref (b 2)), (1, .int (zI (i : Int))), (2, .int (zI (st : Int))), (3, .int (zI lf)), (4, .int (zI ((j : Int) + 1)))] [] := by
    intro nn5
    induction nn5 with
    | zero => intro lf j hmeas5 hj hlf; omega
    | succ nn5 ih5 =>
      intro lf j hmeas5 hj hlf
      refine j_iload hJ (j := 4) rfl dL_square_5 ?_
      refine j_aload_n hJ (j := 0) rfl rfl dL_square_7 ?_
      refine j_bipush hJ (v := 7) (by decide) dL_square_8 ?_
      refine j_iload_n hJ (j := 1) rfl rfl dL_square_10 ?_
      refine j_imul hJ dL_square_11 ?_
      refine w_iald hJ (by omega) rfl (by first | decide | omega) (by omega) (by omega) dL_square_12 ?_
      refine j_topi (y := zI (m : Int)) (by rw [p1]) ?_
      refine j_icmp_gt hJ (tgt := 162) ⟨by omega, by omega⟩ ⟨by omega, by omega⟩ (by decide) dL_square_13 ?_ ?_
      · intro h13
        obtain rfl : j = m := by omega
        refine j_iconst hJ dL_square_162 ?_
        refine j_iret hJ rfl rfl (rfl) (Nat.le_of_ble_eq_true rfl) (Nat.le_of_ble_eq_true rfl) dL_square_163 ⟨(-1), rfl, rfl, ?_⟩
        rcases hlf with ⟨g1, g2⟩ | ⟨g1, g2, g3⟩
        · subst g1; rfl
        · exact (sqA_none g3).symm
      · intro h13
        have hjm : j < m := by omega
        have hto := p4.1 j hjm
        refine j_aload_n hJ (j := 0) rfl rfl dL_square_16 ?_
        refine j_bipush hJ (v := 7) (by decide) dL_square_17 ?_
        refine j_iload_n hJ (j := 1) rfl rfl dL_square_19 ?_
        refine j_imul hJ dL_square_20 ?_
        refine j_iload hJ (j := 4) rfl dL_square_21 ?_
        refine j_iadd hJ dL_square_23 ?_
        refine w_iald hJ (by omega) rfl (by first | decide | omega) (by omega) (by omega) dL_square_24 ?_
        
        refine j_topi (y := zI (pp j)) (by rw [show (7 * (i : Int) + ((j : Int) + 1)) = 7 * (i : Int) + 1 + (j : Int) by omega, p3 j hjm]) ?_
        refine j_istore hJ (lv' := [(5, .int (zI (pp j))), (0, .ref (b 2)), (1, .int (zI (i : Int))), (2, .int (zI (st : Int))), (3, .int (zI lf)), (4, .int (zI ((j : Int) + 1)))]) (by decide) rfl dL_square_25 ?_
        have j49 : ∀ (fr : Int) (hfr : (j = 0 ∧ fr = pp j) ∨ (1 ≤ j ∧ fr = pp (j - 1))), J (gw 3 ASh cy b ν ++ E) 0 0 49 [(0, .ref (b 2)), (1, .int (zI (i : Int))), (2, .int (zI (st : Int))), (3, .int (zI lf)), (4, .int (zI ((j : Int) + 1))), (5, .int (zI (pp j)))] [.int (zI fr)] := by
          intro fr hfr
          have hfb : 0 ≤ fr ∧ fr < 144 := by
            rcases hfr with ⟨g1, g2⟩ | ⟨g1, g2⟩ <;> rw [g2]
            · exact hto
            · exact p4.1 _ (by omega)
          have hal : 1 ≤ j → Aln fr (pp j / 12) (pp j % 12) := fun g => by
            obtain ⟨g1, g2⟩ := hfr.resolve_left (fun x => by omega)
            rw [g2]
            have := p4.2 (j - 1) (by omega)
            rw [show j - 1 + 1 = j by omega] at this
            exact this
          have haf : 1 ≤ j → _ := fun g => aln_far (hal g)
          have hf1 : 1 ≤ j → 1 ≤ far fr (pp j / 12) (pp j % 12) ∧ far fr (pp j / 12) (pp j % 12) ≤ 11 := fun g => ⟨(hal g).far_pos hfb (by omega) (by omega), (far_rng hfb (by omega) (by omega)).2⟩
          have hj0 : j = 0 → fr = pp j := fun g => (hfr.resolve_right (fun x => by omega)).2
          refine j_istore hJ (lv' := [(6, .int (zI fr)), (0, .ref (b 2)), (1, .int (zI (i : Int))), (2, .int (zI (st : Int))), (3, .int (zI lf)), (4, .int (zI ((j : Int) + 1))), (5, .int (zI (pp j)))]) (by decide) rfl dL_square_49 ?_
          refine j_iload hJ (j := 6) rfl dL_square_51 ?_
          refine j_bipush hJ (v := 12) (by decide) dL_square_53 ?_
          refine j_idiv hJ (by omega) (by omega) (by omega) (by omega) dL_square_55 ?_
          refine j_iload hJ (j := 0) rfl dL_square_56 ?_
          refine j_bipush hJ (v := 12) (by decide) dL_square_58 ?_
          refine j_idiv hJ (by omega) (by omega) (by omega) (by omega) dL_square_60 ?_
          refine j_isub hJ dL_square_61 ?_
          refine j_istore hJ (lv' := [(7, .int (zI (((pp j) / 12) - (fr / 12)))), (6, .int (zI fr)), (0, .ref (b 2)), (1, .int (zI (i : Int))), (2, .int (zI (st : Int))), (3, .int (zI lf)), (4, .int (zI ((j : Int) + 1))), (5, .int (zI (pp j)))]) (by decide) rfl dL_square_62 ?_
          refine j_iload hJ (j := 7) rfl dL_square_64 ?_
          refine j_bipush hJ (v := 12) (by decide) dL_square_66 ?_
          refine j_irem hJ (by omega) (by omega) (by omega) (by omega) dL_square_68 ?_
          refine j_iload hJ (j := 1) rfl dL_square_69 ?_
          refine j_bipush hJ (v := 12) (by decide) dL_square_71 ?_
          refine j_irem hJ (by omega) (by omega) (by omega) (by omega) dL_square_73 ?_
          refine j_isub hJ dL_square_74 ?_
          refine j_istore hJ (lv' := [(8, .int (zI (((pp j) % 12) - (fr % 12)))), (7, .int (zI (((pp j) / 12) - (fr / 12)))), (6, .int (zI fr)), (0, .ref (b 2)), (1, .int (zI (i : Int))), (2, .int (zI (st : Int))), (3, .int (zI lf)), (4, .int (zI ((j : Int) + 1))), (5, .int (zI (pp j)))]) (by decide) rfl dL_square_75 ?_
          have j111 : ∀ (F : Int) (hF : (j = 0 ∧ F = 0) ∨ (1 ≤ j ∧ F = far fr (pp j / 12) (pp j % 12))), J (gw 3 ASh cy b ν ++ E) 0 0 111 [(0, .ref (b 2)), (1, .int (zI (i : Int))), (2, .int (zI (st : Int))), (3, .int (zI lf)), (4, .int (zI ((j : Int) + 1))), (5, .int (zI (pp j))), (6, .int (zI fr)), (7, .int (zI (pp j / 12 - fr / 12))), (8, .int (zI (pp j % 12 - fr % 12)))] [.int (zI F)] := by
            intro F hF
            have hFr : 0 ≤ F ∧ F ≤ 11 := by
              rcases hF with ⟨g1, g2⟩ | ⟨g1, g2⟩
              · omega
              · have := hf1 g1; omega
            have hF0 : F = 0 ↔ j = 0 := by
              rcases hF with ⟨g1, g2⟩ | ⟨g1, g2⟩
              · omega
              · have := hf1 g1; omega
            refine j_istore hJ (lv' := [(9, .int (zI F)), (0, .ref (b 2)), (1, .int (zI (i : Int))), (2, .int (zI (st : Int))), (3, .int (zI lf)), (4, .int (zI ((j : Int) + 1))), (5, .int (zI (pp j))), (6, .int (zI fr)), (7, .int (zI (pp j / 12 - fr / 12))), (8, .int (zI (pp j % 12 - fr % 12)))]) (by decide) rfl dL_square_111 ?_
            refine j_iload_n hJ (j := 4) rfl rfl dL_square_113 ?_
            refine j_iload hJ (j := 0) rfl dL_square_114 ?_
            refine j_icmp_gt hJ (tgt := 151) ⟨by omega, by omega⟩ ⟨by omega, by omega⟩ (by decide) dL_square_116 ?_ ?_
            · intro h116
              refine j_iload_n hJ (j := 4) rfl rfl dL_square_151 ?_
              refine j_iload hJ (j := 0) rfl dL_square_152 ?_
              refine j_isub hJ dL_square_154 ?_
              refine j_istore_n hJ (lv' := [(3, .int (zI (lf - F))), (9, .int (zI F)), (0, .ref (b 2)), (1, .int (zI (i : Int))), (2, .int (zI (st : Int))), (4, .int (zI ((j : Int) + 1))), (5, .int (zI (pp j))), (6, .int (zI fr)), (7, .int (zI (pp j / 12 - fr / 12))), (8, .int (zI (pp j % 12 - fr % 12)))]) rfl (by decide) rfl dL_square_155 ?_
              refine j_iinc hJ (lv' := [(4, .int (zI (((j : Int) + 1) + 1))), (3, .int (zI (lf - F))), (9, .int (zI F)), (0, .ref (b 2)), (1, .int (zI (i : Int))), (2, .int (zI (st : Int))), (5, .int (zI (pp j))), (6, .int (zI fr)), (7, .int (zI (pp j / 12 - fr / 12))), (8, .int (zI (pp j % 12 - fr % 12)))]) (j := 5) rfl (by omega) (by decide) rfl dL_square_156 ?_
              refine j_goto hJ (tgt := 5) (by decide) dL_square_159 ?_
              refine j_locs hJ [3, 4, 5, 1, 0] rfl ?_
              refine ih5 (lf - F) (j + 1) (by omega) (by omega) ?_
              · right; refine ⟨by omega, ?_⟩
                rcases hF with ⟨g1, g2⟩ | ⟨g1, g2⟩
                · subst g1; rw [h1l]; omega
                · obtain ⟨j, rfl⟩ : ∃ j9, j = j9 + 1 := ⟨j - 1, by omega⟩
                  have hl := trk_succ_len (p := pp) (m := j)
                  rw [show pp (j + 1 - 1) = pp j by rw [Nat.add_sub_cancel]] at hfr
                  have hfe : fr = pp j := (hfr.resolve_left (fun g => by omega)).2
                  subst hfe
                  rw [← g2] at hl
                  rw [hl]
                  have := far_rng (hpr j (by omega)) (c := pp (j + 1) / 12) (r := pp (j + 1) % 12) (by have := hpr (j + 1) (by omega); omega) (by omega)
                  omega
            · intro h116
              have j150 : ∀ (q : Int) (hq : q = sqA (trk pp m) st), J (gw 3 ASh cy b ν ++ E) 0 0 150 [(0, .ref (b 2)), (1, .int (zI (i : Int))), (2, .int (zI (st : Int)))] [.int (zI q)] := by
                intro q hq
                refine j_iret hJ rfl rfl (rfl) (Nat.le_of_ble_eq_true rfl) (Nat.le_of_ble_eq_true rfl) dL_square_150 ⟨q, rfl, rfl, ?_⟩
                exact hq
              refine j_iload hJ (j := 0) rfl dL_square_119 ?_
              refine j_if_ne hJ (tgt := 129) ⟨by omega, by omega⟩ (by decide) dL_square_121 ?_ ?_
              · intro h121
                have hj1 : 1 ≤ j := by omega
                obtain ⟨u1, u2, -⟩ := haf hj1
                have u3 := hf1 hj1
                have hFe : F = far fr (pp j / 12) (pp j % 12) := (hF.resolve_left (fun g => by omega)).2
                rw [← hFe] at u1 u2 u3
                have hlf1 := hlf.resolve_left (fun g => by omega)
                have sgc := sg_spec (pp j / 12 - fr / 12)
                have sgr := sg_spec (pp j % 12 - fr % 12)
                refine j_iload hJ (j := 7) rfl dL_square_129 ?_
                refine j_bipush hJ (v := 12) (by decide) dL_square_131 ?_
                refine j_iload hJ (j := 8) rfl dL_square_133 ?_
                refine j_iload hJ (j := 0) rfl dL_square_135 ?_
                refine j_idivz hJ (v := sg (pp j / 12 - fr / 12)) ⟨by omega, by omega⟩ (div_sg (by omega) (by omega) u1) dL_square_137 ?_
                refine j_iload_n hJ (j := 4) rfl rfl dL_square_138 ?_
                refine j_imul hJ dL_square_139 ?_
                refine j_imul hJ dL_square_140 ?_
                refine j_iadd hJ dL_square_141 ?_
                refine j_iload hJ (j := 9) rfl dL_square_142 ?_
                refine j_iload hJ (j := 0) rfl dL_square_144 ?_
                refine j_idivz hJ (v := sg (pp j % 12 - fr % 12)) ⟨by omega, by omega⟩ (div_sg (by omega) (by omega) u2) dL_square_146 ?_
                refine j_iload_n hJ (j := 4) rfl rfl dL_square_147 ?_
                refine j_imul hJ dL_square_148 ?_
                refine j_iadd hJ dL_square_149 ?_
                refine j_locs hJ [1, 2, 3] rfl ?_
                refine j150 ((fr + (12 * ((sg (pp j / 12 - fr / 12)) * lf))) + ((sg (pp j % 12 - fr % 12)) * lf)) ?_
                · first
                  | (subst hst0; subst hj0; refine (sqA_some ?_).symm; rw [trk_pre_at (k := 1) (by omega) (by rw [h1l]; omega)]; rfl)
                  | (obtain ⟨j, rfl⟩ : ∃ j9, j = j9 + 1 := ⟨j - 1, by omega⟩
                     rw [show pp (j + 1 - 1) = pp j by rw [Nat.add_sub_cancel]] at hfr
                     obtain rfl : fr = pp j := (hfr.resolve_left (fun g => by omega)).2
                     have hl := trk_succ_len (p := pp) (m := j)
                     have hsx := trk_seg_at (p := pp) (m := j) (k := st - (trk pp (j + 1)).length) (by omega)
                     rw [show (trk pp (j + 1)).length + (st - (trk pp (j + 1)).length) = st by omega] at hsx
                     rw [sqA_some ((trk_pre_at (k := j + 2) (by omega) (by omega)).trans hsx)]
                     rw [show ((st - (trk pp (j + 1)).length : Nat) : Int) + 1 = lf by omega]
                     unfold stp
                     rcases sgc with ⟨e1, g1⟩ | ⟨e1, g1⟩ | ⟨e1, g1⟩ <;> rcases sgr with ⟨e2, g2⟩ | ⟨e2, g2⟩ | ⟨e2, g2⟩ <;> rw [e1, e2] <;> omega)
              · intro h121
                have hj0 : j = 0 := hF0.mp h121
                have hst0 : st = 0 := by omega
                refine j_iload hJ (j := 6) rfl dL_square_124 ?_
                refine j_goto hJ (tgt := 150) (by decide) dL_square_126 ?_
                refine j_locs hJ [1, 2, 3] rfl ?_
                refine j150 (pp j) ?_
                · first
                  | (subst hst0; subst hj0; refine (sqA_some ?_).symm; rw [trk_pre_at (k := 1) (by omega) (by rw [h1l]; omega)]; rfl)
                  | (obtain ⟨j, rfl⟩ : ∃ j9, j = j9 + 1 := ⟨j - 1, by omega⟩
                     rw [show pp (j + 1 - 1) = pp j by rw [Nat.add_sub_cancel]] at hfr
                     obtain rfl : fr = pp j := (hfr.resolve_left (fun g => by omega)).2
                     have hl := trk_succ_len (p := pp) (m := j)
                     have hsx := trk_seg_at (p := pp) (m := j) (k := st - (trk pp (j + 1)).length) (by omega)
                     rw [show (trk pp (j + 1)).length + (st - (trk pp (j + 1)).length) = st by omega] at hsx
                     rw [sqA_some ((trk_pre_at (k := j + 2) (by omega) (by omega)).trans hsx)]
                     rw [show ((st - (trk pp (j + 1)).length : Nat) : Int) + 1 = lf by omega]
                     unfold stp
                     rcases sgc with ⟨e1, g1⟩ | ⟨e1, g1⟩ | ⟨e1, g1⟩ <;> rcases sgr with ⟨e2, g2⟩ | ⟨e2, g2⟩ | ⟨e2, g2⟩ <;> rw [e1, e2] <;> omega)
          refine j_iload hJ (j := 1) rfl dL_square_77 ?_
          refine j_if_le hJ (tgt := 87) ⟨by omega, by omega⟩ (by decide) dL_square_79 ?_ ?_
          · intro h79
            refine j_iload hJ (j := 1) rfl dL_square_87 ?_
            refine j_if_ge hJ (tgt := 98) ⟨by omega, by omega⟩ (by decide) dL_square_89 ?_ ?_
            · intro h89
              refine j_iload hJ (j := 0) rfl dL_square_98 ?_
              refine j_if_le hJ (tgt := 108) ⟨by omega, by omega⟩ (by decide) dL_square_100 ?_ ?_
              · intro h100
                refine j_iload hJ (j := 0) rfl dL_square_108 ?_
                refine j_ineg hJ dL_square_110 ?_
                refine j_locs hJ [3, 4, 5, 6, 7, 8, 2, 1, 0] rfl ?_
                refine j111 (-(((pp j) % 12) - (fr % 12))) ?_
                · by_cases g : j = 0
                  · have := hj0 g; exact Or.inl ⟨g, by omega⟩
                  · have g1 : 1 ≤ j := by omega
                    have := haf g1
                    exact Or.inr ⟨g1, by omega⟩
              · intro h100
                refine j_iload hJ (j := 0) rfl dL_square_103 ?_
                refine j_goto hJ (tgt := 111) (by decide) dL_square_105 ?_
                refine j_locs hJ [3, 4, 5, 6, 7, 8, 2, 1, 0] rfl ?_
                refine j111 (((pp j) % 12) - (fr % 12)) ?_
                · by_cases g : j = 0
                  · have := hj0 g; exact Or.inl ⟨g, by omega⟩
                  · have g1 : 1 ≤ j := by omega
                    have := haf g1
                    exact Or.inr ⟨g1, by omega⟩
            · intro h89
              refine j_iload hJ (j := 1) rfl dL_square_92 ?_
              refine j_ineg hJ dL_square_94 ?_
              refine j_goto hJ (tgt := 111) (by decide) dL_square_95 ?_
              refine j_locs hJ [3, 4, 5, 6, 7, 8, 2, 1, 0] rfl ?_
              refine j111 (-(((pp j) / 12) - (fr / 12))) ?_
              · by_cases g : j = 0
                · have := hj0 g; exact Or.inl ⟨g, by omega⟩
                · have g1 : 1 ≤ j := by omega
                  have := haf g1
                  exact Or.inr ⟨g1, by omega⟩
          · intro h79
            refine j_iload hJ (j := 1) rfl dL_square_82 ?_
            refine j_goto hJ (tgt := 111) (by decide) dL_square_84 ?_
            refine j_locs hJ [3, 4, 5, 6, 7, 8, 2, 1, 0] rfl ?_
            refine j111 (((pp j) / 12) - (fr / 12)) ?_
            · by_cases g : j = 0
              · have := hj0 g; exact Or.inl ⟨g, by omega⟩
              · have g1 : 1 ≤ j := by omega
                have := haf g1
                exact Or.inr ⟨g1, by omega⟩
        refine j_iload hJ (j := 5) rfl dL_square_27 ?_
        refine j_iconst hJ dL_square_29 ?_
        refine j_icmp_ne hJ (tgt := 38) ⟨by omega, by omega⟩ ⟨by omega, by omega⟩ (by decide) dL_square_30 ?_ ?_
        · intro h30
          refine j_aload_n hJ (j := 1) rfl rfl dL_square_38 ?_
          refine j_bipush hJ (v := 7) (by decide) dL_square_39 ?_
          refine j_iload_n hJ (j := 2) rfl rfl dL_square_41 ?_
          refine j_imul hJ dL_square_42 ?_
          refine j_iload hJ (j := 5) rfl dL_square_43 ?_
          refine j_iadd hJ dL_square_45 ?_
          refine j_iconst hJ dL_square_46 ?_
          refine j_isub hJ dL_square_47 ?_
          have hj1 : 1 ≤ j := by omega
          refine w_iald hJ (by omega) rfl (by first | decide | omega) (by omega) (by omega) dL_square_48 ?_
          refine j_topi (y := zI (pp (j - 1))) (by rw [show (7 * (i : Int) + ((j : Int) + 1) - 1) = 7 * (i : Int) + 1 + ((j - 1 : Nat) : Int) by omega, p3 (j - 1) (by omega)]) ?_
          refine j_locs hJ [1, 2, 3, 4, 5, 0] rfl ?_
          exact j49 (pp (j - 1)) (by first | exact Or.inl ⟨by omega, rfl⟩ | exact Or.inr ⟨by omega, rfl⟩)
        · intro h30
          refine j_iload hJ (j := 0) rfl dL_square_33 ?_
          refine j_goto hJ (tgt := 49) (by decide) dL_square_35 ?_
          refine j_locs hJ [1, 2, 3, 4, 5, 0] rfl ?_
          exact j49 (pp j) (by first | exact Or.inl ⟨by omega, rfl⟩ | exact Or.inr ⟨by omega, rfl⟩)
  refine j_locs hJ [2, 3, 4, 1, 0] rfl ?_
  exact lp5 (m + 1 - 0 + 1) (st : Int) 0 (by omega) (by omega) (by exact Or.inl ⟨rfl, rfl⟩)
set_option maxHeartbeats 4000000 in
set_option maxRecDepth 100000 in
theorem c_L_isOn {ν : Nat → Int → Int} {pp : Nat → Int} {i m : Nat} {its : Int} (hfl : l.stackTraces = false) (hi : i < 5) (hP : APt ν i pp m) (hits : -2147483648 ≤ its ∧ its < 2147483648) : CT l D cy n0 ad yL_isOn (.code yL_isOn cL_isOn 4 (some .boolean)) ({ frames := 1, cells := 0, slots := 0, locals := 29 }) [.ref (b 2), .int (zI (i : Int)), .int (zI its)] (gw 3 ASh cy b ν ++ E) (fun vv uu => ∃ q, vv = some (.int (zI q)) ∧ uu = (gw 3 ASh cy b ν ++ E) ∧ (q = if its ∈ trk pp m then 1 else 0)) := by
  obtain ⟨p1, p2, p3, p4⟩ := id hP
  have hr := trk_rng p4
  have hln := (trk_len p4).1
  refine CT.walk hfl (by decide) (Nat.le_of_ble_eq_true rfl) ?_
  intro A J hJ
  show J (gw 3 ASh cy b ν ++ E) 0 0 0 [(0, .ref (b 2)), (1, .int (zI (i : Int))), (2, .int (zI its))] []
  refine j_iconst hJ dL_isOn_0 ?_
  refine j_istore_n hJ (lv' := [(3, .int (zI 0)), (0, .ref (b 2)), (1, .int (zI (i : Int))), (2, .int (zI its))]) rfl (by decide) rfl dL_isOn_1 ?_
  have lp2 : ∀ (nn2 : Nat) (k : Nat) (hmeas2 : (trk pp m).length + 1 - k < nn2) (hk : k ≤ (trk pp m).length) (hno : ∀ j, j < k → sqA (trk pp m) j ≠ its), J (gw 3 ASh cy b ν ++ E) 0 0 2 [(0, .ref (b 2)), (1, .int (zI (i : Int))), (2, .int (zI its)), (3, .int (zI (k : Int)))] [] := by
    intro nn2
    induction nn2 with
    | zero => intro k hmeas2 hk hno; omega
    | succ nn2 ih2 =>
      intro k hmeas2 hk hno
      refine j_aload_n hJ (j := 0) rfl rfl dL_isOn_2 ?_
      refine j_iload_n hJ (j := 1) rfl rfl dL_isOn_3 ?_
      refine j_iload_n hJ (j := 3) rfl rfl dL_isOn_4 ?_
      refine j_callS0 hJ (c_L_square hfl hi hP (by omega)) m_L_23 k_L_square ⟨(Nat.le_of_ble_eq_true rfl), (Nat.le_of_ble_eq_true rfl)⟩ ⟨(Nat.le_of_ble_eq_true rfl), (Nat.le_of_ble_eq_true rfl)⟩ (Nat.le_of_ble_eq_true rfl) dL_isOn_5 rfl ?_
      intro v1 u2 hv3
      obtain ⟨_, rfl, rfl, rfl⟩ := hv3
      show J (gw 3 ASh cy b ν ++ E) 0 0 8 [(0, .ref (b 2)), (1, .int (zI (i : Int))), (2, .int (zI its)), (3, .int (zI (k : Int)))] [.int (zI (sqA (trk pp m) k))]
      have hs := sqA_rng hr k
      refine j_if_lt hJ (tgt := 29) ⟨by omega, by omega⟩ (by decide) dL_isOn_8 ?_ ?_
      · intro h8
        obtain rfl : k = (trk pp m).length := by omega
        refine j_iconst hJ dL_isOn_29 ?_
        refine j_iret hJ rfl rfl (rfl) (Nat.le_of_ble_eq_true rfl) (Nat.le_of_ble_eq_true rfl) dL_isOn_30 ⟨0, rfl, rfl, ?_⟩
        rw [if_neg]
        intro hm
        obtain ⟨j, hj⟩ := List.getElem?_of_mem hm
        exact hno j (List.getElem?_eq_some_iff.mp hj).1 (sqA_some hj)
      · intro h8
        have hk2 : k < (trk pp m).length := by omega
        refine j_aload_n hJ (j := 0) rfl rfl dL_isOn_11 ?_
        refine j_iload_n hJ (j := 1) rfl rfl dL_isOn_12 ?_
        refine j_iload_n hJ (j := 3) rfl rfl dL_isOn_13 ?_
        refine j_callS0 hJ (c_L_square hfl hi hP (by omega)) m_L_23 k_L_square ⟨(Nat.le_of_ble_eq_true rfl), (Nat.le_of_ble_eq_true rfl)⟩ ⟨(Nat.le_of_ble_eq_true rfl), (Nat.le_of_ble_eq_true rfl)⟩ (Nat.le_of_ble_eq_true rfl) dL_isOn_14 rfl ?_
        intro v4 u5 hv6
        obtain ⟨_, rfl, rfl, rfl⟩ := hv6
        show J (gw 3 ASh cy b ν ++ E) 0 0 17 [(0, .ref (b 2)), (1, .int (zI (i : Int))), (2, .int (zI its)), (3, .int (zI (k : Int)))] [.int (zI (sqA (trk pp m) k))]
        refine j_iload_n hJ (j := 2) rfl rfl dL_isOn_17 ?_
        refine j_icmp_ne hJ (tgt := 23) ⟨by omega, by omega⟩ ⟨by omega, by omega⟩ (by decide) dL_isOn_18 ?_ ?_
        · intro h18
          refine j_iinc hJ (lv' := [(3, .int (zI ((k : Int) + 1))), (0, .ref (b 2)), (1, .int (zI (i : Int))), (2, .int (zI its))]) (j := 3) rfl (by omega) (by decide) rfl dL_isOn_23 ?_
          refine j_goto hJ (tgt := 2) (by decide) dL_isOn_26 ?_
          refine j_locs hJ [1, 2, 3, 0] rfl ?_
          refine ih2 (k + 1) (by omega) (by omega) ?_
          · intro j hj
            by_cases g : j = k
            · rw [g]; exact h18
            · exact hno j (by omega)
        · intro h18
          refine j_iconst hJ dL_isOn_21 ?_
          refine j_iret hJ rfl rfl (rfl) (Nat.le_of_ble_eq_true rfl) (Nat.le_of_ble_eq_true rfl) dL_isOn_22 ⟨1, rfl, rfl, ?_⟩
          rw [if_pos (by rw [← h18]; exact sqA_mem hk2)]
  refine j_locs hJ [1, 2, 3, 0] rfl ?_
  exact lp2 ((trk pp m).length + 1 - 0 + 1) 0 (by omega) (by omega) (by intro j hj; omega)
set_option maxHeartbeats 4000000 in
set_option maxRecDepth 100000 in
theorem c_L_letter {w : Int} {k : Nat} (hfl : l.stackTraces = false) (hw : Drw w) (hk : k ≤ 4) : CT l D cy n0 ad yL_letter (.code yL_letter cL_letter 5 (some .int)) ({ frames := 0, cells := 0, slots := 0, locals := 0 }) [.int (zI w), .int (zI (k : Int))] ws (fun vv uu => ∃ q, vv = some (.int (zI q)) ∧ uu = ws ∧ (q = ltr w.toNat k)) := by
  have hwr := hw.rng
  unfold Drw at hw
  have l3 : ltr w.toNat 3 = if w = 12 then 108 else 0 := by rcases hw with rfl | rfl | rfl | rfl | rfl | rfl | rfl | rfl <;> decide
  have l4 : ltr w.toNat 4 = 0 := by rcases hw with rfl | rfl | rfl | rfl | rfl | rfl | rfl | rfl <;> decide
  refine CT.walk hfl (by decide) (Nat.le_of_ble_eq_true rfl) ?_
  intro A J hJ
  show J ws 0 0 0 [(0, .int (zI w)), (1, .int (zI (k : Int)))] []
  have j45 : ∀ (x1 : Int) (hx1 : x1 = ltr w.toNat 0), J ws 0 0 45 [(0, .int (zI w)), (1, .int (zI (k : Int)))] [.int (zI x1)] := by
    intro x1 hx1
    refine j_istore_n hJ (lv' := [(2, .int (zI x1)), (0, .int (zI w)), (1, .int (zI (k : Int)))]) rfl (by decide) rfl dL_letter_45 ?_
    have j116 : ∀ (x2 : Int) (hx2 : x2 = ltr w.toNat 1), J ws 0 0 116 [(0, .int (zI w)), (1, .int (zI (k : Int))), (2, .int (zI x1))] [.int (zI x2)] := by
      intro x2 hx2
      refine j_istore_n hJ (lv' := [(3, .int (zI x2)), (0, .int (zI w)), (1, .int (zI (k : Int))), (2, .int (zI x1))]) rfl (by decide) rfl dL_letter_116 ?_
      have j177 : ∀ (x3 : Int) (hx3 : x3 = ltr w.toNat 2), J ws 0 0 177 [(0, .int (zI w)), (1, .int (zI (k : Int))), (2, .int (zI x1)), (3, .int (zI x2))] [.int (zI x3)] := by
        intro x3 hx3
        refine j_istore hJ (lv' := [(4, .int (zI x3)), (0, .int (zI w)), (1, .int (zI (k : Int))), (2, .int (zI x1)), (3, .int (zI x2))]) (by decide) rfl dL_letter_177 ?_
        have j223 : ∀ (q : Int) (hq : q = ltr w.toNat k), J ws 0 0 223 [(0, .int (zI w)), (1, .int (zI (k : Int)))] [.int (zI q)] := by
          intro q hq
          refine j_iret hJ rfl rfl (rfl) (Nat.le_of_ble_eq_true rfl) (Nat.le_of_ble_eq_true rfl) dL_letter_223 ⟨q, rfl, rfl, ?_⟩
          exact hq
        have hb1 : -1000 ≤ x1 ∧ x1 ≤ 1000 := by rw [hx1]; rcases hw with rfl | rfl | rfl | rfl | rfl | rfl | rfl | rfl <;> decide
        have hb2 : -1000 ≤ x2 ∧ x2 ≤ 1000 := by rw [hx2]; rcases hw with rfl | rfl | rfl | rfl | rfl | rfl | rfl | rfl <;> decide
        have hb3 : -1000 ≤ x3 ∧ x3 ≤ 1000 := by rw [hx3]; rcases hw with rfl | rfl | rfl | rfl | rfl | rfl | rfl | rfl <;> decide
        refine j_iload_n hJ (j := 2) rfl rfl dL_letter_179 ?_
        refine j_if_ne hJ (tgt := 187) ⟨by omega, by omega⟩ (by decide) dL_letter_180 ?_ ?_
        · intro h180
          refine j_iload_n hJ (j := 2) rfl rfl dL_letter_187 ?_
          refine j_iconst hJ dL_letter_188 ?_
          refine j_icmp_ne hJ (tgt := 196) ⟨by omega, by omega⟩ ⟨by omega, by omega⟩ (by decide) dL_letter_189 ?_ ?_
          · intro h189
            refine j_iload_n hJ (j := 2) rfl rfl dL_letter_196 ?_
            refine j_iconst hJ dL_letter_197 ?_
            refine j_icmp_ne hJ (tgt := 206) ⟨by omega, by omega⟩ ⟨by omega, by omega⟩ (by decide) dL_letter_198 ?_ ?_
            · intro h198
              refine j_iload_n hJ (j := 2) rfl rfl dL_letter_206 ?_
              refine j_iconst hJ dL_letter_207 ?_
              refine j_icmp_ne hJ (tgt := 222) ⟨by omega, by omega⟩ ⟨by omega, by omega⟩ (by decide) dL_letter_208 ?_ ?_
              · intro h208
                refine j_iconst hJ dL_letter_222 ?_
                refine j_locs hJ [1, 2] rfl ?_
                exact j223 0 (by rcases (show k = 0 ∨ k = 1 ∨ k = 2 ∨ k = 3 ∨ k = 4 by omega) with rfl | rfl | rfl | rfl | rfl <;> first | exact hx1 | exact hx2 | exact hx3 | exact l4.symm | (exfalso; omega) | (rw [l3, if_pos (by omega)]; done) | (rw [l3, if_neg (by omega)]; done))
              · intro h208
                refine j_iload_n hJ (j := 1) rfl rfl dL_letter_211 ?_
                refine j_bipush hJ (v := 12) (by decide) dL_letter_212 ?_
                refine j_icmp_ne hJ (tgt := 222) ⟨by omega, by omega⟩ ⟨by omega, by omega⟩ (by decide) dL_letter_214 ?_ ?_
                · intro h214
                  refine j_iconst hJ dL_letter_222 ?_
                  refine j_locs hJ [1, 2] rfl ?_
                  exact j223 0 (by rcases (show k = 0 ∨ k = 1 ∨ k = 2 ∨ k = 3 ∨ k = 4 by omega) with rfl | rfl | rfl | rfl | rfl <;> first | exact hx1 | exact hx2 | exact hx3 | exact l4.symm | (exfalso; omega) | (rw [l3, if_pos (by omega)]; done) | (rw [l3, if_neg (by omega)]; done))
                · intro h214
                  refine j_bipush hJ (v := 108) (by decide) dL_letter_217 ?_
                  refine j_goto hJ (tgt := 223) (by decide) dL_letter_219 ?_
                  refine j_locs hJ [1, 2] rfl ?_
                  exact j223 108 (by rcases (show k = 0 ∨ k = 1 ∨ k = 2 ∨ k = 3 ∨ k = 4 by omega) with rfl | rfl | rfl | rfl | rfl <;> first | exact hx1 | exact hx2 | exact hx3 | exact l4.symm | (exfalso; omega) | (rw [l3, if_pos (by omega)]; done) | (rw [l3, if_neg (by omega)]; done))
            · intro h198
              refine j_iload hJ (j := 0) rfl dL_letter_201 ?_
              refine j_goto hJ (tgt := 223) (by decide) dL_letter_203 ?_
              refine j_locs hJ [1, 2] rfl ?_
              exact j223 x3 (by rcases (show k = 0 ∨ k = 1 ∨ k = 2 ∨ k = 3 ∨ k = 4 by omega) with rfl | rfl | rfl | rfl | rfl <;> first | exact hx1 | exact hx2 | exact hx3 | exact l4.symm | (exfalso; omega) | (rw [l3, if_pos (by omega)]; done) | (rw [l3, if_neg (by omega)]; done))
          · intro h189
            refine j_iload_n hJ (j := 4) rfl rfl dL_letter_192 ?_
            refine j_goto hJ (tgt := 223) (by decide) dL_letter_193 ?_
            refine j_locs hJ [1, 2] rfl ?_
            exact j223 x2 (by rcases (show k = 0 ∨ k = 1 ∨ k = 2 ∨ k = 3 ∨ k = 4 by omega) with rfl | rfl | rfl | rfl | rfl <;> first | exact hx1 | exact hx2 | exact hx3 | exact l4.symm | (exfalso; omega) | (rw [l3, if_pos (by omega)]; done) | (rw [l3, if_neg (by omega)]; done))
        · intro h180
          refine j_iload_n hJ (j := 3) rfl rfl dL_letter_183 ?_
          refine j_goto hJ (tgt := 223) (by decide) dL_letter_184 ?_
          refine j_locs hJ [1, 2] rfl ?_
          exact j223 x1 (by rcases (show k = 0 ∨ k = 1 ∨ k = 2 ∨ k = 3 ∨ k = 4 by omega) with rfl | rfl | rfl | rfl | rfl <;> first | exact hx1 | exact hx2 | exact hx3 | exact l4.symm | (exfalso; omega) | (rw [l3, if_pos (by omega)]; done) | (rw [l3, if_neg (by omega)]; done))
      refine j_iload_n hJ (j := 1) rfl rfl dL_letter_117 ?_
      refine j_iconst hJ dL_letter_118 ?_
      refine j_icmp_ne hJ (tgt := 127) ⟨by omega, by omega⟩ ⟨by omega, by omega⟩ (by decide) dL_letter_119 ?_ ?_
      · intro h119
        refine j_iload_n hJ (j := 1) rfl rfl dL_letter_127 ?_
        refine j_iconst hJ dL_letter_128 ?_
        refine j_icmp_eq hJ (tgt := 138) ⟨by omega, by omega⟩ ⟨by omega, by omega⟩ (by decide) dL_letter_129 ?_ ?_
        · intro h129
          refine j_bipush hJ (v := 119) (by decide) dL_letter_138 ?_
          refine j_goto hJ (tgt := 177) (by decide) dL_letter_140 ?_
          refine j_locs hJ [1, 2, 3, 0] rfl ?_
          exact j177 119 (by rcases hw with rfl | rfl | rfl | rfl | rfl | rfl | rfl | rfl <;> first | rfl | decide | omega)
        · intro h129
          refine j_iload_n hJ (j := 1) rfl rfl dL_letter_132 ?_
          refine j_bipush hJ (v := 22) (by decide) dL_letter_133 ?_
          refine j_icmp_ne hJ (tgt := 143) ⟨by omega, by omega⟩ ⟨by omega, by omega⟩ (by decide) dL_letter_135 ?_ ?_
          · intro h135
            refine j_iload_n hJ (j := 1) rfl rfl dL_letter_143 ?_
            refine j_bipush hJ (v := 12) (by decide) dL_letter_144 ?_
            refine j_icmp_ne hJ (tgt := 154) ⟨by omega, by omega⟩ ⟨by omega, by omega⟩ (by decide) dL_letter_146 ?_ ?_
            · intro h146
              refine j_iload_n hJ (j := 1) rfl rfl dL_letter_154 ?_
              refine j_bipush hJ (v := 13) (by decide) dL_letter_155 ?_
              refine j_icmp_ne hJ (tgt := 165) ⟨by omega, by omega⟩ ⟨by omega, by omega⟩ (by decide) dL_letter_157 ?_ ?_
              · intro h157
                refine j_iload_n hJ (j := 1) rfl rfl dL_letter_165 ?_
                refine j_bipush hJ (v := 14) (by decide) dL_letter_166 ?_
                refine j_icmp_ne hJ (tgt := 176) ⟨by omega, by omega⟩ ⟨by omega, by omega⟩ (by decide) dL_letter_168 ?_ ?_
                · intro h168
                  refine j_iconst hJ dL_letter_176 ?_
                  refine j_locs hJ [1, 2, 3, 0] rfl ?_
                  exact j177 0 (by rcases hw with rfl | rfl | rfl | rfl | rfl | rfl | rfl | rfl <;> first | rfl | decide | omega)
                · intro h168
                  refine j_bipush hJ (v := 109) (by decide) dL_letter_171 ?_
                  refine j_goto hJ (tgt := 177) (by decide) dL_letter_173 ?_
                  refine j_locs hJ [1, 2, 3, 0] rfl ?_
                  exact j177 109 (by rcases hw with rfl | rfl | rfl | rfl | rfl | rfl | rfl | rfl <;> first | rfl | decide | omega)
              · intro h157
                refine j_bipush hJ (v := 107) (by decide) dL_letter_160 ?_
                refine j_goto hJ (tgt := 177) (by decide) dL_letter_162 ?_
                refine j_locs hJ [1, 2, 3, 0] rfl ?_
                exact j177 107 (by rcases hw with rfl | rfl | rfl | rfl | rfl | rfl | rfl | rfl <;> first | rfl | decide | omega)
            · intro h146
              refine j_bipush hJ (v := 108) (by decide) dL_letter_149 ?_
              refine j_goto hJ (tgt := 177) (by decide) dL_letter_151 ?_
              refine j_locs hJ [1, 2, 3, 0] rfl ?_
              exact j177 108 (by rcases hw with rfl | rfl | rfl | rfl | rfl | rfl | rfl | rfl <;> first | rfl | decide | omega)
          · intro h135
            refine j_bipush hJ (v := 119) (by decide) dL_letter_138 ?_
            refine j_goto hJ (tgt := 177) (by decide) dL_letter_140 ?_
            refine j_locs hJ [1, 2, 3, 0] rfl ?_
            exact j177 119 (by rcases hw with rfl | rfl | rfl | rfl | rfl | rfl | rfl | rfl <;> first | rfl | decide | omega)
      · intro h119
        refine j_bipush hJ (v := 100) (by decide) dL_letter_122 ?_
        refine j_goto hJ (tgt := 177) (by decide) dL_letter_124 ?_
        refine j_locs hJ [1, 2, 3, 0] rfl ?_
        exact j177 100 (by rcases hw with rfl | rfl | rfl | rfl | rfl | rfl | rfl | rfl <;> first | rfl | decide | omega)
    refine j_iload_n hJ (j := 1) rfl rfl dL_letter_46 ?_
    refine j_iconst hJ dL_letter_47 ?_
    refine j_icmp_ne hJ (tgt := 56) ⟨by omega, by omega⟩ ⟨by omega, by omega⟩ (by decide) dL_letter_48 ?_ ?_
    · intro h48
      refine j_iload_n hJ (j := 1) rfl rfl dL_letter_56 ?_
      refine j_iconst hJ dL_letter_57 ?_
      refine j_icmp_ne hJ (tgt := 66) ⟨by omega, by omega⟩ ⟨by omega, by omega⟩ (by decide) dL_letter_58 ?_ ?_
      · intro h58
        refine j_iload_n hJ (j := 1) rfl rfl dL_letter_66 ?_
        refine j_iconst hJ dL_letter_67 ?_
        refine j_icmp_eq hJ (tgt := 77) ⟨by omega, by omega⟩ ⟨by omega, by omega⟩ (by decide) dL_letter_68 ?_ ?_
        · intro h68
          refine j_bipush hJ (v := 108) (by decide) dL_letter_77 ?_
          refine j_goto hJ (tgt := 116) (by decide) dL_letter_79 ?_
          refine j_locs hJ [1, 2, 0] rfl ?_
          exact j116 108 (by rcases hw with rfl | rfl | rfl | rfl | rfl | rfl | rfl | rfl <;> first | rfl | decide | omega)
        · intro h68
          refine j_iload_n hJ (j := 1) rfl rfl dL_letter_71 ?_
          refine j_bipush hJ (v := 14) (by decide) dL_letter_72 ?_
          refine j_icmp_ne hJ (tgt := 82) ⟨by omega, by omega⟩ ⟨by omega, by omega⟩ (by decide) dL_letter_74 ?_ ?_
          · intro h74
            refine j_iload_n hJ (j := 1) rfl rfl dL_letter_82 ?_
            refine j_iconst hJ dL_letter_83 ?_
            refine j_icmp_ne hJ (tgt := 92) ⟨by omega, by omega⟩ ⟨by omega, by omega⟩ (by decide) dL_letter_84 ?_ ?_
            · intro h84
              refine j_iload_n hJ (j := 1) rfl rfl dL_letter_92 ?_
              refine j_bipush hJ (v := 12) (by decide) dL_letter_93 ?_
              refine j_icmp_ne hJ (tgt := 103) ⟨by omega, by omega⟩ ⟨by omega, by omega⟩ (by decide) dL_letter_95 ?_ ?_
              · intro h95
                refine j_iload_n hJ (j := 1) rfl rfl dL_letter_103 ?_
                refine j_bipush hJ (v := 13) (by decide) dL_letter_104 ?_
                refine j_icmp_ne hJ (tgt := 114) ⟨by omega, by omega⟩ ⟨by omega, by omega⟩ (by decide) dL_letter_106 ?_ ?_
                · intro h106
                  refine j_bipush hJ (v := 111) (by decide) dL_letter_114 ?_
                  refine j_locs hJ [1, 2, 0] rfl ?_
                  exact j116 111 (by rcases hw with rfl | rfl | rfl | rfl | rfl | rfl | rfl | rfl <;> first | rfl | decide | omega)
                · intro h106
                  refine j_bipush hJ (v := 97) (by decide) dL_letter_109 ?_
                  refine j_goto hJ (tgt := 116) (by decide) dL_letter_111 ?_
                  refine j_locs hJ [1, 2, 0] rfl ?_
                  exact j116 97 (by rcases hw with rfl | rfl | rfl | rfl | rfl | rfl | rfl | rfl <;> first | rfl | decide | omega)
              · intro h95
                refine j_bipush hJ (v := 105) (by decide) dL_letter_98 ?_
                refine j_goto hJ (tgt := 116) (by decide) dL_letter_100 ?_
                refine j_locs hJ [1, 2, 0] rfl ?_
                exact j116 105 (by rcases hw with rfl | rfl | rfl | rfl | rfl | rfl | rfl | rfl <;> first | rfl | decide | omega)
            · intro h84
              refine j_bipush hJ (v := 101) (by decide) dL_letter_87 ?_
              refine j_goto hJ (tgt := 116) (by decide) dL_letter_89 ?_
              refine j_locs hJ [1, 2, 0] rfl ?_
              exact j116 101 (by rcases hw with rfl | rfl | rfl | rfl | rfl | rfl | rfl | rfl <;> first | rfl | decide | omega)
          · intro h74
            refine j_bipush hJ (v := 108) (by decide) dL_letter_77 ?_
            refine j_goto hJ (tgt := 116) (by decide) dL_letter_79 ?_
            refine j_locs hJ [1, 2, 0] rfl ?_
            exact j116 108 (by rcases hw with rfl | rfl | rfl | rfl | rfl | rfl | rfl | rfl <;> first | rfl | decide | omega)
      · intro h58
        refine j_bipush hJ (v := 110) (by decide) dL_letter_61 ?_
        refine j_goto hJ (tgt := 116) (by decide) dL_letter_63 ?_
        refine j_locs hJ [1, 2, 0] rfl ?_
        exact j116 110 (by rcases hw with rfl | rfl | rfl | rfl | rfl | rfl | rfl | rfl <;> first | rfl | decide | omega)
    · intro h48
      refine j_bipush hJ (v := 102) (by decide) dL_letter_51 ?_
      refine j_goto hJ (tgt := 116) (by decide) dL_letter_53 ?_
      refine j_locs hJ [1, 2, 0] rfl ?_
      exact j116 102 (by rcases hw with rfl | rfl | rfl | rfl | rfl | rfl | rfl | rfl <;> first | rfl | decide | omega)
  refine j_iload_n hJ (j := 0) rfl rfl dL_letter_0 ?_
  refine j_iconst hJ dL_letter_1 ?_
  refine j_icmp_ne hJ (tgt := 10) ⟨by omega, by omega⟩ ⟨by omega, by omega⟩ (by decide) dL_letter_2 ?_ ?_
  · intro h2
    refine j_iload_n hJ (j := 0) rfl rfl dL_letter_10 ?_
    refine j_bipush hJ (v := 12) (by decide) dL_letter_11 ?_
    refine j_icmp_ne hJ (tgt := 21) ⟨by omega, by omega⟩ ⟨by omega, by omega⟩ (by decide) dL_letter_13 ?_ ?_
    · intro h13
      refine j_iload_n hJ (j := 0) rfl rfl dL_letter_21 ?_
      refine j_bipush hJ (v := 14) (by decide) dL_letter_22 ?_
      refine j_icmp_ne hJ (tgt := 32) ⟨by omega, by omega⟩ ⟨by omega, by omega⟩ (by decide) dL_letter_24 ?_ ?_
      · intro h24
        refine j_iload_n hJ (j := 0) rfl rfl dL_letter_32 ?_
        refine j_bipush hJ (v := 22) (by decide) dL_letter_33 ?_
        refine j_icmp_ne hJ (tgt := 43) ⟨by omega, by omega⟩ ⟨by omega, by omega⟩ (by decide) dL_letter_35 ?_ ?_
        · intro h35
          refine j_bipush hJ (v := 111) (by decide) dL_letter_43 ?_
          exact j45 111 (by rcases hw with rfl | rfl | rfl | rfl | rfl | rfl | rfl | rfl <;> first | rfl | decide | omega)
        · intro h35
          refine j_bipush hJ (v := 114) (by decide) dL_letter_38 ?_
          refine j_goto hJ (tgt := 45) (by decide) dL_letter_40 ?_
          exact j45 114 (by rcases hw with rfl | rfl | rfl | rfl | rfl | rfl | rfl | rfl <;> first | rfl | decide | omega)
      · intro h24
        refine j_bipush hJ (v := 101) (by decide) dL_letter_27 ?_
        refine j_goto hJ (tgt := 45) (by decide) dL_letter_29 ?_
        exact j45 101 (by rcases hw with rfl | rfl | rfl | rfl | rfl | rfl | rfl | rfl <;> first | rfl | decide | omega)
    · intro h13
      refine j_bipush hJ (v := 109) (by decide) dL_letter_16 ?_
      refine j_goto hJ (tgt := 45) (by decide) dL_letter_18 ?_
      exact j45 109 (by rcases hw with rfl | rfl | rfl | rfl | rfl | rfl | rfl | rfl <;> first | rfl | decide | omega)
  · intro h2
    refine j_bipush hJ (v := 110) (by decide) dL_letter_5 ?_
    refine j_goto hJ (tgt := 45) (by decide) dL_letter_7 ?_
    exact j45 110 (by rcases hw with rfl | rfl | rfl | rfl | rfl | rfl | rfl | rfl <;> first | rfl | decide | omega)
set_option maxHeartbeats 4000000 in
set_option maxRecDepth 100000 in
theorem c_L_apart {x y : Int} (hfl : l.stackTraces = false) (hx : 0 ≤ x ∧ x < 144) (hy : 0 ≤ y ∧ y < 144) : CT l D cy n0 ad yL_apart (.code yL_apart cL_apart 4 (some .int)) ({ frames := 0, cells := 0, slots := 0, locals := 0 }) [.int (zI x), .int (zI y)] ws (fun vv uu => ∃ q, vv = some (.int (zI q)) ∧ uu = ws ∧ (q = far x (y / 12) (y % 12))) := by
  have i1 := iabs_spec (x / 12 - y / 12)
  have i2 := iabs_spec (x % 12 - y % 12)
  refine CT.walk hfl (by decide) (Nat.le_of_ble_eq_true rfl) ?_
  intro A J hJ
  show J ws 0 0 0 [(0, .int (zI x)), (1, .int (zI y))] []
  have j32 : ∀ (a1 : Int) (ha1 : a1 = iabs (x / 12 - y / 12)), J ws 0 0 32 [(0, .int (zI x)), (1, .int (zI y))] [.int (zI a1)] := by
    intro a1 ha1
    refine j_istore_n hJ (lv' := [(2, .int (zI a1)), (0, .int (zI x)), (1, .int (zI y))]) rfl (by decide) rfl dL_apart_32 ?_
    have j65 : ∀ (a2 : Int) (ha2 : a2 = iabs (x % 12 - y % 12)), J ws 0 0 65 [(0, .int (zI x)), (1, .int (zI y)), (2, .int (zI a1))] [.int (zI a2)] := by
      intro a2 ha2
      refine j_istore_n hJ (lv' := [(3, .int (zI a2)), (0, .int (zI x)), (1, .int (zI y)), (2, .int (zI a1))]) rfl (by decide) rfl dL_apart_65 ?_
      have j76 : ∀ (q : Int) (hq : q = far x (y / 12) (y % 12)), J ws 0 0 76 [(0, .int (zI x)), (1, .int (zI y))] [.int (zI q)] := by
        intro q hq
        refine j_iret hJ rfl rfl (rfl) (Nat.le_of_ble_eq_true rfl) (Nat.le_of_ble_eq_true rfl) dL_apart_76 ⟨q, rfl, rfl, ?_⟩
        exact hq
      refine j_iload_n hJ (j := 3) rfl rfl dL_apart_66 ?_
      refine j_iload_n hJ (j := 0) rfl rfl dL_apart_67 ?_
      refine j_icmp_le hJ (tgt := 75) ⟨by omega, by omega⟩ ⟨by omega, by omega⟩ (by decide) dL_apart_68 ?_ ?_
      · intro h68
        refine j_iload_n hJ (j := 0) rfl rfl dL_apart_75 ?_
        refine j_locs hJ [1, 2] rfl ?_
        exact j76 a2 (by unfold far imax; rw [← ha1, ← ha2]; split <;> omega)
      · intro h68
        refine j_iload_n hJ (j := 3) rfl rfl dL_apart_71 ?_
        refine j_goto hJ (tgt := 76) (by decide) dL_apart_72 ?_
        refine j_locs hJ [1, 2] rfl ?_
        exact j76 a1 (by unfold far imax; rw [← ha1, ← ha2]; split <;> omega)
    refine j_iload_n hJ (j := 1) rfl rfl dL_apart_33 ?_
    refine j_bipush hJ (v := 12) (by decide) dL_apart_34 ?_
    refine j_irem hJ (by omega) (by omega) (by omega) (by omega) dL_apart_36 ?_
    refine j_iload_n hJ (j := 2) rfl rfl dL_apart_37 ?_
    refine j_bipush hJ (v := 12) (by decide) dL_apart_38 ?_
    refine j_irem hJ (by omega) (by omega) (by omega) (by omega) dL_apart_40 ?_
    refine j_icmp_le hJ (tgt := 56) ⟨by omega, by omega⟩ ⟨by omega, by omega⟩ (by decide) dL_apart_41 ?_ ?_
    · intro h41
      refine j_iload_n hJ (j := 2) rfl rfl dL_apart_56 ?_
      refine j_bipush hJ (v := 12) (by decide) dL_apart_57 ?_
      refine j_irem hJ (by omega) (by omega) (by omega) (by omega) dL_apart_59 ?_
      refine j_iload_n hJ (j := 1) rfl rfl dL_apart_60 ?_
      refine j_bipush hJ (v := 12) (by decide) dL_apart_61 ?_
      refine j_irem hJ (by omega) (by omega) (by omega) (by omega) dL_apart_63 ?_
      refine j_isub hJ dL_apart_64 ?_
      refine j_locs hJ [1, 2, 0] rfl ?_
      exact j65 ((y % 12) - (x % 12)) (by omega)
    · intro h41
      refine j_iload_n hJ (j := 1) rfl rfl dL_apart_44 ?_
      refine j_bipush hJ (v := 12) (by decide) dL_apart_45 ?_
      refine j_irem hJ (by omega) (by omega) (by omega) (by omega) dL_apart_47 ?_
      refine j_iload_n hJ (j := 2) rfl rfl dL_apart_48 ?_
      refine j_bipush hJ (v := 12) (by decide) dL_apart_49 ?_
      refine j_irem hJ (by omega) (by omega) (by omega) (by omega) dL_apart_51 ?_
      refine j_isub hJ dL_apart_52 ?_
      refine j_goto hJ (tgt := 65) (by decide) dL_apart_53 ?_
      refine j_locs hJ [1, 2, 0] rfl ?_
      exact j65 ((x % 12) - (y % 12)) (by omega)
  refine j_iload_n hJ (j := 0) rfl rfl dL_apart_0 ?_
  refine j_bipush hJ (v := 12) (by decide) dL_apart_1 ?_
  refine j_idiv hJ (by omega) (by omega) (by omega) (by omega) dL_apart_3 ?_
  refine j_iload_n hJ (j := 1) rfl rfl dL_apart_4 ?_
  refine j_bipush hJ (v := 12) (by decide) dL_apart_5 ?_
  refine j_idiv hJ (by omega) (by omega) (by omega) (by omega) dL_apart_7 ?_
  refine j_icmp_le hJ (tgt := 23) ⟨by omega, by omega⟩ ⟨by omega, by omega⟩ (by decide) dL_apart_8 ?_ ?_
  · intro h8
    refine j_iload_n hJ (j := 1) rfl rfl dL_apart_23 ?_
    refine j_bipush hJ (v := 12) (by decide) dL_apart_24 ?_
    refine j_idiv hJ (by omega) (by omega) (by omega) (by omega) dL_apart_26 ?_
    refine j_iload_n hJ (j := 0) rfl rfl dL_apart_27 ?_
    refine j_bipush hJ (v := 12) (by decide) dL_apart_28 ?_
    refine j_idiv hJ (by omega) (by omega) (by omega) (by omega) dL_apart_30 ?_
    refine j_isub hJ dL_apart_31 ?_
    exact j32 ((y / 12) - (x / 12)) (by omega)
  · intro h8
    refine j_iload_n hJ (j := 0) rfl rfl dL_apart_11 ?_
    refine j_bipush hJ (v := 12) (by decide) dL_apart_12 ?_
    refine j_idiv hJ (by omega) (by omega) (by omega) (by omega) dL_apart_14 ?_
    refine j_iload_n hJ (j := 1) rfl rfl dL_apart_15 ?_
    refine j_bipush hJ (v := 12) (by decide) dL_apart_16 ?_
    refine j_idiv hJ (by omega) (by omega) (by omega) (by omega) dL_apart_18 ?_
    refine j_isub hJ dL_apart_19 ?_
    refine j_goto hJ (tgt := 32) (by decide) dL_apart_20 ?_
    exact j32 ((x / 12) - (y / 12)) (by omega)
set_option maxHeartbeats 4000000 in
set_option maxRecDepth 100000 in
theorem c_L_drawn {z : Int} (hfl : l.stackTraces = false) (hz : 0 ≤ z ∧ z < 2147483648) : CT l D cy n0 ad yL_drawn (.code yL_drawn cL_drawn 2 (some .int)) ({ frames := 0, cells := 0, slots := 0, locals := 0 }) [.int (zI z)] ws (fun vv uu => ∃ q, vv = some (.int (zI q)) ∧ uu = ws ∧ (q = dr z)) := by
  refine CT.walk hfl (by decide) (Nat.le_of_ble_eq_true rfl) ?_
  intro A J hJ
  show J ws 0 0 0 [(0, .int (zI z))] []
  refine j_iload_n hJ (j := 0) rfl rfl dL_drawn_0 ?_
  refine j_bipush hJ (v := 8) (by decide) dL_drawn_1 ?_
  refine j_irem hJ (by omega) (by omega) (by omega) (by omega) dL_drawn_3 ?_
  refine j_istore_n hJ (lv' := [(1, .int (zI (z % 8))), (0, .int (zI z))]) rfl (by decide) rfl dL_drawn_4 ?_
  have j73 : ∀ (q : Int) (hq : q = dr z), J ws 0 0 73 [(0, .int (zI z))] [.int (zI q)] := by
    intro q hq
    refine j_iret hJ rfl rfl (rfl) (Nat.le_of_ble_eq_true rfl) (Nat.le_of_ble_eq_true rfl) dL_drawn_73 ⟨q, rfl, rfl, ?_⟩
    exact hq
  refine j_iload_n hJ (j := 0) rfl rfl dL_drawn_5 ?_
  refine j_if_ne hJ (tgt := 13) ⟨by omega, by omega⟩ (by decide) dL_drawn_6 ?_ ?_
  · intro h6
    refine j_iload_n hJ (j := 0) rfl rfl dL_drawn_13 ?_
    refine j_iconst hJ dL_drawn_14 ?_
    refine j_icmp_ne hJ (tgt := 22) ⟨by omega, by omega⟩ ⟨by omega, by omega⟩ (by decide) dL_drawn_15 ?_ ?_
    · intro h15
      refine j_iload_n hJ (j := 0) rfl rfl dL_drawn_22 ?_
      refine j_iconst hJ dL_drawn_23 ?_
      refine j_icmp_ne hJ (tgt := 31) ⟨by omega, by omega⟩ ⟨by omega, by omega⟩ (by decide) dL_drawn_24 ?_ ?_
      · intro h24
        refine j_iload_n hJ (j := 0) rfl rfl dL_drawn_31 ?_
        refine j_iconst hJ dL_drawn_32 ?_
        refine j_icmp_ne hJ (tgt := 40) ⟨by omega, by omega⟩ ⟨by omega, by omega⟩ (by decide) dL_drawn_33 ?_ ?_
        · intro h33
          refine j_iload_n hJ (j := 0) rfl rfl dL_drawn_40 ?_
          refine j_iconst hJ dL_drawn_41 ?_
          refine j_icmp_ne hJ (tgt := 50) ⟨by omega, by omega⟩ ⟨by omega, by omega⟩ (by decide) dL_drawn_42 ?_ ?_
          · intro h42
            refine j_iload_n hJ (j := 0) rfl rfl dL_drawn_50 ?_
            refine j_iconst hJ dL_drawn_51 ?_
            refine j_icmp_ne hJ (tgt := 60) ⟨by omega, by omega⟩ ⟨by omega, by omega⟩ (by decide) dL_drawn_52 ?_ ?_
            · intro h52
              refine j_iload_n hJ (j := 0) rfl rfl dL_drawn_60 ?_
              refine j_bipush hJ (v := 6) (by decide) dL_drawn_61 ?_
              refine j_icmp_ne hJ (tgt := 71) ⟨by omega, by omega⟩ ⟨by omega, by omega⟩ (by decide) dL_drawn_63 ?_ ?_
              · intro h63
                refine j_bipush hJ (v := 22) (by decide) dL_drawn_71 ?_
                refine j_locs hJ [1] rfl ?_
                exact j73 22 (by first | (rw [dr, show z % 8 = 0 by omega]; rfl) | (rw [dr, show z % 8 = 1 by omega]; rfl) | (rw [dr, show z % 8 = 2 by omega]; rfl) | (rw [dr, show z % 8 = 3 by omega]; rfl) | (rw [dr, show z % 8 = 4 by omega]; rfl) | (rw [dr, show z % 8 = 5 by omega]; rfl) | (rw [dr, show z % 8 = 6 by omega]; rfl) | (rw [dr, show z % 8 = 7 by omega]; rfl))
              · intro h63
                refine j_bipush hJ (v := 14) (by decide) dL_drawn_66 ?_
                refine j_goto hJ (tgt := 73) (by decide) dL_drawn_68 ?_
                refine j_locs hJ [1] rfl ?_
                exact j73 14 (by first | (rw [dr, show z % 8 = 0 by omega]; rfl) | (rw [dr, show z % 8 = 1 by omega]; rfl) | (rw [dr, show z % 8 = 2 by omega]; rfl) | (rw [dr, show z % 8 = 3 by omega]; rfl) | (rw [dr, show z % 8 = 4 by omega]; rfl) | (rw [dr, show z % 8 = 5 by omega]; rfl) | (rw [dr, show z % 8 = 6 by omega]; rfl) | (rw [dr, show z % 8 = 7 by omega]; rfl))
            · intro h52
              refine j_bipush hJ (v := 13) (by decide) dL_drawn_55 ?_
              refine j_goto hJ (tgt := 73) (by decide) dL_drawn_57 ?_
              refine j_locs hJ [1] rfl ?_
              exact j73 13 (by first | (rw [dr, show z % 8 = 0 by omega]; rfl) | (rw [dr, show z % 8 = 1 by omega]; rfl) | (rw [dr, show z % 8 = 2 by omega]; rfl) | (rw [dr, show z % 8 = 3 by omega]; rfl) | (rw [dr, show z % 8 = 4 by omega]; rfl) | (rw [dr, show z % 8 = 5 by omega]; rfl) | (rw [dr, show z % 8 = 6 by omega]; rfl) | (rw [dr, show z % 8 = 7 by omega]; rfl))
          · intro h42
            refine j_bipush hJ (v := 12) (by decide) dL_drawn_45 ?_
            refine j_goto hJ (tgt := 73) (by decide) dL_drawn_47 ?_
            refine j_locs hJ [1] rfl ?_
            exact j73 12 (by first | (rw [dr, show z % 8 = 0 by omega]; rfl) | (rw [dr, show z % 8 = 1 by omega]; rfl) | (rw [dr, show z % 8 = 2 by omega]; rfl) | (rw [dr, show z % 8 = 3 by omega]; rfl) | (rw [dr, show z % 8 = 4 by omega]; rfl) | (rw [dr, show z % 8 = 5 by omega]; rfl) | (rw [dr, show z % 8 = 6 by omega]; rfl) | (rw [dr, show z % 8 = 7 by omega]; rfl))
        · intro h33
          refine j_iconst hJ dL_drawn_36 ?_
          refine j_goto hJ (tgt := 73) (by decide) dL_drawn_37 ?_
          refine j_locs hJ [1] rfl ?_
          exact j73 5 (by first | (rw [dr, show z % 8 = 0 by omega]; rfl) | (rw [dr, show z % 8 = 1 by omega]; rfl) | (rw [dr, show z % 8 = 2 by omega]; rfl) | (rw [dr, show z % 8 = 3 by omega]; rfl) | (rw [dr, show z % 8 = 4 by omega]; rfl) | (rw [dr, show z % 8 = 5 by omega]; rfl) | (rw [dr, show z % 8 = 6 by omega]; rfl) | (rw [dr, show z % 8 = 7 by omega]; rfl))
      · intro h24
        refine j_iconst hJ dL_drawn_27 ?_
        refine j_goto hJ (tgt := 73) (by decide) dL_drawn_28 ?_
        refine j_locs hJ [1] rfl ?_
        exact j73 4 (by first | (rw [dr, show z % 8 = 0 by omega]; rfl) | (rw [dr, show z % 8 = 1 by omega]; rfl) | (rw [dr, show z % 8 = 2 by omega]; rfl) | (rw [dr, show z % 8 = 3 by omega]; rfl) | (rw [dr, show z % 8 = 4 by omega]; rfl) | (rw [dr, show z % 8 = 5 by omega]; rfl) | (rw [dr, show z % 8 = 6 by omega]; rfl) | (rw [dr, show z % 8 = 7 by omega]; rfl))
    · intro h15
      refine j_iconst hJ dL_drawn_18 ?_
      refine j_goto hJ (tgt := 73) (by decide) dL_drawn_19 ?_
      refine j_locs hJ [1] rfl ?_
      exact j73 2 (by first | (rw [dr, show z % 8 = 0 by omega]; rfl) | (rw [dr, show z % 8 = 1 by omega]; rfl) | (rw [dr, show z % 8 = 2 by omega]; rfl) | (rw [dr, show z % 8 = 3 by omega]; rfl) | (rw [dr, show z % 8 = 4 by omega]; rfl) | (rw [dr, show z % 8 = 5 by omega]; rfl) | (rw [dr, show z % 8 = 6 by omega]; rfl) | (rw [dr, show z % 8 = 7 by omega]; rfl))
  · intro h6
    refine j_iconst hJ dL_drawn_9 ?_
    refine j_goto hJ (tgt := 73) (by decide) dL_drawn_10 ?_
    refine j_locs hJ [1] rfl ?_
    exact j73 1 (by first | (rw [dr, show z % 8 = 0 by omega]; rfl) | (rw [dr, show z % 8 = 1 by omega]; rfl) | (rw [dr, show z % 8 = 2 by omega]; rfl) | (rw [dr, show z % 8 = 3 by omega]; rfl) | (rw [dr, show z % 8 = 4 by omega]; rfl) | (rw [dr, show z % 8 = 5 by omega]; rfl) | (rw [dr, show z % 8 = 6 by omega]; rfl) | (rw [dr, show z % 8 = 7 by omega]; rfl))
end
