/-! the law: signs of a line, names drawn -/
def Has (T : List Int) (a : Nat) (S : List Int) : Prop := ∃ R, T.drop a = S ++ R
theorem Has.at {T S : List Int} {a k : Nat} (h : Has T a S) (hk : k < S.length) : T[a + k]? = S[k]? := by
  obtain ⟨R, hR⟩ := h
  rw [← List.getElem?_drop, hR, List.getElem?_append_left hk]
theorem Has.head {T S : List Int} {a : Nat} {x : Int} (h : Has T a (x :: S)) : T[a]? = some x := by
  have := h.at (k := 0) (by simp)
  simpa using this
theorem Has.app {T S S' : List Int} {a : Nat} (h : Has T a (S ++ S')) : Has T a S ∧ Has T (a + S.length) S' := by
  obtain ⟨R, hR⟩ := h
  refine ⟨⟨S' ++ R, by rw [hR, List.append_assoc]⟩, ⟨R, ?_⟩⟩
  rw [← List.drop_drop, hR, List.append_assoc, List.drop_left]
theorem Has.tail {T S : List Int} {a : Nat} {x : Int} (h : Has T a (x :: S)) : Has T (a + 1) S := (Has.app (S := [x]) h).2
theorem Has.len {T S : List Int} {a : Nat} (h : Has T a S) (hS : S ≠ []) : a + S.length ≤ T.length := by
  obtain ⟨R, hR⟩ := h
  have h1 := congrArg List.length hR
  rw [List.length_drop, List.length_append] at h1
  have := List.length_pos_iff.mpr hS
  omega
theorem Has.self {T S R : List Int} (h : T = S ++ R) : Has T 0 S := ⟨R, by rw [List.drop_zero]; exact h⟩
/-- bytes of a name -/
def wb8 (x : Int32) (j : Nat) : BitVec 8 := x.toBitVec.extractLsb' (8 * j) 8
def wz (z : Int) (k : Nat) : Int := dr (z / 4 / 2 ^ (3 * (k : Int)).toNat)
theorem wb8_wd {z k : Int} : wd z k = ((wb8 (zI z) k.toNat).toNat : Int) := by
  unfold wd wb8
  rw [BitVec.extractLsb'_toNat, Nat.shiftRight_eq_div_pow]
theorem wb8_c : ∀ k < 4, ∀ j < 4, wb8 ((zI 255 <<< (zI (8 * ((k : Nat) : Int)) &&& 31)) ^^^ zI (-1)) j = if j = k then 0#8 else BitVec.allOnes 8 := by decide +kernel
theorem wb8_w : ∀ w ∈ drw, ∀ k < 4, ∀ j < 4, wb8 (zI w <<< (zI (8 * ((k : Nat) : Int)) &&& 31)) j = if j = k then BitVec.ofNat 8 w.toNat else 0#8 := by decide +kernel
theorem wb8_step {x : Int32} {w : Int} {k j : Nat} (hw : Drw w) (hk : k < 4) (hj : j < 4) : wb8 ((x &&& ((zI 255 <<< (zI (8 * (k : Int)) &&& 31)) ^^^ zI (-1))) ||| (zI w <<< (zI (8 * (k : Int)) &&& 31))) j = if j = k then BitVec.ofNat 8 w.toNat else wb8 x j := by
  have hm : w ∈ drw := by
    rcases hw with rfl | rfl | rfl | rfl | rfl | rfl | rfl | rfl <;> decide
  have h1 := wb8_c k hk j hj
  have h2 := wb8_w w hm k hk j hj
  have e : ∀ a c d : Int32, wb8 ((a &&& c) ||| d) j = (wb8 a j &&& wb8 c j) ||| wb8 d j := fun a c d => by
    unfold wb8
    rw [Int32.toBitVec_or, Int32.toBitVec_and]
    apply BitVec.eq_of_getLsbD_eq
    intro q hq
    simp [BitVec.getLsbD_extractLsb', hq]
  rw [e, h1, h2]
  by_cases g : j = k
  · rw [if_pos g, if_pos g, if_pos g]; simp
  · rw [if_neg g, if_neg g, if_neg g, BitVec.and_allOnes, BitVec.or_zero]
theorem wz_rng {z : Int} {k : Int} (hz : 0 ≤ z ∧ z < 100000) : 0 ≤ z / 4 / 2 ^ (3 * k).toNat ∧ z / 4 / 2 ^ (3 * k).toNat < 2147483648 :=
  ⟨Int.ediv_nonneg (by omega) (Int.pow_nonneg (by omega)), Int.lt_of_le_of_lt (Int.ediv_le_self _ (by omega)) (by omega)⟩
def NmB (x : Int32) (z : Int) (k : Nat) : Prop := ∀ j : Nat, j < k → wb8 x j = BitVec.ofNat 8 (wz z j).toNat
theorem NmB.step {x : Int32} {z : Int} {k : Nat} (h : NmB x z k) (hk : k < 4) : NmB ((x &&& ((zI 255 <<< (zI (8 * (k : Int)) &&& 31)) ^^^ zI (-1))) ||| (zI (wz z k) <<< (zI (8 * (k : Int)) &&& 31))) z (k + 1) := by
  intro j hj
  have hd : Drw (wz z k) := dr_Drw _
  rw [wb8_step hd hk (by omega)]
  by_cases g : j = k
  · rw [if_pos g, g]
  · rw [if_neg g]; exact h j (by omega)
def NmV (ν νk : Nat → Int → Int) (i : Nat) (z : Int) (mm k : Nat) : Prop := νk 1 (5 * (i : Int)) = mm ∧ (∀ j : Nat, j < k → νk 1 (5 * (i : Int) + 1 + (j : Int)) = wz z j) ∧ AWr νk ∧ (∀ a, a ≠ 1 → νk a = ν a) ∧ ∀ j : Int, (j < 5 * (i : Int) ∨ 5 * (i : Int) + 5 ≤ j) → νk 1 j = ν 1 j
theorem NmV.init {ν ν1 : Nat → Int → Int} {i mm : Nat} {z : Int} (hA : AWr ν) (h : ν1 = up ν 1 (5 * (i : Int)) mm) : NmV ν ν1 i z mm 0 := by
  subst h
  exact ⟨up_self, fun j hj => absurd hj (Nat.not_lt_zero _), fun j h1 h2 h3 => by rw [up_at (by omega)]; exact hA j h1 h2 h3, fun a ha => up_rowf ha, fun j hj => up_at (by omega)⟩
theorem NmV.step {ν νk ν1 : Nat → Int → Int} {i mm k : Nat} {z : Int} (h : NmV ν νk i z mm k) (hk : k < 4) (hi : i < 5) (e : ν1 = up νk 1 (5 * (i : Int) + 1 + (k : Int)) (wz z k)) : NmV ν ν1 i z mm (k + 1) := by
  subst e
  obtain ⟨v1, v2, v3, v4, v5⟩ := h
  have hwr : 0 ≤ wz z k ∧ wz z k < 24 := (dr_Drw _).rng
  refine ⟨(up_at (by omega)).trans v1, fun j hj => ?_, fun j h1 h2 h3 => ?_, fun a ha => (up_rowf ha).trans (v4 a ha), fun j hj => (up_at (by omega)).trans (v5 j hj)⟩
  · by_cases g : j = k
    · rw [g, up_self]
    · rw [up_at (by omega)]; exact v2 j (by omega)
  · by_cases g : j = 5 * (i : Int) + 1 + (k : Int)
    · rw [g, up_self]; exact hwr
    · rw [up_at g]; exact v3 j h1 h2 h3
def NmP (ν ν' : Nat → Int → Int) (i : Nat) (q : Int) : Prop := ∃ L : List Int, ANm ν' i L ∧ nameL q L.length = L ∧ NmOK L.length q ∧ AWr ν' ∧ (∀ a, a ≠ 1 → ν' a = ν a) ∧ ∀ j : Int, (j < 5 * (i : Int) ∨ 5 * (i : Int) + 5 ≤ j) → ν' 1 j = ν 1 j
theorem named_end {ν νk : Nat → Int → Int} {i k : Nat} {z : Int} {x : Int32} (hk : 1 ≤ k ∧ k ≤ 4) (hB : NmB x z k) (hV : NmV ν νk i z k k) : NmP ν νk i x.toInt := by
  obtain ⟨v1, v2, v3, v4, v5⟩ := hV
  have hwr : ∀ j : Nat, Drw (wz z j) := fun j => dr_Drw _
  have hB : ∀ j : Nat, j < k → wb8 x j = BitVec.ofNat 8 (wz z j).toNat := hB
  generalize wz z = W at *
  have hln : ((List.range k).map (fun j => W j)).length = k := by simp
  have hnm : nameL x.toInt k = (List.range k).map (fun j => W j) := by
    unfold nameL
    refine List.map_congr_left fun j hj => ?_
    have hj := List.mem_range.mp hj
    have := (hwr j).rng
    rw [wb8_wd, zI_of, Int.toNat_natCast, hB j hj, BitVec.toNat_ofNat, Nat.mod_eq_of_lt (by omega)]
    omega
  refine ⟨(List.range k).map (fun j => W j), ⟨by rw [hln]; exact v1, by rw [hln]; omega, by rw [hln]; omega, fun j y hy => ?_, fun y hy => ?_⟩, by rw [hln]; exact hnm, ⟨by rw [hln]; omega, fun j hj => ?_⟩, v3, v4, v5⟩
  · have hj : j < k := by have := (List.getElem?_eq_some_iff.mp hy).1; rw [hln] at this; exact this
    rw [List.getElem?_map, List.getElem?_range hj] at hy
    rw [v2 j hj]; exact Option.some.inj hy
  · obtain ⟨j, -, rfl⟩ := List.mem_map.mp hy
    exact hwr j
  · rw [hln] at hj
    have h1 : (nameL x.toInt k)[j]? = some (wd x.toInt j) := by unfold nameL; rw [List.getElem?_map, List.getElem?_range (by omega)]; rfl
    rw [hnm, List.getElem?_map, List.getElem?_range (by omega)] at h1
    have h2 : W j = wd x.toInt j := Option.some.inj h1
    rw [← h2]
    exact (hwr j).rng.2
section JRor
variable {l : Launch} {D : va_G} {cy : Nat → ClassId} {n0 : Nat} {ad : Nat → Nat} {own : String} {cc : ByteArray} {nL : Nat} {ret : Option FieldType} {R : Room} {A : Nat → Prop} {PR : Option Value → va_W → Prop} {PX : String → va_W → Prop} {XS : State → Prop} {fin : Bool} {ET : List ExceptionTableEntry} {J : JT}
variable {ws : va_W} {ce sl pc : Nat} {lv : List (Nat × Value)} {st : List Value}
theorem j_ror {x y : Int32} (hJ : Cx l D cy n0 ad own cc nL ret R A PR PX XS fin ET J) (hd : decode cc pc = .ok (.ior, 1)) (k : J ws ce sl (pc + 1) lv (.int (x ||| y) :: st)) : J ws ce sl pc lv (.int y :: .int x :: st) := by
  obtain ⟨p, e, s, m, args, below, meth, c, Q, ⟨hx, hb, hml, hown⟩, hK, hA, hAn, hM, hXS, hQ, rfl⟩ := hJ
  intro H locs ls hP hD hS hl
  exact lv_ior hx hb hd (k H locs ls hP hD hS hl)
end JRor
set_option maxRecDepth 20000 in
theorem mx_L_27 : MX RL 27 0 yX4_lineLength 1 := ⟨(List.mem_of_getElem? (i := 557) (by decide +kernel)), (List.mem_of_getElem? (i := 40) (by decide +kernel)), ⟨by decide +kernel, by decide +kernel⟩, by decide +kernel, fun _ => ⟨(List.mem_of_getElem? (i := 558) (by decide +kernel)), (List.mem_of_getElem? (i := 559) (by decide +kernel))⟩, fun h => by omega⟩
set_option maxRecDepth 20000 in
theorem k_X4_lineLength : Cond.code yX4_lineLength cX4_lineLength 2 (some .int) ∈ GT := (List.mem_of_getElem? (i := 560) (by decide +kernel))
set_option maxRecDepth 20000 in
theorem mx_L_32 : MX RL 32 0 yX4_lineChar 2 := ⟨(List.mem_of_getElem? (i := 768) (by decide +kernel)), (List.mem_of_getElem? (i := 40) (by decide +kernel)), ⟨by decide +kernel, by decide +kernel⟩, by decide +kernel, fun _ => ⟨(List.mem_of_getElem? (i := 769) (by decide +kernel)), (List.mem_of_getElem? (i := 770) (by decide +kernel))⟩, fun h => by omega⟩
set_option maxRecDepth 20000 in
theorem k_X4_lineChar : Cond.code yX4_lineChar cX4_lineChar 4 (some .char) ∈ GT := (List.mem_of_getElem? (i := 771) (by decide +kernel))
set_option maxRecDepth 20000 in
theorem m_L_36 : MF RL 36 1 yL_sign 4 := ⟨Or.inl (List.mem_of_getElem? (i := 554) (by decide +kernel)), (List.mem_of_getElem? (i := 39) (by decide +kernel)), ⟨by decide +kernel, by decide +kernel⟩, by decide +kernel, fun h => by omega, fun _ => (List.mem_of_getElem? (i := 555) (by decide +kernel)), fun h => by omega⟩
set_option maxRecDepth 20000 in
theorem k_L_sign : Cond.code yL_sign cL_sign 4 (some .int) ∈ GT := (List.mem_of_getElem? (i := 556) (by decide +kernel))
set_option maxRecDepth 20000 in
theorem m_L_40 : MF RL 40 1 yL_letter 2 := ⟨Or.inl (List.mem_of_getElem? (i := 786) (by decide +kernel)), (List.mem_of_getElem? (i := 39) (by decide +kernel)), ⟨by decide +kernel, by decide +kernel⟩, by decide +kernel, fun h => by omega, fun _ => (List.mem_of_getElem? (i := 787) (by decide +kernel)), fun h => by omega⟩
set_option maxRecDepth 20000 in
theorem k_L_letter : Cond.code yL_letter cL_letter 5 (some .int) ∈ GT := (List.mem_of_getElem? (i := 788) (by decide +kernel))
set_option maxRecDepth 20000 in
theorem m_L_110 : MF RL 110 1 yL_drawn 1 := ⟨Or.inl (List.mem_of_getElem? (i := 177) (by decide +kernel)), (List.mem_of_getElem? (i := 39) (by decide +kernel)), ⟨by decide +kernel, by decide +kernel⟩, by decide +kernel, fun h => by omega, fun _ => (List.mem_of_getElem? (i := 178) (by decide +kernel)), fun h => by omega⟩
set_option maxRecDepth 20000 in
theorem k_L_drawn : Cond.code yL_drawn cL_drawn 2 (some .int) ∈ GT := (List.mem_of_getElem? (i := 179) (by decide +kernel))
section
variable {l : Launch} {D : va_G} {cy : Nat → ClassId} {n0 : Nat} {ad : Nat → Nat} {b ba : Nat → Nat} {E : va_W} {ws : va_W}
set_option maxHeartbeats 4000000 in
set_option maxRecDepth 100000 in
theorem c_L_sign {μ : Nat → Int → Int} {n : Nat} {N : Nat → List Int} {ow : Nat → Int} {m : Nat → Nat} {p : Nat → Nat → Int} {i a : Nat} {its : Int} {T : List Int} (hfl : l.stackTraces = false) (hX : XI μ n N ow m p) (hi : i < n) (hT : lineT (μ 1) (N i) (trk (p i) (m i)) = T) (hl : T.length ≤ 142) (hat : T[a]? = some its) (hir : 0 ≤ its ∧ its < 1000) : CT l D cy n0 ad yL_sign (.code yL_sign cL_sign 4 (some .int)) ({ frames := 10, cells := 13, slots := 550, locals := 229 }) [.ref (b 0), .int (zI (i : Int)), .int (zI (a : Int)), .int (zI its)] (gw 105 XSh cy b μ ++ E) (fun vv uu => ∃ q, vv = some (.int (zI q)) ∧ uu = (gw 105 XSh cy b μ ++ E) ∧ (q = a + 1)) := by
  have hal : a < T.length := (List.getElem?_eq_some_iff.mp hat).1
  obtain ⟨x1, x2, -⟩ := id hX
  have hT1 : lineT (μ 1) (N (i : Int).toNat) (trk (p (i : Int).toNat) (m (i : Int).toNat)) = T := hT
  have hl1 : (lineT (μ 1) (N (i : Int).toNat) (trk (p (i : Int).toNat) (m (i : Int).toNat))).length ≤ 142 := by rw [hT1]; exact hl
  refine CT.walk hfl (by decide) (Nat.le_of_ble_eq_true rfl) ?_
  intro A J hJ
  show J (gw 105 XSh cy b μ ++ E) 0 0 0 [(0, .ref (b 0)), (1, .int (zI (i : Int))), (2, .int (zI (a : Int))), (3, .int (zI its))] []
  refine j_iload_n hJ (j := 2) rfl rfl dL_sign_0 ?_
  refine j_if_lt hJ (tgt := 29) ⟨by omega, by omega⟩ (by decide) dL_sign_1 ?_ ?_
  · intro h1
    exfalso; omega
  · intro h1
    refine j_iload_n hJ (j := 2) rfl rfl dL_sign_4 ?_
    refine j_aload_n hJ (j := 0) rfl rfl dL_sign_5 ?_
    refine j_iload_n hJ (j := 1) rfl rfl dL_sign_6 ?_
    refine j_callVX0 hJ (c_X4_lineLength_s hfl hX ⟨by omega, by omega⟩ hl1) mx_L_27 k_X4_lineLength (q0 := 0) (by rw [gw_get (by decide)]; rfl) rfl ⟨(Nat.le_of_ble_eq_true rfl), (Nat.le_of_ble_eq_true rfl)⟩ ⟨(Nat.le_of_ble_eq_true rfl), (Nat.le_of_ble_eq_true rfl)⟩ (Nat.le_of_ble_eq_true rfl) dL_sign_7 (by rintro q u ⟨_, _, ⟨_, h⟩, _⟩; exact h ⟨by omega, by omega⟩) rfl ?_
    intro v1 u2 hv3
    obtain ⟨q7, rfl, rfl, h7⟩ := hv3
    show J (gw 105 XSh cy b μ ++ E) 6 272 10 [(0, .ref (b 0)), (1, .int (zI (i : Int))), (2, .int (zI (a : Int))), (3, .int (zI its))] [.int (zI q7), .int (zI (a : Int))]
    have h7e := h7.2
    rw [hT1] at h7e
    refine j_icmp_ge hJ (tgt := 29) ⟨by omega, by omega⟩ ⟨by omega, by omega⟩ (by decide) dL_sign_10 ?_ ?_
    · intro h10
      exfalso; omega
    · intro h10
      refine j_aload_n hJ (j := 0) rfl rfl dL_sign_13 ?_
      refine j_iload_n hJ (j := 1) rfl rfl dL_sign_14 ?_
      refine j_iload_n hJ (j := 2) rfl rfl dL_sign_15 ?_
      refine j_callVX0 hJ (c_X4_lineChar_s hfl hX ⟨by omega, by omega⟩ ⟨by omega, by omega⟩ hl1) mx_L_32 k_X4_lineChar (q0 := 0) (by rw [gw_get (by decide)]; rfl) rfl ⟨(Nat.le_of_ble_eq_true rfl), (Nat.le_of_ble_eq_true rfl)⟩ ⟨(Nat.le_of_ble_eq_true rfl), (Nat.le_of_ble_eq_true rfl)⟩ (Nat.le_of_ble_eq_true rfl) dL_sign_16 (by rintro q u ⟨_, _, ⟨_, h⟩, _⟩; rw [hT1] at h; exact h ⟨⟨by omega, by omega⟩, by omega, by omega⟩) rfl ?_
      intro v4 u5 hv6
      obtain ⟨q16, rfl, rfl, h16⟩ := hv6
      show J (gw 105 XSh cy b μ ++ E) 13 550 19 [(0, .ref (b 0)), (1, .int (zI (i : Int))), (2, .int (zI (a : Int))), (3, .int (zI its))] [.int (zI q16)]
      have h16e := h16.2.1
      rw [hT1, Int.toNat_natCast, hat] at h16e
      obtain rfl : its = q16 := Option.some.inj h16e
      refine j_iload_n hJ (j := 3) rfl rfl dL_sign_19 ?_
      refine j_icmp_ne hJ (tgt := 29) ⟨by omega, by omega⟩ ⟨by omega, by omega⟩ (by decide) dL_sign_20 ?_ ?_
      · intro h20
        exact absurd rfl h20
      · intro h20
        refine j_iload_n hJ (j := 2) rfl rfl dL_sign_23 ?_
        refine j_iconst hJ dL_sign_24 ?_
        refine j_iadd hJ dL_sign_25 ?_
        refine j_goto hJ (tgt := 30) (by decide) dL_sign_26 ?_
        refine j_iret hJ rfl rfl (rfl) (Nat.le_of_ble_eq_true rfl) (Nat.le_of_ble_eq_true rfl) dL_sign_30 ⟨((a : Int) + 1), rfl, rfl, ?_⟩
        rfl
set_option maxHeartbeats 4000000 in
set_option maxRecDepth 100000 in
theorem c_L_number {μ : Nat → Int → Int} {n : Nat} {N : Nat → List Int} {ow : Nat → Int} {m : Nat → Nat} {p : Nat → Nat → Int} {i a : Nat} {z : Int} {T : List Int} (hfl : l.stackTraces = false) (hX : XI μ n N ow m p) (hi : i < n) (hT : lineT (μ 1) (N i) (trk (p i) (m i)) = T) (hl : T.length ≤ 142) (hat : Has T a (numT z)) (hz : 1 ≤ z ∧ z ≤ 12) : CT l D cy n0 ad yL_number (.code yL_number cL_number 5 (some .int)) ({ frames := 11, cells := 13 * (numT z).length, slots := 550 * (numT z).length, locals := 252 }) [.ref (b 0), .int (zI (i : Int)), .int (zI (a : Int)), .int (zI z)] (gw 105 XSh cy b μ ++ E) (fun vv uu => ∃ q, vv = some (.int (zI q)) ∧ uu = (gw 105 XSh cy b μ ++ E) ∧ (q = a + (numT z).length)) := by
  have hn := numT_len z
  have hn1 : z < 10 → (numT z).length = 1 := fun g => by rw [if_pos g] at hn; omega
  have hn2 : 10 ≤ z → (numT z).length = 2 := fun g => by rw [if_neg (by omega)] at hn; omega
  have hh : (z < 10 → T[a]? = some (48 + z % 10)) ∧ (10 ≤ z → T[a]? = some 49 ∧ T[a + 1]? = some (48 + z % 10)) := by
    unfold numT at hat
    refine ⟨fun g => ?_, fun g => ?_⟩
    · rw [if_pos g] at hat; exact hat.head
    · rw [if_neg (by omega), show 48 + z / 10 = 49 by omega] at hat
      exact ⟨hat.head, hat.tail.head⟩
  refine CT.walk hfl (by decide) (Nat.le_of_ble_eq_true rfl) ?_
  intro A J hJ
  show J (gw 105 XSh cy b μ ++ E) 0 0 0 [(0, .ref (b 0)), (1, .int (zI (i : Int))), (2, .int (zI (a : Int))), (3, .int (zI z))] []
  refine j_iload_n hJ (j := 3) rfl rfl dL_number_0 ?_
  refine j_bipush hJ (v := 9) (by decide) dL_number_1 ?_
  refine j_icmp_le hJ (tgt := 17) ⟨by omega, by omega⟩ ⟨by omega, by omega⟩ (by decide) dL_number_3 ?_ ?_
  · intro h3
    have hl1 := hn1 (by omega)
    refine j_iload_n hJ (j := 2) rfl rfl dL_number_17 ?_
    refine j_istore hJ (lv' := [(4, .int (zI (a : Int))), (0, .ref (b 0)), (1, .int (zI (i : Int))), (2, .int (zI (a : Int))), (3, .int (zI z))]) (by decide) rfl dL_number_18 ?_
    refine j_aload_n hJ (j := 1) rfl rfl dL_number_20 ?_
    refine j_iload_n hJ (j := 2) rfl rfl dL_number_21 ?_
    refine j_iload hJ (j := 0) rfl dL_number_22 ?_
    refine j_bipush hJ (v := 48) (by decide) dL_number_24 ?_
    refine j_iload_n hJ (j := 4) rfl rfl dL_number_26 ?_
    refine j_bipush hJ (v := 10) (by decide) dL_number_27 ?_
    refine j_irem hJ (by omega) (by omega) (by omega) (by omega) dL_number_29 ?_
    refine j_iadd hJ dL_number_30 ?_
    refine j_callS0 hJ (c_L_sign hfl hX hi hT hl (hh.1 (by omega)) ⟨by omega, by omega⟩) m_L_36 k_L_sign ⟨(Nat.le_of_ble_eq_true rfl), (Nat.le_of_ble_eq_true rfl)⟩ ⟨by dsimp only; omega, by dsimp only; omega⟩ (Nat.le_of_ble_eq_true rfl) dL_number_31 rfl ?_
    intro v1 u2 hv3
    obtain ⟨q31, rfl, rfl, h31⟩ := hv3
    show J (gw 105 XSh cy b μ ++ E) 13 550 34 [(4, .int (zI (a : Int))), (0, .ref (b 0)), (1, .int (zI (i : Int))), (2, .int (zI (a : Int))), (3, .int (zI z))] [.int (zI q31)]
    refine j_iret hJ rfl rfl (rfl) (by dsimp only; omega) (by dsimp only; omega) dL_number_34 ⟨q31, rfl, rfl, ?_⟩
    rw [h31]; omega
  · intro h3
    have hl2 := hn2 (by omega)
    refine j_aload_n hJ (j := 0) rfl rfl dL_number_6 ?_
    refine j_iload_n hJ (j := 1) rfl rfl dL_number_7 ?_
    refine j_iload_n hJ (j := 2) rfl rfl dL_number_8 ?_
    refine j_bipush hJ (v := 49) (by decide) dL_number_9 ?_
    refine j_callS0 hJ (c_L_sign hfl hX hi hT hl (hh.2 (by omega)).1 ⟨by omega, by omega⟩) m_L_36 k_L_sign ⟨(Nat.le_of_ble_eq_true rfl), (Nat.le_of_ble_eq_true rfl)⟩ ⟨by dsimp only; omega, by dsimp only; omega⟩ (Nat.le_of_ble_eq_true rfl) dL_number_11 rfl ?_
    intro v4 u5 hv6
    obtain ⟨_, rfl, rfl, rfl⟩ := hv6
    show J (gw 105 XSh cy b μ ++ E) 13 550 14 [(0, .ref (b 0)), (1, .int (zI (i : Int))), (2, .int (zI (a : Int))), (3, .int (zI z))] [.int (zI ((a + 1 : Nat) : Int))]
    refine j_goto hJ (tgt := 18) (by decide) dL_number_14 ?_
    refine j_istore hJ (lv' := [(4, .int (zI ((a + 1 : Nat) : Int))), (0, .ref (b 0)), (1, .int (zI (i : Int))), (2, .int (zI (a : Int))), (3, .int (zI z))]) (by decide) rfl dL_number_18 ?_
    refine j_aload_n hJ (j := 1) rfl rfl dL_number_20 ?_
    refine j_iload_n hJ (j := 2) rfl rfl dL_number_21 ?_
    refine j_iload hJ (j := 0) rfl dL_number_22 ?_
    refine j_bipush hJ (v := 48) (by decide) dL_number_24 ?_
    refine j_iload_n hJ (j := 4) rfl rfl dL_number_26 ?_
    refine j_bipush hJ (v := 10) (by decide) dL_number_27 ?_
    refine j_irem hJ (by omega) (by omega) (by omega) (by omega) dL_number_29 ?_
    refine j_iadd hJ dL_number_30 ?_
    refine j_callS0 hJ (c_L_sign hfl hX hi hT hl (a := a + 1) (hh.2 (by omega)).2 ⟨by omega, by omega⟩) m_L_36 k_L_sign ⟨(Nat.le_of_ble_eq_true rfl), (Nat.le_of_ble_eq_true rfl)⟩ ⟨by dsimp only; omega, by dsimp only; omega⟩ (Nat.le_of_ble_eq_true rfl) dL_number_31 rfl ?_
    intro v7 u8 hv9
    obtain ⟨q31, rfl, rfl, h31⟩ := hv9
    show J (gw 105 XSh cy b μ ++ E) 26 1100 34 [(4, .int (zI ((a + 1 : Nat) : Int))), (0, .ref (b 0)), (1, .int (zI (i : Int))), (2, .int (zI (a : Int))), (3, .int (zI z))] [.int (zI q31)]
    refine j_iret hJ rfl rfl (rfl) (by dsimp only; omega) (by dsimp only; omega) dL_number_34 ⟨q31, rfl, rfl, ?_⟩
    rw [h31]; omega
set_option maxHeartbeats 4000000 in
set_option maxRecDepth 100000 in
theorem c_L_word {μ : Nat → Int → Int} {n : Nat} {N : Nat → List Int} {ow : Nat → Int} {m : Nat → Nat} {p : Nat → Nat → Int} {i a : Nat} {w : Int} {T : List Int} (hfl : l.stackTraces = false) (hX : XI μ n N ow m p) (hi : i < n) (hT : lineT (μ 1) (N i) (trk (p i) (m i)) = T) (hl : T.length ≤ 142) (hat : Has T a (wordT w.toNat)) (hw : Drw w) : CT l D cy n0 ad yL_word (.code yL_word cL_word 6 (some .int)) ({ frames := 11, cells := 13 * wL w.toNat, slots := 550 * wL w.toNat, locals := 252 }) [.ref (b 0), .int (zI (i : Int)), .int (zI (a : Int)), .int (zI w)] (gw 105 XSh cy b μ ++ E) (fun vv uu => ∃ q, vv = some (.int (zI q)) ∧ uu = (gw 105 XSh cy b μ ++ E) ∧ (q = a + (wordT w.toNat).length)) := by
  have hwr := hw.rng
  have hL : 2 ≤ wL w.toNat ∧ wL w.toNat ≤ 4 := hw.nat (P := fun v => 2 ≤ wL v ∧ wL v ≤ 4) (by decide)
  have hlt : ∀ k : Nat, k ≤ 4 → (0 < ltr w.toNat k ↔ k < wL w.toNat) ∧ 0 ≤ ltr w.toNat k ∧ ltr w.toNat k < 128 := hw.nat (P := fun v => ∀ k : Nat, k ≤ 4 → (0 < ltr v k ↔ k < wL v) ∧ 0 ≤ ltr v k ∧ ltr v k < 128) (by refine ⟨?_, ?_, ?_, ?_, ?_, ?_, ?_, ?_⟩ <;> (intro k hk; rcases (show k = 0 ∨ k = 1 ∨ k = 2 ∨ k = 3 ∨ k = 4 by omega) with rfl | rfl | rfl | rfl | rfl <;> decide))
  have hch : ∀ k : Nat, k < wL w.toNat → T[a + k]? = some (ltr w.toNat k) := fun k hk => by
    rw [hat.at (k := k) (by rw [wordT_len]; exact hk)]
    unfold wordT
    rw [List.getElem?_map, List.getElem?_range hk]
    show some (wC w.toNat k) = some (ltr w.toNat k)
    unfold ltr
    rw [if_pos hk]
  refine CT.walk hfl (by decide) (Nat.le_of_ble_eq_true rfl) ?_
  intro A J hJ
  show J (gw 105 XSh cy b μ ++ E) 0 0 0 [(0, .ref (b 0)), (1, .int (zI (i : Int))), (2, .int (zI (a : Int))), (3, .int (zI w))] []
  refine j_iload_n hJ (j := 2) rfl rfl dL_word_0 ?_
  refine j_istore hJ (lv' := [(4, .int (zI (a : Int))), (0, .ref (b 0)), (1, .int (zI (i : Int))), (2, .int (zI (a : Int))), (3, .int (zI w))]) (by decide) rfl dL_word_1 ?_
  refine j_iconst hJ dL_word_3 ?_
  refine j_istore hJ (lv' := [(5, .int (zI 0)), (4, .int (zI (a : Int))), (0, .ref (b 0)), (1, .int (zI (i : Int))), (2, .int (zI (a : Int))), (3, .int (zI w))]) (by decide) rfl dL_word_4 ?_
  have lp6 : ∀ (nn6 : Nat) (k : Nat) (hmeas6 : wL w.toNat + 1 - k < nn6) (hk : k ≤ wL w.toNat), J (gw 105 XSh cy b μ ++ E) (13 * k) (550 * k) 6 [(0, .ref (b 0)), (1, .int (zI (i : Int))), (2, .int (zI (a : Int))), (3, .int (zI w)), (4, .int (zI ((a : Int) + (k : Int)))), (5, .int (zI (k : Int)))] [] := by
    intro nn6
    induction nn6 with
    | zero => intro k hmeas6 hk; omega
    | succ nn6 ih6 =>
      intro k hmeas6 hk
      have hlk := hlt k (by omega)
      refine j_iload_n hJ (j := 3) rfl rfl dL_word_6 ?_
      refine j_iload hJ (j := 5) rfl dL_word_7 ?_
      refine j_callS0 hJ (c_L_letter hfl hw (by omega)) m_L_40 k_L_letter ⟨(Nat.le_of_ble_eq_true rfl), (Nat.le_of_ble_eq_true rfl)⟩ ⟨by dsimp only; omega, by dsimp only; omega⟩ (Nat.le_of_ble_eq_true rfl) dL_word_9 rfl ?_
      intro v1 u2 hv3
      obtain ⟨_, rfl, rfl, rfl⟩ := hv3
      show J (gw 105 XSh cy b μ ++ E) _ _ 12 [(0, .ref (b 0)), (1, .int (zI (i : Int))), (2, .int (zI (a : Int))), (3, .int (zI w)), (4, .int (zI ((a : Int) + (k : Int)))), (5, .int (zI (k : Int)))] [.int (zI (ltr w.toNat k))]
      refine j_if_le hJ (tgt := 36) ⟨by omega, by omega⟩ (by decide) dL_word_12 ?_ ?_
      · intro h12
        have hke : k = wL w.toNat := by omega
        refine j_iload hJ (j := 4) rfl dL_word_36 ?_
        refine j_iret hJ rfl rfl (rfl) (by dsimp only; omega) (by dsimp only; omega) dL_word_38 ⟨((a : Int) + (k : Int)), rfl, rfl, ?_⟩
        rw [wordT_len, hke]
      · intro h12
        have hk2 : k < wL w.toNat := hlk.1.mp (by omega)
        refine j_aload_n hJ (j := 0) rfl rfl dL_word_15 ?_
        refine j_iload_n hJ (j := 1) rfl rfl dL_word_16 ?_
        refine j_iload hJ (j := 4) rfl dL_word_17 ?_
        refine j_iload_n hJ (j := 3) rfl rfl dL_word_19 ?_
        refine j_iload hJ (j := 5) rfl dL_word_20 ?_
        refine j_callS0 hJ (c_L_letter hfl hw (by omega)) m_L_40 k_L_letter ⟨(Nat.le_of_ble_eq_true rfl), (Nat.le_of_ble_eq_true rfl)⟩ ⟨by dsimp only; omega, by dsimp only; omega⟩ (Nat.le_of_ble_eq_true rfl) dL_word_22 rfl ?_
        intro v4 u5 hv6
        obtain ⟨_, rfl, rfl, rfl⟩ := hv6
        show J (gw 105 XSh cy b μ ++ E) _ _ 25 [(0, .ref (b 0)), (1, .int (zI (i : Int))), (2, .int (zI (a : Int))), (3, .int (zI w)), (4, .int (zI ((a : Int) + (k : Int)))), (5, .int (zI (k : Int)))] [.int (zI (ltr w.toNat k)), .int (zI ((a : Int) + (k : Int))), .int (zI (i : Int)), .ref (b 0)]
        refine j_callS0 hJ (c_L_sign hfl hX hi hT hl (a := a + k) (hch k hk2) ⟨by omega, by omega⟩) m_L_36 k_L_sign ⟨(Nat.le_of_ble_eq_true rfl), (Nat.le_of_ble_eq_true rfl)⟩ ⟨by dsimp only; omega, by dsimp only; omega⟩ (Nat.le_of_ble_eq_true rfl) dL_word_25 rfl ?_
        intro v7 u8 hv9
        obtain ⟨_, rfl, rfl, rfl⟩ := hv9
        show J (gw 105 XSh cy b μ ++ E) _ _ 28 [(0, .ref (b 0)), (1, .int (zI (i : Int))), (2, .int (zI (a : Int))), (3, .int (zI w)), (4, .int (zI ((a : Int) + (k : Int)))), (5, .int (zI (k : Int)))] [.int (zI ((a : Int) + ((k + 1 : Nat) : Int)))]
        refine j_istore hJ (lv' := [(4, .int (zI ((a : Int) + ((k + 1 : Nat) : Int)))), (0, .ref (b 0)), (1, .int (zI (i : Int))), (2, .int (zI (a : Int))), (3, .int (zI w)), (5, .int (zI (k : Int)))]) (by decide) rfl dL_word_28 ?_
        refine j_iinc hJ (lv' := [(5, .int (zI ((k : Int) + 1))), (4, .int (zI ((a : Int) + ((k + 1 : Nat) : Int)))), (0, .ref (b 0)), (1, .int (zI (i : Int))), (2, .int (zI (a : Int))), (3, .int (zI w))]) (j := 5) rfl (by omega) (by decide) rfl dL_word_30 ?_
        refine j_goto hJ (tgt := 6) (by decide) dL_word_33 ?_
        refine j_locs hJ [2, 3, 4, 5, 1, 0] rfl ?_
        refine j_widen hJ (ce' := 13 * (k + 1)) (sl' := 550 * (k + 1)) (by (try dsimp only); omega) (by (try dsimp only); omega) ?_
        exact ih6 (k + 1) (by omega) (by omega)
  refine j_locs hJ [2, 3, 4, 5, 1, 0] rfl ?_
  refine j_widen hJ (ce' := 13 * 0) (sl' := 550 * 0) (by (try dsimp only); omega) (by (try dsimp only); omega) ?_
  exact lp6 (wL w.toNat + 1 - 0 + 1) 0 (by omega) (by omega)
set_option maxHeartbeats 4000000 in
set_option maxRecDepth 100000 in
theorem c_L_named {ν : Nat → Int → Int} {i : Nat} {z : Int} (hfl : l.stackTraces = false) (hi : i < 5) (hA : AWr ν) (hz : 0 ≤ z ∧ z < 100000) : CT l D cy n0 ad yL_named (.code yL_named cL_named 6 (some .int)) ({ frames := 1, cells := 0, slots := 0, locals := 21 }) [.ref (b 1), .int (zI (i : Int)), .int (zI z)] (gw 3 ASh cy b ν ++ E) (fun vv uu => ∃ q ν', vv = some (.int (zI q)) ∧ uu = (gw 3 ASh cy b ν' ++ E) ∧ (NmP ν ν' i q)) := by
  obtain ⟨mm, hmm⟩ : ∃ mm : Nat, mm = (1 + z % 4).toNat := ⟨_, rfl⟩
  have hmr : 1 ≤ mm ∧ mm ≤ 4 := by omega
  have hmz : (mm : Int) = 1 + z % 4 := by omega
  refine CT.walk hfl (by decide) (Nat.le_of_ble_eq_true rfl) ?_
  intro A J hJ
  show J (gw 3 ASh cy b ν ++ E) 0 0 0 [(0, .ref (b 1)), (1, .int (zI (i : Int))), (2, .int (zI z))] []
  refine j_iconst hJ dL_named_0 ?_
  refine j_iload_n hJ (j := 2) rfl rfl dL_named_1 ?_
  refine j_iconst hJ dL_named_2 ?_
  refine j_irem hJ (by omega) (by omega) (by omega) (by omega) dL_named_3 ?_
  refine j_iadd hJ dL_named_4 ?_
  refine j_topi (y := zI (mm : Int)) (by rw [hmz]) ?_
  refine j_istore_n hJ (lv' := [(3, .int (zI (mm : Int))), (0, .ref (b 1)), (1, .int (zI (i : Int))), (2, .int (zI z))]) rfl (by decide) rfl dL_named_5 ?_
  refine j_iload_n hJ (j := 3) rfl rfl dL_named_6 ?_
  refine j_iconst hJ dL_named_7 ?_
  refine j_irem hJ (by omega) (by omega) (by omega) (by omega) dL_named_8 ?_
  refine j_bipush hJ (v := 30) (by decide) dL_named_9 ?_
  refine j_rshl hJ dL_named_11 ?_
  obtain ⟨x0, hx0⟩ : ∃ x0 : Int32, x0 = zI (z % 3) <<< (zI 30 &&& 31) := ⟨_, rfl⟩
  rw [← hx0]
  refine j_istore hJ (lv' := [(4, .int x0), (3, .int (zI (mm : Int))), (0, .ref (b 1)), (1, .int (zI (i : Int))), (2, .int (zI z))]) (by decide) rfl dL_named_12 ?_
  refine j_aload_n hJ (j := 2) rfl rfl dL_named_14 ?_
  refine j_iconst hJ dL_named_15 ?_
  refine j_iload_n hJ (j := 3) rfl rfl dL_named_16 ?_
  refine j_imul hJ dL_named_17 ?_
  refine j_iload_n hJ (j := 1) rfl rfl dL_named_18 ?_
  refine w_iast hJ (by omega) rfl (by first | decide | omega) (by omega) (by omega) dL_named_19 ?_
  intro ν1 hν1
  refine j_iconst hJ dL_named_20 ?_
  refine j_istore hJ (lv' := [(5, .int (zI 0)), (4, .int x0), (3, .int (zI (mm : Int))), (0, .ref (b 1)), (1, .int (zI (i : Int))), (2, .int (zI z))]) (by decide) rfl dL_named_21 ?_
  have lp23 : ∀ (nn23 : Nat) (νk : Nat → Int → Int) (x : Int32) (k : Nat) (hmeas23 : mm - k < nn23) (hk : k ≤ mm) (hB : NmB x z k) (hV : NmV ν νk i z mm k), J (gw 3 ASh cy b νk ++ E) 0 0 23 [(0, .ref (b 1)), (1, .int (zI (i : Int))), (2, .int (zI z)), (3, .int (zI (mm : Int))), (4, .int x), (5, .int (zI (k : Int)))] [] := by
    intro nn23
    induction nn23 with
    | zero => intro νk x k hmeas23 hk hB hV; omega
    | succ nn23 ih23 =>
      intro νk x k hmeas23 hk hB hV
      refine j_iload hJ (j := 5) rfl dL_named_23 ?_
      refine j_iload_n hJ (j := 3) rfl rfl dL_named_25 ?_
      refine j_icmp_ge hJ (tgt := 89) ⟨by omega, by omega⟩ ⟨by omega, by omega⟩ (by decide) dL_named_26 ?_ ?_
      · intro h26
        have hke : k = mm := by omega
        refine j_iload hJ (j := 4) rfl dL_named_89 ?_
        refine j_topi (y := zI x.toInt) (zI_of x).symm ?_
        refine j_iret hJ rfl rfl (rfl) (Nat.le_of_ble_eq_true rfl) (Nat.le_of_ble_eq_true rfl) dL_named_91 ⟨x.toInt, νk, rfl, rfl, ?_⟩
        subst hke
        exact named_end hmr hB hV
      · intro h26
        have hk2 : k < mm := by omega
        refine j_aload_n hJ (j := 0) rfl rfl dL_named_29 ?_
        refine j_iconst hJ dL_named_30 ?_
        refine j_iload_n hJ (j := 1) rfl rfl dL_named_31 ?_
        refine j_imul hJ dL_named_32 ?_
        refine j_iconst hJ dL_named_33 ?_
        refine j_iadd hJ dL_named_34 ?_
        refine j_iload hJ (j := 5) rfl dL_named_35 ?_
        refine j_iadd hJ dL_named_37 ?_
        refine j_iload_n hJ (j := 2) rfl rfl dL_named_38 ?_
        refine j_iconst hJ dL_named_39 ?_
        refine j_idiv hJ (by omega) (by omega) (by omega) (by omega) dL_named_40 ?_
        refine j_iconst hJ dL_named_41 ?_
        refine j_iload hJ (j := 5) rfl dL_named_42 ?_
        refine j_imul hJ dL_named_44 ?_
        obtain ⟨zq, hzq⟩ : ∃ zq, zq = z / 4 / 2 ^ (3 * (k : Int)).toNat := ⟨_, rfl⟩
        have hdz : 0 ≤ zq ∧ zq < 2147483648 := by rw [hzq]; exact wz_rng hz
        refine j_ishr hJ (v := zq) ((hzq ▸ zI_shr (by omega) (by omega) (by omega) (by omega))) dL_named_45 ?_
        refine j_callS0 hJ (c_L_drawn hfl hdz) m_L_110 k_L_drawn ⟨(Nat.le_of_ble_eq_true rfl), (Nat.le_of_ble_eq_true rfl)⟩ ⟨(Nat.le_of_ble_eq_true rfl), (Nat.le_of_ble_eq_true rfl)⟩ (Nat.le_of_ble_eq_true rfl) dL_named_46 rfl ?_
        intro v1 u2 hv3
        obtain ⟨w, rfl, rfl, hw⟩ := hv3
        show J (gw 3 ASh cy b νk ++ E) 0 0 49 [(0, .ref (b 1)), (1, .int (zI (i : Int))), (2, .int (zI z)), (3, .int (zI (mm : Int))), (4, .int x), (5, .int (zI (k : Int)))] [.int (zI w), .int (zI (((5 * (i : Int)) + 1) + (k : Int))), .ref (b 1)]
        have hwk : w = wz z k := by rw [hw, hzq]; rfl
        have hwr : 0 ≤ w ∧ w < 24 := by rw [hw]; exact (dr_Drw _).rng
        refine w_iast hJ (by omega) rfl (by first | decide | omega) (by omega) (by omega) dL_named_49 ?_
        intro ν2 hν2
        refine j_iload hJ (j := 4) rfl dL_named_50 ?_
        refine j_sipush hJ (v := 255) (by decide) dL_named_52 ?_
        refine j_bipush hJ (v := 8) (by decide) dL_named_55 ?_
        refine j_iload hJ (j := 5) rfl dL_named_57 ?_
        refine j_imul hJ dL_named_59 ?_
        refine j_rshl hJ dL_named_60 ?_
        refine j_iconst hJ dL_named_61 ?_
        refine j_rxor hJ dL_named_62 ?_
        refine j_rand hJ dL_named_63 ?_
        refine j_aload_n hJ (j := 0) rfl rfl dL_named_64 ?_
        refine j_iconst hJ dL_named_65 ?_
        refine j_iload_n hJ (j := 1) rfl rfl dL_named_66 ?_
        refine j_imul hJ dL_named_67 ?_
        refine j_iconst hJ dL_named_68 ?_
        refine j_iadd hJ dL_named_69 ?_
        refine j_iload hJ (j := 5) rfl dL_named_70 ?_
        refine j_iadd hJ dL_named_72 ?_
        refine w_iald hJ (by omega) rfl (by first | decide | omega) (by omega) (by omega) dL_named_73 ?_
        refine j_topi (y := zI w) (by rw [hν2, up_self]) ?_
        refine j_bipush hJ (v := 8) (by decide) dL_named_74 ?_
        refine j_iload hJ (j := 5) rfl dL_named_76 ?_
        refine j_imul hJ dL_named_78 ?_
        refine j_rshl hJ dL_named_79 ?_
        refine j_ror hJ dL_named_80 ?_
        obtain ⟨x1, hx1⟩ : ∃ x1 : Int32, x1 = (x &&& (((zI 255) <<< ((zI (8 * (k : Int))) &&& 31)) ^^^ (zI (-1)))) ||| ((zI w) <<< ((zI (8 * (k : Int))) &&& 31)) := ⟨_, rfl⟩
        rw [← hx1]
        refine j_istore hJ (lv' := [(4, .int x1), (0, .ref (b 1)), (1, .int (zI (i : Int))), (2, .int (zI z)), (3, .int (zI (mm : Int))), (5, .int (zI (k : Int)))]) (by decide) rfl dL_named_81 ?_
        refine j_iinc hJ (lv' := [(5, .int (zI ((k : Int) + 1))), (4, .int x1), (0, .ref (b 1)), (1, .int (zI (i : Int))), (2, .int (zI z)), (3, .int (zI (mm : Int)))]) (j := 5) rfl (by omega) (by decide) rfl dL_named_83 ?_
        refine j_goto hJ (tgt := 23) (by decide) dL_named_86 ?_
        refine j_locs hJ [2, 3, 4, 5, 1, 0] rfl ?_
        exact ih23 ν2 x1 (k + 1) (by omega) (by omega) (by rw [hx1, hwk]; exact hB.step (by omega)) (by exact hV.step (by omega) (by omega) (by rw [← hwk]; exact hν2))
  refine j_locs hJ [3, 4, 5, 2, 1, 0] rfl ?_
  exact lp23 (mm - 0 + 1) ν1 x0 0 (by omega) (by omega) (by exact fun j hj => absurd hj (Nat.not_lt_zero _)) (by exact NmV.init hA hν1)
end
