/-! the law: walks by widening rings -/
theorem perm_new (F G E : va_W) (c d : Nat × va_E) : (((F ++ (G ++ E)) ++ [c]) ++ [d]).Perm (F ++ (G ++ (c :: d :: E))) := by
  rw [List.append_assoc, List.append_assoc, List.append_assoc]
  refine List.Perm.append_left _ (List.Perm.append_left _ ?_)
  exact List.perm_append_comm
theorem perm_old (F G E : va_W) (c d : Nat × va_E) : (F ++ (G ++ (c :: d :: E))).Perm ((F ++ (G ++ E)) ++ [c, d]) := by
  rw [List.append_assoc, List.append_assoc]
  refine List.Perm.append_left _ (List.Perm.append_left _ ?_)
  exact (List.perm_append_comm (l₁ := E) (l₂ := [c, d])).symm
theorem EdS_rng {n : Nat} {ow : Nat → Int} {m : Nat → Nat} {p : Nat → Nat → Int} (h : ∀ i, i < n → PtOK (p i) (m i)) : ∀ x y, EdS n (fun s => trk (p s) (m s)) ow x y → (0 ≤ x ∧ x < 144) ∧ 0 ≤ y ∧ y < 144 := by
  rintro x y ⟨s, hs, j, hj, g⟩
  have hr := trk_rng (h s hs)
  rcases g with ⟨h1, h2⟩ | ⟨-, h1, h2⟩ <;> exact ⟨hr x (List.mem_of_getElem? h1), hr y (List.mem_of_getElem? h2)⟩
theorem RS_init {n : Nat} {L : Nat → List Int} {ow : Nat → Int} {a : Int} (ha : 0 ≤ a ∧ a < 144) : RS n L ow a (fun y => y == a.toNat) 0 := fun x hx => by
  rw [WLe.zero]
  show (x == a.toNat) = true ↔ _
  rw [beq_iff_eq]
  omega
theorem cnt_one {a : Int} (ha : 0 ≤ a ∧ a < 144) : cntN (fun y => y == a.toNat) 144 = 1 := by
  have h := cntN_ins (T := fun _ => false) (c := true) (y := a.toNat) (fun _ => rfl) 144
  have h0 : ∀ n, cntN (fun _ => false) n = 0 := fun n => by
    induction n with
    | zero => rfl
    | succ n ih => rw [cntN, ih]; rfl
  have e : (fun b : Nat => (fun _ : Nat => false) b || (true && b == a.toNat)) = fun y => y == a.toNat := by funext y; simp
  have hl : a.toNat < 144 := by omega
  rw [e, h0] at h
  rw [h, if_pos ⟨rfl, hl⟩]
theorem cnt_pos {n : Nat} {L : Nat → List Int} {ow : Nat → Int} {a : Int} {S : Nat → Bool} {r : Nat} (h : RS n L ow a S r) (ha : 0 ≤ a ∧ a < 144) : 1 ≤ cntN S 144 := by
  have h1 : S a.toNat = true := (h a.toNat (by omega)).mpr ⟨0, Nat.zero_le _, by rw [Int.toNat_of_nonneg ha.1]; rfl⟩
  have h2 := (cntN_sub (S := fun y => y == a.toNat) (T := S) (n := 144) (fun x hx g => by rw [beq_iff_eq.mp g]; exact h1)).1
  rw [cnt_one ha] at h2
  exact h2
theorem edge_T {S T T1 : Nat → Bool} {c1 c2 : Bool} {on ot : Int} {o : Int} (hT1 : T1 = fun y => T y || (c1 && y == ot.toNat)) (hc1 : c1 = (S on.toNat && !T ot.toNat)) (hc2 : c2 = (decide (o = 0) && S ot.toNat && !T1 on.toNat)) : ∀ b, b < 144 → ((T1 b || (c2 && b == on.toNat)) = true ↔ T b = true ∨ (S on.toNat = true ∧ b = ot.toNat) ∨ (o = 0 ∧ S ot.toNat = true ∧ b = on.toNat)) := by
  intro b _
  have h1 : ∀ y, T1 y = true ↔ T y = true ∨ (S on.toNat = true ∧ y = ot.toNat) := fun y => by
    rw [hT1]
    show (T y || (c1 && y == ot.toNat)) = true ↔ _
    rw [hc1, Bool.or_eq_true, Bool.and_eq_true, Bool.and_eq_true, beq_iff_eq, Bool.not_eq_true']
    constructor
    · rintro (g | ⟨⟨g1, -⟩, g2⟩)
      · exact Or.inl g
      · exact Or.inr ⟨g1, g2⟩
    · rintro (g | ⟨g1, g2⟩)
      · exact Or.inl g
      · cases e : T ot.toNat
        · exact Or.inr ⟨⟨g1, rfl⟩, g2⟩
        · exact Or.inl (by rw [g2]; exact e)
  rw [Bool.or_eq_true, Bool.and_eq_true, beq_iff_eq, h1 b]
  constructor
  · rintro (g | ⟨g1, g2⟩)
    · rcases g with g | g
      · exact Or.inl g
      · exact Or.inr (Or.inl g)
    · rw [hc2, Bool.and_eq_true, Bool.and_eq_true, decide_eq_true_eq] at g1
      exact Or.inr (Or.inr ⟨g1.1.1, g1.1.2, g2⟩)
  · rintro (g | g | ⟨g0, g1, g2⟩)
    · exact Or.inl (Or.inl g)
    · exact Or.inl (Or.inr g)
    · cases e : T1 on.toNat
      · refine Or.inr ⟨?_, g2⟩
        rw [hc2, e]; simp [g0, g1]
      · rw [g2]; exact Or.inl ((h1 on.toNat).mp e)
set_option maxRecDepth 20000 in
theorem m_L_79 : MF RL 79 1 yL_has 2 := ⟨Or.inl (List.mem_of_getElem? (i := 498) (by decide +kernel)), (List.mem_of_getElem? (i := 39) (by decide +kernel)), ⟨by decide +kernel, by decide +kernel⟩, by decide +kernel, fun h => by omega, fun _ => (List.mem_of_getElem? (i := 499) (by decide +kernel)), fun h => by omega⟩
set_option maxRecDepth 20000 in
theorem k_L_has : Cond.code yL_has cL_has 2 (some .boolean) ∈ GT := (List.mem_of_getElem? (i := 500) (by decide +kernel))
set_option maxRecDepth 20000 in
theorem mx_L_83 : MX RL 83 0 yX4_walk 4 := ⟨(List.mem_of_getElem? (i := 501) (by decide +kernel)), (List.mem_of_getElem? (i := 40) (by decide +kernel)), ⟨by decide +kernel, by decide +kernel⟩, by decide +kernel, fun _ => ⟨(List.mem_of_getElem? (i := 502) (by decide +kernel)), (List.mem_of_getElem? (i := 503) (by decide +kernel))⟩, fun h => by omega⟩
set_option maxRecDepth 20000 in
theorem k_X4_walk : Cond.code yX4_walk cX4_walk 5 (some .int) ∈ GT := (List.mem_of_getElem? (i := 504) (by decide +kernel))
set_option maxRecDepth 20000 in
theorem mx_L_87 : MX RL 87 0 yX4_walkByRounds 4 := ⟨(List.mem_of_getElem? (i := 531) (by decide +kernel)), (List.mem_of_getElem? (i := 40) (by decide +kernel)), ⟨by decide +kernel, by decide +kernel⟩, by decide +kernel, fun _ => ⟨(List.mem_of_getElem? (i := 532) (by decide +kernel)), (List.mem_of_getElem? (i := 533) (by decide +kernel))⟩, fun h => by omega⟩
set_option maxRecDepth 20000 in
theorem k_X4_walkByRounds : Cond.code yX4_walkByRounds cX4_walkByRounds 5 (some .int) ∈ GT := (List.mem_of_getElem? (i := 534) (by decide +kernel))
set_option maxRecDepth 20000 in
theorem mx_L_90 : MX RL 90 0 yX4_reachable 2 := ⟨(List.mem_of_getElem? (i := 547) (by decide +kernel)), (List.mem_of_getElem? (i := 40) (by decide +kernel)), ⟨by decide +kernel, by decide +kernel⟩, by decide +kernel, fun _ => ⟨(List.mem_of_getElem? (i := 548) (by decide +kernel)), (List.mem_of_getElem? (i := 549) (by decide +kernel))⟩, fun h => by omega⟩
set_option maxRecDepth 20000 in
theorem k_X4_reachable : Cond.code yX4_reachable cX4_reachable 3 (some .int) ∈ GT := (List.mem_of_getElem? (i := 550) (by decide +kernel))
section
variable {l : Launch} {D : va_G} {cy : Nat → ClassId} {n0 : Nat} {ad : Nat → Nat} {b ba : Nat → Nat} {E : va_W} {ws : va_W}
set_option maxHeartbeats 4000000 in
set_option maxRecDepth 100000 in
theorem c_L_has {q0 : Nat} {f : Nat → Int64} {S : Nat → Bool} {z : Int} (hfl : l.stackTraces = false) (hS : SB f S) (hz : 0 ≤ z ∧ z < 144) : CT l D cy n0 ad yL_has (.code yL_has cL_has 2 (some .boolean)) ({ frames := 0, cells := 0, slots := 0, locals := 0 }) [.ref q0, .int (zI z)] (lcell cy q0 f :: E) (fun vv uu => ∃ q, vv = some (.int (zI q)) ∧ uu = (lcell cy q0 f :: E) ∧ (q = if S z.toNat = true then 1 else 0)) := by
  obtain ⟨v, hv1, hv2, hv3⟩ := hS.test hz.1 hz.2
  refine CT.walk hfl (by decide) (Nat.le_of_ble_eq_true rfl) ?_
  intro A J hJ
  show J (lcell cy q0 f :: E) 0 0 0 [(0, .ref q0), (1, .int (zI z))] []
  refine j_aload_n hJ (j := 0) rfl rfl dL_has_0 ?_
  refine j_iload_n hJ (j := 1) rfl rfl dL_has_1 ?_
  refine j_bipush hJ (v := 48) (by decide) dL_has_2 ?_
  refine j_idiv hJ (by omega) (by omega) (by omega) (by omega) dL_has_4 ?_
  refine j_lald hJ (q0 := 0) rfl (by decide) (by omega) (by omega) dL_has_5 ?_
  refine j_iload_n hJ (j := 1) rfl rfl dL_has_6 ?_
  refine j_bipush hJ (v := 48) (by decide) dL_has_7 ?_
  refine j_irem hJ (by omega) (by omega) (by omega) (by omega) dL_has_9 ?_
  refine j_lshr hJ (v := lN v) (hv1) dL_has_10 ?_
  refine j_lconst (v := (1 : Int64)) hJ rfl dL_has_11 ?_
  refine j_land hJ (v := lN (v % 2)) (hv2) dL_has_12 ?_
  refine j_lconst (v := (1 : Int64)) hJ rfl dL_has_13 ?_
  refine j_lcmp hJ (v := if S z.toNat = true then 0 else -1) (hv3) dL_has_14 ?_
  refine j_if_ne hJ (tgt := 22) ⟨by split <;> omega, by split <;> omega⟩ (by decide) dL_has_15 ?_ ?_
  · intro h15
    refine j_iconst hJ dL_has_22 ?_
    refine j_iret hJ rfl rfl (rfl) (Nat.le_of_ble_eq_true rfl) (Nat.le_of_ble_eq_true rfl) dL_has_23 ⟨0, rfl, rfl, ?_⟩
    rw [if_neg (fun g => h15 (by rw [if_pos g]))]
  · intro h15
    refine j_iconst hJ dL_has_18 ?_
    refine j_goto hJ (tgt := 23) (by decide) dL_has_19 ?_
    refine j_iret hJ rfl rfl (rfl) (Nat.le_of_ble_eq_true rfl) (Nat.le_of_ble_eq_true rfl) dL_has_23 ⟨1, rfl, rfl, ?_⟩
    rw [if_pos (by
      cases g : S z.toNat
      · rw [g] at h15; exact absurd h15 (by decide)
      · rfl)]
set_option maxHeartbeats 4000000 in
set_option maxRecDepth 100000 in
theorem c_L_isWalk {μ ν : Nat → Int → Int} {n : Nat} {N : Nat → List Int} {ow : Nat → Int} {m : Nat → Nat} {p : Nat → Nat → Int} {sa go : Int} (hfl : l.stackTraces = false) (hX : XI μ n N ow m p) (hn : n ≤ 5) (hP : ∀ i, i < n → APt ν i (p i) (m i) ∧ ν 2 (7 * (i : Int) + 6) = ow i) (hsa : 0 ≤ sa ∧ sa < 144) (hgo : 0 ≤ go ∧ go < 144) : CT l D cy n0 ad yL_isWalk (.code yL_isWalk cL_isWalk 17 (some .boolean)) ({ frames := 8, cells := 7, slots := 36, locals := 127 }) [.ref (b 0), .ref (ba 2), .int (zI (n : Int)), .int (zI sa), .int (zI go)] (gw 105 XSh cy b μ ++ (gw 3 ASh cy ba ν ++ E)) (fun vv uu => ∃ q μ', vv = some (.int (zI q)) ∧ uu = (gw 105 XSh cy b μ' ++ (gw 3 ASh cy ba ν ++ E)) ∧ (q = 1 ∧ XI μ' n N ow m p ∧ μ' 1 = μ 1)) := by
  have hR : ∀ x y, EdS n (fun s => trk (p s) (m s)) ow x y → (0 ≤ x ∧ x < 144) ∧ 0 ≤ y ∧ y < 144 := EdS_rng (fun i hi => (hP i hi).1.2.2.2)
  obtain ⟨x1, x2, x3, x4, x5, x6, x7⟩ := id hX
  refine CT.walk hfl (by decide) (Nat.le_of_ble_eq_true rfl) ?_
  intro A J hJ
  show J (gw 105 XSh cy b μ ++ (gw 3 ASh cy ba ν ++ E)) 0 0 0 [(0, .ref (b 0)), (1, .ref (ba 2)), (2, .int (zI (n : Int))), (3, .int (zI sa)), (4, .int (zI go))] []
  refine j_iconst hJ dL_isWalk_0 ?_
  refine j_newl3 hJ (Nat.le_of_ble_eq_true rfl) (Nat.le_of_ble_eq_true rfl) dL_isWalk_1 (fun s1 => ?_)
  refine j_astore hJ (lv' := [(5, .ref s1), (0, .ref (b 0)), (1, .ref (ba 2)), (2, .int (zI (n : Int))), (3, .int (zI sa)), (4, .int (zI go))]) (by decide) rfl dL_isWalk_3 ?_
  refine j_iconst hJ dL_isWalk_5 ?_
  refine j_newl3 hJ (Nat.le_of_ble_eq_true rfl) (Nat.le_of_ble_eq_true rfl) dL_isWalk_6 (fun s2 => ?_)
  refine j_perm hJ (ws' := WW cy b ba μ ν s1 s2 (fun _ => 0) (fun _ => 0) E) (perm_new _ _ _ _ _) ?_
  show J (WW cy b ba μ ν s1 s2 (fun _ => 0) (fun _ => 0) E) 2 6 8 [(5, .ref s1), (0, .ref (b 0)), (1, .ref (ba 2)), (2, .int (zI (n : Int))), (3, .int (zI sa)), (4, .int (zI go))] [.ref s2]
  refine j_astore hJ (lv' := [(6, .ref s2), (5, .ref s1), (0, .ref (b 0)), (1, .ref (ba 2)), (2, .int (zI (n : Int))), (3, .int (zI sa)), (4, .int (zI go))]) (by decide) rfl dL_isWalk_8 ?_
  refine j_aload hJ (j := 1) rfl dL_isWalk_10 ?_
  refine j_iload_n hJ (j := 5) rfl rfl dL_isWalk_12 ?_
  refine j_bipush hJ (v := 48) (by decide) dL_isWalk_13 ?_
  refine j_idiv hJ (by omega) (by omega) (by omega) (by omega) dL_isWalk_15 ?_
  refine j_dup2 hJ rfl rfl dL_isWalk_16 ?_
  refine w_ll1 hJ (by omega) (by omega) dL_isWalk_17 ?_
  refine j_lconst (v := (1 : Int64)) hJ rfl dL_isWalk_18 ?_
  refine j_iload_n hJ (j := 5) rfl rfl dL_isWalk_19 ?_
  refine j_bipush hJ (v := 48) (by decide) dL_isWalk_20 ?_
  refine j_irem hJ (by omega) (by omega) (by omega) (by omega) dL_isWalk_22 ?_
  refine j_lshl hJ (v := msk true sa) (rfl) dL_isWalk_23 ?_
  refine j_lor hJ (v := ((fun _ => 0) (sa / 48).toNat) ||| (msk true sa)) (rfl) dL_isWalk_24 ?_
  refine w_ls1 hJ (by omega) (by omega) dL_isWalk_25 ?_
  intro f1 hf1
  have hS1 := (SB.zero.ins hsa.1 hsa.2 true)
  rw [← hf1] at hS1
  have hS1 := hS1.iff (T := fun y => y == sa.toNat) (fun y _ => by simp)
  refine j_aload hJ (j := 0) rfl dL_isWalk_26 ?_
  refine j_iload_n hJ (j := 5) rfl rfl dL_isWalk_28 ?_
  refine j_bipush hJ (v := 48) (by decide) dL_isWalk_29 ?_
  refine j_idiv hJ (by omega) (by omega) (by omega) (by omega) dL_isWalk_31 ?_
  refine j_dup2 hJ rfl rfl dL_isWalk_32 ?_
  refine w_ll2 hJ (by omega) (by omega) dL_isWalk_33 ?_
  refine j_lconst (v := (1 : Int64)) hJ rfl dL_isWalk_34 ?_
  refine j_iload_n hJ (j := 5) rfl rfl dL_isWalk_35 ?_
  refine j_bipush hJ (v := 48) (by decide) dL_isWalk_36 ?_
  refine j_irem hJ (by omega) (by omega) (by omega) (by omega) dL_isWalk_38 ?_
  refine j_lshl hJ (v := msk true sa) (rfl) dL_isWalk_39 ?_
  refine j_lor hJ (v := ((fun _ => 0) (sa / 48).toNat) ||| (msk true sa)) (rfl) dL_isWalk_40 ?_
  refine w_ls2 hJ (by omega) (by omega) dL_isWalk_41 ?_
  intro g2 hg2
  have hS2 := (SB.zero.ins hsa.1 hsa.2 true)
  rw [← hg2] at hS2
  have hS2 := hS2.iff (T := fun y => y == sa.toNat) (fun y _ => by simp)
  refine j_aload hJ (j := 1) rfl dL_isWalk_42 ?_
  refine j_iload hJ (j := 6) rfl dL_isWalk_44 ?_
  refine j_perm hJ perm_l1 ?_
  refine j_callS0 hJ (c_L_has hfl hS1 hgo) m_L_79 k_L_has ⟨(Nat.le_of_ble_eq_true rfl), (Nat.le_of_ble_eq_true rfl)⟩ ⟨(Nat.le_of_ble_eq_true rfl), (Nat.le_of_ble_eq_true rfl)⟩ (Nat.le_of_ble_eq_true rfl) dL_isWalk_46 rfl ?_
  intro v1 u2 hv3
  obtain ⟨q46, rfl, rfl, h46⟩ := hv3
  refine j_perm hJ perm_l1.symm ?_
  show J (WW cy b ba μ ν s1 s2 f1 g2 E) 2 6 49 [(6, .ref s2), (5, .ref s1), (0, .ref (b 0)), (1, .ref (ba 2)), (2, .int (zI (n : Int))), (3, .int (zI sa)), (4, .int (zI go))] [.int (zI q46)]
  have hq46 : (q46 = 1 ∧ sa = go) ∨ (q46 = 0 ∧ sa ≠ go) := by
    rw [h46]
    by_cases g : go.toNat = sa.toNat
    · rw [if_pos (by rw [g]; exact beq_self_eq_true _)]; exact Or.inl ⟨rfl, by omega⟩
    · rw [if_neg (by rw [beq_iff_eq]; exact g)]; exact Or.inr ⟨rfl, fun e => g (by rw [e])⟩
  have j57 : ∀ (stp : Int) (hst : StI (EdS n (fun s => trk (p s) (m s)) ow) sa go stp 0), J (WW cy b ba μ ν s1 s2 f1 g2 E) 2 6 57 [(0, .ref (b 0)), (1, .ref (ba 2)), (2, .int (zI (n : Int))), (3, .int (zI sa)), (4, .int (zI go)), (5, .ref s1), (6, .ref s2)] [.int (zI stp)] := by
    intro stp hst
    refine j_istore hJ (lv' := [(7, .int (zI stp)), (0, .ref (b 0)), (1, .ref (ba 2)), (2, .int (zI (n : Int))), (3, .int (zI sa)), (4, .int (zI go)), (5, .ref s1), (6, .ref s2)]) (by decide) rfl dL_isWalk_57 ?_
    refine j_iconst hJ dL_isWalk_59 ?_
    refine j_istore hJ (lv' := [(8, .int (zI 1)), (7, .int (zI stp)), (0, .ref (b 0)), (1, .ref (ba 2)), (2, .int (zI (n : Int))), (3, .int (zI sa)), (4, .int (zI go)), (5, .ref s1), (6, .ref s2)]) (by decide) rfl dL_isWalk_60 ?_
    refine j_iconst hJ dL_isWalk_62 ?_
    refine j_istore hJ (lv' := [(9, .int (zI 0)), (8, .int (zI 1)), (7, .int (zI stp)), (0, .ref (b 0)), (1, .ref (ba 2)), (2, .int (zI (n : Int))), (3, .int (zI sa)), (4, .int (zI go)), (5, .ref s1), (6, .ref s2)]) (by decide) rfl dL_isWalk_63 ?_
    refine j_iconst hJ dL_isWalk_65 ?_
    refine j_istore hJ (lv' := [(10, .int (zI 1)), (9, .int (zI 0)), (8, .int (zI 1)), (7, .int (zI stp)), (0, .ref (b 0)), (1, .ref (ba 2)), (2, .int (zI (n : Int))), (3, .int (zI sa)), (4, .int (zI go)), (5, .ref s1), (6, .ref s2)]) (by decide) rfl dL_isWalk_66 ?_
    have lp68 : ∀ (nn68 : Nat) (f : Nat → Int64) (g : Nat → Int64) (S : Nat → Bool) (stp : Int) (cn : Nat) (hd : Nat) (r : Nat) (hmeas68 : 145 - hd < nn68) (hf : SB f S) (hg : SB g S) (hRS : RS n (fun s => trk (p s) (m s)) ow sa S r) (hcn : cn = cntN S 144) (hst : StI (EdS n (fun s => trk (p s) (m s)) ow) sa go stp r) (hr : r ≤ hd) (hdc : hd ≤ cn) (hprev : (r = 0 ∧ hd = 0) ∨ (∃ S9, 1 ≤ r ∧ RS n (fun s => trk (p s) (m s)) ow sa S9 (r - 1) ∧ hd = cntN S9 144)), J (WW cy b ba μ ν s1 s2 f g E) 2 6 68 [(0, .ref (b 0)), (1, .ref (ba 2)), (2, .int (zI (n : Int))), (3, .int (zI sa)), (4, .int (zI go)), (5, .ref s1), (6, .ref s2), (7, .int (zI stp)), (8, .int (zI (cn : Int))), (9, .int (zI (hd : Int))), (10, .int (zI ((r : Int) + 1)))] [] := by
      intro nn68
      induction nn68 with
      | zero => intro f g S stp cn hd r hmeas68 hf hg hRS hcn hst hr hdc hprev; omega
      | succ nn68 ih68 =>
        intro f g S stp cn hd r hmeas68 hf hg hRS hcn hst hr hdc hprev
        refine j_iload hJ (j := 9) rfl dL_isWalk_68 ?_
        refine j_iload hJ (j := 8) rfl dL_isWalk_70 ?_
        have hcl0 : cntN S 144 ≤ 144 := cntN_le _ _
        refine j_icmp_ge hJ (tgt := 340) ⟨by omega, by omega⟩ ⟨by omega, by omega⟩ (by decide) dL_isWalk_72 ?_ ?_
        · intro h72
          have hcn1 := cnt_pos hRS hsa
          obtain ⟨S9, g1, g2, g3⟩ := hprev.resolve_left (fun g => by omega)
          obtain ⟨r9, hr9⟩ : ∃ r9, r = r9 + 1 := ⟨r - 1, by omega⟩
          rw [hr9, Nat.add_sub_cancel] at g2
          have hRS1 := hRS
          rw [hr9] at hRS1
          have hend := ring_end g2 hRS1 (by omega) hsa hR
          rw [← hr9] at hend
          have hdist := hst.fin hend
          have hstr := hst.rng
          have hcount : IsCount (EdS n (fun s => trk (p s) (m s)) ow) sa (cn : Int) := ⟨S, fun x hx => ⟨fun g => by obtain ⟨k, _, hw⟩ := (hRS x hx).mp g; exact ⟨k, hw⟩, fun ⟨k, hw⟩ => (hRS x hx).mpr (hend k x hw)⟩, by rw [hcn]⟩
          have hcl : cntN S 144 ≤ 144 := cntN_le _ _
          refine j_aload_n hJ (j := 0) rfl rfl dL_isWalk_340 ?_
          refine j_iload_n hJ (j := 3) rfl rfl dL_isWalk_341 ?_
          refine j_bipush hJ (v := 12) (by decide) dL_isWalk_342 ?_
          refine j_idiv hJ (by omega) (by omega) (by omega) (by omega) dL_isWalk_344 ?_
          refine j_iload_n hJ (j := 3) rfl rfl dL_isWalk_345 ?_
          refine j_bipush hJ (v := 12) (by decide) dL_isWalk_346 ?_
          refine j_irem hJ (by omega) (by omega) (by omega) (by omega) dL_isWalk_348 ?_
          refine j_iload hJ (j := 4) rfl dL_isWalk_349 ?_
          refine j_bipush hJ (v := 12) (by decide) dL_isWalk_351 ?_
          refine j_idiv hJ (by omega) (by omega) (by omega) (by omega) dL_isWalk_353 ?_
          refine j_iload hJ (j := 4) rfl dL_isWalk_354 ?_
          refine j_bipush hJ (v := 12) (by decide) dL_isWalk_356 ?_
          refine j_irem hJ (by omega) (by omega) (by omega) (by omega) dL_isWalk_358 ?_
          show J (gw 105 XSh cy b μ ++ (gw 3 ASh cy ba ν ++ (lcell cy s1 f :: lcell cy s2 g :: E))) 2 6 359 [(0, .ref (b 0)), (1, .ref (ba 2)), (2, .int (zI (n : Int))), (3, .int (zI sa)), (4, .int (zI go)), (5, .ref s1), (6, .ref s2), (7, .int (zI stp)), (8, .int (zI (cn : Int))), (9, .int (zI (hd : Int))), (10, .int (zI ((r : Int) + 1)))] [.int (zI (go % 12)), .int (zI (go / 12)), .int (zI (sa % 12)), .int (zI (sa / 12)), .ref (b 0)]
          refine j_callVX0 hJ (c_X4_walk hfl hX ⟨by omega, by omega⟩ ⟨by omega, by omega⟩ ⟨by omega, by omega⟩ ⟨by omega, by omega⟩) mx_L_83 k_X4_walk (q0 := 0) (by rw [gw_get (by decide)]; rfl) rfl ⟨(Nat.le_of_ble_eq_true rfl), (Nat.le_of_ble_eq_true rfl)⟩ ⟨(Nat.le_of_ble_eq_true rfl), (Nat.le_of_ble_eq_true rfl)⟩ (Nat.le_of_ble_eq_true rfl) dL_isWalk_359 (by rintro q u ⟨_, _, ⟨_, h⟩, _⟩; exact h ⟨⟨⟨by omega, by omega⟩, by omega, by omega⟩, ⟨by omega, by omega⟩, by omega, by omega⟩) rfl ?_
          intro v4 u5 hv6
          obtain ⟨q359, μ3, rfl, rfl, h359⟩ := hv6
          show J (gw 105 XSh cy b μ3 ++ (gw 3 ASh cy ba ν ++ (lcell cy s1 f :: lcell cy s2 g :: E))) 4 18 362 [(0, .ref (b 0)), (1, .ref (ba 2)), (2, .int (zI (n : Int))), (3, .int (zI sa)), (4, .int (zI go)), (5, .ref s1), (6, .ref s2), (7, .int (zI stp)), (8, .int (zI (cn : Int))), (9, .int (zI (hd : Int))), (10, .int (zI ((r : Int) + 1)))] [.int (zI q359)]
          show J (WW cy b ba μ3 ν s1 s2 f g E) 4 18 362 [(0, .ref (b 0)), (1, .ref (ba 2)), (2, .int (zI (n : Int))), (3, .int (zI sa)), (4, .int (zI go)), (5, .ref s1), (6, .ref s2), (7, .int (zI stp)), (8, .int (zI (cn : Int))), (9, .int (zI (hd : Int))), (10, .int (zI ((r : Int) + 1)))] [.int (zI q359)]
          have e359 := h359.2.1
          rw [show 12 * (sa / 12) + sa % 12 = sa by omega, show 12 * (go / 12) + go % 12 = go by omega] at e359
          have e359 := e359.one hdist
          refine j_iload hJ (j := 7) rfl dL_isWalk_362 ?_
          refine j_icmp_ne hJ (tgt := 415) ⟨by omega, by omega⟩ ⟨by omega, by omega⟩ (by decide) dL_isWalk_364 ?_ ?_
          · intro h364
            exfalso; omega
          · intro h364
            refine j_aload_n hJ (j := 0) rfl rfl dL_isWalk_367 ?_
            refine j_iload_n hJ (j := 3) rfl rfl dL_isWalk_368 ?_
            refine j_bipush hJ (v := 12) (by decide) dL_isWalk_369 ?_
            refine j_idiv hJ (by omega) (by omega) (by omega) (by omega) dL_isWalk_371 ?_
            refine j_iload_n hJ (j := 3) rfl rfl dL_isWalk_372 ?_
            refine j_bipush hJ (v := 12) (by decide) dL_isWalk_373 ?_
            refine j_irem hJ (by omega) (by omega) (by omega) (by omega) dL_isWalk_375 ?_
            refine j_iload hJ (j := 4) rfl dL_isWalk_376 ?_
            refine j_bipush hJ (v := 12) (by decide) dL_isWalk_378 ?_
            refine j_idiv hJ (by omega) (by omega) (by omega) (by omega) dL_isWalk_380 ?_
            refine j_iload hJ (j := 4) rfl dL_isWalk_381 ?_
            refine j_bipush hJ (v := 12) (by decide) dL_isWalk_383 ?_
            refine j_irem hJ (by omega) (by omega) (by omega) (by omega) dL_isWalk_385 ?_
            show J (gw 105 XSh cy b μ3 ++ (gw 3 ASh cy ba ν ++ (lcell cy s1 f :: lcell cy s2 g :: E))) 4 18 386 [(0, .ref (b 0)), (1, .ref (ba 2)), (2, .int (zI (n : Int))), (3, .int (zI sa)), (4, .int (zI go)), (5, .ref s1), (6, .ref s2), (7, .int (zI stp)), (8, .int (zI (cn : Int))), (9, .int (zI (hd : Int))), (10, .int (zI ((r : Int) + 1)))] [.int (zI (go % 12)), .int (zI (go / 12)), .int (zI (sa % 12)), .int (zI (sa / 12)), .ref (b 0)]
            refine j_callVX0 hJ (c_X4_walkByRounds hfl h359.2.2.1 ⟨by omega, by omega⟩ ⟨by omega, by omega⟩ ⟨by omega, by omega⟩ ⟨by omega, by omega⟩) mx_L_87 k_X4_walkByRounds (q0 := 0) (by rw [gw_get (by decide)]; rfl) rfl ⟨(Nat.le_of_ble_eq_true rfl), (Nat.le_of_ble_eq_true rfl)⟩ ⟨(Nat.le_of_ble_eq_true rfl), (Nat.le_of_ble_eq_true rfl)⟩ (Nat.le_of_ble_eq_true rfl) dL_isWalk_386 (by rintro q u ⟨_, _, ⟨_, h⟩, _⟩; exact h ⟨⟨⟨by omega, by omega⟩, by omega, by omega⟩, ⟨by omega, by omega⟩, by omega, by omega⟩) rfl ?_
            intro v7 u8 hv9
            obtain ⟨q386, μ4, rfl, rfl, h386⟩ := hv9
            show J (gw 105 XSh cy b μ4 ++ (gw 3 ASh cy ba ν ++ (lcell cy s1 f :: lcell cy s2 g :: E))) 6 30 389 [(0, .ref (b 0)), (1, .ref (ba 2)), (2, .int (zI (n : Int))), (3, .int (zI sa)), (4, .int (zI go)), (5, .ref s1), (6, .ref s2), (7, .int (zI stp)), (8, .int (zI (cn : Int))), (9, .int (zI (hd : Int))), (10, .int (zI ((r : Int) + 1)))] [.int (zI q386)]
            show J (WW cy b ba μ4 ν s1 s2 f g E) 6 30 389 [(0, .ref (b 0)), (1, .ref (ba 2)), (2, .int (zI (n : Int))), (3, .int (zI sa)), (4, .int (zI go)), (5, .ref s1), (6, .ref s2), (7, .int (zI stp)), (8, .int (zI (cn : Int))), (9, .int (zI (hd : Int))), (10, .int (zI ((r : Int) + 1)))] [.int (zI q386)]
            have e386 := h386.2.1
            rw [show 12 * (sa / 12) + sa % 12 = sa by omega, show 12 * (go / 12) + go % 12 = go by omega] at e386
            have e386 := e386.one hdist
            refine j_iload hJ (j := 7) rfl dL_isWalk_389 ?_
            refine j_icmp_ne hJ (tgt := 415) ⟨by omega, by omega⟩ ⟨by omega, by omega⟩ (by decide) dL_isWalk_391 ?_ ?_
            · intro h391
              exfalso; omega
            · intro h391
              refine j_aload_n hJ (j := 0) rfl rfl dL_isWalk_394 ?_
              refine j_iload_n hJ (j := 3) rfl rfl dL_isWalk_395 ?_
              refine j_bipush hJ (v := 12) (by decide) dL_isWalk_396 ?_
              refine j_idiv hJ (by omega) (by omega) (by omega) (by omega) dL_isWalk_398 ?_
              refine j_iload_n hJ (j := 3) rfl rfl dL_isWalk_399 ?_
              refine j_bipush hJ (v := 12) (by decide) dL_isWalk_400 ?_
              refine j_irem hJ (by omega) (by omega) (by omega) (by omega) dL_isWalk_402 ?_
              show J (gw 105 XSh cy b μ4 ++ (gw 3 ASh cy ba ν ++ (lcell cy s1 f :: lcell cy s2 g :: E))) 6 30 403 [(0, .ref (b 0)), (1, .ref (ba 2)), (2, .int (zI (n : Int))), (3, .int (zI sa)), (4, .int (zI go)), (5, .ref s1), (6, .ref s2), (7, .int (zI stp)), (8, .int (zI (cn : Int))), (9, .int (zI (hd : Int))), (10, .int (zI ((r : Int) + 1)))] [.int (zI (sa % 12)), .int (zI (sa / 12)), .ref (b 0)]
              refine j_callVX0 hJ (c_X4_reachable hfl h386.2.2.1 ⟨by omega, by omega⟩ ⟨by omega, by omega⟩) mx_L_90 k_X4_reachable (q0 := 0) (by rw [gw_get (by decide)]; rfl) rfl ⟨(Nat.le_of_ble_eq_true rfl), (Nat.le_of_ble_eq_true rfl)⟩ ⟨(Nat.le_of_ble_eq_true rfl), (Nat.le_of_ble_eq_true rfl)⟩ (Nat.le_of_ble_eq_true rfl) dL_isWalk_403 (by rintro q u ⟨_, _, ⟨_, h⟩, _⟩; exact h ⟨⟨by omega, by omega⟩, by omega, by omega⟩) rfl ?_
              intro v10 u11 hv12
              obtain ⟨q403, μ5, rfl, rfl, h403⟩ := hv12
              show J (gw 105 XSh cy b μ5 ++ (gw 3 ASh cy ba ν ++ (lcell cy s1 f :: lcell cy s2 g :: E))) 7 36 406 [(0, .ref (b 0)), (1, .ref (ba 2)), (2, .int (zI (n : Int))), (3, .int (zI sa)), (4, .int (zI go)), (5, .ref s1), (6, .ref s2), (7, .int (zI stp)), (8, .int (zI (cn : Int))), (9, .int (zI (hd : Int))), (10, .int (zI ((r : Int) + 1)))] [.int (zI q403)]
              show J (WW cy b ba μ5 ν s1 s2 f g E) 7 36 406 [(0, .ref (b 0)), (1, .ref (ba 2)), (2, .int (zI (n : Int))), (3, .int (zI sa)), (4, .int (zI go)), (5, .ref s1), (6, .ref s2), (7, .int (zI stp)), (8, .int (zI (cn : Int))), (9, .int (zI (hd : Int))), (10, .int (zI ((r : Int) + 1)))] [.int (zI q403)]
              have e403 := h403.2.1
              rw [show 12 * (sa / 12) + sa % 12 = sa by omega] at e403
              have e403 := e403.one hcount
              refine j_iload hJ (j := 8) rfl dL_isWalk_406 ?_
              refine j_icmp_ne hJ (tgt := 415) ⟨by omega, by omega⟩ ⟨by omega, by omega⟩ (by decide) dL_isWalk_408 ?_ ?_
              · intro h408
                exfalso; omega
              · intro h408
                refine j_iconst hJ dL_isWalk_411 ?_
                refine j_goto hJ (tgt := 416) (by decide) dL_isWalk_412 ?_
                refine j_drop hJ (ws' := gw 105 XSh cy b μ5 ++ (gw 3 ASh cy ba ν ++ E)) (X := _) (perm_old _ _ _ _ _) ?_
                refine j_iret hJ rfl rfl rfl (Nat.le_of_ble_eq_true rfl) (Nat.le_of_ble_eq_true rfl) dL_isWalk_416 ⟨1, μ5, rfl, rfl, rfl, h403.2.2.1, by rw [h403.2.2.2, h386.2.2.2, h359.2.2.2]⟩
        · intro h72
          have hcl : cntN S 144 ≤ 144 := cntN_le _ _
          have hdcn : hd < cn := by omega
          refine j_iload hJ (j := 8) rfl dL_isWalk_75 ?_
          refine j_istore hJ (lv' := [(9, .int (zI (cn : Int))), (0, .ref (b 0)), (1, .ref (ba 2)), (2, .int (zI (n : Int))), (3, .int (zI sa)), (4, .int (zI go)), (5, .ref s1), (6, .ref s2), (7, .int (zI stp)), (8, .int (zI (cn : Int))), (10, .int (zI ((r : Int) + 1)))]) (by decide) rfl dL_isWalk_77 ?_
          refine j_iconst hJ dL_isWalk_79 ?_
          refine j_istore hJ (lv' := [(11, .int (zI 0)), (9, .int (zI (cn : Int))), (0, .ref (b 0)), (1, .ref (ba 2)), (2, .int (zI (n : Int))), (3, .int (zI sa)), (4, .int (zI go)), (5, .ref s1), (6, .ref s2), (7, .int (zI stp)), (8, .int (zI (cn : Int))), (10, .int (zI ((r : Int) + 1)))]) (by decide) rfl dL_isWalk_80 ?_
          have lp82 : ∀ (nn82 : Nat) (gt : Nat → Int64) (T : Nat → Bool) (ct : Nat) (t : Nat) (hmeas82 : n + 1 - t < nn82) (ht : t ≤ n) (hgt : SB gt T) (hRT : RT (fun s => trk (p s) (m s)) ow S T t 0) (hct : ct = cntN T 144), J (WW cy b ba μ ν s1 s2 f gt E) 2 6 82 [(0, .ref (b 0)), (1, .ref (ba 2)), (2, .int (zI (n : Int))), (3, .int (zI sa)), (4, .int (zI go)), (5, .ref s1), (6, .ref s2), (7, .int (zI stp)), (8, .int (zI (ct : Int))), (9, .int (zI (cn : Int))), (10, .int (zI ((r : Int) + 1))), (11, .int (zI (t : Int)))] [] := by
            intro nn82
            induction nn82 with
            | zero => intro gt T ct t hmeas82 ht hgt hRT hct; omega
            | succ nn82 ih82 =>
              intro gt T ct t hmeas82 ht hgt hRT hct
              refine j_iload hJ (j := 11) rfl dL_isWalk_82 ?_
              refine j_iload_n hJ (j := 2) rfl rfl dL_isWalk_84 ?_
              refine j_icmp_ge hJ (tgt := 285) ⟨by omega, by omega⟩ ⟨by omega, by omega⟩ (by decide) dL_isWalk_85 ?_ ?_
              · intro h85
                have htn2 : t = n := by omega
                rw [htn2] at hRT
                have hRSn := hRS.next hRT hR
                have hcc : cn ≤ ct := by rw [hcn, hct]; exact (cntN_sub (fun x hx g => (hRT x hx).mpr (Or.inl g))).1
                have hct0 : cntN T 144 ≤ 144 := cntN_le _ _
                refine j_iconst hJ dL_isWalk_285 ?_
                refine j_istore hJ (lv' := [(11, .int (zI 0)), (0, .ref (b 0)), (1, .ref (ba 2)), (2, .int (zI (n : Int))), (3, .int (zI sa)), (4, .int (zI go)), (5, .ref s1), (6, .ref s2), (7, .int (zI stp)), (8, .int (zI (ct : Int))), (9, .int (zI (cn : Int))), (10, .int (zI ((r : Int) + 1)))]) (by decide) rfl dL_isWalk_286 ?_
                have lp288 : ∀ (nn288 : Nat) (fk : Nat → Int64) (k : Nat) (hmeas288 : 4 - k < nn288) (hk : k ≤ 3) (hfk : ∀ j, j < k → fk j = gt j), J (WW cy b ba μ ν s1 s2 fk gt E) 2 6 288 [(0, .ref (b 0)), (1, .ref (ba 2)), (2, .int (zI (n : Int))), (3, .int (zI sa)), (4, .int (zI go)), (5, .ref s1), (6, .ref s2), (7, .int (zI stp)), (8, .int (zI (ct : Int))), (9, .int (zI (cn : Int))), (10, .int (zI ((r : Int) + 1))), (11, .int (zI (k : Int)))] [] := by
                  intro nn288
                  induction nn288 with
                  | zero => intro fk k hmeas288 hk hfk; omega
                  | succ nn288 ih288 =>
                    intro fk k hmeas288 hk hfk
                    refine j_iload hJ (j := 11) rfl dL_isWalk_288 ?_
                    refine j_iconst hJ dL_isWalk_290 ?_
                    refine j_icmp_ge hJ (tgt := 310) ⟨by omega, by omega⟩ ⟨by omega, by omega⟩ (by decide) dL_isWalk_291 ?_ ?_
                    · intro h291
                      have hk3 : k = 3 := by omega
                      have hfk3 : SB fk T := hgt.copy (fun j hj => hfk j (by omega))
                      have hstr := hst.rng
                      have j332 : ∀ (stq : Int) (hstq : StI (EdS n (fun s => trk (p s) (m s)) ow) sa go stq (r + 1)), J (WW cy b ba μ ν s1 s2 fk gt E) 2 6 332 [(0, .ref (b 0)), (1, .ref (ba 2)), (2, .int (zI (n : Int))), (3, .int (zI sa)), (4, .int (zI go)), (5, .ref s1), (6, .ref s2), (8, .int (zI (ct : Int))), (9, .int (zI (cn : Int))), (10, .int (zI ((r : Int) + 1)))] [.int (zI stq)] := by
                        intro stq hstq
                        refine j_istore hJ (lv' := [(7, .int (zI stq)), (0, .ref (b 0)), (1, .ref (ba 2)), (2, .int (zI (n : Int))), (3, .int (zI sa)), (4, .int (zI go)), (5, .ref s1), (6, .ref s2), (8, .int (zI (ct : Int))), (9, .int (zI (cn : Int))), (10, .int (zI ((r : Int) + 1)))]) (by decide) rfl dL_isWalk_332 ?_
                        refine j_iinc hJ (lv' := [(10, .int (zI (((r : Int) + 1) + 1))), (7, .int (zI stq)), (0, .ref (b 0)), (1, .ref (ba 2)), (2, .int (zI (n : Int))), (3, .int (zI sa)), (4, .int (zI go)), (5, .ref s1), (6, .ref s2), (8, .int (zI (ct : Int))), (9, .int (zI (cn : Int)))]) (j := 10) rfl (by omega) (by decide) rfl dL_isWalk_334 ?_
                        refine j_goto hJ (tgt := 68) (by decide) dL_isWalk_337 ?_
                        refine j_locs hJ [2, 3, 4, 5, 6, 7, 8, 1, 9, 10, 0] rfl ?_
                        exact ih68 fk gt T stq ct cn (r + 1) (by omega) (by exact hfk3) (by exact hgt) (by exact hRSn) (by exact hct) (by exact hstq) (by omega) (by exact hcc) (by exact Or.inr ⟨S, by omega, by rw [Nat.add_sub_cancel]; exact hRS, hcn⟩)
                      refine j_iload hJ (j := 7) rfl dL_isWalk_310 ?_
                      refine j_if_ge hJ (tgt := 330) ⟨by omega, by omega⟩ (by decide) dL_isWalk_312 ?_ ?_
                      · intro h312
                        refine j_iload hJ (j := 7) rfl dL_isWalk_330 ?_
                        refine j_locs hJ [0, 1, 2, 3, 4, 5, 6, 8, 9, 10] rfl ?_
                        refine j332 stp ?_
                        · refine hst.step (fun g w => ?_) (fun g w => ?_) (fun g => ?_)
                          · first | omega | rfl | (have := hWg.mpr w; omega)
                          · first | omega | rfl | exact absurd (hWg.mp (by omega)) w
                          · first | omega | rfl
                      · intro h312
                        refine j_aload hJ (j := 5) rfl dL_isWalk_315 ?_
                        refine j_iload hJ (j := 4) rfl dL_isWalk_317 ?_
                        refine j_perm hJ perm_l1 ?_
                        refine j_callS0 hJ (c_L_has hfl hfk3 hgo) m_L_79 k_L_has ⟨(Nat.le_of_ble_eq_true rfl), (Nat.le_of_ble_eq_true rfl)⟩ ⟨(Nat.le_of_ble_eq_true rfl), (Nat.le_of_ble_eq_true rfl)⟩ (Nat.le_of_ble_eq_true rfl) dL_isWalk_319 rfl ?_
                        intro v13 u14 hv15
                        obtain ⟨q319, rfl, rfl, h319⟩ := hv15
                        refine j_perm hJ perm_l1.symm ?_
                        show J (WW cy b ba μ ν s1 s2 fk gt E) 2 6 322 [(0, .ref (b 0)), (1, .ref (ba 2)), (2, .int (zI (n : Int))), (3, .int (zI sa)), (4, .int (zI go)), (5, .ref s1), (6, .ref s2), (7, .int (zI stp)), (8, .int (zI (ct : Int))), (9, .int (zI (cn : Int))), (10, .int (zI ((r : Int) + 1))), (11, .int (zI (k : Int)))] [.int (zI q319)]
                        have hWg : q319 = 1 ↔ WLe (EdS n (fun s => trk (p s) (m s)) ow) (r + 1) sa go := by
                          have := hRSn go.toNat (by omega)
                          rw [Int.toNat_of_nonneg hgo.1] at this
                          rw [← this, h319]
                          cases T go.toNat <;> simp
                        have b319 : q319 = 0 ∨ q319 = 1 := by rw [h319]; split <;> omega
                        refine j_if_eq hJ (tgt := 330) ⟨by omega, by omega⟩ (by decide) dL_isWalk_322 ?_ ?_
                        · intro h322
                          refine j_iload hJ (j := 7) rfl dL_isWalk_330 ?_
                          refine j_locs hJ [0, 1, 2, 3, 4, 5, 6, 8, 9, 10] rfl ?_
                          refine j332 stp ?_
                          · refine hst.step (fun g w => ?_) (fun g w => ?_) (fun g => ?_)
                            · first | omega | rfl | (have := hWg.mpr w; omega)
                            · first | omega | rfl | exact absurd (hWg.mp (by omega)) w
                            · first | omega | rfl
                        · intro h322
                          refine j_iload hJ (j := 10) rfl dL_isWalk_325 ?_
                          refine j_goto hJ (tgt := 332) (by decide) dL_isWalk_327 ?_
                          refine j_locs hJ [0, 1, 2, 3, 4, 5, 6, 8, 9, 10] rfl ?_
                          refine j332 ((r : Int) + 1) ?_
                          · refine hst.step (fun g w => ?_) (fun g w => ?_) (fun g => ?_)
                            · first | omega | rfl | (have := hWg.mpr w; omega)
                            · first | omega | rfl | exact absurd (hWg.mp (by omega)) w
                            · first | omega | rfl
                    · intro h291
                      refine j_aload hJ (j := 5) rfl dL_isWalk_294 ?_
                      refine j_iload hJ (j := 11) rfl dL_isWalk_296 ?_
                      refine j_aload hJ (j := 6) rfl dL_isWalk_298 ?_
                      refine j_iload hJ (j := 11) rfl dL_isWalk_300 ?_
                      refine w_ll2 hJ (by omega) (by omega) dL_isWalk_302 ?_
                      refine w_ls1 hJ (by omega) (by omega) dL_isWalk_303 ?_
                      intro f6 hf6
                      refine j_iinc hJ (lv' := [(11, .int (zI ((k : Int) + 1))), (0, .ref (b 0)), (1, .ref (ba 2)), (2, .int (zI (n : Int))), (3, .int (zI sa)), (4, .int (zI go)), (5, .ref s1), (6, .ref s2), (7, .int (zI stp)), (8, .int (zI (ct : Int))), (9, .int (zI (cn : Int))), (10, .int (zI ((r : Int) + 1)))]) (j := 11) rfl (by omega) (by decide) rfl dL_isWalk_304 ?_
                      refine j_goto hJ (tgt := 288) (by decide) dL_isWalk_307 ?_
                      refine j_locs hJ [1, 2, 3, 4, 5, 6, 7, 8, 9, 10, 11, 0] rfl ?_
                      refine ih288 f6 (k + 1) (by omega) (by omega) ?_
                      · intro j hj
                        rw [hf6]
                        by_cases e : j = k
                        · rw [e, show ((k : Int)).toNat = k from rfl, pk_uLs]
                        · rw [show ((k : Int)).toNat = k from rfl, pk_uLn e]; exact hfk j (by omega)
                refine j_locs hJ [1, 2, 3, 4, 5, 6, 7, 8, 9, 10, 11, 0] rfl ?_
                exact lp288 (4 - 0 + 1) f 0 (by omega) (by omega) (by intro j hj; omega)
              · intro h85
                have htn : t < n := by omega
                have hPt := (hP t htn).1
                have hlt := (trk_len hPt.2.2.2).1
                have hm5 := hPt.2.1
                have htr := trk_rng hPt.2.2.2
                have hct0 : cntN T 144 ≤ 144 := cntN_le _ _
                refine j_iconst hJ dL_isWalk_88 ?_
                refine j_istore hJ (lv' := [(12, .int (zI 0)), (0, .ref (b 0)), (1, .ref (ba 2)), (2, .int (zI (n : Int))), (3, .int (zI sa)), (4, .int (zI go)), (5, .ref s1), (6, .ref s2), (7, .int (zI stp)), (8, .int (zI (ct : Int))), (9, .int (zI (cn : Int))), (10, .int (zI ((r : Int) + 1))), (11, .int (zI (t : Int)))]) (by decide) rfl dL_isWalk_89 ?_
                have lp91 : ∀ (nn91 : Nat) (gk : Nat → Int64) (T : Nat → Bool) (ct : Nat) (k : Nat) (hmeas91 : (trk (p t) (m t)).length + 1 - k < nn91) (hk : k ≤ (trk (p t) (m t)).length) (hgk : SB gk T) (hRTk : RT (fun s => trk (p s) (m s)) ow S T t k) (hck : ct = cntN T 144), J (WW cy b ba μ ν s1 s2 f gk E) 2 6 91 [(0, .ref (b 0)), (1, .ref (ba 2)), (2, .int (zI (n : Int))), (3, .int (zI sa)), (4, .int (zI go)), (5, .ref s1), (6, .ref s2), (7, .int (zI stp)), (8, .int (zI (ct : Int))), (9, .int (zI (cn : Int))), (10, .int (zI ((r : Int) + 1))), (11, .int (zI (t : Int))), (12, .int (zI (k : Int)))] [] := by
                  intro nn91
                  induction nn91 with
                  | zero => intro gk T ct k hmeas91 hk hgk hRTk hck; omega
                  | succ nn91 ih91 =>
                    intro gk T ct k hmeas91 hk hgk hRTk hck
                    refine j_aload_n hJ (j := 1) rfl rfl dL_isWalk_91 ?_
                    refine j_iload hJ (j := 11) rfl dL_isWalk_92 ?_
                    refine j_iload hJ (j := 12) rfl dL_isWalk_94 ?_
                    refine j_iconst hJ dL_isWalk_96 ?_
                    refine j_iadd hJ dL_isWalk_97 ?_
                    show J (gw 105 XSh cy b μ ++ (gw 3 ASh cy ba ν ++ (lcell cy s1 f :: lcell cy s2 gk :: E))) 2 6 98 [(0, .ref (b 0)), (1, .ref (ba 2)), (2, .int (zI (n : Int))), (3, .int (zI sa)), (4, .int (zI go)), (5, .ref s1), (6, .ref s2), (7, .int (zI stp)), (8, .int (zI (ct : Int))), (9, .int (zI (cn : Int))), (10, .int (zI ((r : Int) + 1))), (11, .int (zI (t : Int))), (12, .int (zI (k : Int)))] [.int (zI ((k : Int) + 1)), .int (zI (t : Int)), .ref (ba 2)]
                    refine j_perm hJ (perm3 _ _ _) ?_
                    show J (gw 3 ASh cy ba ν ++ (gw 105 XSh cy b μ ++ (lcell cy s1 f :: lcell cy s2 gk :: E))) 2 6 98 [(0, .ref (b 0)), (1, .ref (ba 2)), (2, .int (zI (n : Int))), (3, .int (zI sa)), (4, .int (zI go)), (5, .ref s1), (6, .ref s2), (7, .int (zI stp)), (8, .int (zI (ct : Int))), (9, .int (zI (cn : Int))), (10, .int (zI ((r : Int) + 1))), (11, .int (zI (t : Int))), (12, .int (zI (k : Int)))] [.int (zI ((k : Int) + 1)), .int (zI (t : Int)), .ref (ba 2)]
                    refine j_callS0 hJ (c_L_square hfl (by omega) hPt (st := k + 1) (by omega)) m_L_23 k_L_square ⟨(Nat.le_of_ble_eq_true rfl), (Nat.le_of_ble_eq_true rfl)⟩ ⟨(Nat.le_of_ble_eq_true rfl), (Nat.le_of_ble_eq_true rfl)⟩ (Nat.le_of_ble_eq_true rfl) dL_isWalk_98 rfl ?_
                    intro v16 u17 hv18
                    obtain ⟨_, rfl, rfl, rfl⟩ := hv18
                    show J (gw 3 ASh cy ba ν ++ (gw 105 XSh cy b μ ++ (lcell cy s1 f :: lcell cy s2 gk :: E))) 2 6 101 [(0, .ref (b 0)), (1, .ref (ba 2)), (2, .int (zI (n : Int))), (3, .int (zI sa)), (4, .int (zI go)), (5, .ref s1), (6, .ref s2), (7, .int (zI stp)), (8, .int (zI (ct : Int))), (9, .int (zI (cn : Int))), (10, .int (zI ((r : Int) + 1))), (11, .int (zI (t : Int))), (12, .int (zI (k : Int)))] [.int (zI (sqA (trk (p t) (m t)) (k + 1)))]
                    refine j_perm hJ (perm3 _ _ _) ?_
                    show J (gw 105 XSh cy b μ ++ (gw 3 ASh cy ba ν ++ (lcell cy s1 f :: lcell cy s2 gk :: E))) 2 6 101 [(0, .ref (b 0)), (1, .ref (ba 2)), (2, .int (zI (n : Int))), (3, .int (zI sa)), (4, .int (zI go)), (5, .ref s1), (6, .ref s2), (7, .int (zI stp)), (8, .int (zI (ct : Int))), (9, .int (zI (cn : Int))), (10, .int (zI ((r : Int) + 1))), (11, .int (zI (t : Int))), (12, .int (zI (k : Int)))] [.int (zI (sqA (trk (p t) (m t)) (k + 1)))]
                    show J (WW cy b ba μ ν s1 s2 f gk E) 2 6 101 [(0, .ref (b 0)), (1, .ref (ba 2)), (2, .int (zI (n : Int))), (3, .int (zI sa)), (4, .int (zI go)), (5, .ref s1), (6, .ref s2), (7, .int (zI stp)), (8, .int (zI (ct : Int))), (9, .int (zI (cn : Int))), (10, .int (zI ((r : Int) + 1))), (11, .int (zI (t : Int))), (12, .int (zI (k : Int)))] [.int (zI (sqA (trk (p t) (m t)) (k + 1)))]
                    have hs1 := sqA_rng htr (k + 1)
                    have hs0 := sqA_rng htr k
                    have hct1 : cntN T 144 ≤ 144 := cntN_le _ _
                    refine j_if_lt hJ (tgt := 279) ⟨by omega, by omega⟩ (by decide) dL_isWalk_101 ?_ ?_
                    · intro h101
                      have hlen : (trk (p t) (m t)).length ≤ k + 1 := by omega
                      refine j_iinc hJ (lv' := [(11, .int (zI ((t : Int) + 1))), (0, .ref (b 0)), (1, .ref (ba 2)), (2, .int (zI (n : Int))), (3, .int (zI sa)), (4, .int (zI go)), (5, .ref s1), (6, .ref s2), (7, .int (zI stp)), (8, .int (zI (ct : Int))), (9, .int (zI (cn : Int))), (10, .int (zI ((r : Int) + 1))), (12, .int (zI (k : Int)))]) (j := 11) rfl (by omega) (by decide) rfl dL_isWalk_279 ?_
                      refine j_goto hJ (tgt := 82) (by decide) dL_isWalk_282 ?_
                      refine j_locs hJ [1, 2, 3, 4, 5, 6, 7, 8, 9, 10, 11, 0] rfl ?_
                      exact ih82 gk T ct (t + 1) (by omega) (by omega) (by exact hgk) (by exact hRTk.next hlen) (by exact hck)
                    · intro h101
                      have hk2 : k + 1 < (trk (p t) (m t)).length := by omega
                      obtain ⟨on, hon⟩ : ∃ on, on = sqA (trk (p t) (m t)) k := ⟨_, rfl⟩
                      obtain ⟨ot, hot⟩ : ∃ ot, ot = sqA (trk (p t) (m t)) (k + 1) := ⟨_, rfl⟩
                      rw [← hon] at hs0
                      rw [← hot] at hs1
                      have ron : 0 ≤ on ∧ on < 144 := by omega
                      have rot : 0 ≤ ot ∧ ot < 144 := by omega
                      have eon : (trk (p t) (m t))[k]? = some on := by rw [hon]; exact sqA_get (by omega)
                      have eot : (trk (p t) (m t))[k + 1]? = some ot := by rw [hot]; exact sqA_get (by omega)
                      obtain ⟨c1, hc1⟩ : ∃ c1, c1 = (S on.toNat && !T ot.toNat) := ⟨_, rfl⟩
                      obtain ⟨T1, hT1⟩ : ∃ T1 : Nat → Bool, T1 = fun y => T y || (c1 && y == ot.toNat) := ⟨_, rfl⟩
                      obtain ⟨c2, hc2⟩ : ∃ c2, c2 = (decide (ow t = 0) && S ot.toNat && !T1 on.toNat) := ⟨_, rfl⟩
                      refine j_aload_n hJ (j := 1) rfl rfl dL_isWalk_104 ?_
                      refine j_iload hJ (j := 11) rfl dL_isWalk_105 ?_
                      refine j_iload hJ (j := 12) rfl dL_isWalk_107 ?_
                      show J (gw 105 XSh cy b μ ++ (gw 3 ASh cy ba ν ++ (lcell cy s1 f :: lcell cy s2 gk :: E))) 2 6 109 [(0, .ref (b 0)), (1, .ref (ba 2)), (2, .int (zI (n : Int))), (3, .int (zI sa)), (4, .int (zI go)), (5, .ref s1), (6, .ref s2), (7, .int (zI stp)), (8, .int (zI (ct : Int))), (9, .int (zI (cn : Int))), (10, .int (zI ((r : Int) + 1))), (11, .int (zI (t : Int))), (12, .int (zI (k : Int)))] [.int (zI (k : Int)), .int (zI (t : Int)), .ref (ba 2)]
                      refine j_perm hJ (perm3 _ _ _) ?_
                      show J (gw 3 ASh cy ba ν ++ (gw 105 XSh cy b μ ++ (lcell cy s1 f :: lcell cy s2 gk :: E))) 2 6 109 [(0, .ref (b 0)), (1, .ref (ba 2)), (2, .int (zI (n : Int))), (3, .int (zI sa)), (4, .int (zI go)), (5, .ref s1), (6, .ref s2), (7, .int (zI stp)), (8, .int (zI (ct : Int))), (9, .int (zI (cn : Int))), (10, .int (zI ((r : Int) + 1))), (11, .int (zI (t : Int))), (12, .int (zI (k : Int)))] [.int (zI (k : Int)), .int (zI (t : Int)), .ref (ba 2)]
                      refine j_callS0 hJ (c_L_square hfl (by omega) hPt (st := k) (by omega)) m_L_23 k_L_square ⟨(Nat.le_of_ble_eq_true rfl), (Nat.le_of_ble_eq_true rfl)⟩ ⟨(Nat.le_of_ble_eq_true rfl), (Nat.le_of_ble_eq_true rfl)⟩ (Nat.le_of_ble_eq_true rfl) dL_isWalk_109 rfl ?_
                      intro v19 u20 hv21
                      obtain ⟨q109, rfl, rfl, h109⟩ := hv21
                      show J (gw 3 ASh cy ba ν ++ (gw 105 XSh cy b μ ++ (lcell cy s1 f :: lcell cy s2 gk :: E))) 2 6 112 [(0, .ref (b 0)), (1, .ref (ba 2)), (2, .int (zI (n : Int))), (3, .int (zI sa)), (4, .int (zI go)), (5, .ref s1), (6, .ref s2), (7, .int (zI stp)), (8, .int (zI (ct : Int))), (9, .int (zI (cn : Int))), (10, .int (zI ((r : Int) + 1))), (11, .int (zI (t : Int))), (12, .int (zI (k : Int)))] [.int (zI q109)]
                      refine j_perm hJ (perm3 _ _ _) ?_
                      show J (gw 105 XSh cy b μ ++ (gw 3 ASh cy ba ν ++ (lcell cy s1 f :: lcell cy s2 gk :: E))) 2 6 112 [(0, .ref (b 0)), (1, .ref (ba 2)), (2, .int (zI (n : Int))), (3, .int (zI sa)), (4, .int (zI go)), (5, .ref s1), (6, .ref s2), (7, .int (zI stp)), (8, .int (zI (ct : Int))), (9, .int (zI (cn : Int))), (10, .int (zI ((r : Int) + 1))), (11, .int (zI (t : Int))), (12, .int (zI (k : Int)))] [.int (zI q109)]
                      show J (WW cy b ba μ ν s1 s2 f gk E) 2 6 112 [(0, .ref (b 0)), (1, .ref (ba 2)), (2, .int (zI (n : Int))), (3, .int (zI sa)), (4, .int (zI go)), (5, .ref s1), (6, .ref s2), (7, .int (zI stp)), (8, .int (zI (ct : Int))), (9, .int (zI (cn : Int))), (10, .int (zI ((r : Int) + 1))), (11, .int (zI (t : Int))), (12, .int (zI (k : Int)))] [.int (zI q109)]
                      refine j_topi (y := zI on) (by rw [h109, hon]) ?_
                      refine j_istore hJ (lv' := [(13, .int (zI on)), (0, .ref (b 0)), (1, .ref (ba 2)), (2, .int (zI (n : Int))), (3, .int (zI sa)), (4, .int (zI go)), (5, .ref s1), (6, .ref s2), (7, .int (zI stp)), (8, .int (zI (ct : Int))), (9, .int (zI (cn : Int))), (10, .int (zI ((r : Int) + 1))), (11, .int (zI (t : Int))), (12, .int (zI (k : Int)))]) (by decide) rfl dL_isWalk_112 ?_
                      refine j_aload_n hJ (j := 2) rfl rfl dL_isWalk_114 ?_
                      refine j_iload hJ (j := 12) rfl dL_isWalk_115 ?_
                      refine j_iload hJ (j := 13) rfl dL_isWalk_117 ?_
                      refine j_iconst hJ dL_isWalk_119 ?_
                      refine j_iadd hJ dL_isWalk_120 ?_
                      show J (gw 105 XSh cy b μ ++ (gw 3 ASh cy ba ν ++ (lcell cy s1 f :: lcell cy s2 gk :: E))) 2 6 121 [(13, .int (zI on)), (0, .ref (b 0)), (1, .ref (ba 2)), (2, .int (zI (n : Int))), (3, .int (zI sa)), (4, .int (zI go)), (5, .ref s1), (6, .ref s2), (7, .int (zI stp)), (8, .int (zI (ct : Int))), (9, .int (zI (cn : Int))), (10, .int (zI ((r : Int) + 1))), (11, .int (zI (t : Int))), (12, .int (zI (k : Int)))] [.int (zI ((k : Int) + 1)), .int (zI (t : Int)), .ref (ba 2)]
                      refine j_perm hJ (perm3 _ _ _) ?_
                      show J (gw 3 ASh cy ba ν ++ (gw 105 XSh cy b μ ++ (lcell cy s1 f :: lcell cy s2 gk :: E))) 2 6 121 [(13, .int (zI on)), (0, .ref (b 0)), (1, .ref (ba 2)), (2, .int (zI (n : Int))), (3, .int (zI sa)), (4, .int (zI go)), (5, .ref s1), (6, .ref s2), (7, .int (zI stp)), (8, .int (zI (ct : Int))), (9, .int (zI (cn : Int))), (10, .int (zI ((r : Int) + 1))), (11, .int (zI (t : Int))), (12, .int (zI (k : Int)))] [.int (zI ((k : Int) + 1)), .int (zI (t : Int)), .ref (ba 2)]
                      refine j_callS0 hJ (c_L_square hfl (by omega) hPt (st := k + 1) (by omega)) m_L_23 k_L_square ⟨(Nat.le_of_ble_eq_true rfl), (Nat.le_of_ble_eq_true rfl)⟩ ⟨(Nat.le_of_ble_eq_true rfl), (Nat.le_of_ble_eq_true rfl)⟩ (Nat.le_of_ble_eq_true rfl) dL_isWalk_121 rfl ?_
                      intro v22 u23 hv24
                      obtain ⟨q121, rfl, rfl, h121⟩ := hv24
                      show J (gw 3 ASh cy ba ν ++ (gw 105 XSh cy b μ ++ (lcell cy s1 f :: lcell cy s2 gk :: E))) 2 6 124 [(13, .int (zI on)), (0, .ref (b 0)), (1, .ref (ba 2)), (2, .int (zI (n : Int))), (3, .int (zI sa)), (4, .int (zI go)), (5, .ref s1), (6, .ref s2), (7, .int (zI stp)), (8, .int (zI (ct : Int))), (9, .int (zI (cn : Int))), (10, .int (zI ((r : Int) + 1))), (11, .int (zI (t : Int))), (12, .int (zI (k : Int)))] [.int (zI q121)]
                      refine j_perm hJ (perm3 _ _ _) ?_
                      show J (gw 105 XSh cy b μ ++ (gw 3 ASh cy ba ν ++ (lcell cy s1 f :: lcell cy s2 gk :: E))) 2 6 124 [(13, .int (zI on)), (0, .ref (b 0)), (1, .ref (ba 2)), (2, .int (zI (n : Int))), (3, .int (zI sa)), (4, .int (zI go)), (5, .ref s1), (6, .ref s2), (7, .int (zI stp)), (8, .int (zI (ct : Int))), (9, .int (zI (cn : Int))), (10, .int (zI ((r : Int) + 1))), (11, .int (zI (t : Int))), (12, .int (zI (k : Int)))] [.int (zI q121)]
                      show J (WW cy b ba μ ν s1 s2 f gk E) 2 6 124 [(13, .int (zI on)), (0, .ref (b 0)), (1, .ref (ba 2)), (2, .int (zI (n : Int))), (3, .int (zI sa)), (4, .int (zI go)), (5, .ref s1), (6, .ref s2), (7, .int (zI stp)), (8, .int (zI (ct : Int))), (9, .int (zI (cn : Int))), (10, .int (zI ((r : Int) + 1))), (11, .int (zI (t : Int))), (12, .int (zI (k : Int)))] [.int (zI q121)]
                      refine j_topi (y := zI ot) (by rw [h121, hot]) ?_
                      refine j_istore hJ (lv' := [(14, .int (zI ot)), (13, .int (zI on)), (0, .ref (b 0)), (1, .ref (ba 2)), (2, .int (zI (n : Int))), (3, .int (zI sa)), (4, .int (zI go)), (5, .ref s1), (6, .ref s2), (7, .int (zI stp)), (8, .int (zI (ct : Int))), (9, .int (zI (cn : Int))), (10, .int (zI ((r : Int) + 1))), (11, .int (zI (t : Int))), (12, .int (zI (k : Int)))]) (by decide) rfl dL_isWalk_124 ?_
                      have j151 : ∀ (z : Int) (hz : z = if c1 = true then 1 else 0), J (WW cy b ba μ ν s1 s2 f gk E) 2 6 151 [(0, .ref (b 0)), (1, .ref (ba 2)), (2, .int (zI (n : Int))), (3, .int (zI sa)), (4, .int (zI go)), (5, .ref s1), (6, .ref s2), (7, .int (zI stp)), (8, .int (zI (ct : Int))), (9, .int (zI (cn : Int))), (10, .int (zI ((r : Int) + 1))), (11, .int (zI (t : Int))), (12, .int (zI (k : Int))), (13, .int (zI on)), (14, .int (zI ot))] [.int (zI z)] := by
                        intro z hz
                        have hz01 : z = 0 ∨ z = 1 := by rw [hz]; split <;> omega
                        have hz1 : z = 1 → c1 = true := fun g => by
                          cases e : c1
                          · rw [hz, e] at g; exact absurd g (by decide)
                          · rfl
                        have hz0 : z = 0 → c1 = false := fun g => by
                          cases e : c1
                          · rfl
                          · rw [hz, e] at g; exact absurd g (by decide)
                        refine j_istore hJ (lv' := [(15, .int (zI z)), (0, .ref (b 0)), (1, .ref (ba 2)), (2, .int (zI (n : Int))), (3, .int (zI sa)), (4, .int (zI go)), (5, .ref s1), (6, .ref s2), (7, .int (zI stp)), (8, .int (zI (ct : Int))), (9, .int (zI (cn : Int))), (10, .int (zI ((r : Int) + 1))), (11, .int (zI (t : Int))), (12, .int (zI (k : Int))), (13, .int (zI on)), (14, .int (zI ot))]) (by decide) rfl dL_isWalk_151 ?_
                        refine j_aload hJ (j := 7) rfl dL_isWalk_153 ?_
                        refine j_iload hJ (j := 15) rfl dL_isWalk_155 ?_
                        refine j_bipush hJ (v := 48) (by decide) dL_isWalk_157 ?_
                        refine j_idiv hJ (by omega) (by omega) (by omega) (by omega) dL_isWalk_159 ?_
                        refine j_dup2 hJ rfl rfl dL_isWalk_160 ?_
                        refine w_ll2 hJ (by omega) (by omega) dL_isWalk_161 ?_
                        have j178 : ∀ (mv : Int64) (hmv : mv = msk c1 ot), J (WW cy b ba μ ν s1 s2 f gk E) 2 6 178 [(0, .ref (b 0)), (1, .ref (ba 2)), (2, .int (zI (n : Int))), (3, .int (zI sa)), (4, .int (zI go)), (5, .ref s1), (6, .ref s2), (7, .int (zI stp)), (8, .int (zI (ct : Int))), (9, .int (zI (cn : Int))), (10, .int (zI ((r : Int) + 1))), (11, .int (zI (t : Int))), (12, .int (zI (k : Int))), (13, .int (zI on)), (14, .int (zI ot)), (15, .int (zI z))] [.long mv, .long (gk (ot / 48).toNat), .int (zI (ot / 48)), .ref s2] := by
                          intro mv hmv
                          refine j_lor hJ (v := (gk (ot / 48).toNat) ||| mv) (rfl) dL_isWalk_178 ?_
                          refine w_ls2 hJ (by omega) (by omega) dL_isWalk_179 ?_
                          intro g1 hg1
                          have hG1 := hgk.ins rot.1 rot.2 c1
                          rw [← hmv, ← hg1, ← hT1] at hG1
                          have j218 : ∀ (z2 : Int) (hz2 : z2 = if c2 = true then 1 else 0), J (WW cy b ba μ ν s1 s2 f g1 E) 2 6 218 [(0, .ref (b 0)), (1, .ref (ba 2)), (2, .int (zI (n : Int))), (3, .int (zI sa)), (4, .int (zI go)), (5, .ref s1), (6, .ref s2), (7, .int (zI stp)), (8, .int (zI (ct : Int))), (9, .int (zI (cn : Int))), (10, .int (zI ((r : Int) + 1))), (11, .int (zI (t : Int))), (12, .int (zI (k : Int))), (13, .int (zI on)), (14, .int (zI ot)), (15, .int (zI z))] [.int (zI z2)] := by
                            intro z2 hz2
                            have hz201 : z2 = 0 ∨ z2 = 1 := by rw [hz2]; split <;> omega
                            have hz21 : z2 = 1 → c2 = true := fun g => by
                              cases e : c2
                              · rw [hz2, e] at g; exact absurd g (by decide)
                              · rfl
                            have hz20 : z2 = 0 → c2 = false := fun g => by
                              cases e : c2
                              · rfl
                              · rw [hz2, e] at g; exact absurd g (by decide)
                            refine j_istore hJ (lv' := [(16, .int (zI z2)), (0, .ref (b 0)), (1, .ref (ba 2)), (2, .int (zI (n : Int))), (3, .int (zI sa)), (4, .int (zI go)), (5, .ref s1), (6, .ref s2), (7, .int (zI stp)), (8, .int (zI (ct : Int))), (9, .int (zI (cn : Int))), (10, .int (zI ((r : Int) + 1))), (11, .int (zI (t : Int))), (12, .int (zI (k : Int))), (13, .int (zI on)), (14, .int (zI ot)), (15, .int (zI z))]) (by decide) rfl dL_isWalk_218 ?_
                            refine j_aload hJ (j := 7) rfl dL_isWalk_220 ?_
                            refine j_iload hJ (j := 14) rfl dL_isWalk_222 ?_
                            refine j_bipush hJ (v := 48) (by decide) dL_isWalk_224 ?_
                            refine j_idiv hJ (by omega) (by omega) (by omega) (by omega) dL_isWalk_226 ?_
                            refine j_dup2 hJ rfl rfl dL_isWalk_227 ?_
                            refine w_ll2 hJ (by omega) (by omega) dL_isWalk_228 ?_
                            have j245 : ∀ (mv2 : Int64) (hmv2 : mv2 = msk c2 on), J (WW cy b ba μ ν s1 s2 f g1 E) 2 6 245 [(0, .ref (b 0)), (1, .ref (ba 2)), (2, .int (zI (n : Int))), (3, .int (zI sa)), (4, .int (zI go)), (5, .ref s1), (6, .ref s2), (7, .int (zI stp)), (8, .int (zI (ct : Int))), (9, .int (zI (cn : Int))), (10, .int (zI ((r : Int) + 1))), (11, .int (zI (t : Int))), (12, .int (zI (k : Int))), (13, .int (zI on)), (14, .int (zI ot)), (15, .int (zI z)), (16, .int (zI z2))] [.long mv2, .long (g1 (on / 48).toNat), .int (zI (on / 48)), .ref s2] := by
                              intro mv2 hmv2
                              refine j_lor hJ (v := (g1 (on / 48).toNat) ||| mv2) (rfl) dL_isWalk_245 ?_
                              refine w_ls2 hJ (by omega) (by omega) dL_isWalk_246 ?_
                              intro g2 hg2
                              have hG2 := hG1.ins ron.1 ron.2 c2
                              rw [← hmv2, ← hg2] at hG2
                              have hRT2 : RT (fun s => trk (p s) (m s)) ow S (fun y => T1 y || (c2 && y == on.toNat)) t (k + 1) := hRTk.step eon eot ron rot (edge_T hT1 hc1 hc2)
                              have hct2 : ct + (if c1 = true then 1 else 0) + (if c2 = true then 1 else 0) = cntN (fun y => T1 y || (c2 && y == on.toNat)) 144 := by
                                rw [cntN_ins (T := T1) (fun g => by rw [hc2] at g; simp only [Bool.and_eq_true, Bool.not_eq_true'] at g; exact g.2) 144, hT1, cntN_ins (T := T) (fun g => by rw [hc1] at g; simp only [Bool.and_eq_true, Bool.not_eq_true'] at g; exact g.2) 144, hck]
                                have r1 : ot.toNat < 144 := by omega
                                have r2 : on.toNat < 144 := by omega
                                simp only [r1, r2, and_true]
                              have j259 : ∀ (y1 : Int) (hy1 : y1 = z), J (WW cy b ba μ ν s1 s2 f g2 E) 2 6 259 [(0, .ref (b 0)), (1, .ref (ba 2)), (2, .int (zI (n : Int))), (3, .int (zI sa)), (4, .int (zI go)), (5, .ref s1), (6, .ref s2), (7, .int (zI stp)), (8, .int (zI (ct : Int))), (9, .int (zI (cn : Int))), (10, .int (zI ((r : Int) + 1))), (11, .int (zI (t : Int))), (12, .int (zI (k : Int))), (13, .int (zI on)), (14, .int (zI ot)), (15, .int (zI z)), (16, .int (zI z2))] [.int (zI y1), .int (zI (ct : Int))] := by
                                intro y1 hy1
                                refine j_iload hJ (j := 16) rfl dL_isWalk_259 ?_
                                have j269 : ∀ (y2 : Int) (hy2 : y2 = z2), J (WW cy b ba μ ν s1 s2 f g2 E) 2 6 269 [(0, .ref (b 0)), (1, .ref (ba 2)), (2, .int (zI (n : Int))), (3, .int (zI sa)), (4, .int (zI go)), (5, .ref s1), (6, .ref s2), (7, .int (zI stp)), (8, .int (zI (ct : Int))), (9, .int (zI (cn : Int))), (10, .int (zI ((r : Int) + 1))), (11, .int (zI (t : Int))), (12, .int (zI (k : Int))), (13, .int (zI on)), (14, .int (zI ot)), (15, .int (zI z)), (16, .int (zI z2))] [.int (zI y2), .int (zI y1), .int (zI (ct : Int))] := by
                                  intro y2 hy2
                                  have hcz9 : (ct : Int) + (y1 + y2) = ((ct + (if c1 = true then 1 else 0) + (if c2 = true then 1 else 0) : Nat) : Int) := by
                                    rw [hy1, hy2, hz, hz2]
                                    clear hc1 hc2 hT1
                                    cases c1 <;> cases c2 <;> simp <;> omega
                                  refine j_iadd hJ dL_isWalk_269 ?_
                                  refine j_iadd hJ dL_isWalk_270 ?_
                                  refine j_topi (y := zI ((ct + (if c1 = true then 1 else 0) + (if c2 = true then 1 else 0) : Nat) : Int)) (by rw [hcz9]) ?_
                                  refine j_istore hJ (lv' := [(8, .int (zI ((ct + (if c1 = true then 1 else 0) + (if c2 = true then 1 else 0) : Nat) : Int))), (0, .ref (b 0)), (1, .ref (ba 2)), (2, .int (zI (n : Int))), (3, .int (zI sa)), (4, .int (zI go)), (5, .ref s1), (6, .ref s2), (7, .int (zI stp)), (9, .int (zI (cn : Int))), (10, .int (zI ((r : Int) + 1))), (11, .int (zI (t : Int))), (12, .int (zI (k : Int))), (13, .int (zI on)), (14, .int (zI ot)), (15, .int (zI z)), (16, .int (zI z2))]) (by decide) rfl dL_isWalk_271 ?_
                                  refine j_iinc hJ (lv' := [(12, .int (zI ((k : Int) + 1))), (8, .int (zI ((ct + (if c1 = true then 1 else 0) + (if c2 = true then 1 else 0) : Nat) : Int))), (0, .ref (b 0)), (1, .ref (ba 2)), (2, .int (zI (n : Int))), (3, .int (zI sa)), (4, .int (zI go)), (5, .ref s1), (6, .ref s2), (7, .int (zI stp)), (9, .int (zI (cn : Int))), (10, .int (zI ((r : Int) + 1))), (11, .int (zI (t : Int))), (13, .int (zI on)), (14, .int (zI ot)), (15, .int (zI z)), (16, .int (zI z2))]) (j := 12) rfl (by omega) (by decide) rfl dL_isWalk_273 ?_
                                  refine j_goto hJ (tgt := 91) (by decide) dL_isWalk_276 ?_
                                  refine j_locs hJ [2, 3, 4, 5, 6, 7, 8, 9, 1, 10, 11, 12, 0] rfl ?_
                                  exact ih91 g2 (fun y => T1 y || (c2 && y == on.toNat)) (ct + (if c1 = true then 1 else 0) + (if c2 = true then 1 else 0)) (k + 1) (by omega) (by omega) (by exact hG2) (by exact hRT2) (by exact hct2)
                                refine j_if_eq hJ (tgt := 268) ⟨by omega, by omega⟩ (by decide) dL_isWalk_261 ?_ ?_
                                · intro h261
                                  refine j_iconst hJ dL_isWalk_268 ?_
                                  exact j269 0 (by omega)
                                · intro h261
                                  refine j_iconst hJ dL_isWalk_264 ?_
                                  refine j_goto hJ (tgt := 269) (by decide) dL_isWalk_265 ?_
                                  exact j269 1 (by omega)
                              refine j_iload hJ (j := 8) rfl dL_isWalk_247 ?_
                              refine j_iload hJ (j := 15) rfl dL_isWalk_249 ?_
                              refine j_if_eq hJ (tgt := 258) ⟨by omega, by omega⟩ (by decide) dL_isWalk_251 ?_ ?_
                              · intro h251
                                refine j_iconst hJ dL_isWalk_258 ?_
                                exact j259 0 (by omega)
                              · intro h251
                                refine j_iconst hJ dL_isWalk_254 ?_
                                refine j_goto hJ (tgt := 259) (by decide) dL_isWalk_255 ?_
                                exact j259 1 (by omega)
                            refine j_iload hJ (j := 0) rfl dL_isWalk_229 ?_
                            refine j_if_eq hJ (tgt := 244) ⟨by omega, by omega⟩ (by decide) dL_isWalk_231 ?_ ?_
                            · intro h231
                              refine j_lconst (v := (0 : Int64)) hJ rfl dL_isWalk_244 ?_
                              refine j_locs hJ [1, 2, 3, 4, 5, 6, 7, 8, 9, 10, 11, 12, 13, 14, 15, 16, 0] rfl ?_
                              exact j245 _ (by first | (rw [hz20 (by omega)]; rfl) | (rw [hz21 (by omega)]))
                            · intro h231
                              refine j_lconst (v := (1 : Int64)) hJ rfl dL_isWalk_234 ?_
                              refine j_iload hJ (j := 14) rfl dL_isWalk_235 ?_
                              refine j_bipush hJ (v := 48) (by decide) dL_isWalk_237 ?_
                              refine j_irem hJ (by omega) (by omega) (by omega) (by omega) dL_isWalk_239 ?_
                              refine j_lshl hJ (v := msk true on) (rfl) dL_isWalk_240 ?_
                              refine j_goto hJ (tgt := 245) (by decide) dL_isWalk_241 ?_
                              refine j_locs hJ [1, 2, 3, 4, 5, 6, 7, 8, 9, 10, 11, 12, 13, 14, 15, 16, 0] rfl ?_
                              exact j245 _ (by first | (rw [hz20 (by omega)]; rfl) | (rw [hz21 (by omega)]))
                          refine j_aload_n hJ (j := 1) rfl rfl dL_isWalk_180 ?_
                          refine j_bipush hJ (v := 7) (by decide) dL_isWalk_181 ?_
                          refine j_iload hJ (j := 11) rfl dL_isWalk_183 ?_
                          refine j_imul hJ dL_isWalk_185 ?_
                          refine j_bipush hJ (v := 6) (by decide) dL_isWalk_186 ?_
                          refine j_iadd hJ dL_isWalk_188 ?_
                          show J (gw 105 XSh cy b μ ++ (gw 3 ASh cy ba ν ++ (lcell cy s1 f :: lcell cy s2 g1 :: E))) 2 6 189 [(0, .ref (b 0)), (1, .ref (ba 2)), (2, .int (zI (n : Int))), (3, .int (zI sa)), (4, .int (zI go)), (5, .ref s1), (6, .ref s2), (7, .int (zI stp)), (8, .int (zI (ct : Int))), (9, .int (zI (cn : Int))), (10, .int (zI ((r : Int) + 1))), (11, .int (zI (t : Int))), (12, .int (zI (k : Int))), (13, .int (zI on)), (14, .int (zI ot)), (15, .int (zI z))] [.int (zI ((7 * (t : Int)) + 6)), .ref (ba 2)]
                          refine w2_iald hJ (by decide) rfl (by decide) (by omega) (by omega) dL_isWalk_189 ?_
                          show J (WW cy b ba μ ν s1 s2 f g1 E) 2 6 190 [(0, .ref (b 0)), (1, .ref (ba 2)), (2, .int (zI (n : Int))), (3, .int (zI sa)), (4, .int (zI go)), (5, .ref s1), (6, .ref s2), (7, .int (zI stp)), (8, .int (zI (ct : Int))), (9, .int (zI (cn : Int))), (10, .int (zI ((r : Int) + 1))), (11, .int (zI (t : Int))), (12, .int (zI (k : Int))), (13, .int (zI on)), (14, .int (zI ot)), (15, .int (zI z))] [.int (zI (ν 2 ((7 * (t : Int)) + 6)))]
                          have how := x5 t (by omega)
                          refine j_topi (y := zI (ow t)) (by rw [(hP t htn).2]) ?_
                          refine j_if_ne hJ (tgt := 217) ⟨by omega, by omega⟩ (by decide) dL_isWalk_190 ?_ ?_
                          · intro h190
                            refine j_iconst hJ dL_isWalk_217 ?_
                            refine j218 0 ?_
                            · rw [hc2]
                              clear hT1 hc1 hz hz0 hz1
                              cases e1 : S ot.toNat <;> cases e2 : T1 on.toNat <;> simp_all
                          · intro h190
                            refine j_aload hJ (j := 5) rfl dL_isWalk_193 ?_
                            refine j_iload hJ (j := 14) rfl dL_isWalk_195 ?_
                            refine j_perm hJ perm_l1 ?_
                            refine j_callS0 hJ (c_L_has hfl hf rot) m_L_79 k_L_has ⟨(Nat.le_of_ble_eq_true rfl), (Nat.le_of_ble_eq_true rfl)⟩ ⟨(Nat.le_of_ble_eq_true rfl), (Nat.le_of_ble_eq_true rfl)⟩ (Nat.le_of_ble_eq_true rfl) dL_isWalk_197 rfl ?_
                            intro v25 u26 hv27
                            obtain ⟨q197, rfl, rfl, h197⟩ := hv27
                            refine j_perm hJ perm_l1.symm ?_
                            show J (WW cy b ba μ ν s1 s2 f g1 E) 2 6 200 [(0, .ref (b 0)), (1, .ref (ba 2)), (2, .int (zI (n : Int))), (3, .int (zI sa)), (4, .int (zI go)), (5, .ref s1), (6, .ref s2), (7, .int (zI stp)), (8, .int (zI (ct : Int))), (9, .int (zI (cn : Int))), (10, .int (zI ((r : Int) + 1))), (11, .int (zI (t : Int))), (12, .int (zI (k : Int))), (13, .int (zI on)), (14, .int (zI ot)), (15, .int (zI z))] [.int (zI q197)]
                            have b197 : q197 = 0 ∨ q197 = 1 := by rw [h197]; split <;> omega
                            refine j_if_eq hJ (tgt := 217) ⟨by omega, by omega⟩ (by decide) dL_isWalk_200 ?_ ?_
                            · intro h200
                              refine j_iconst hJ dL_isWalk_217 ?_
                              refine j218 0 ?_
                              · rw [hc2]
                                clear hT1 hc1 hz hz0 hz1
                                cases e1 : S ot.toNat <;> cases e2 : T1 on.toNat <;> simp_all
                            · intro h200
                              refine j_aload hJ (j := 6) rfl dL_isWalk_203 ?_
                              refine j_iload hJ (j := 13) rfl dL_isWalk_205 ?_
                              refine j_perm hJ perm_l2 ?_
                              refine j_callS0 hJ (c_L_has hfl hG1 ron) m_L_79 k_L_has ⟨(Nat.le_of_ble_eq_true rfl), (Nat.le_of_ble_eq_true rfl)⟩ ⟨(Nat.le_of_ble_eq_true rfl), (Nat.le_of_ble_eq_true rfl)⟩ (Nat.le_of_ble_eq_true rfl) dL_isWalk_207 rfl ?_
                              intro v28 u29 hv30
                              obtain ⟨q207, rfl, rfl, h207⟩ := hv30
                              refine j_perm hJ perm_l2.symm ?_
                              show J (WW cy b ba μ ν s1 s2 f g1 E) 2 6 210 [(0, .ref (b 0)), (1, .ref (ba 2)), (2, .int (zI (n : Int))), (3, .int (zI sa)), (4, .int (zI go)), (5, .ref s1), (6, .ref s2), (7, .int (zI stp)), (8, .int (zI (ct : Int))), (9, .int (zI (cn : Int))), (10, .int (zI ((r : Int) + 1))), (11, .int (zI (t : Int))), (12, .int (zI (k : Int))), (13, .int (zI on)), (14, .int (zI ot)), (15, .int (zI z))] [.int (zI q207)]
                              have b207 : q207 = 0 ∨ q207 = 1 := by rw [h207]; split <;> omega
                              refine j_if_ne hJ (tgt := 217) ⟨by omega, by omega⟩ (by decide) dL_isWalk_210 ?_ ?_
                              · intro h210
                                refine j_iconst hJ dL_isWalk_217 ?_
                                refine j218 0 ?_
                                · rw [hc2]
                                  clear hT1 hc1 hz hz0 hz1
                                  cases e1 : S ot.toNat <;> cases e2 : T1 on.toNat <;> simp_all
                              · intro h210
                                refine j_iconst hJ dL_isWalk_213 ?_
                                refine j_goto hJ (tgt := 218) (by decide) dL_isWalk_214 ?_
                                refine j218 1 ?_
                                · rw [hc2]
                                  clear hT1 hc1 hz hz0 hz1
                                  cases e1 : S ot.toNat <;> cases e2 : T1 on.toNat <;> simp_all
                        refine j_iload hJ (j := 0) rfl dL_isWalk_162 ?_
                        refine j_if_eq hJ (tgt := 177) ⟨by omega, by omega⟩ (by decide) dL_isWalk_164 ?_ ?_
                        · intro h164
                          refine j_lconst (v := (0 : Int64)) hJ rfl dL_isWalk_177 ?_
                          refine j_locs hJ [1, 2, 3, 4, 5, 6, 7, 8, 9, 10, 11, 12, 13, 14, 15, 0] rfl ?_
                          exact j178 _ (by first | (rw [hz0 (by omega)]; rfl) | (rw [hz1 (by omega)]))
                        · intro h164
                          refine j_lconst (v := (1 : Int64)) hJ rfl dL_isWalk_167 ?_
                          refine j_iload hJ (j := 15) rfl dL_isWalk_168 ?_
                          refine j_bipush hJ (v := 48) (by decide) dL_isWalk_170 ?_
                          refine j_irem hJ (by omega) (by omega) (by omega) (by omega) dL_isWalk_172 ?_
                          refine j_lshl hJ (v := msk true ot) (rfl) dL_isWalk_173 ?_
                          refine j_goto hJ (tgt := 178) (by decide) dL_isWalk_174 ?_
                          refine j_locs hJ [1, 2, 3, 4, 5, 6, 7, 8, 9, 10, 11, 12, 13, 14, 15, 0] rfl ?_
                          exact j178 _ (by first | (rw [hz0 (by omega)]; rfl) | (rw [hz1 (by omega)]))
                      refine j_aload hJ (j := 7) rfl dL_isWalk_126 ?_
                      refine j_iload hJ (j := 1) rfl dL_isWalk_128 ?_
                      refine j_perm hJ perm_l1 ?_
                      refine j_callS0 hJ (c_L_has hfl hf ron) m_L_79 k_L_has ⟨(Nat.le_of_ble_eq_true rfl), (Nat.le_of_ble_eq_true rfl)⟩ ⟨(Nat.le_of_ble_eq_true rfl), (Nat.le_of_ble_eq_true rfl)⟩ (Nat.le_of_ble_eq_true rfl) dL_isWalk_130 rfl ?_
                      intro v31 u32 hv33
                      obtain ⟨q130, rfl, rfl, h130⟩ := hv33
                      refine j_perm hJ perm_l1.symm ?_
                      show J (WW cy b ba μ ν s1 s2 f gk E) 2 6 133 [(14, .int (zI ot)), (13, .int (zI on)), (0, .ref (b 0)), (1, .ref (ba 2)), (2, .int (zI (n : Int))), (3, .int (zI sa)), (4, .int (zI go)), (5, .ref s1), (6, .ref s2), (7, .int (zI stp)), (8, .int (zI (ct : Int))), (9, .int (zI (cn : Int))), (10, .int (zI ((r : Int) + 1))), (11, .int (zI (t : Int))), (12, .int (zI (k : Int)))] [.int (zI q130)]
                      have b130 : q130 = 0 ∨ q130 = 1 := by rw [h130]; split <;> omega
                      refine j_if_eq hJ (tgt := 150) ⟨by omega, by omega⟩ (by decide) dL_isWalk_133 ?_ ?_
                      · intro h133
                        refine j_iconst hJ dL_isWalk_150 ?_
                        refine j_locs hJ [2, 3, 4, 5, 6, 7, 8, 9, 10, 11, 12, 13, 14, 1, 0] rfl ?_
                        refine j151 0 ?_
                        · rw [hc1]
                          clear hT1 hc2
                          cases e1 : S on.toNat <;> cases e2 : T ot.toNat <;> simp_all
                      · intro h133
                        refine j_aload hJ (j := 8) rfl dL_isWalk_136 ?_
                        refine j_iload hJ (j := 0) rfl dL_isWalk_138 ?_
                        refine j_perm hJ perm_l2 ?_
                        refine j_callS0 hJ (c_L_has hfl hgk rot) m_L_79 k_L_has ⟨(Nat.le_of_ble_eq_true rfl), (Nat.le_of_ble_eq_true rfl)⟩ ⟨(Nat.le_of_ble_eq_true rfl), (Nat.le_of_ble_eq_true rfl)⟩ (Nat.le_of_ble_eq_true rfl) dL_isWalk_140 rfl ?_
                        intro v34 u35 hv36
                        obtain ⟨q140, rfl, rfl, h140⟩ := hv36
                        refine j_perm hJ perm_l2.symm ?_
                        show J (WW cy b ba μ ν s1 s2 f gk E) 2 6 143 [(14, .int (zI ot)), (13, .int (zI on)), (0, .ref (b 0)), (1, .ref (ba 2)), (2, .int (zI (n : Int))), (3, .int (zI sa)), (4, .int (zI go)), (5, .ref s1), (6, .ref s2), (7, .int (zI stp)), (8, .int (zI (ct : Int))), (9, .int (zI (cn : Int))), (10, .int (zI ((r : Int) + 1))), (11, .int (zI (t : Int))), (12, .int (zI (k : Int)))] [.int (zI q140)]
                        have b140 : q140 = 0 ∨ q140 = 1 := by rw [h140]; split <;> omega
                        refine j_if_ne hJ (tgt := 150) ⟨by omega, by omega⟩ (by decide) dL_isWalk_143 ?_ ?_
                        · intro h143
                          refine j_iconst hJ dL_isWalk_150 ?_
                          refine j_locs hJ [2, 3, 4, 5, 6, 7, 8, 9, 10, 11, 12, 13, 14, 1, 0] rfl ?_
                          refine j151 0 ?_
                          · rw [hc1]
                            clear hT1 hc2
                            cases e1 : S on.toNat <;> cases e2 : T ot.toNat <;> simp_all
                        · intro h143
                          refine j_iconst hJ dL_isWalk_146 ?_
                          refine j_goto hJ (tgt := 151) (by decide) dL_isWalk_147 ?_
                          refine j_locs hJ [2, 3, 4, 5, 6, 7, 8, 9, 10, 11, 12, 13, 14, 1, 0] rfl ?_
                          refine j151 1 ?_
                          · rw [hc1]
                            clear hT1 hc2
                            cases e1 : S on.toNat <;> cases e2 : T ot.toNat <;> simp_all
                refine j_locs hJ [1, 2, 3, 4, 5, 6, 7, 8, 9, 10, 11, 12, 0] rfl ?_
                exact lp91 ((trk (p t) (m t)).length + 1 - 0 + 1) gt T ct 0 (by omega) (by omega) (by exact hgt) (by exact hRT) (by exact hct)
          refine j_locs hJ [2, 3, 4, 5, 6, 7, 8, 9, 10, 1, 11, 0] rfl ?_
          exact lp82 (n + 1 - 0 + 1) g S cn 0 (by omega) (by omega) (by exact hg) (by exact RT.init (fun _ _ => rfl)) (by exact hcn)
    refine j_locs hJ [4, 5, 6, 7, 8, 9, 10, 3, 2, 1, 0] rfl ?_
    exact lp68 (145 - 0 + 1) f1 g2 (fun y => y == sa.toNat) stp 1 0 0 (by omega) (by exact hS1) (by exact hS2) (by exact RS_init hsa) (by exact (cnt_one hsa).symm) (by exact hst) (by omega) (by omega) (by exact Or.inl ⟨rfl, rfl⟩)
  refine j_if_eq hJ (tgt := 56) ⟨by omega, by omega⟩ (by decide) dL_isWalk_49 ?_ ?_
  · intro h49
    refine j_iconst hJ dL_isWalk_56 ?_
    refine j_locs hJ [2, 3, 4, 5, 6, 1, 0] rfl ?_
    exact j57 (-1) (by exact StI.init (fun e => by omega) (fun e => by omega))
  · intro h49
    refine j_iconst hJ dL_isWalk_52 ?_
    refine j_goto hJ (tgt := 57) (by decide) dL_isWalk_53 ?_
    refine j_locs hJ [2, 3, 4, 5, 6, 1, 0] rfl ?_
    exact j57 0 (by exact StI.init (fun e => by omega) (fun e => by omega))
end
