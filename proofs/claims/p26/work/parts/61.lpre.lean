/-! what the law keeps in its arrays -/
def drw : List Int := [1, 2, 4, 5, 12, 13, 14, 22]
def Drw (w : Int) : Prop := w = 1 ∨ w = 2 ∨ w = 4 ∨ w = 5 ∨ w = 12 ∨ w = 13 ∨ w = 14 ∨ w = 22
def dr (z : Int) : Int := drw.getD (z % 8).toNat 0
theorem dr_Drw (z : Int) : Drw (dr z) := by
  unfold dr
  rcases (show z % 8 = 0 ∨ z % 8 = 1 ∨ z % 8 = 2 ∨ z % 8 = 3 ∨ z % 8 = 4 ∨ z % 8 = 5 ∨ z % 8 = 6 ∨ z % 8 = 7 by omega) with h | h | h | h | h | h | h | h <;> rw [h] <;> (unfold Drw; decide)
theorem Drw.rng {w : Int} (h : Drw w) : 0 ≤ w ∧ w < 24 := by unfold Drw at h; omega
def AK (ν : Nat → Int → Int) (kd : Int → Int) : Prop := ∀ w : Int, 0 ≤ w → w < 24 → ν 0 w = kd w ∧ 0 ≤ kd w ∧ kd w ≤ 2
def AWr (ν : Nat → Int → Int) : Prop := ∀ j : Int, 0 ≤ j → j < 25 → j % 5 ≠ 0 → 0 ≤ ν 1 j ∧ ν 1 j < 24
def ANm (ν : Nat → Int → Int) (i : Nat) (L : List Int) : Prop := ν 1 (5 * (i : Int)) = L.length ∧ 1 ≤ L.length ∧ L.length ≤ 4 ∧ (∀ (k : Nat) (x : Int), L[k]? = some x → ν 1 (5 * (i : Int) + 1 + (k : Int)) = x) ∧ ∀ w ∈ L, Drw w
def APt (ν : Nat → Int → Int) (i : Nat) (pp : Nat → Int) (m : Nat) : Prop := ν 2 (7 * (i : Int)) = m ∧ m ≤ 5 ∧ (∀ k : Nat, k < m → ν 2 (7 * (i : Int) + 1 + (k : Int)) = pp k) ∧ PtOK pp m
/-! the squares of a track by their places -/
def sqA (L : List Int) (k : Nat) : Int := (L[k]?).getD (-1)
theorem sqA_none {L : List Int} {k : Nat} (h : L.length ≤ k) : sqA L k = -1 := by unfold sqA; rw [List.getElem?_eq_none h]; rfl
theorem sqA_some {L : List Int} {k : Nat} {x : Int} (h : L[k]? = some x) : sqA L k = x := by unfold sqA; rw [h]; rfl
theorem sqA_get {L : List Int} {k : Nat} (h : k < L.length) : L[k]? = some (sqA L k) := by unfold sqA; rw [List.getElem?_eq_getElem h]; rfl
theorem sqA_mem {L : List Int} {k : Nat} (h : k < L.length) : sqA L k ∈ L := List.mem_of_getElem? (sqA_get h)
theorem sqA_rng {L : List Int} (h : ∀ x ∈ L, 0 ≤ x ∧ x < 144) (k : Nat) : -1 ≤ sqA L k ∧ sqA L k < 144 ∧ (0 ≤ sqA L k ↔ k < L.length) := by
  by_cases g : k < L.length
  · have := h _ (sqA_mem g); omega
  · rw [sqA_none (by omega)]; omega
theorem trk_succ_len {p : Nat → Int} {m : Nat} : (trk p (m + 2)).length = (trk p (m + 1)).length + (far (p m) (p (m + 1) / 12) (p (m + 1) % 12)).toNat := by
  show (trk p (m + 1) ++ seg (p m) (p (m + 1))).length = _
  rw [List.length_append, seg, segk_len]
theorem trk_seg_at {p : Nat → Int} {m k : Nat} (hk : k < (far (p m) (p (m + 1) / 12) (p (m + 1) % 12)).toNat) : (trk p (m + 2))[(trk p (m + 1)).length + k]? = some (p m + ((k : Int) + 1) * stp (p m) (p (m + 1) / 12) (p (m + 1) % 12)) := by
  show (trk p (m + 1) ++ seg (p m) (p (m + 1)))[_]? = _
  rw [List.getElem?_append_right (by omega), Nat.add_sub_cancel_left, seg, segk, List.getElem?_map, List.getElem?_range hk]
  rfl
theorem trk_pre_at {p : Nat → Int} {m k i : Nat} (h : k ≤ m) (hi : i < (trk p k).length) : (trk p m)[i]? = (trk p k)[i]? := by
  obtain ⟨L, hL⟩ := trk_pre (p := p) h
  rw [hL, List.getElem?_append_left hi]
theorem aln_far {a c r : Int} (h : Aln a c r) : c - a / 12 = far a c r * sg (c - a / 12) ∧ r - a % 12 = far a c r * sg (r - a % 12) ∧ (0 < c - a / 12 → far a c r = c - a / 12) ∧ (c - a / 12 < 0 → far a c r = -(c - a / 12)) ∧ (c - a / 12 = 0 → 0 < r - a % 12 → far a c r = r - a % 12) ∧ (c - a / 12 = 0 → ¬ 0 < r - a % 12 → far a c r = -(r - a % 12)) := by
  have hf := far_spec a c r
  unfold Aln at h
  generalize far a c r = F at *
  generalize a / 12 = A at *
  generalize a % 12 = B at *
  rcases sg_spec (c - A) with ⟨e1, g1⟩ | ⟨e1, g1⟩ | ⟨e1, g1⟩ <;> rcases sg_spec (r - B) with ⟨e2, g2⟩ | ⟨e2, g2⟩ | ⟨e2, g2⟩ <;> rw [e1, e2] <;> refine ⟨?_, ?_, ?_, ?_, ?_, ?_⟩ <;> omega
theorem div_sg {F z : Int} (h0 : 1 ≤ F) (h1 : F ≤ 11) (hz : z = F * sg z) : zI z / zI F = zI (sg z) := by
  have hF : F = 1 ∨ F = 2 ∨ F = 3 ∨ F = 4 ∨ F = 5 ∨ F = 6 ∨ F = 7 ∨ F = 8 ∨ F = 9 ∨ F = 10 ∨ F = 11 := by omega
  rcases sg_spec z with ⟨e1, g1⟩ | ⟨e1, g1⟩ | ⟨e1, g1⟩ <;> rw [e1] at hz ⊢ <;> rcases hF with rfl | rfl | rfl | rfl | rfl | rfl | rfl | rfl | rfl | rfl | rfl <;> subst hz <;> decide
/-! keys, read word by word -/
def KW (kd : Int → Int) (N : List Int) (k : Nat) : List Int := filK kd 0 (N.take (min k 4)) ++ filK kd 2 (N.take (k - 4))
theorem KW_0 {kd : Int → Int} {N : List Int} : KW kd N 0 = [] := by simp [KW, filK]
theorem KW_8 {kd : Int → Int} {N : List Int} (h : N.length ≤ 4) : KW kd N 8 = filK kd 0 N ++ filK kd 2 N := by
  unfold KW
  rw [show min 8 4 = 4 from rfl, show 8 - 4 = 4 from rfl, List.take_of_length_le h]
theorem KW_some {kd : Int → Int} {N : List Int} {k : Nat} {x : Int} (h : N[k % 4]? = some x) (hk : k < 8) : KW kd N (k + 1) = KW kd N k ++ (if kd x = (if k < 4 then 0 else 2) then [x] else []) := by
  unfold KW
  by_cases g : k < 4
  · rw [if_pos g, show min (k + 1) 4 = k + 1 by omega, show min k 4 = k by omega, show k + 1 - 4 = 0 by omega, show k - 4 = 0 by omega]
    rw [show k % 4 = k by omega] at h
    rw [filK_step h]
    simp [filK]
  · rw [if_neg g, show min (k + 1) 4 = 4 by omega, show min k 4 = 4 by omega, show k + 1 - 4 = (k - 4) + 1 by omega]
    rw [show k % 4 = k - 4 by omega] at h
    rw [filK_step h, List.append_assoc]
theorem KW_none {kd : Int → Int} {N : List Int} {k : Nat} (h : N.length ≤ k % 4) (hk : k < 8) : KW kd N (k + 1) = KW kd N k := by
  unfold KW
  by_cases g : k < 4
  · rw [show min (k + 1) 4 = k + 1 by omega, show min k 4 = k by omega, show k + 1 - 4 = 0 by omega, show k - 4 = 0 by omega, List.take_of_length_le (i := k + 1) (by omega), List.take_of_length_le (i := k) (by omega)]
  · rw [show min (k + 1) 4 = 4 by omega, show min k 4 = 4 by omega, List.take_of_length_le (i := k + 1 - 4) (by omega), List.take_of_length_le (i := k - 4) (by omega)]
theorem KW_pre {kd : Int → Int} {N : List Int} : ∀ d k, k + d = 8 → ∃ t, KW kd N 8 = KW kd N k ++ t
  | 0, k, h => ⟨[], by rw [show k = 8 by omega, List.append_nil]⟩
  | d + 1, k, h => by
    obtain ⟨t, ht⟩ := KW_pre (kd := kd) (N := N) d (k + 1) (by omega)
    by_cases g : N.length ≤ k % 4
    · rw [KW_none g (by omega)] at ht; exact ⟨t, ht⟩
    · have g2 : k % 4 < N.length := by omega
      rw [KW_some (k := k) (List.getElem?_eq_getElem g2) (by omega), List.append_assoc] at ht; exact ⟨_, ht⟩
theorem KW_at {kd : Int → Int} {N : List Int} {k : Nat} {w : Int} (hN : N.length ≤ 4) (hk : k < 8) (h : KW kd N (k + 1) = KW kd N k ++ [w]) : sqA (keyL kd N) (KW kd N k).length = w := by
  obtain ⟨t, ht⟩ := KW_pre (kd := kd) (N := N) (8 - (k + 1)) (k + 1) (by omega)
  rw [h, KW_8 hN] at ht
  unfold keyL
  rw [if_neg (by rw [ht]; simp), ht]
  refine sqA_some ?_
  simp
theorem KW_end {kd : Int → Int} {N : List Int} (hN : N.length ≤ 4) : ((KW kd N 8).length ≠ 0 → keyL kd N = KW kd N 8) ∧ ((KW kd N 8).length = 0 → keyL kd N = N) := by
  rw [KW_8 hN]
  unfold keyL
  refine ⟨fun h => ?_, fun h => ?_⟩
  · rw [if_neg (fun e => h (by rw [e]; rfl))]
  · rw [if_pos (List.length_eq_zero_iff.mp h)]
/-! the order of lists, word by word -/
def rr (L : List Int) (k : Nat) : Int := if sqA L k < 0 then -1 else rk (sqA L k)
theorem rk_rng (w : Int) : 0 ≤ rk w ∧ rk w < 24 := by
  unfold rk wRk
  have h : ∀ i : Nat, wRl.getD i 0 < 24 := fun i => by
    by_cases g : i < 24
    · exact (show ∀ j < 24, wRl.getD j 0 < 24 by decide) i g
    · rw [List.getD_eq_getElem?_getD, List.getElem?_eq_none (by show 24 ≤ i; omega)]; decide
  have := h w.toNat
  omega
theorem rr_rng (L : List Int) (k : Nat) : -1 ≤ rr L k ∧ rr L k < 24 := by
  unfold rr
  have := rk_rng (sqA L k)
  split <;> omega
theorem rr_step {A B : List Int} (hA : ∀ x ∈ A, 0 ≤ x ∧ x < 24) (hB : ∀ x ∈ B, 0 ≤ x ∧ x < 24) (k : Nat) : (rr A k - rr B k = 0 → wo (A.drop k) (B.drop k) = wo (A.drop (k + 1)) (B.drop (k + 1))) ∧ (rr A k - rr B k ≠ 0 → sg (rr A k - rr B k) = wo (A.drop k) (B.drop k)) := by
  have ra : ∀ (L : List Int), (∀ x ∈ L, 0 ≤ x ∧ x < 24) → k < L.length → rr L k = rk (sqA L k) ∧ 0 ≤ rr L k := fun L hL h => by
    have h1 := hL _ (sqA_mem h)
    have h2 := rk_rng (sqA L k)
    unfold rr
    rw [if_neg (by omega)]; omega
  have rn : ∀ (L : List Int), L.length ≤ k → rr L k = -1 := fun L h => by
    unfold rr
    rw [sqA_none h, if_pos (by omega)]
  by_cases gA : k < A.length
  · by_cases gB : k < B.length
    · obtain ⟨a1, a2⟩ := ra A hA gA
      obtain ⟨b1, b2⟩ := ra B hB gB
      rw [wo_drop (sqA_get gA) (sqA_get gB), a1, b1]
      refine ⟨fun h => ?_, fun h => ?_⟩
      · rw [if_pos (by omega)]
      · rw [if_neg (by omega)]
    · obtain ⟨a1, a2⟩ := ra A hA gA
      rw [rn B (by omega)]
      refine ⟨fun h => by omega, fun h => ?_⟩
      rw [List.drop_eq_nil_of_le (as := B) (by omega), List.drop_eq_getElem_cons gA, wo]
      have h1 := sg_cases (rr A k - -1)
      have h2 := sg_cases (((A.drop (k + 1)).length : Int) + 1)
      omega
  · rw [rn A (by omega)]
    by_cases gB : k < B.length
    · obtain ⟨b1, b2⟩ := ra B hB gB
      refine ⟨fun h => by omega, fun h => ?_⟩
      rw [List.drop_eq_nil_of_le (as := A) (by omega), wo]
      have h1 := sg_cases (-1 - rr B k)
      have h2 := sg_cases (0 - ((B.drop k).length : Int))
      have h3 : (B.drop k).length = B.length - k := List.length_drop
      omega
    · rw [rn B (by omega)]
      refine ⟨fun _ => ?_, fun h => absurd rfl h⟩
      rw [List.drop_eq_nil_of_le (as := A) (by omega), List.drop_eq_nil_of_le (as := B) (by omega), List.drop_eq_nil_of_le (as := A) (by omega), List.drop_eq_nil_of_le (as := B) (by omega)]
theorem wo_end4 {A B : List Int} (hA : A.length ≤ 4) (hB : B.length ≤ 4) : wo (A.drop 4) (B.drop 4) = 0 := by
  rw [List.drop_eq_nil_of_le hA, List.drop_eq_nil_of_le hB]; rfl
/-! letters -/
def ltr (w k : Nat) : Int := if k < wL w then wC w k else 0
theorem Drw.nat {w : Int} (h : Drw w) {P : Nat → Prop} (hP : P 1 ∧ P 2 ∧ P 4 ∧ P 5 ∧ P 12 ∧ P 13 ∧ P 14 ∧ P 22) : P w.toNat := by
  obtain ⟨h1, h2, h3, h4, h5, h6, h7, h8⟩ := hP
  rcases h with rfl | rfl | rfl | rfl | rfl | rfl | rfl | rfl <;> assumption
