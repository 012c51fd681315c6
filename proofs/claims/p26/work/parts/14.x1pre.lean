theorem up_rowf {μ : Nat → Int → Int} {k a : Nat} {j v : Int} (h : a ≠ k) : up μ k j v a = μ a := by
  funext c; exact up_row h
theorem iabs_spec (z : Int) : (0 ≤ z ∧ iabs z = z) ∨ (z < 0 ∧ iabs z = -z) := by
  unfold iabs
  by_cases h : 0 ≤ z
  · rw [if_pos h]; omega
  · rw [if_neg h]; omega
theorem b01 {P : Prop} {q : Int} (h : (P → q = 1) ∧ (¬ P → q = 0)) : q = 0 ∨ q = 1 := by
  by_cases g : P
  · exact Or.inr (h.1 g)
  · exact Or.inl (h.2 g)
/-! a track: its squares in order, in the heap -/
def TP (μ : Nat → Int → Int) (i : Nat) (L : List Int) : Prop := μ (9 + 6 * i + 2) 1 = L.length ∧ ArrL (μ (9 + 6 * i + 3)) L ∧ L.length ≤ 100 ∧ (∀ x ∈ L, 0 ≤ x ∧ x < 144) ∧ RowsOn μ i (fun x => x ∈ L)
def FrP (μ μ' : Nat → Int → Int) (i : Nat) : Prop := (∀ a, a ≠ 9 + 6 * i + 2 → a ≠ 9 + 6 * i + 3 → a ≠ 9 + 6 * i + 5 → μ' a = μ a) ∧ ∀ j, j ≠ 1 → μ' (9 + 6 * i + 2) j = μ (9 + 6 * i + 2) j
theorem FrP.rf {μ : Nat → Int → Int} {i : Nat} : FrP μ μ i := ⟨fun _ _ _ _ => rfl, fun _ _ => rfl⟩
theorem FrP.tr {μ μ' μ'' : Nat → Int → Int} {i : Nat} (h : FrP μ μ' i) (h2 : FrP μ' μ'' i) : FrP μ μ'' i := ⟨fun a x y z => (h2.1 a x y z).trans (h.1 a x y z), fun j hj => (h2.2 j hj).trans (h.2 j hj)⟩
theorem RowsOn.iff {μ : Nat → Int → Int} {i : Nat} {P Q : Int → Prop} (h : RowsOn μ i P) (he : ∀ x, 0 ≤ x → x < 144 → (P x ↔ Q x)) : RowsOn μ i Q := fun c r h1 h2 h3 h4 => by
  obtain ⟨g1, g2, g3⟩ := h c r h1 h2 h3 h4
  exact ⟨g1, g2, g3.trans (he _ (by omega) (by omega))⟩
theorem rows_or {μ μ' : Nat → Int → Int} {i : Nat} {P : Int → Prop} {c r : Int} (h : RowsOn μ i P) (hc : 0 ≤ c ∧ c < 12) (hr : 0 ≤ r ∧ r < 12) (h1 : μ' (9 + 6 * i + 5) c = orI (μ (9 + 6 * i + 5) c) r) (h2 : ∀ j, j ≠ c → μ' (9 + 6 * i + 5) j = μ (9 + 6 * i + 5) j) : RowsOn μ' i (fun x => P x ∨ x = 12 * c + r) := by
  intro c' r' a1 a2 a3 a4
  by_cases hcc : c' = c
  · subst hcc
    obtain ⟨g1, g2, -⟩ := h c' r hc.1 hc.2 hr.1 hr.2
    obtain ⟨-, -, g3⟩ := h c' r' a1 a2 a3 a4
    obtain ⟨b1, b2⟩ := orI_lt 12 g1 (by exact g2) hr.1 hr.2
    rw [h1]
    refine ⟨b1, b2, (orI_bit g1 hr.1 a3).trans ?_⟩
    rw [g3]
    constructor
    · rintro (h | h)
      · exact Or.inl h
      · exact Or.inr (by omega)
    · rintro (h | h)
      · exact Or.inl h
      · exact Or.inr (by omega)
  · obtain ⟨g1, g2, g3⟩ := h c' r' a1 a2 a3 a4
    rw [h2 c' hcc]
    refine ⟨g1, g2, g3.trans ⟨Or.inl, fun h => h.resolve_right (by omega)⟩⟩
theorem addSq_post {μ : Nat → Int → Int} {i : Nat} {L : List Int} {c r : Int} (h : TP μ i L) (hlen : L.length < 100) (hc : 0 ≤ c ∧ c < 12) (hr : 0 ≤ r ∧ r < 12) :
    TP (up (up (up μ (9 + 6 * i + 3) (μ (9 + 6 * i + 2) 1) (12 * c + r)) (9 + 6 * i + 2) 1 (μ (9 + 6 * i + 2) 1 + 1)) (9 + 6 * i + 5) c (orI (μ (9 + 6 * i + 5) c) r)) i (L ++ [12 * c + r]) ∧
    FrP μ (up (up (up μ (9 + 6 * i + 3) (μ (9 + 6 * i + 2) 1) (12 * c + r)) (9 + 6 * i + 2) 1 (μ (9 + 6 * i + 2) 1 + 1)) (9 + 6 * i + 5) c (orI (μ (9 + 6 * i + 5) c) r)) i := by
  obtain ⟨h1, h2, h3, h4, h5⟩ := h
  refine ⟨⟨?_, ?_, ?_, ?_, ?_⟩, ?_, ?_⟩
  · rw [up_row (by omega), up_self, h1]; simp
  · refine h2.snoc (fun k k0 k1 => ?_) ?_
    · rw [up_row (by omega), up_row (by omega), up_at (by omega)]
    · rw [up_row (by omega), up_row (by omega), h1, up_self]
  · simp; omega
  · intro x hx
    rcases List.mem_append.mp hx with hx | hx
    · exact h4 x hx
    · rw [List.mem_singleton.mp hx]; omega
  · refine (rows_or (μ := μ) h5 hc hr up_self (fun j hj => ?_)).iff (fun x _ _ => by simp)
    rw [up_at hj, up_row (by omega), up_row (by omega)]
  · intro a a1 a2 a3
    funext j
    rw [up_row a3, up_row a1, up_row a2]
  · intro j hj
    rw [up_row (by omega), up_at hj, up_row (by omega)]
/-! a street's points and track -/
def TI (μ : Nat → Int → Int) (i : Nat) (p : Nat → Int) (m : Nat) : Prop := TP μ i (trk p m) ∧ μ (9 + 6 * i + 2) 3 = m ∧ m ≤ 10 ∧ PtOK p m ∧ ∀ k : Nat, k < m → μ (9 + 6 * i + 4) k = (trk p (k + 1)).length
def FrT (μ μ' : Nat → Int → Int) (i : Nat) : Prop := ∀ a, a ≠ 9 + 6 * i + 2 → a ≠ 9 + 6 * i + 3 → a ≠ 9 + 6 * i + 4 → a ≠ 9 + 6 * i + 5 → μ' a = μ a
def pset (p : Nat → Int) (m : Nat) (x : Int) : Nat → Int := fun k => if k = m then x else p k
theorem TI.last {μ : Nat → Int → Int} {i m : Nat} {p : Nat → Int} (h : TI μ i p (m + 1)) : μ (9 + 6 * i + 3) (μ (9 + 6 * i + 2) 1 - 1) = p m ∧ 1 ≤ μ (9 + 6 * i + 2) 1 ∧ μ (9 + 6 * i + 2) 1 ≤ 100 ∧ 0 ≤ p m ∧ p m < 144 := by
  obtain ⟨⟨h1, h2, h3, -, -⟩, -, -, h4, -⟩ := h
  obtain ⟨L, hL⟩ := trk_last h4
  have h5 := h4.1 m (by omega)
  rw [hL] at h1 h2 h3
  simp at h1 h3
  refine ⟨?_, by omega, by omega, h5⟩
  rw [h1, show ((L.length : Int) + 1 - 1) = (L.length : Nat) by omega]
  exact h2 L.length (p m) (by simp)
theorem TI.len {μ : Nat → Int → Int} {i m : Nat} {p : Nat → Int} (h : TI μ i p m) : (μ (9 + 6 * i + 2) 1 = 0 ↔ m = 0) ∧ 0 ≤ μ (9 + 6 * i + 2) 1 ∧ μ (9 + 6 * i + 2) 1 ≤ 100 ∧ μ (9 + 6 * i + 2) 1 ≤ 1 + 11 * (m - 1 : Nat) ∧ (1 ≤ m → 1 ≤ μ (9 + 6 * i + 2) 1) := by
  obtain ⟨⟨h1, h2, h3, -, -⟩, -, -, h4, -⟩ := h
  have := trk_len h4
  omega
theorem pset_lt {p : Nat → Int} {m k : Nat} {x : Int} (h : k < m) : pset p m x k = p k := by unfold pset; rw [if_neg (by omega)]
theorem pset_at {p : Nat → Int} {m : Nat} {x : Int} : pset p m x m = x := by unfold pset; rw [if_pos rfl]
theorem trk_pset {p : Nat → Int} {m : Nat} {x : Int} : trk (pset p m x) (m + 1) = trk p m ++ (if m = 0 then [x] else seg (p (m - 1)) x) := by
  match m with
  | 0 => simp [trk, pset_at]
  | m + 1 =>
    show trk (pset p (m + 1) x) (m + 1) ++ seg (pset p (m + 1) x m) (pset p (m + 1) x (m + 1)) = _
    rw [trk_congr (q := p) (fun k hk => pset_lt hk), pset_lt (by omega), pset_at]
    simp
theorem PtOK.add {p : Nat → Int} {m : Nat} {c r : Int} (h : PtOK p m) (hc : 0 ≤ c ∧ c < 12) (hr : 0 ≤ r ∧ r < 12) (ha : 0 < m → Aln (p (m - 1)) c r) : PtOK (pset p m (12 * c + r)) (m + 1) := by
  refine ⟨fun k hk => ?_, fun k hk => ?_⟩
  · by_cases e : k = m
    · subst e; rw [pset_at]; omega
    · rw [pset_lt (by omega)]; exact h.1 k (by omega)
  · by_cases e : k + 1 = m
    · subst e
      rw [pset_at, pset_lt (by omega)]
      have := ha (by omega)
      rw [show k + 1 - 1 = k by omega] at this
      rwa [show (12 * c + r) / 12 = c by omega, show (12 * c + r) % 12 = r by omega]
    · rw [pset_lt (by omega), pset_lt (by omega)]; exact h.2 k (by omega)
/-- a new point's track, put down -/
theorem TI.add {μ μ' : Nat → Int → Int} {i m : Nat} {p : Nat → Int} {c r : Int} (h : TI μ i p m) (hm : m < 10) (hc : 0 ≤ c ∧ c < 12) (hr : 0 ≤ r ∧ r < 12) (ha : 0 < m → Aln (p (m - 1)) c r)
    (h1 : TP μ' i (trk p m ++ (if m = 0 then [12 * c + r] else seg (p (m - 1)) (12 * c + r)))) (hF : FrP μ μ' i) :
    TI (up (up μ' (9 + 6 * i + 4) m (μ' (9 + 6 * i + 2) 1)) (9 + 6 * i + 2) 3 (m + 1)) i (pset p m (12 * c + r)) (m + 1) ∧ FrT μ (up (up μ' (9 + 6 * i + 4) m (μ' (9 + 6 * i + 2) 1)) (9 + 6 * i + 2) 3 (m + 1)) i := by
  obtain ⟨hT, h2, h3, h4, h5⟩ := h
  obtain ⟨g1, g2, g3, g4, g5⟩ := h1
  refine ⟨⟨⟨?_, ?_, ?_, ?_, ?_⟩, ?_, by omega, h4.add hc hr ha, fun k hk => ?_⟩, fun a a1 a2 a3 a4 => ?_⟩
  · rw [trk_pset, up_at (by omega), up_row (by omega), g1]
  · rw [trk_pset]; exact g2.congr (fun k _ _ => by rw [up_row (by omega), up_row (by omega)])
  · rw [trk_pset]; exact g3
  · rw [trk_pset]; exact g4
  · rw [trk_pset]
    intro c' r' b1 b2 b3 b4
    rw [up_row (by omega), up_row (by omega)]
    exact g5 c' r' b1 b2 b3 b4
  · rw [up_self]; omega
  · rw [up_row (by omega)]
    by_cases e : k = m
    · subst e
      rw [up_self, trk_pset, g1]
    · rw [up_at (by omega), hF.1 _ (by omega) (by omega) (by omega), h5 k (by omega), trk_congr (q := p) (fun j hj => pset_lt (by omega))]
  · funext j
    rw [up_row (by omega), up_row (by omega), hF.1 a a1 a2 a4]
