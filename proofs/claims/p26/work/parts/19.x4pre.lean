/-! the class's whole state, by a plan: n streets, their names, ways, points -/
def XI (μ : Nat → Int → Int) (n : Nat) (N : Nat → List Int) (ow : Nat → Int) (m : Nat → Nat) (p : Nat → Nat → Int) : Prop :=
  μ 0 2 = n ∧ n ≤ 16 ∧ KdR (μ 1) ∧ (∀ i, i < n → NmI μ i (N i)) ∧ (∀ i, i < 16 → μ (9 + 6 * i) 2 = ow i ∧ (ow i = 0 ∨ ow i = 1)) ∧ (∀ i, i < 16 → TI μ i (p i) (m i)) ∧ ∀ i, n ≤ i → ow i = 0 ∧ m i = 0
def fset {α : Type} (f : Nat → α) (i : Nat) (v : α) : Nat → α := fun k => if k = i then v else f k
theorem fset_at {α : Type} {f : Nat → α} {i : Nat} {v : α} : fset f i v i = v := by simp [fset]
theorem fset_ne {α : Type} {f : Nat → α} {i k : Nat} {v : α} (h : k ≠ i) : fset f i v k = f k := by simp [fset, h]
theorem RowsOn.same {μ μ' : Nat → Int → Int} {i : Nat} {P : Int → Prop} (h : RowsOn μ i P) (e : μ' (9 + 6 * i + 5) = μ (9 + 6 * i + 5)) : RowsOn μ' i P := fun c r => by rw [e]; exact h c r
theorem TI.same {μ μ' : Nat → Int → Int} {i : Nat} {p : Nat → Int} {m : Nat} (h : TI μ i p m) (e2 : μ' (9 + 6 * i + 2) = μ (9 + 6 * i + 2)) (e3 : μ' (9 + 6 * i + 3) = μ (9 + 6 * i + 3)) (e4 : μ' (9 + 6 * i + 4) = μ (9 + 6 * i + 4)) (e5 : μ' (9 + 6 * i + 5) = μ (9 + 6 * i + 5)) : TI μ' i p m := by
  obtain ⟨⟨h1, h2, h3, h4, h5⟩, h6, h7, h8, h9⟩ := h
  exact ⟨⟨by rw [e2]; exact h1, by rw [e3]; exact h2, h3, h4, h5.same e5⟩, by rw [e2]; exact h6, h7, h8, by rw [e4]; exact h9⟩
theorem NmI.same {μ μ' : Nat → Int → Int} {i : Nat} {N : List Int} (h : NmI μ i N) (e0 : μ' (9 + 6 * i) 1 = μ (9 + 6 * i) 1) (e1 : μ' (9 + 6 * i + 1) = μ (9 + 6 * i + 1)) : NmI μ' i N := by
  unfold NmI; rw [e0, e1]; exact h
/-- what the methods use as paper: 3, 4, 6, 7, 8 -/
def FrS (μ μ' : Nat → Int → Int) : Prop := ∀ a, a ≠ 3 → a ≠ 4 → a ≠ 6 → a ≠ 7 → a ≠ 8 → μ' a = μ a
theorem XI.scratch {μ μ' : Nat → Int → Int} {n : Nat} {N : Nat → List Int} {ow : Nat → Int} {m : Nat → Nat} {p : Nat → Nat → Int} (h : XI μ n N ow m p) (hF : FrS μ μ') : XI μ' n N ow m p := by
  obtain ⟨h1, h2, h3, h4, h5, h6, h7⟩ := h
  have e : ∀ a, 9 ≤ a → μ' a = μ a := fun a ha => hF a (by omega) (by omega) (by omega) (by omega) (by omega)
  refine ⟨by rw [hF 0 (by omega) (by omega) (by omega) (by omega) (by omega)]; exact h1, h2, by rw [hF 1 (by omega) (by omega) (by omega) (by omega) (by omega)]; exact h3, fun i hi => (h4 i hi).same (by rw [e _ (by omega)]) (e _ (by omega)), fun i hi => by rw [e _ (by omega)]; exact h5 i hi, fun i hi => (h6 i hi).same (e _ (by omega)) (e _ (by omega)) (e _ (by omega)) (e _ (by omega)), h7⟩
theorem XI.setT {μ μ' : Nat → Int → Int} {n : Nat} {N : Nat → List Int} {ow : Nat → Int} {m : Nat → Nat} {p : Nat → Nat → Int} {i m' : Nat} {p' : Nat → Int} (h : XI μ n N ow m p) (hi : i < n) (hF : FrT μ μ' i) (hT : TI μ' i p' m') : XI μ' n N ow (fset m i m') (fset p i p') := by
  obtain ⟨h1, h2, h3, h4, h5, h6, h7⟩ := h
  refine ⟨by rw [hF 0 (by omega) (by omega) (by omega) (by omega)]; exact h1, h2, by rw [hF 1 (by omega) (by omega) (by omega) (by omega)]; exact h3, fun j hj => (h4 j hj).same (by rw [hF _ (by omega) (by omega) (by omega) (by omega)]) (hF _ (by omega) (by omega) (by omega) (by omega)), fun j hj => by rw [hF _ (by omega) (by omega) (by omega) (by omega)]; exact h5 j hj, fun j hj => ?_, fun j hj => ?_⟩
  · by_cases e : j = i
    · subst e; rw [fset_at, fset_at]; exact hT
    · rw [fset_ne e, fset_ne e]
      exact (h6 j hj).same (hF _ (by omega) (by omega) (by omega) (by omega)) (hF _ (by omega) (by omega) (by omega) (by omega)) (hF _ (by omega) (by omega) (by omega) (by omega)) (hF _ (by omega) (by omega) (by omega) (by omega))
  · rw [fset_ne (by omega)]; exact h7 j hj
theorem XI.setN {μ μ' : Nat → Int → Int} {n : Nat} {N : Nat → List Int} {ow : Nat → Int} {m : Nat → Nat} {p : Nat → Nat → Int} {i : Nat} {L : List Int} (h : XI μ n N ow m p) (hi : i < n) (hF : ∀ a, a ≠ 9 + 6 * i → a ≠ 9 + 6 * i + 1 → μ' a = μ a) (hF2 : ∀ j, j ≠ 1 → μ' (9 + 6 * i) j = μ (9 + 6 * i) j) (hN : NmI μ' i L) : XI μ' n (fset N i L) ow m p := by
  obtain ⟨h1, h2, h3, h4, h5, h6, h7⟩ := h
  refine ⟨by rw [hF 0 (by omega) (by omega)]; exact h1, h2, by rw [hF 1 (by omega) (by omega)]; exact h3, fun j hj => ?_, fun j hj => ?_, fun j hj => (h6 j hj).same (hF _ (by omega) (by omega)) (hF _ (by omega) (by omega)) (hF _ (by omega) (by omega)) (hF _ (by omega) (by omega)), h7⟩
  · by_cases e : j = i
    · subst e; rw [fset_at]; exact hN
    · rw [fset_ne e]; exact (h4 j hj).same (by rw [hF _ (by omega) (by omega)]) (hF _ (by omega) (by omega))
  · by_cases e : j = i
    · subst e; rw [hF2 2 (by omega)]; exact h5 j hj
    · rw [hF _ (by omega) (by omega)]; exact h5 j hj
theorem XI.addS {μ μ' : Nat → Int → Int} {n : Nat} {N : Nat → List Int} {ow : Nat → Int} {m : Nat → Nat} {p : Nat → Nat → Int} {L : List Int} (h : XI μ n N ow m p) (hn : n < 16) (hF : ∀ a, a ≠ 9 + 6 * n → a ≠ 9 + 6 * n + 1 → μ' a = μ a) (hF2 : ∀ j, j ≠ 1 → μ' (9 + 6 * n) j = μ (9 + 6 * n) j) (hN : NmI μ' n L) : XI (up μ' 0 2 (n + 1)) (n + 1) (fset N n L) ow m p := by
  obtain ⟨h1, h2, h3, h4, h5, h6, h7⟩ := h
  have e : ∀ a, 1 ≤ a → up μ' 0 2 (n + 1) a = μ' a := fun a ha => up_rowf (by omega)
  refine ⟨by rw [up_self]; omega, by omega, by rw [e 1 (by omega), hF 1 (by omega) (by omega)]; exact h3, fun j hj => ?_, fun j hj => ?_, fun j hj => (h6 j hj).same (by rw [e _ (by omega), hF _ (by omega) (by omega)]) (by rw [e _ (by omega), hF _ (by omega) (by omega)]) (by rw [e _ (by omega), hF _ (by omega) (by omega)]) (by rw [e _ (by omega), hF _ (by omega) (by omega)]), fun j hj => h7 j (by omega)⟩
  · by_cases g : j = n
    · subst g; rw [fset_at]; exact hN.same (by rw [e _ (by omega)]) (e _ (by omega))
    · rw [fset_ne g]; exact (h4 j (by omega)).same (by rw [e _ (by omega), hF _ (by omega) (by omega)]) (by rw [e _ (by omega), hF _ (by omega) (by omega)])
  · rw [e _ (by omega)]
    by_cases g : j = n
    · subst g; rw [hF2 2 (by omega)]; exact h5 j hj
    · rw [hF _ (by omega) (by omega)]; exact h5 j hj
def StOK (n : Nat) (s : Int) : Prop := 0 ≤ s ∧ s < n
def SqOK (c r : Int) : Prop := (0 ≤ c ∧ c < 12) ∧ 0 ≤ r ∧ r < 12
def NmOK (w z : Int) : Prop := (1 ≤ w ∧ w ≤ 4) ∧ ∀ k : Nat, (k : Int) < w → wd z k < 24
def xIO : String := "java/lang/IndexOutOfBoundsException"
def xIA : String := "java/lang/IllegalArgumentException"
def xIS : String := "java/lang/IllegalStateException"
theorem fset_self {α : Type} {f : Nat → α} {i : Nat} : fset f i (f i) = f := by
  funext k; unfold fset; split
  · rename_i h; rw [h]
  · rfl
def bitsOf (f : Nat → Bool) : Nat → Int
  | 0 => 0
  | k + 1 => if f k then orI (bitsOf f k) k else bitsOf f k
theorem bitsOf_rng {f : Nat → Bool} : ∀ {k : Nat}, k ≤ 16 → 0 ≤ bitsOf f k ∧ bitsOf f k < 65536
  | 0, _ => by simp [bitsOf]
  | k + 1, h => by
    have ih := bitsOf_rng (f := f) (k := k) (by omega)
    unfold bitsOf
    split
    · exact orI_lt 16 ih.1 ih.2 (by omega) (by omega)
    · exact ih
