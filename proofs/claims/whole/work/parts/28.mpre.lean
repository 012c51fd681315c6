/-! the model's state, by the same plan -/
def ltr (w k : Nat) : Int := if k < wL w then wC w k else 0
def NmM (ν : Nat → Int → Int) (i : Nat) (L : List Int) : Prop := ν 4 i = L.length ∧ 1 ≤ L.length ∧ L.length ≤ 4 ∧ (∀ (k : Nat) (x : Int), L[k]? = some x → ν 3 (4 * i + k) = x) ∧ ∀ w ∈ L, 0 ≤ w ∧ w < 24
def PtM (ν : Nat → Int → Int) (i : Nat) (p : Nat → Int) (m : Nat) : Prop := ν 6 i = m ∧ m ≤ 10 ∧ PtOK p m ∧ ∀ k : Nat, k < m → ν 5 (10 * i + k) = p k
def LtM (ν : Nat → Int → Int) : Prop := ∀ w k : Nat, w < 24 → k < 8 → ν 1 (8 * w + k) = ltr w k
def MI (ν : Nat → Int → Int) (kd : Int → Int) (n : Nat) (N : Nat → List Int) (ow : Nat → Int) (m : Nat → Nat) (p : Nat → Nat → Int) : Prop :=
  ν 0 7 = n ∧ n ≤ 16 ∧ (∀ w, 0 ≤ w → w < 24 → ν 2 w = kd w ∧ 0 ≤ kd w ∧ kd w ≤ 2) ∧ LtM ν ∧ (∀ i, i < n → NmM ν i (N i)) ∧ (∀ i : Nat, i < 16 → ν 7 i = ow i ∧ (ow i = 0 ∨ ow i = 1)) ∧ (∀ i, i < 16 → PtM ν i (p i) (m i)) ∧ ∀ i, n ≤ i → ow i = 0 ∧ m i = 0
/-- what the model's methods use as paper -/
def FrM (ν ν' : Nat → Int → Int) : Prop := (∀ a, 1 ≤ a → a ≤ 7 → ν' a = ν a) ∧ ν' 0 7 = ν 0 7
theorem FrM.rf {ν : Nat → Int → Int} : FrM ν ν := ⟨fun _ _ _ => rfl, rfl⟩
theorem FrM.tr {ν ν' ν'' : Nat → Int → Int} (h : FrM ν ν') (h' : FrM ν' ν'') : FrM ν ν'' := ⟨fun a h1 h2 => (h'.1 a h1 h2).trans (h.1 a h1 h2), h'.2.trans h.2⟩
theorem FrM.last {ν : Nat → Int → Int} {z : Int} : FrM ν (up ν 0 16 z) := ⟨fun a h1 _ => up_rowf (by omega), by unfold up; rw [if_neg (by omega)]⟩
theorem MI.scratch {ν ν' : Nat → Int → Int} {kd : Int → Int} {n : Nat} {N : Nat → List Int} {ow : Nat → Int} {m : Nat → Nat} {p : Nat → Nat → Int} (h : MI ν kd n N ow m p) (hF : FrM ν ν') : MI ν' kd n N ow m p := by
  obtain ⟨h1, h2, h3, h4, h5, h6, h7, h8⟩ := h
  refine ⟨by rw [hF.2]; exact h1, h2, by rw [hF.1 2 (by omega) (by omega)]; exact h3, by unfold LtM; rw [hF.1 1 (by omega) (by omega)]; exact h4, fun i hi => ?_, by rw [hF.1 7 (by omega) (by omega)]; exact h6, fun i hi => ?_, h8⟩
  · have := h5 i hi
    unfold NmM at *
    rw [hF.1 3 (by omega) (by omega), hF.1 4 (by omega) (by omega)]; exact this
  · have := h7 i hi
    unfold PtM at *
    rw [hF.1 5 (by omega) (by omega), hF.1 6 (by omega) (by omega)]; exact this
def goC (k f c : Int) : Int := if k = 0 then 1 else if f = 0 then 2 else if c = 0 then 3 else 0
theorem goC_rng (k f c : Int) : 0 ≤ goC k f c ∧ goC k f c ≤ 3 := by
  unfold goC; split
  · omega
  · split
    · omega
    · split <;> omega
theorem b01n {q : Int} (h : q = 0 ∨ q = 1) : narrow .boolean (.int (zI q)) = .int (zI q) := by rcases h with rfl | rfl <;> rfl
def wTb2 : Bool := (List.range 24).all fun i => (List.range 24).all fun j => ((List.range 8).all fun k => !((List.range k).all fun t => ltr i t == ltr j t) || ltr i k == ltr j k || sg (ltr i k - ltr j k) == sg (wRk i - wRk j)) && (!((List.range 8).all fun t => ltr i t == ltr j t) || sg (wRk i - wRk j) == 0) && (List.range 8).all fun k => decide (0 ≤ ltr i k ∧ ltr i k < 128)
set_option maxRecDepth 100000 in
theorem wTb2_true : wTb2 = true := by decide +kernel
theorem l_ord {i j : Nat} (hi : i < 24) (hj : j < 24) : (∀ k, k < 8 → (∀ t, t < k → ltr i t = ltr j t) → ltr i k ≠ ltr j k → sg (ltr i k - ltr j k) = sg (wRk i - wRk j)) ∧ ((∀ t, t < 8 → ltr i t = ltr j t) → sg (wRk i - wRk j) = 0) ∧ ∀ k, k < 8 → 0 ≤ ltr i k ∧ ltr i k < 128 := by
  have h := List.all_eq_true.mp (List.all_eq_true.mp wTb2_true i (List.mem_range.mpr hi)) j (List.mem_range.mpr hj)
  rw [Bool.and_eq_true, Bool.and_eq_true] at h
  refine ⟨fun k h1 h3 hne => ?_, fun h3 => ?_, fun k hk => ?_⟩
  · have h4 := List.all_eq_true.mp h.1.1 k (List.mem_range.mpr (by omega))
    have h5 : ((List.range k).all fun t => ltr i t == ltr j t) = true := List.all_eq_true.mpr fun t ht => by simpa using h3 t (List.mem_range.mp ht)
    rw [h5] at h4
    simpa [hne] using h4
  · have h4 := h.1.2
    have h5 : ((List.range 8).all fun t => ltr i t == ltr j t) = true := List.all_eq_true.mpr fun t ht => by simpa using h3 t (List.mem_range.mp ht)
    rw [h5] at h4
    simpa using h4
  · simpa using List.all_eq_true.mp h.2 k (List.mem_range.mpr hk)
