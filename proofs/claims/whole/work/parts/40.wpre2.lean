theorem pass_keep {ν ν' : Nat → Int → Int} {q u v : Int} (hv : 0 ≤ v ∧ v < 144) (h : (q = 1 ∧ ν 13 u + 1 < ν 13 v ∧ ν' = up ν 13 v (ν 13 u + 1)) ∨ (q = 0 ∧ ¬ ν 13 u + 1 < ν 13 v ∧ ν' = ν)) (hu : 0 ≤ u ∧ u < 144) (hnn : 0 ≤ ν 13 u) :
    (∀ a, a ≠ 13 → ν' a = ν a) ∧ (∀ (Ed : Int → Int → Prop) (a0 : Int), FI (ν 13) Ed a0 → Ed u v → FI (ν' 13) Ed a0) ∧ ((q = 1 ∧ sm (ν' 13) 144 < sm (ν 13) 144) ∨ (q = 0 ∧ ν' 13 = ν 13 ∧ ν 13 v ≤ ν 13 u + 1)) := by
  rcases h with ⟨e, hlt, rfl⟩ | ⟨e, hlt, rfl⟩
  · refine ⟨fun a g => up_rowf g, fun Ed a0 hF he => hF.relax he hu hv hlt up_self (fun x g => up_at g), Or.inl ⟨e, ?_⟩⟩
    exact (sm_lt (σ := ν 13) (σ' := up ν 13 v (ν 13 u + 1) 13) (b := v) (by rw [up_self]; omega) (fun x g => up_at g) 144).2 hv.1 hv.2
  · exact ⟨fun _ _ => rfl, fun _ _ hF _ => hF, Or.inr ⟨e, rfl, by omega⟩⟩
theorem TrM.keep {ν ν' : Nat → Int → Int} {L : List Int} (h : TrM ν L) (hF : ∀ a, a ≠ 13 → ν' a = ν a) : TrM ν' L := by
  unfold TrM at *
  rw [hF 0 (by omega), hF 8 (by omega), hF 9 (by omega)]; exact h
theorem FrM.st {ν ν' : Nat → Int → Int} (hF : ∀ a, a ≠ 13 → ν' a = ν a) : FrM ν ν' := ⟨fun a h1 h2 => hF a (by omega), by rw [hF 0 (by omega)]⟩
theorem EdK_step {L : List Int} {o : Int} {t : Nat} {x z a c : Int} (hx : L[t]? = some x) (hz : L[t + 1]? = some z) (h : EdK L o (t + 1 + 1) a c) : EdK L o (t + 1) a c ∨ (a = x ∧ c = z) ∨ (o = 0 ∧ a = z ∧ c = x) := by
  obtain ⟨j, hj, h⟩ := h
  by_cases e : j = t
  · subst e
    rw [hx, hz] at h
    simp only [Option.some.injEq] at h
    omega
  · exact Or.inl ⟨j, by omega, h⟩
