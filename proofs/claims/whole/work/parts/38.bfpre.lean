/-! steps told by passes until nothing changes -/
def sm (σ : Int → Int) : Nat → Int
  | 0 => 0
  | k + 1 => sm σ k + σ k
theorem sm_lt {σ σ' : Int → Int} {b : Int} (hb : σ' b < σ b) (ho : ∀ x, x ≠ b → σ' x = σ x) : ∀ n : Nat, sm σ' n ≤ sm σ n ∧ (0 ≤ b → b < n → sm σ' n < sm σ n)
  | 0 => ⟨Int.le_refl _, fun h1 h2 => by omega⟩
  | n + 1 => by
    have ih := sm_lt hb ho n
    rw [sm, sm]
    by_cases e : b = (n : Int)
    · have h : σ' (n : Int) < σ (n : Int) := by rw [← e]; exact hb
      exact ⟨by omega, fun _ _ => by omega⟩
    · have h : σ' (n : Int) = σ (n : Int) := ho _ (fun g => e g.symm)
      exact ⟨by omega, fun h1 h2 => by have := ih.2 h1 (by omega); omega⟩
theorem sm_nn {σ : Int → Int} : ∀ {n : Nat}, (∀ x : Int, 0 ≤ x → x < n → 0 ≤ σ x) → 0 ≤ sm σ n
  | 0, _ => Int.le_refl _
  | n + 1, h => by
    rw [sm]
    have h1 := sm_nn (σ := σ) (n := n) (fun x a c => h x a (by omega))
    have h2 := h (n : Int) (by omega) (by omega)
    omega
def FI (σ : Int → Int) (Ed : Int → Int → Prop) (a0 : Int) : Prop := σ a0 = 0 ∧ ∀ x, 0 ≤ x → x < 144 → (0 ≤ σ x ∧ σ x ≤ 99999) ∧ (σ x = 99999 ∨ ∃ d : Nat, σ x = d ∧ Walk Ed d a0 x)
theorem FI.relax {σ σ' : Int → Int} {Ed : Int → Int → Prop} {a0 a c : Int} (h : FI σ Ed a0) (he : Ed a c) (ha : 0 ≤ a ∧ a < 144) (hc : 0 ≤ c ∧ c < 144) (hlt : σ a + 1 < σ c) (hb : σ' c = σ a + 1) (ho : ∀ x, x ≠ c → σ' x = σ x) : FI σ' Ed a0 := by
  obtain ⟨h0, h1⟩ := h
  have g1 := h1 a ha.1 ha.2
  have g2 := h1 c hc.1 hc.2
  refine ⟨?_, fun x x0 x1 => ?_⟩
  · have e : a0 ≠ c := fun e => by rw [← e] at hlt; omega
    rw [ho _ e]; exact h0
  · by_cases e : x = c
    · subst e
      rw [hb]
      refine ⟨by omega, Or.inr ?_⟩
      rcases g1.2 with e1 | ⟨d, e1, w⟩
      · omega
      · exact ⟨d + 1, by omega, w.snoc he⟩
    · rw [ho _ e]; exact h1 x x0 x1
theorem fix_le {σ : Int → Int} {Ed : Int → Int → Prop} (hfix : ∀ a c, Ed a c → σ c ≤ σ a + 1) {x : Int} : ∀ (k : Nat) (a : Int), Walk Ed k a x → σ x ≤ σ a + k
  | 0, a, h => by
    have h : a = x := h
    rw [h]; omega
  | k + 1, a, ⟨c, h1, h2⟩ => by
    have g1 := fix_le hfix k c h2
    have g2 := hfix a c h1
    omega
theorem FI.dist {σ : Int → Int} {Ed : Int → Int → Prop} {a0 : Int} (h : FI σ Ed a0) (hR : ∀ a c, Ed a c → (0 ≤ a ∧ a < 144) ∧ 0 ≤ c ∧ c < 144) (hfix : ∀ a c, Ed a c → σ c ≤ σ a + 1) {x : Int} (x0 : 0 ≤ x) (x1 : x < 144) : IsDist Ed a0 x (if σ x = 99999 then -1 else σ x) := by
  have hle := fun k => fix_le (x := x) hfix k a0
  rw [h.1] at hle
  by_cases e : σ x = 99999
  · rw [if_pos e]
    refine Or.inl ⟨rfl, fun k w => ?_⟩
    obtain ⟨d, -, h2, w2⟩ := w.short hR
    have := hle d w2
    omega
  · rw [if_neg e]
    rcases (h.2 x x0 x1).2 with g | ⟨d, g, w⟩
    · exact absurd g e
    · exact Or.inr ⟨d, g, w, fun k w2 => by have := hle k w2; omega⟩
theorem FI.count {σ : Int → Int} {Ed : Int → Int → Prop} {a0 : Int} (h : FI σ Ed a0) (hR : ∀ a c, Ed a c → (0 ≤ a ∧ a < 144) ∧ 0 ≤ c ∧ c < 144) (hfix : ∀ a c, Ed a c → σ c ≤ σ a + 1) : IsCount Ed a0 (cntN (fun x => decide (σ (x : Int) < 99999)) 144 : Nat) := by
  refine ⟨_, fun x hx => ?_, rfl⟩
  rw [decide_eq_true_eq]
  constructor
  · intro g
    rcases (h.2 x (by omega) (by omega)).2 with g2 | ⟨d, -, w⟩
    · omega
    · exact ⟨d, w⟩
  · intro ⟨k, w⟩
    obtain ⟨d, -, h2, w2⟩ := w.short hR
    have := fix_le hfix d a0 w2
    rw [h.1] at this
    omega
theorem up_same {ν : Nat → Int → Int} {k : Nat} {j : Int} : up ν k j (ν k j) = ν := by
  funext a c
  unfold up
  split
  · rename_i h; rw [h.1, h.2]
  · rfl
