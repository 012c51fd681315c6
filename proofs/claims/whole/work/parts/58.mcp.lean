/-! the model's letters, spelled -/
def spl (ν : Nat → Int → Int) (w : Nat) (L : List Int) : Nat → Int → Int := fun r c => if r = 1 ∧ 8 * (w : Int) ≤ c ∧ c < 8 * (w : Int) + 7 then L.getD (c - 8 * (w : Int)).toNat 0 else ν r c
def spTab : List (List Int) := [[116, 104, 101, 0, 0, 0, 0], [111, 102, 0, 0, 0, 0, 0], [111, 110, 0, 0, 0, 0, 0], [117, 112, 111, 110, 0, 0, 0], [111, 108, 100, 0, 0, 0, 0], [110, 101, 119, 0, 0, 0, 0], [117, 112, 112, 101, 114, 0, 0], [108, 111, 119, 101, 114, 0, 0], [103, 114, 101, 97, 116, 0, 0], [108, 105, 116, 116, 108, 101, 0], [115, 97, 105, 110, 116, 0, 0], [107, 105, 110, 103, 0, 0, 0], [109, 105, 108, 108, 0, 0, 0], [111, 97, 107, 0, 0, 0, 0], [101, 108, 109, 0, 0, 0, 0], [98, 114, 105, 100, 103, 101, 0], [109, 97, 114, 107, 101, 116, 0], [99, 104, 117, 114, 99, 104, 0], [115, 116, 97, 116, 105, 111, 110], [115, 116, 114, 101, 101, 116, 0], [108, 97, 110, 101, 0, 0, 0], [114, 111, 97, 100, 0, 0, 0], [114, 111, 119, 0, 0, 0, 0], [104, 105, 108, 108, 0, 0, 0]]
def spK : Nat → Nat → Int → Int
  | 0 => fun _ _ => 0
  | k + 1 => spl (spK k) k (spTab.getD k [])
theorem spK_row {a : Nat} (h : a ≠ 1) : ∀ k j, spK k a j = 0
  | 0, _ => rfl
  | k + 1, j => by
    show spl (spK k) k _ a j = 0
    unfold spl
    rw [if_neg (fun g => h g.1)]
    exact spK_row h k j
set_option maxRecDepth 100000 in
theorem spK_tab : ∀ w < 24, ∀ k < 8, spK 24 1 (8 * ((w : Nat) : Int) + ((k : Nat) : Int)) = ltr w k := by decide +kernel
theorem MI_new {ν : Nat → Int → Int} (hK : ∀ j, ν 2 j = kd0 j) (hF : ∀ a, a ≠ 2 → ν a = spK 24 a) : MI ν kd0 0 (fun _ => []) (fun _ => 0) (fun _ => 0) (fun _ _ => 0) := by
  have hq : ∀ i : Nat, PtM ν i (fun _ => 0) 0 := fun i => ⟨by rw [hF 6 (by omega), spK_row (by omega)]; rfl, by omega, ⟨fun k hk => by omega, fun k hk => by omega⟩, fun k hk => by omega⟩
  refine ⟨by rw [hF 0 (by omega), spK_row (by omega)]; rfl, by omega, fun w w0 w1 => ⟨hK w, ?_⟩, fun w k hw hk => by rw [hF 1 (by omega)]; exact spK_tab w hw k hk, fun i hi => by omega, fun i hi => ⟨by rw [hF 7 (by omega), spK_row (by omega)], Or.inl rfl⟩, fun i hi => hq i, fun _ _ => ⟨rfl, rfl⟩⟩
  unfold kd0; split <;> omega
