/-! the model's line: the same text -/
def LnM (ν : Nat → Int → Int) (T : List Int) : Prop := ν 0 14 = T.length ∧ ArrL (ν 12) T
def FrX (ν ν' : Nat → Int → Int) : Prop := (∀ a, a ≠ 0 → a ≠ 8 → a ≠ 9 → a ≠ 12 → ν' a = ν a) ∧ ∀ j, j ≠ 9 → j ≠ 14 → ν' 0 j = ν 0 j
theorem FrX.rf {ν : Nat → Int → Int} : FrX ν ν := ⟨fun _ _ _ _ _ => rfl, fun _ _ _ => rfl⟩
theorem FrX.tr {ν ν' ν'' : Nat → Int → Int} (h : FrX ν ν') (h' : FrX ν' ν'') : FrX ν ν'' := ⟨fun a h1 h2 h3 h4 => (h'.1 a h1 h2 h3 h4).trans (h.1 a h1 h2 h3 h4), fun j h1 h2 => (h'.2 j h1 h2).trans (h.2 j h1 h2)⟩
theorem FrX.M {ν ν' : Nat → Int → Int} (h : FrX ν ν') : FrM ν ν' := ⟨fun a h1 h2 => h.1 a (by omega) (by omega) (by omega) (by omega), h.2 7 (by omega) (by omega)⟩
def FrL (ν ν' : Nat → Int → Int) : Prop := (∀ a, a ≠ 0 → a ≠ 12 → ν' a = ν a) ∧ ∀ j, j ≠ 14 → ν' 0 j = ν 0 j
theorem FrL.rf {ν : Nat → Int → Int} : FrL ν ν := ⟨fun _ _ _ => rfl, fun _ _ => rfl⟩
theorem FrL.tr {ν ν' ν'' : Nat → Int → Int} (h : FrL ν ν') (h' : FrL ν' ν'') : FrL ν ν'' := ⟨fun a h1 h2 => (h'.1 a h1 h2).trans (h.1 a h1 h2), fun j h1 => (h'.2 j h1).trans (h.2 j h1)⟩
theorem FrL.X {ν ν' : Nat → Int → Int} (h : FrL ν ν') : FrX ν ν' := ⟨fun a h1 _ _ h4 => h.1 a h1 h4, fun j _ h2 => h.2 j h2⟩
theorem FrD.X {ν ν' : Nat → Int → Int} (h : FrD ν ν') : FrX ν ν' := ⟨fun a h1 h2 h3 _ => h.1 a h1 h2 h3, fun j h1 _ => h.2 j h1⟩
theorem LnM.ofD {ν ν' : Nat → Int → Int} {T : List Int} (h : LnM ν T) (hF : FrD ν ν') : LnM ν' T := by
  unfold LnM at *
  rw [hF.2 14 (by omega), hF.1 12 (by omega) (by omega) (by omega)]; exact h
theorem TrM.ofL {ν ν' : Nat → Int → Int} {L : List Int} (h : TrM ν L) (hF : FrL ν ν') : TrM ν' L := by
  unfold TrM at *
  rw [hF.2 9 (by omega), hF.1 8 (by omega) (by omega), hF.1 9 (by omega) (by omega)]; exact h
theorem NmM.ofL {ν ν' : Nat → Int → Int} {i : Nat} {L : List Int} (h : NmM ν i L) (hF : FrL ν ν') : NmM ν' i L := h.same (hF.1 3 (by omega) (by omega)) (hF.1 4 (by omega) (by omega))
theorem KdM.ofL {ν ν' : Nat → Int → Int} {kd : Int → Int} (h : KdM ν kd) (hF : FrL ν ν') : KdM ν' kd := by
  unfold KdM at *
  rw [hF.1 2 (by omega) (by omega)]; exact h
theorem LtM.ofL {ν ν' : Nat → Int → Int} (h : LtM ν) (hF : FrL ν ν') : LtM ν' := by
  unfold LtM at *
  rw [hF.1 1 (by omega) (by omega)]; exact h
def selA (a : Int) (kd : Int → Int) (v : Int) (N : List Int) : List Int := N.filter (fun w => decide (a = 1 ∨ mvd kd w = v))
theorem selA_step {a : Int} {kd : Int → Int} {v : Int} {N : List Int} {j : Nat} {x : Int} (h : N[j]? = some x) : selA a kd v (N.take (j + 1)) = selA a kd v (N.take j) ++ (if a = 1 ∨ mvd kd x = v then [x] else []) := by
  unfold selA
  rw [List.take_succ, h, List.filter_append]
  by_cases e : a = 1 ∨ mvd kd x = v <;> simp [e]
theorem selA_1 {kd : Int → Int} {v : Int} {N : List Int} : selA 1 kd v N = N := by
  unfold selA
  rw [List.filter_eq_self]
  intro w _
  simp
theorem selA_0 {kd : Int → Int} {v : Int} {N : List Int} : selA 0 kd v N = selK kd v N := by
  unfold selA selK
  congr 1
  funext w
  simp
theorem ltr_tab : ∀ w < 24, ∀ k < 8, (0 < ltr w k ↔ k < wL w) := by decide +kernel
theorem ltr_at {w k : Nat} (h : k < wL w) : ltr w k = wC w k := by unfold ltr; rw [if_pos h]
theorem word_take {w k : Nat} (h : k < wL w) : (wordT w).take (k + 1) = (wordT w).take k ++ [wC w k] := by
  rw [List.take_succ]
  have e : (wordT w)[k]? = some (wC w k) := by
    unfold wordT
    rw [List.getElem?_map, List.getElem?_range h]; rfl
  rw [e]; rfl
theorem word_all {w : Nat} : (wordT w).take (wL w) = wordT w := by
  rw [List.take_of_length_le (by rw [wordT_len]; exact Nat.le_refl _)]
theorem nameT_all {kd : Int → Int} {N : List Int} (h : (filK kd 2 N).length = 0 ∨ (filK kd 2 N).length = N.length) : nameT kd N = joinT N := by
  have q1 := selK_sum kd N
  rw [← selK_two] at h
  unfold nameT
  rcases h with h | h
  · rw [if_neg (by omega), selK_nil' h, List.length_eq_zero_iff.mp h]
    simp [joinT]
  · have h0 : (selK kd 0 N).length = 0 := by omega
    rw [if_neg (by omega), selK_nil h0, List.length_eq_zero_iff.mp h0]
    simp [joinT]
theorem nameT_some {kd : Int → Int} {N : List Int} (h0 : (filK kd 2 N).length ≠ 0) (h1 : (filK kd 2 N).length ≠ N.length) : nameT kd N = joinT (selK kd 0 N) ++ ([44, 32] ++ joinT (selK kd 1 N)) := by
  have q1 := selK_sum kd N
  rw [← selK_two] at h0 h1
  unfold nameT
  rw [if_pos ⟨by omega, by omega⟩]
