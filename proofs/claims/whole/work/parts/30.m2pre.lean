theorem NmM.at {ν : Nat → Int → Int} {i : Nat} {L : List Int} (h : NmM ν i L) {z : Int} (h0 : 0 ≤ z) (h1 : z < L.length) : ∃ x, L[z.toNat]? = some x ∧ ν 3 (4 * i + z) = x ∧ 0 ≤ x ∧ x < 24 := by
  have hz : z.toNat < L.length := by omega
  refine ⟨L[z.toNat], List.getElem?_eq_getElem hz, ?_, h.2.2.2.2 _ (List.getElem_mem hz)⟩
  have := h.2.2.2.1 z.toNat _ (List.getElem?_eq_getElem hz)
  rwa [Int.toNat_of_nonneg h0] at this
def kyP (kd : Int → Int) (N : List Int) (g : Int) : List Int := if g < 1 then [] else if g < 3 then filK kd 0 N else filK kd 0 N ++ filK kd 2 N
theorem kyP_next {kd : Int → Int} {N : List Int} {g : Int} (h : g = 0 ∨ g = 2) : kyP kd N (g + 2) = kyP kd N g ++ filK kd g N := by
  rcases h with rfl | rfl <;> simp [kyP]
theorem kyP_len {kd : Int → Int} {N : List Int} {g : Int} (h : g = 0 ∨ g = 2) : (kyP kd N g).length + (filK kd g N).length ≤ N.length := by
  have := filK_sum (kd := kd) (N := N)
  rcases h with rfl | rfl <;> simp [kyP] <;> omega
def ioT (kd : Int → Int) (N : Nat → List Int) (s t : Nat) : Int := if ko kd N s t = 0 then wo (N s) (N t) else ko kd N s t
theorem io_T (kd : Int → Int) (N : Nat → List Int) (s t : Nat) : io kd N s t = if ioT kd N s t = 0 then sg ((s : Int) - t) else ioT kd N s t := by
  unfold io ioT
  by_cases e : ko kd N s t = 0
  · rw [if_pos e, if_pos e]
  · rw [if_neg e, if_neg e, if_neg e]
def KdM (ν : Nat → Int → Int) (kd : Int → Int) : Prop := ∀ w, 0 ≤ w → w < 24 → ν 2 w = kd w ∧ 0 ≤ kd w ∧ kd w ≤ 2
theorem NmM.same {ν ν' : Nat → Int → Int} {i : Nat} {L : List Int} (h : NmM ν i L) (e3 : ν' 3 = ν 3) (e4 : ν' 4 = ν 4) : NmM ν' i L := by
  unfold NmM at *; rw [e3, e4]; exact h
theorem FrM.of {ν ν' : Nat → Int → Int} (h : ∀ a, a ≠ 10 → a ≠ 11 → ν' a = ν a) : FrM ν ν' := ⟨fun a h1 h2 => h a (by omega) (by omega), by rw [h 0 (by omega) (by omega)]⟩
