theorem walk_step {a x y : Int} {s : Nat} (ha : 0 ≤ a ∧ a < 144) (hx : 0 ≤ x ∧ x < 144) (h : a = x ∨ Aln a (x / 12) (x % 12)) (hs : (s : Int) ≤ far a (x / 12) (x % 12)) (hy : y = a + s * stp a (x / 12) (x % 12)) :
    (0 ≤ y ∧ y < 144) ∧ (y = x ↔ (s : Int) = far a (x / 12) (x % 12)) ∧ ((s : Int) < far a (x / 12) (x % 12) → 12 * sg (x / 12 - y / 12) + sg (x % 12 - y % 12) = stp a (x / 12) (x % 12)) := by
  have hf := far_spec a (x / 12) (x % 12)
  have h' := h
  unfold Aln at h'
  have w : (0 ≤ a / 12 + s * sg (x / 12 - a / 12) ∧ a / 12 + s * sg (x / 12 - a / 12) < 12) ∧ 0 ≤ a % 12 + s * sg (x % 12 - a % 12) ∧ a % 12 + s * sg (x % 12 - a % 12) < 12 := by
    generalize far a (x / 12) (x % 12) = F at *
    rcases sg_spec (x / 12 - a / 12) with ⟨e1, g1⟩ | ⟨e1, g1⟩ | ⟨e1, g1⟩ <;> rcases sg_spec (x % 12 - a % 12) with ⟨e2, g2⟩ | ⟨e2, g2⟩ | ⟨e2, g2⟩ <;> rw [e1, e2] <;> omega
  rw [← seg_step] at hy
  have y1 : y / 12 = a / 12 + s * sg (x / 12 - a / 12) := by
    generalize (s : Int) * sg (x / 12 - a / 12) = P at *
    generalize (s : Int) * sg (x % 12 - a % 12) = Q at *
    clear hf h h'
    omega
  have y2 : y % 12 = a % 12 + s * sg (x % 12 - a % 12) := by
    generalize (s : Int) * sg (x / 12 - a / 12) = P at *
    generalize (s : Int) * sg (x % 12 - a % 12) = Q at *
    clear hf h h'
    omega
  have c1 := sg_cases (x / 12 - y / 12)
  have c2 := sg_cases (x % 12 - y % 12)
  have hx2 : x = 12 * (x / 12) + x % 12 := by omega
  have hye : y = x ↔ (y / 12 = x / 12 ∧ y % 12 = x % 12) := by
    constructor
    · intro e; rw [e]; exact ⟨rfl, rfl⟩
    · intro e; omega
  refine ⟨by omega, ?_⟩
  rw [hye]
  unfold stp
  rw [y1, y2] at *
  generalize far a (x / 12) (x % 12) = F at *
  generalize sg (x / 12 - (a / 12 + s * sg (x / 12 - a / 12))) = S1 at *
  generalize sg (x % 12 - (a % 12 + s * sg (x % 12 - a % 12))) = S2 at *
  clear hye y1 y2 hy h w
  have hA : 0 ≤ a / 12 ∧ a / 12 < 12 := by omega
  have hB : 0 ≤ a % 12 ∧ a % 12 < 12 := by omega
  have hC : 0 ≤ x / 12 ∧ x / 12 < 12 := by omega
  have hD : 0 ≤ x % 12 ∧ x % 12 < 12 := by omega
  have h2 : (a / 12 = x / 12 ∧ a % 12 = x % 12) ∨ ¬ (x / 12 = a / 12 ∧ x % 12 = a % 12) ∧ (x / 12 = a / 12 ∨ x % 12 = a % 12 ∨ x / 12 - a / 12 = x % 12 - a % 12 ∨ x / 12 - a / 12 = -(x % 12 - a % 12)) := by
    rcases h' with e | e
    · exact Or.inl ⟨by rw [e], by rw [e]⟩
    · exact Or.inr e
  clear h' hx2 ha hx
  generalize a / 12 = A1 at *
  generalize a % 12 = B1 at *
  generalize x / 12 = C1 at *
  generalize x % 12 = D1 at *
  rcases sg_spec (C1 - A1) with ⟨e1, g1⟩ | ⟨e1, g1⟩ | ⟨e1, g1⟩ <;> rcases sg_spec (D1 - B1) with ⟨e2, g2⟩ | ⟨e2, g2⟩ | ⟨e2, g2⟩ <;> rw [e1] at c1 <;> rw [e2] at c2 <;> rw [e1, e2] <;> exact ⟨⟨fun w => by omega, fun w => by omega⟩, fun w => by omega⟩
theorem far_nn (a x : Int) : 0 ≤ far a (x / 12) (x % 12) := by
  have := far_spec a (x / 12) (x % 12); omega
def qa (p : Nat → Int) : Nat → Int
  | 0 => p 0
  | k + 1 => p k
def qT (p : Nat → Int) : Nat → List Int
  | 0 => [p 0]
  | k + 1 => trk p (k + 1)
theorem qT_seg {p : Nat → Int} {k : Nat} : trk p (k + 1) = qT p k ++ seg (qa p k) (p k) := by
  match k with
  | 0 =>
    have h : far (p 0) (p 0 / 12) (p 0 % 12) = 0 := by
      have := far_spec (p 0) (p 0 / 12) (p 0 % 12); omega
    show [p 0] = [p 0] ++ seg (p 0) (p 0)
    rw [seg, h]; rfl
  | k + 1 => rfl
theorem qT_pos {p : Nat → Int} {k : Nat} (h : 0 < k) : qT p k = trk p k := by
  match k, h with
  | k + 1, _ => rfl
theorem qT_0 {p : Nat → Int} {k : Nat} {a st : Int} : qT p k ++ segk a st 0 = qT p k := by simp [segk]
theorem qa_i1 {p : Nat → Int} {k : Nat} {st : Int} (h : 0 < k) : p (k - 1) = qa p k + ((0 : Nat) : Int) * st := by
  match k, h with
  | k + 1, _ => show p k = p k + 0 * st; rw [Int.zero_mul, Int.add_zero]
theorem qa_i0 {p : Nat → Int} {k : Nat} {st : Int} (h : k = 0) : p k = qa p k + ((0 : Nat) : Int) * st := by
  subst h
  show p 0 = p 0 + 0 * st
  rw [Int.zero_mul, Int.add_zero]
theorem q_ok {p : Nat → Int} {m k : Nat} (h : PtOK p m) (hk : k < m) : (0 ≤ qa p k ∧ qa p k < 144) ∧ (qa p k = p k ∨ Aln (qa p k) (p k / 12) (p k % 12)) := by
  match k, hk with
  | 0, hk => exact ⟨h.1 0 hk, Or.inl rfl⟩
  | k + 1, hk => exact ⟨h.1 k (by omega), Or.inr (h.2 k hk)⟩
theorem arr1 {f : Int → Int} {v : Int} (h : f 0 = v) : ArrL f [v] := by
  intro k x hx
  match k, hx with
  | 0, hx => simp at hx; rw [← hx]; exact h
theorem qT_step {p : Nat → Int} {k s : Nat} {st : Int} : qT p k ++ segk (qa p k) st (s + 1) = qT p k ++ segk (qa p k) st s ++ [qa p k + ((s : Int) + 1) * st] := by rw [segk_succ, List.append_assoc]
theorem qT_len {p : Nat → Int} {m k : Nat} (h : PtOK p m) (hk : k < m) (hm : m ≤ 10) : ((qT p k).length : Int) + far (qa p k) (p k / 12) (p k % 12) ≤ 100 := by
  have h1 := (trk_len (h.less (k := k + 1) (by omega))).1
  rw [qT_seg, List.length_append, seg, segk_len] at h1
  have := far_nn (qa p k) (p k)
  omega
theorem len_snoc (Z : List Int) (x : Int) : ((Z.length : Nat) : Int) + 1 = ((Z ++ [x]).length : Nat) := by simp
def TrM (ν : Nat → Int → Int) (L : List Int) : Prop := ν 0 9 = (L.length : Nat) ∧ ArrL (ν 8) L ∧ ∀ x, 0 ≤ x → x < 144 → (ν 9 x = 1 ∧ x ∈ L) ∨ (ν 9 x = 0 ∧ ¬ x ∈ L)
/-- what drawing a track changes -/
def FrD (ν ν' : Nat → Int → Int) : Prop := (∀ a, a ≠ 0 → a ≠ 8 → a ≠ 9 → ν' a = ν a) ∧ ∀ j, j ≠ 9 → ν' 0 j = ν 0 j
theorem FrD.M {ν ν' : Nat → Int → Int} (h : FrD ν ν') : FrM ν ν' := ⟨fun a h1 h2 => h.1 a (by omega) (by omega) (by omega), h.2 7 (by omega)⟩
def kset (kd : Int → Int) (w k : Int) : Int → Int := fun x => if x = w then k else kd x
theorem MI.setN {ν ν' : Nat → Int → Int} {kd : Int → Int} {n : Nat} {N : Nat → List Int} {ow : Nat → Int} {m : Nat → Nat} {p : Nat → Nat → Int} {i : Nat} {L : List Int} (h : MI ν kd n N ow m p) (hi : i < n) (hN : NmM ν' i L) (hF : ∀ a, a ≠ 3 → a ≠ 4 → ν' a = ν a) (h4 : ∀ j : Int, j ≠ i → ν' 4 j = ν 4 j) (h3 : ∀ j : Int, j < 4 * i ∨ 4 * i + 4 ≤ j → ν' 3 j = ν 3 j) : MI ν' kd n (fset N i L) ow m p := by
  obtain ⟨h1, h2, hk, hl, hn, ho, hp, hz⟩ := h
  refine ⟨by rw [hF 0 (by omega) (by omega)]; exact h1, h2, by rw [hF 2 (by omega) (by omega)]; exact hk, by unfold LtM; rw [hF 1 (by omega) (by omega)]; exact hl, fun j hj => ?_, by rw [hF 7 (by omega) (by omega)]; exact ho, fun j hj => ?_, hz⟩
  · by_cases e : j = i
    · subst e; rw [fset_at]; exact hN
    · rw [fset_ne e]
      obtain ⟨g1, g2, g3, g4, g5⟩ := hn j hj
      exact ⟨by rw [h4 _ (by omega)]; exact g1, g2, g3, fun k x hx => by
        have := (List.getElem?_eq_some_iff.mp hx).1
        rw [h3 _ (by omega)]; exact g4 k x hx, g5⟩
  · have := hp j hj
    unfold PtM at *
    rw [hF 5 (by omega) (by omega), hF 6 (by omega) (by omega)]; exact this
theorem MI.addS {ν ν' : Nat → Int → Int} {kd : Int → Int} {n : Nat} {N : Nat → List Int} {ow : Nat → Int} {m : Nat → Nat} {p : Nat → Nat → Int} {L : List Int} (h : MI ν kd n N ow m p) (hn16 : n < 16) (hN : NmM ν' n L) (hF : ∀ a, a ≠ 3 → a ≠ 4 → ν' a = ν a) (h4 : ∀ j : Int, j ≠ n → ν' 4 j = ν 4 j) (h3 : ∀ j : Int, j < 4 * n ∨ 4 * n + 4 ≤ j → ν' 3 j = ν 3 j) : MI (up ν' 0 7 (n + 1)) kd (n + 1) (fset N n L) ow m p := by
  obtain ⟨h1, h2, hk, hl, hn, ho, hp, hz⟩ := h
  have e : ∀ a, 1 ≤ a → up ν' 0 7 ((n : Int) + 1) a = ν' a := fun a ha => up_rowf (by omega)
  refine ⟨by rw [up_self]; omega, by omega, by rw [e 2 (by omega), hF 2 (by omega) (by omega)]; exact hk, by unfold LtM; rw [e 1 (by omega), hF 1 (by omega) (by omega)]; exact hl, fun j hj => ?_, by rw [e 7 (by omega), hF 7 (by omega) (by omega)]; exact ho, fun j hj => ?_, fun j hj => hz j (by omega)⟩
  · unfold NmM
    rw [e 3 (by omega), e 4 (by omega)]
    by_cases g : j = n
    · subst g; rw [fset_at]; exact hN
    · rw [fset_ne g]
      obtain ⟨g1, g2, g3, g4, g5⟩ := hn j (by omega)
      exact ⟨by rw [h4 _ (by omega)]; exact g1, g2, g3, fun k x hx => by
        have := (List.getElem?_eq_some_iff.mp hx).1
        rw [h3 _ (by omega)]; exact g4 k x hx, g5⟩
  · have := hp j hj
    unfold PtM at *
    rw [e 5 (by omega), e 6 (by omega), hF 5 (by omega) (by omega), hF 6 (by omega) (by omega)]; exact this
theorem MI.setP {ν ν' : Nat → Int → Int} {kd : Int → Int} {n : Nat} {N : Nat → List Int} {ow : Nat → Int} {m : Nat → Nat} {p : Nat → Nat → Int} {i m' : Nat} {p' : Nat → Int} (h : MI ν kd n N ow m p) (hi : i < n) (hP : PtM ν' i p' m') (hF : ∀ a, a ≠ 5 → a ≠ 6 → ν' a = ν a) (h6 : ∀ j : Int, j ≠ i → ν' 6 j = ν 6 j) (h5 : ∀ j : Int, j < 10 * i ∨ 10 * i + 10 ≤ j → ν' 5 j = ν 5 j) : MI ν' kd n N ow (fset m i m') (fset p i p') := by
  obtain ⟨h1, h2, hk, hl, hn, ho, hp, hz⟩ := h
  refine ⟨by rw [hF 0 (by omega) (by omega)]; exact h1, h2, by rw [hF 2 (by omega) (by omega)]; exact hk, by unfold LtM; rw [hF 1 (by omega) (by omega)]; exact hl, fun j hj => ?_, by rw [hF 7 (by omega) (by omega)]; exact ho, fun j hj => ?_, fun j hj => ?_⟩
  · have := hn j hj
    unfold NmM at *
    rw [hF 3 (by omega) (by omega), hF 4 (by omega) (by omega)]; exact this
  · by_cases e : j = i
    · subst e; rw [fset_at, fset_at]; exact hP
    · rw [fset_ne e, fset_ne e]
      obtain ⟨g1, g2, g3, g4⟩ := hp j hj
      exact ⟨by rw [h6 _ (by omega)]; exact g1, g2, g3, fun k hk2 => by rw [h5 _ (by omega)]; exact g4 k hk2⟩
  · rw [fset_ne (by omega)]; exact hz j hj
theorem MI.setO {ν : Nat → Int → Int} {kd : Int → Int} {n : Nat} {N : Nat → List Int} {ow : Nat → Int} {m : Nat → Nat} {p : Nat → Nat → Int} {i : Nat} {f : Int} (h : MI ν kd n N ow m p) (hi : i < n) (hf : f = 0 ∨ f = 1) : MI (up ν 7 i f) kd n N (fset ow i f) m p := by
  obtain ⟨h1, h2, hk, hl, hn, ho, hp, hz⟩ := h
  have e : ∀ a, a ≠ 7 → up ν 7 (i : Int) f a = ν a := fun a ha => up_rowf ha
  refine ⟨by rw [e 0 (by omega)]; exact h1, h2, by rw [e 2 (by omega)]; exact hk, by unfold LtM; rw [e 1 (by omega)]; exact hl, fun j hj => ?_, fun j hj => ?_, fun j hj => ?_, fun j hj => ?_⟩
  · have := hn j hj
    unfold NmM at *
    rw [e 3 (by omega), e 4 (by omega)]; exact this
  · by_cases g : j = i
    · subst g; rw [fset_at, up_self]; exact ⟨rfl, hf⟩
    · rw [fset_ne g, up_at (by omega)]; exact ho j hj
  · have := hp j hj
    unfold PtM at *
    rw [e 5 (by omega), e 6 (by omega)]; exact this
  · rw [fset_ne (by omega)]; exact hz j hj
theorem MI.setK {ν : Nat → Int → Int} {kd : Int → Int} {n : Nat} {N : Nat → List Int} {ow : Nat → Int} {m : Nat → Nat} {p : Nat → Nat → Int} {w k : Int} (h : MI ν kd n N ow m p) (hkr : 0 ≤ k ∧ k ≤ 2) : MI (up ν 2 w k) (kset kd w k) n N ow m p := by
  obtain ⟨h1, h2, hk, hl, hn, ho, hp, hz⟩ := h
  have e : ∀ a, a ≠ 2 → up ν 2 w k a = ν a := fun a ha => up_rowf ha
  refine ⟨by rw [e 0 (by omega)]; exact h1, h2, fun x x0 x1 => ?_, by unfold LtM; rw [e 1 (by omega)]; exact hl, fun j hj => ?_, by rw [e 7 (by omega)]; exact ho, fun j hj => ?_, hz⟩
  · unfold kset
    by_cases g : x = w
    · subst g; rw [up_self, if_pos rfl]; exact ⟨rfl, hkr⟩
    · rw [up_at g, if_neg g]; exact hk x x0 x1
  · have := hn j hj
    unfold NmM at *
    rw [e 3 (by omega), e 4 (by omega)]; exact this
  · have := hp j hj
    unfold PtM at *
    rw [e 5 (by omega), e 6 (by omega)]; exact this
theorem goC_c {k f c : Int} (hk : k = 0 ∨ k = 1) (hf : f = 0 ∨ f = 1) (hc : c = 0 ∨ c = 1) : (k = 0 ∧ goC k f c = 1) ∨ (k = 1 ∧ f = 0 ∧ goC k f c = 2) ∨ (k = 1 ∧ f = 1 ∧ c = 0 ∧ goC k f c = 3) ∨ (k = 1 ∧ f = 1 ∧ c = 1 ∧ goC k f c = 0) := by
  unfold goC
  rcases hk with e | e <;> rcases hf with e2 | e2 <;> rcases hc with e3 | e3 <;> simp [e, e2, e3]
