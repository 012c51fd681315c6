/-! the order of lists of words, of keys, of streets -/
def rk (w : Int) : Int := wRk w.toNat
def wo : List Int → List Int → Int
  | [], B => sg (0 - (B.length : Int))
  | a :: A, [] => sg ((A.length : Int) + 1)
  | a :: A, b :: B => if rk a = rk b then wo A B else sg (rk a - rk b)
theorem sg_cases (z : Int) : (z < 0 ∧ sg z = -1) ∨ (z = 0 ∧ sg z = 0) ∨ (0 < z ∧ sg z = 1) := by
  unfold sg
  split
  · exact Or.inl ⟨‹_›, rfl⟩
  · split
    · exact Or.inr (Or.inl ⟨‹_›, rfl⟩)
    · exact Or.inr (Or.inr ⟨by omega, rfl⟩)
theorem wo_rng (A : List Int) : ∀ B, -1 ≤ wo A B ∧ wo A B ≤ 1 := by
  induction A with
  | nil => intro B; unfold wo; have := sg_cases (0 - (B.length : Int)); omega
  | cons a A ih =>
    intro B
    cases B with
    | nil => unfold wo; have := sg_cases ((A.length : Int) + 1); omega
    | cons b B =>
      unfold wo
      split
      · exact ih B
      · have := sg_cases (rk a - rk b); omega
theorem wo_anti (A : List Int) : ∀ B, wo B A = - wo A B := by
  induction A with
  | nil =>
    intro B
    cases B with
    | nil => rfl
    | cons b B =>
      unfold wo
      have h1 := sg_cases ((B.length : Int) + 1)
      have h2 := sg_cases (0 - ((b :: B).length : Int))
      rw [List.length_cons] at *
      omega
  | cons a A ih =>
    intro B
    cases B with
    | nil =>
      unfold wo
      have h1 := sg_cases ((A.length : Int) + 1)
      have h2 := sg_cases (0 - ((a :: A).length : Int))
      rw [List.length_cons] at *
      omega
    | cons b B =>
      rw [wo, wo]
      by_cases e : rk a = rk b
      · rw [if_pos e, if_pos e.symm, ih]
      · rw [if_neg e, if_neg (fun g => e g.symm)]
        have h1 := sg_cases (rk a - rk b)
        have h2 := sg_cases (rk b - rk a)
        omega
theorem wo_tr (A : List Int) : ∀ B C, wo A B ≤ 0 → wo B C ≤ 0 → wo A C ≤ 0 := by
  induction A with
  | nil => intro B C _ _; unfold wo; have := sg_cases (0 - (C.length : Int)); omega
  | cons a A ih =>
    intro B C h1 h2
    cases B with
    | nil => unfold wo at h1; have := sg_cases ((A.length : Int) + 1); omega
    | cons b B =>
      cases C with
      | nil => unfold wo at h2; have := sg_cases ((B.length : Int) + 1); omega
      | cons c C =>
        rw [wo] at h1 h2 ⊢
        have g1 := sg_cases (rk a - rk b)
        have g2 := sg_cases (rk b - rk c)
        have g3 := sg_cases (rk a - rk c)
        by_cases e1 : rk a = rk b
        · rw [if_pos e1] at h1
          by_cases e2 : rk b = rk c
          · rw [if_pos e2] at h2
            rw [if_pos (e1.trans e2)]
            exact ih B C h1 h2
          · rw [if_neg e2] at h2
            rw [if_neg (by omega)]
            omega
        · rw [if_neg e1] at h1
          by_cases e2 : rk b = rk c
          · rw [if_neg (by omega)]
            omega
          · rw [if_neg e2] at h2
            rw [if_neg (by omega)]
            omega
theorem wo_self (A : List Int) : wo A A = 0 := by
  have := wo_anti A A
  omega
theorem wo_drop {A B : List Int} {k : Nat} {x y : Int} (ha : A[k]? = some x) (hb : B[k]? = some y) : wo (A.drop k) (B.drop k) = if rk x = rk y then wo (A.drop (k + 1)) (B.drop (k + 1)) else sg (rk x - rk y) := by
  obtain ⟨h1, e1⟩ := List.getElem?_eq_some_iff.mp ha
  obtain ⟨h2, e2⟩ := List.getElem?_eq_some_iff.mp hb
  rw [List.drop_eq_getElem_cons h1, List.drop_eq_getElem_cons h2, wo, e1, e2]
theorem wo_end {A B : List Int} {k : Nat} (h : k = min A.length B.length) : wo (A.drop k) (B.drop k) = sg ((A.length : Int) - B.length) := by
  by_cases g : A.length ≤ B.length
  · rw [List.drop_eq_nil_of_le (as := A) (by omega), wo, List.length_drop]
    congr 1; omega
  · rw [List.drop_eq_nil_of_le (as := B) (by omega)]
    have hl : (A.drop k).length = A.length - k := List.length_drop
    cases e : A.drop k with
    | nil => rw [e] at hl; simp at hl; omega
    | cons a A' =>
      rw [e, List.length_cons] at hl
      rw [wo]
      have h1 := sg_cases ((A'.length : Int) + 1)
      have h2 := sg_cases ((A.length : Int) - B.length)
      omega
def ko (kd : Int → Int) (N : Nat → List Int) (s t : Nat) : Int := wo (keyL kd (N s)) (keyL kd (N t))
def io (kd : Int → Int) (N : Nat → List Int) (s t : Nat) : Int := if ko kd N s t = 0 then (if wo (N s) (N t) = 0 then sg ((s : Int) - t) else wo (N s) (N t)) else ko kd N s t
theorem io_rng (kd : Int → Int) (N : Nat → List Int) (s t : Nat) : -1 ≤ io kd N s t ∧ io kd N s t ≤ 1 := by
  unfold io ko
  have h1 := wo_rng (keyL kd (N s)) (keyL kd (N t))
  have h2 := wo_rng (N s) (N t)
  have h3 := sg_cases ((s : Int) - t)
  split
  · split <;> omega
  · omega
theorem io_anti (kd : Int → Int) (N : Nat → List Int) (s t : Nat) : io kd N t s = - io kd N s t := by
  unfold io ko
  have h1 := wo_anti (keyL kd (N s)) (keyL kd (N t))
  have h2 := wo_anti (N s) (N t)
  have h3 := sg_cases ((s : Int) - t)
  have h4 := sg_cases ((t : Int) - s)
  rw [h1, h2]
  by_cases e1 : wo (keyL kd (N s)) (keyL kd (N t)) = 0
  · rw [if_pos e1, if_pos (by omega)]
    by_cases e2 : wo (N s) (N t) = 0
    · rw [if_pos e2, if_pos (by omega)]
      omega
    · rw [if_neg e2, if_neg (by omega)]
  · rw [if_neg e1, if_neg (by omega)]
theorem io_zero {kd : Int → Int} {N : Nat → List Int} {s t : Nat} (h : io kd N s t = 0) : s = t := by
  unfold io at h
  have h3 := sg_cases ((s : Int) - t)
  split at h
  · split at h
    · omega
    · omega
  · omega
theorem io_self (kd : Int → Int) (N : Nat → List Int) (s : Nat) : io kd N s s = 0 := by
  have := io_anti kd N s s
  omega
theorem io_tr {kd : Int → Int} {N : Nat → List Int} {s t u : Nat} (h1 : io kd N s t ≤ 0) (h2 : io kd N t u ≤ 0) : io kd N s u ≤ 0 := by
  unfold io ko at *
  have a1 := wo_tr (keyL kd (N s)) (keyL kd (N t)) (keyL kd (N u))
  have a2 := wo_tr (keyL kd (N t)) (keyL kd (N u)) (keyL kd (N s))
  have a3 := wo_tr (keyL kd (N u)) (keyL kd (N s)) (keyL kd (N t))
  have b1 := wo_anti (keyL kd (N s)) (keyL kd (N t))
  have b2 := wo_anti (keyL kd (N t)) (keyL kd (N u))
  have b3 := wo_anti (keyL kd (N s)) (keyL kd (N u))
  have c1 := wo_tr (N s) (N t) (N u)
  have c2 := wo_tr (N t) (N u) (N s)
  have c3 := wo_tr (N u) (N s) (N t)
  have d1 := wo_anti (N s) (N t)
  have d2 := wo_anti (N t) (N u)
  have d3 := wo_anti (N s) (N u)
  have g1 := sg_cases ((s : Int) - t)
  have g2 := sg_cases ((t : Int) - u)
  have g3 := sg_cases ((s : Int) - u)
  generalize wo (keyL kd (N s)) (keyL kd (N t)) = A1 at *
  generalize wo (keyL kd (N t)) (keyL kd (N u)) = A2 at *
  generalize wo (keyL kd (N s)) (keyL kd (N u)) = A3 at *
  generalize wo (keyL kd (N t)) (keyL kd (N s)) = A4 at *
  generalize wo (keyL kd (N u)) (keyL kd (N t)) = A5 at *
  generalize wo (keyL kd (N u)) (keyL kd (N s)) = A6 at *
  generalize wo (N s) (N t) = B1 at *
  generalize wo (N t) (N u) = B2 at *
  generalize wo (N s) (N u) = B3 at *
  generalize wo (N t) (N s) = B4 at *
  generalize wo (N u) (N t) = B5 at *
  generalize wo (N u) (N s) = B6 at *
  subst b1 b2 b3 d1 d2 d3
  split at h1 <;> split at h2 <;> split <;> first | omega | (split at h1 <;> split at h2 <;> split <;> omega) | (split at h1 <;> split <;> omega) | (split at h2 <;> split <;> omega) | (split at h1 <;> split at h2 <;> omega) | (split at h1 <;> omega) | (split at h2 <;> omega) | (split <;> omega)
theorem cntN_mono {f g : Nat → Bool} : ∀ {n : Nat}, (∀ k, k < n → f k = true → g k = true) → cntN f n ≤ cntN g n
  | 0, _ => Nat.le_refl 0
  | n + 1, h => by
    have ih := cntN_mono (f := f) (g := g) (n := n) (fun k hk => h k (by omega))
    have h1 := h n (by omega)
    rw [cntN, cntN]
    cases hf : f n with
    | true => rw [h1 hf]; simp; omega
    | false => simp; split <;> omega
theorem cntN_slt {f g : Nat → Bool} : ∀ {n : Nat}, (∀ k, k < n → f k = true → g k = true) → ∀ {s : Nat}, s < n → f s = false → g s = true → cntN f n < cntN g n
  | 0, _, s, hs, _, _ => absurd hs (Nat.not_lt_zero _)
  | n + 1, h, s, hs, h1, h2 => by
    have hle : cntN f n ≤ cntN g n := cntN_mono (fun k hk => h k (by omega))
    rw [cntN, cntN]
    by_cases e : s = n
    · subst e; rw [h1, h2]; simp; omega
    · have := cntN_slt (n := n) (fun k hk => h k (by omega)) (s := s) (by omega) h1 h2
      have h3 := h n (by omega)
      cases hf : f n with
      | true => rw [h3 hf]; simp; omega
      | false => simp; split <;> omega
theorem cntN_all : ∀ n, cntN (fun _ => true) n = n
  | 0 => rfl
  | n + 1 => by rw [cntN, cntN_all n]; rfl
def cnt (kd : Int → Int) (N : Nat → List Int) (n s : Nat) : Nat := cntN (fun k => decide (io kd N k s < 0)) n
theorem cnt_succ {kd : Int → Int} {N : Nat → List Int} {k t : Nat} : cnt kd N (k + 1) t = cnt kd N k t + (if io kd N k t < 0 then 1 else 0) := by
  unfold cnt
  rw [cntN]
  by_cases g : io kd N k t < 0 <;> simp [g]
theorem cnt_lt {kd : Int → Int} {N : Nat → List Int} {n s : Nat} (hs : s < n) : cnt kd N n s < n := by
  have := cntN_slt (f := fun k => decide (io kd N k s < 0)) (g := fun _ => true) (n := n) (fun _ _ _ => rfl) hs (by simp [io_self]) rfl
  rw [cntN_all] at this
  exact this
theorem cnt_mono {kd : Int → Int} {N : Nat → List Int} {n s t : Nat} (hs : s < n) (h : io kd N s t < 0) : cnt kd N n s < cnt kd N n t := by
  refine cntN_slt (fun k hk hf => ?_) hs (by simp [io_self]) (by simpa using h)
  simp only [decide_eq_true_eq] at hf ⊢
  have h1 : io kd N k t ≤ 0 := io_tr (t := s) (by omega) (by omega)
  have h2 : io kd N k t ≠ 0 := fun e => by
    have := io_zero e
    subst this
    have := io_anti kd N s k
    omega
  omega
theorem cnt_inj {kd : Int → Int} {N : Nat → List Int} {n s t : Nat} (hs : s < n) (ht : t < n) (h : cnt kd N n s = cnt kd N n t) : s = t := by
  have h0 := @io_zero kd N s t
  have h1 := @cnt_mono kd N n s t hs
  have h2 := @cnt_mono kd N n t s ht
  have h3 := io_anti kd N s t
  by_cases e : io kd N s t = 0
  · exact h0 e
  · exfalso
    by_cases g : io kd N s t < 0
    · have := h1 g; omega
    · have := h2 (by omega); omega
theorem php : ∀ (n : Nat) (f : Nat → Nat), (∀ s, s < n → f s < n) → (∀ s t, s < n → t < n → f s = f t → s = t) → ∀ v, v < n → ∃ s, s < n ∧ f s = v
  | 0, _, _, _, v, hv => absurd hv (Nat.not_lt_zero _)
  | n + 1, f, h1, h2, v, hv => by
    have hw := h1 n (by omega)
    have hne : ∀ s, s < n → f s ≠ f n := fun s hs e => by have := h2 s n (by omega) (by omega) e; omega
    have ih := php n (fun s => if f n < f s then f s - 1 else f s) (fun s hs => by
      have := h1 s (by omega)
      have := hne s hs
      show (if f n < f s then f s - 1 else f s) < n
      split <;> omega) (fun s t hs ht e => by
      have := hne s hs
      have := hne t ht
      refine h2 s t (by omega) (by omega) ?_
      have e' : (if f n < f s then f s - 1 else f s) = (if f n < f t then f t - 1 else f t) := e
      split at e' <;> split at e' <;> omega)
    by_cases e : v = f n
    · exact ⟨n, by omega, e.symm⟩
    · by_cases g : v < f n
      · obtain ⟨s, hs, es⟩ := ih v (by omega)
        have es' : (if f n < f s then f s - 1 else f s) = v := es
        have := hne s hs
        exact ⟨s, by omega, by split at es' <;> omega⟩
      · obtain ⟨s, hs, es⟩ := ih (v - 1) (by omega)
        have es' : (if f n < f s then f s - 1 else f s) = v - 1 := es
        have := hne s hs
        exact ⟨s, by omega, by split at es' <;> omega⟩
theorem cnt_ex {kd : Int → Int} {N : Nat → List Int} {n v : Nat} (hv : v < n) : ∃ s, s < n ∧ cnt kd N n s = v := php n (cnt kd N n) (fun _ hs => cnt_lt hs) (fun _ _ hs ht h => cnt_inj hs ht h) v hv
theorem FrS.tr {μ μ' μ'' : Nat → Int → Int} (h : FrS μ μ') (h' : FrS μ' μ'') : FrS μ μ'' := fun a h1 h2 h3 h4 h5 => (h' a h1 h2 h3 h4 h5).trans (h a h1 h2 h3 h4 h5)
theorem FrS.rf {μ : Nat → Int → Int} : FrS μ μ := fun _ _ _ _ _ _ => rfl
