theorem fb_holes : ∀ (m n : Nat) (f : Nat → Nat), (∀ i, i < n → f i < m) → (∀ i j, i < j → j < n → f i ≠ f j) → n ≤ m := by
  intro m
  induction m with
  | zero =>
    intro n f h1 _
    rcases Nat.eq_zero_or_pos n with h | h
    · omega
    · exact absurd (h1 0 h) (Nat.not_lt_zero _)
  | succ m ih =>
    intro n f h1 h2
    by_cases hx : ∃ i, i < n ∧ f i = m
    · obtain ⟨a, ha, hfa⟩ := hx
      have hg := ih (n - 1) (fun i => if i < a then f i else f (i + 1)) (by
        intro i hi
        by_cases q : i < a
        · simp only [if_pos q]
          have b1 := h1 i (by omega)
          have b2 := h2 i a q ha
          omega
        · simp only [if_neg q]
          have b1 := h1 (i + 1) (by omega)
          have b2 := h2 a (i + 1) (by omega) (by omega)
          omega) (by
        intro i j hij hj
        by_cases q : i < a
        · by_cases r : j < a
          · simp only [if_pos q, if_pos r]
            exact h2 i j hij (by omega)
          · simp only [if_pos q, if_neg r]
            exact h2 i (j + 1) (by omega) (by omega)
        · have r : ¬ j < a := by omega
          simp only [if_neg q, if_neg r]
          exact h2 (i + 1) (j + 1) (by omega) (by omega))
      omega
    · have hg := ih n f (fun i hi => by
        have b1 := h1 i hi
        have b2 : f i ≠ m := fun e => hx ⟨i, hi, e⟩
        omega) h2
      omega
/-! steps along the streets, walks -/
def EdK (L : List Int) (o : Int) (k : Nat) (a b : Int) : Prop := ∃ j : Nat, j + 1 < k ∧ ((L[j]? = some a ∧ L[j + 1]? = some b) ∨ (o = 0 ∧ L[j + 1]? = some a ∧ L[j]? = some b))
def EdL (L : List Int) (o : Int) (a b : Int) : Prop := EdK L o L.length a b
def EdS (n : Nat) (L : Nat → List Int) (ow : Nat → Int) (a b : Int) : Prop := ∃ s, s < n ∧ EdL (L s) (ow s) a b
def Walk (Ed : Int → Int → Prop) : Nat → Int → Int → Prop
  | 0, a, b => a = b
  | k + 1, a, b => ∃ c, Ed a c ∧ Walk Ed k c b
def IsDist (Ed : Int → Int → Prop) (a b q : Int) : Prop := (q = -1 ∧ ∀ k, ¬ Walk Ed k a b) ∨ ∃ d : Nat, q = d ∧ Walk Ed d a b ∧ ∀ k, Walk Ed k a b → d ≤ k
def IsCount (Ed : Int → Int → Prop) (a q : Int) : Prop := ∃ f : Nat → Bool, (∀ x : Nat, x < 144 → (f x = true ↔ ∃ k, Walk Ed k a x)) ∧ q = (cntN f 144 : Nat)
theorem IsDist.one {Ed : Int → Int → Prop} {a b q q' : Int} (h : IsDist Ed a b q) (h' : IsDist Ed a b q') : q = q' := by
  rcases h with ⟨e, h⟩ | ⟨d, e, h1, h2⟩ <;> rcases h' with ⟨e', h'⟩ | ⟨d', e', h1', h2'⟩
  · omega
  · exact absurd h1' (h d')
  · exact absurd h1 (h' d)
  · have x := h2 d' h1'
    have y := h2' d h1
    omega
theorem IsCount.one {Ed : Int → Int → Prop} {a q q' : Int} (h : IsCount Ed a q) (h' : IsCount Ed a q') : q = q' := by
  obtain ⟨f, h1, e⟩ := h
  obtain ⟨g, h2, e'⟩ := h'
  rw [e, e', cntN_congr (g := g) (fun k hk => by rw [Bool.eq_iff_iff, h1 k hk, h2 k hk])]
theorem Walk.snoc {Ed : Int → Int → Prop} {b c : Int} : ∀ {k : Nat} {a : Int}, Walk Ed k a b → Ed b c → Walk Ed (k + 1) a c
  | 0, a, h, e => ⟨c, by have h : a = b := h; rw [h]; exact e, rfl⟩
  | k + 1, a, ⟨d, h1, h2⟩, e => ⟨d, h1, Walk.snoc h2 e⟩
theorem Walk.app {Ed : Int → Int → Prop} {b c : Int} {j : Nat} : ∀ {k : Nat} {a : Int}, Walk Ed k a b → Walk Ed j b c → Walk Ed (k + j) a c
  | 0, a, h, e => by have h : a = b := h; rw [h, Nat.zero_add]; exact e
  | k + 1, a, ⟨d, h1, h2⟩, e => by rw [show k + 1 + j = k + j + 1 by omega]; exact ⟨d, h1, Walk.app h2 e⟩
theorem Walk.pts {Ed : Int → Int → Prop} {b : Int} : ∀ {k : Nat} {a : Int}, Walk Ed k a b → ∃ f : Nat → Int, f 0 = a ∧ f k = b ∧ ∀ i, i < k → Ed (f i) (f (i + 1))
  | 0, a, h => ⟨fun _ => a, rfl, h, fun i hi => absurd hi (by omega)⟩
  | k + 1, a, ⟨d, h1, h2⟩ => by
    obtain ⟨f, e1, e2, e3⟩ := Walk.pts h2
    refine ⟨fun i => match i with | 0 => a | i + 1 => f i, rfl, e2, fun i hi => ?_⟩
    match i with
    | 0 => show Ed a (f 0); rw [e1]; exact h1
    | i + 1 => exact e3 i (by omega)
theorem Walk.of {Ed : Int → Int → Prop} {f : Nat → Int} : ∀ {k i : Nat}, (∀ j, i ≤ j → j < i + k → Ed (f j) (f (j + 1))) → Walk Ed k (f i) (f (i + k))
  | 0, i, h => rfl
  | k + 1, i, h => ⟨f (i + 1), h i (by omega) (by omega), by rw [show i + (k + 1) = i + 1 + k by omega]; exact Walk.of (fun j h1 h2 => h j (by omega) (by omega))⟩
theorem Walk.least {Ed : Int → Int → Prop} {a b : Int} : ∀ {k : Nat}, Walk Ed k a b → ∃ d, d ≤ k ∧ Walk Ed d a b ∧ ∀ j, Walk Ed j a b → d ≤ j := by
  intro k
  induction k using Nat.strongRecOn with
  | ind k ih =>
    intro h
    by_cases g : ∃ j, j < k ∧ Walk Ed j a b
    · obtain ⟨j, h1, h2⟩ := g
      obtain ⟨d, h3, h4⟩ := ih j h1 h2
      exact ⟨d, by omega, h4⟩
    · exact ⟨k, Nat.le_refl k, h, fun j hj => Nat.le_of_not_lt fun w => g ⟨j, w, hj⟩⟩
/-- a shortest walk is short -/
theorem Walk.short {Ed : Int → Int → Prop} (hR : ∀ a b, Ed a b → (0 ≤ a ∧ a < 144) ∧ 0 ≤ b ∧ b < 144) {a b : Int} {k : Nat} (h : Walk Ed k a b) : ∃ d, d ≤ k ∧ d ≤ 143 ∧ Walk Ed d a b := by
  obtain ⟨d, h1, h2, h3⟩ := h.least
  refine ⟨d, h1, Nat.le_of_not_lt fun hd => ?_, h2⟩
  obtain ⟨f, e1, e2, e3⟩ := h2.pts
  have rg : ∀ q, q ≤ d → 0 ≤ f q ∧ f q < 144 := fun q hq => by
    by_cases g : q < d
    · exact (hR _ _ (e3 q g)).1
    · have := (hR _ _ (e3 (q - 1) (by omega))).2
      rw [show q - 1 + 1 = q by omega] at this
      exact this
  have := fb_holes 144 145 (fun i => (f i).toNat) (fun i hi => by have := rg i (by omega); omega) (fun i j hij hj => by
    intro he
    have r1 := rg i (by omega)
    have r2 := rg j (by omega)
    have he : f i = f j := by omega
    have w1 : Walk Ed i (f 0) (f (0 + i)) := Walk.of (fun q _ hq => e3 q (by omega))
    have w2 : Walk Ed (d - j) (f j) (f (j + (d - j))) := Walk.of (fun q _ hq => e3 q (by omega))
    rw [Nat.zero_add, he] at w1
    have w3 := w1.app w2
    rw [show j + (d - j) = d by omega, e1, e2] at w3
    have := h3 _ w3
    omega)
  omega
theorem EdK_1 {L : List Int} {o a b : Int} : ¬ EdK L o 1 a b := fun ⟨j, h, _⟩ => by omega
theorem EdK_succ {L : List Int} {o a b x y : Int} {k : Nat} (hk : 1 ≤ k) (hx : L[k - 1]? = some x) (hy : L[k]? = some y) : EdK L o (k + 1) a b ↔ EdK L o k a b ∨ (a = x ∧ b = y) ∨ (o = 0 ∧ a = y ∧ b = x) := by
  constructor
  · rintro ⟨j, hj, h⟩
    by_cases e : j + 1 = k
    · have ej : j = k - 1 := by omega
      subst ej
      rw [show k - 1 + 1 = k by omega, hx, hy] at h
      rcases h with ⟨h1, h2⟩ | ⟨h0, h1, h2⟩
      · exact Or.inr (Or.inl ⟨(Option.some.inj h1).symm, (Option.some.inj h2).symm⟩)
      · exact Or.inr (Or.inr ⟨h0, (Option.some.inj h1).symm, (Option.some.inj h2).symm⟩)
    · exact Or.inl ⟨j, by omega, h⟩
  · rintro (⟨j, hj, h⟩ | ⟨rfl, rfl⟩ | ⟨h0, rfl, rfl⟩)
    · exact ⟨j, by omega, h⟩
    · exact ⟨k - 1, by omega, Or.inl ⟨hx, by rw [show k - 1 + 1 = k by omega]; exact hy⟩⟩
    · exact ⟨k - 1, by omega, Or.inr ⟨h0, by rw [show k - 1 + 1 = k by omega]; exact hy, hx⟩⟩
theorem EdK_ge {L : List Int} {o a b : Int} {k : Nat} (hk : L.length ≤ k) : EdK L o k a b ↔ EdL L o a b := by
  constructor
  · rintro ⟨j, hj, h⟩
    refine ⟨j, ?_, h⟩
    rcases h with ⟨_, h⟩ | ⟨_, h, _⟩ <;> exact (List.getElem?_eq_some_iff.mp h).1
  · rintro ⟨j, hj, h⟩
    exact ⟨j, by omega, h⟩
def AdjL (L : List Int) : Prop := ∀ (k : Nat) (a b : Int), L[k]? = some a → L[k + 1]? = some b → a - 13 ≤ b ∧ b ≤ a + 13
theorem stp_rng (a c r : Int) : -13 ≤ stp a c r ∧ stp a c r ≤ 13 := by
  unfold stp
  rcases sg_spec (c - a / 12) with ⟨e1, g1⟩ | ⟨e1, g1⟩ | ⟨e1, g1⟩ <;> rcases sg_spec (r - a % 12) with ⟨e2, g2⟩ | ⟨e2, g2⟩ | ⟨e2, g2⟩ <;> rw [e1, e2] <;> omega
theorem segk_get {a st : Int} {n k : Nat} {x : Int} (h : (segk a st n)[k]? = some x) : k < n ∧ x = a + ((k : Int) + 1) * st := by
  have hk := (List.getElem?_eq_some_iff.mp h).1
  rw [segk_len] at hk
  refine ⟨hk, ?_⟩
  simp [segk, hk] at h
  exact h.symm
theorem AdjL.seg {L : List Int} {a st : Int} {n : Nat} (hL : AdjL (L ++ [a])) (hs : -13 ≤ st ∧ st ≤ 13) : AdjL (L ++ [a] ++ segk a st n) := by
  intro k x y hx hy
  by_cases h1 : k + 1 < (L ++ [a]).length
  · rw [List.getElem?_append_left h1] at hy
    rw [List.getElem?_append_left (by omega)] at hx
    exact hL k x y hx hy
  · rw [List.getElem?_append_right (by omega)] at hy
    obtain ⟨hy1, hy2⟩ := segk_get hy
    simp only [List.length_append, List.length_singleton] at h1 hy1 hy2
    by_cases h2 : k < (L ++ [a]).length
    · rw [List.getElem?_append_left h2] at hx
      simp at h2
      have hkL : k = L.length := by omega
      subst hkL
      simp at hx
      subst hx
      rw [hy2, show L.length + 1 - (L.length + 1) = 0 by omega]
      simp; omega
    · rw [List.getElem?_append_right (by omega)] at hx
      obtain ⟨hx1, hx2⟩ := segk_get hx
      simp only [List.length_append, List.length_singleton] at h2 hx1 hx2
      have e : ((k + 1 - (L.length + 1) : Nat) : Int) = ((k - (L.length + 1) : Nat) : Int) + 1 := by omega
      rw [hy2, hx2, e, Int.add_mul (_ + 1) 1 st]
      omega
theorem trk_adj {p : Nat → Int} : ∀ {m : Nat}, PtOK p m → AdjL (trk p m)
  | 0, _ => fun k a b h => by simp [trk] at h
  | 1, _ => fun k a b _ h => by simp [trk] at h
  | m + 2, h => by
    have h0 : PtOK p (m + 1) := h.less (by omega)
    have ih := trk_adj h0
    obtain ⟨L, hL⟩ := trk_last h0
    show AdjL (trk p (m + 1) ++ seg (p m) (p (m + 1)))
    rw [hL] at ih ⊢
    exact ih.seg (stp_rng _ _ _)
/-! the exits: a square's ways on, as bits -/
def ExOn (μ : Nat → Int → Int) (Ed : Int → Int → Prop) : Prop := ∀ a, 0 ≤ a → a < 144 → 0 ≤ μ 6 a ∧ μ 6 a < 134217728 ∧ ∀ d, 0 ≤ d → d ≤ 26 → (μ 6 a / 2 ^ d.toNat % 2 = 1 ↔ Ed a (a + d - 13))
theorem ExOn.iff {μ : Nat → Int → Int} {P Q : Int → Int → Prop} (h : ExOn μ P) (he : ∀ a b, P a b ↔ Q a b) : ExOn μ Q := fun a a0 a1 => by
  obtain ⟨g1, g2, g3⟩ := h a a0 a1
  exact ⟨g1, g2, fun d d0 d1 => (g3 d d0 d1).trans (he _ _)⟩
theorem ex_or {μ : Nat → Int → Int} {P : Int → Int → Prop} {x y : Int} (h : ExOn μ P) (hx : 0 ≤ x ∧ x < 144) (hy : x - 13 ≤ y ∧ y ≤ x + 13) : ExOn (up μ 6 x (orI (μ 6 x) (y - x + 13))) (fun a b => P a b ∨ (a = x ∧ b = y)) := by
  intro a a0 a1
  obtain ⟨g1, g2, g3⟩ := h a a0 a1
  by_cases e : a = x
  · subst e
    obtain ⟨b1, b2⟩ := orI_lt 27 g1 (by exact g2) (r := y - a + 13) (by omega) (by omega)
    rw [up_self]
    refine ⟨b1, b2, fun d d0 d1 => (orI_bit g1 (by omega) d0).trans ?_⟩
    rw [g3 d d0 d1]
    constructor
    · rintro (h | h)
      · exact Or.inl h
      · exact Or.inr ⟨rfl, by omega⟩
    · rintro (h | h)
      · exact Or.inl h
      · exact Or.inr (by omega)
  · rw [up_at e]
    exact ⟨g1, g2, fun d d0 d1 => (g3 d d0 d1).trans ⟨Or.inl, fun h => h.resolve_right (fun w => e w.1)⟩⟩
/-! outwards: the row of the squares that are reached -/

def BI (μ : Nat → Int → Int) (Ed : Int → Int → Prop) (a0 ct k d : Int) : Prop :=
  (1 ≤ ct ∧ ct ≤ 144 ∧ 0 ≤ k ∧ k ≤ ct) ∧ (∀ j, 0 ≤ j → j < ct → (0 ≤ μ 8 j ∧ μ 8 j < 144) ∧ 0 ≤ μ 7 (μ 8 j) ∧ μ 7 (μ 8 j) ≤ j) ∧
  (∀ x, 0 ≤ x → x < 144 → μ 7 x = 144 ∨ ∃ j, 0 ≤ j ∧ j < ct ∧ μ 8 j = x) ∧ (∀ i j, 0 ≤ i → i ≤ j → j < ct → μ 7 (μ 8 i) ≤ μ 7 (μ 8 j)) ∧
  (k < ct → ∀ j, 0 ≤ j → j < ct → μ 7 (μ 8 j) ≤ μ 7 (μ 8 k) + 1) ∧ (∀ i b, 0 ≤ i → i < k → Ed (μ 8 i) b → μ 7 b ≤ μ 7 (μ 8 i) + 1) ∧
  (∀ x, 0 ≤ x → x < 144 → μ 7 x < 144 → ∃ w : Nat, (w : Int) = μ 7 x ∧ Walk Ed w a0 x) ∧ ct = (cntN (fun x => decide (μ 7 x < 144)) 144 : Nat) ∧ μ 7 a0 = 0 ∧
  (k < ct → ∀ e, 0 ≤ e → e < d → Ed (μ 8 k) (μ 8 k + e - 13) → μ 7 (μ 8 k + e - 13) ≤ μ 7 (μ 8 k) + 1)
theorem cntN_flip {f g : Nat → Bool} {i : Nat} : ∀ {n : Nat}, i < n → f i = false → g i = true → (∀ k, k < n → k ≠ i → g k = f k) → cntN g n = cntN f n + 1
  | 0, h, _, _, _ => absurd h (by omega)
  | n + 1, h, h1, h2, h3 => by
    rw [cntN, cntN]
    by_cases e : i = n
    · subst e
      rw [h1, h2, cntN_congr (f := g) (g := f) (fun k hk => h3 k (by omega) (by omega))]
      simp
    · rw [cntN_flip (n := n) (by omega) h1 h2 (fun k hk => h3 k (by omega)), h3 n (by omega) (by omega)]
      omega
theorem cntN_lt {f : Nat → Bool} {i n : Nat} (h : i < n) (h1 : f i = false) : cntN f n < n := by
  have := cntN_flip (f := f) (g := fun k => if k = i then true else f k) h h1 (by simp) (fun k _ hk => by simp [hk])
  have := cntN_le (fun k => if k = i then true else f k) n
  omega
theorem BI.skip {μ : Nat → Int → Int} {Ed : Int → Int → Prop} {a0 ct k d : Int} (h : BI μ Ed a0 ct k d) (hs : Ed (μ 8 k) (μ 8 k + d - 13) → μ 7 (μ 8 k + d - 13) ≤ μ 7 (μ 8 k) + 1) : BI μ Ed a0 ct k (d + 1) := by
  obtain ⟨h1, h2, h3, h4, h5, h6, h7, h8, h9, h10⟩ := h
  refine ⟨h1, h2, h3, h4, h5, h6, h7, h8, h9, fun hk e e0 e1 he => ?_⟩
  by_cases g : e = d
  · subst g; exact hs he
  · exact h10 hk e e0 (by omega) he
theorem BI.old {μ : Nat → Int → Int} {Ed : Int → Int → Prop} {a0 ct k d x : Int} (h : BI μ Ed a0 ct k d) (hk : k < ct) (hx : 0 ≤ x ∧ x < 144) (hn : μ 7 x ≠ 144) : μ 7 x ≤ μ 7 (μ 8 k) + 1 := by
  obtain ⟨h1, h2, h3, h4, h5, h6, h7, h8, h9, h10⟩ := h
  rcases h3 x hx.1 hx.2 with g | ⟨j, j0, j1, g⟩
  · exact absurd g hn
  · have := h5 hk j j0 j1
    rwa [g] at this
theorem BI.room {μ : Nat → Int → Int} {Ed : Int → Int → Prop} {a0 ct k d x : Int} (h : BI μ Ed a0 ct k d) (hx : 0 ≤ x ∧ x < 144) (hn : μ 7 x = 144) : ct < 144 := by
  obtain ⟨h1, h2, h3, h4, h5, h6, h7, h8, h9, h10⟩ := h
  have := cntN_lt (f := fun x => decide (μ 7 x < 144)) (i := x.toNat) (n := 144) (by omega) (by simp [Int.toNat_of_nonneg hx.1, hn])
  omega
theorem BI.add {μ : Nat → Int → Int} {Ed : Int → Int → Prop} {a0 ct k d : Int} (h : BI μ Ed a0 ct k d) (hk : k < ct) (hEd : Ed (μ 8 k) (μ 8 k + d - 13)) (hx : 0 ≤ μ 8 k + d - 13 ∧ μ 8 k + d - 13 < 144) (hn : μ 7 (μ 8 k + d - 13) = 144) :
    BI (up (up μ 7 (μ 8 k + d - 13) (μ 7 (μ 8 k) + 1)) 8 ct (μ 8 k + d - 13)) Ed a0 (ct + 1) k (d + 1) := by
  have hc := h.room hx hn
  obtain ⟨h1, h2, h3, h4, h5, h6, h7, h8, h9, h10⟩ := h
  have hk2 := h2 k h1.2.2.1 hk
  generalize hy : μ 8 k + d - 13 = y at *
  generalize ha : μ 8 k = a at *
  have q8 : ∀ j, j ≠ ct → up (up μ 7 y (μ 7 a + 1)) 8 ct y 8 j = μ 8 j := fun j hj => by rw [up_at hj, up_row (by omega)]
  have q8c : up (up μ 7 y (μ 7 a + 1)) 8 ct y 8 ct = y := up_self
  have q7 : ∀ x, x ≠ y → up (up μ 7 y (μ 7 a + 1)) 8 ct y 7 x = μ 7 x := fun x hx => by rw [up_row (by omega), up_at hx]
  have q7y : up (up μ 7 y (μ 7 a + 1)) 8 ct y 7 y = μ 7 a + 1 := by rw [up_row (by omega), up_self]
  have qn : ∀ j, 0 ≤ j → j < ct → μ 8 j ≠ y := fun j j0 j1 e => by
    have := h2 j j0 j1
    rw [e, hn] at this
    omega
  generalize up (up μ 7 y (μ 7 a + 1)) 8 ct y = ν at *
  have e8 : ∀ j, 0 ≤ j → j < ct → ν 8 j = μ 8 j := fun j _ j1 => q8 j (by omega)
  have e78 : ∀ j, 0 ≤ j → j < ct → ν 7 (ν 8 j) = μ 7 (μ 8 j) := fun j j0 j1 => by rw [e8 j j0 j1, q7 _ (qn j j0 j1)]
  have ek := e8 k h1.2.2.1 hk
  have ek7 := e78 k h1.2.2.1 hk
  rw [ha] at ek ek7
  have hle : ∀ x, ν 7 x ≤ μ 7 x := fun x => by
    by_cases e : x = y
    · rw [e, q7y, hn]; omega
    · rw [q7 x e]; exact Int.le_refl _
  have ha0 : a0 ≠ y := fun e => by rw [e, hn] at h9; omega
  refine ⟨by omega, fun j j0 j1 => ?_, fun x x0 x1 => ?_, fun i j i0 ij j1 => ?_, fun _ j j0 j1 => ?_, fun i b i0 i1 he => ?_, fun x x0 x1 hx2 => ?_, ?_, by rw [q7 _ ha0]; exact h9, fun _ e e0 e1 he => ?_⟩
  · by_cases e : j = ct
    · subst e; rw [q8c, q7y]; omega
    · rw [e78 j j0 (by omega), e8 j j0 (by omega)]; exact h2 j j0 (by omega)
  · by_cases e : x = y
    · exact Or.inr ⟨ct, by omega, by omega, by rw [q8c, e]⟩
    · rw [q7 x e]
      rcases h3 x x0 x1 with g | ⟨j, j0, j1, g⟩
      · exact Or.inl g
      · exact Or.inr ⟨j, j0, by omega, by rw [e8 j j0 j1]; exact g⟩
  · by_cases e : j = ct
    · subst e
      rw [q8c, q7y]
      by_cases e2 : i = j
      · subst e2; rw [q8c, q7y]; omega
      · rw [e78 i i0 (by omega)]; have := h5 hk i i0 (by omega); omega
    · rw [e78 i i0 (by omega), e78 j (by omega) (by omega)]; exact h4 i j i0 ij (by omega)
  · rw [ek, ← ek, ek7]
    by_cases e : j = ct
    · subst e; rw [q8c, q7y]; omega
    · rw [e78 j j0 (by omega)]; exact h5 hk j j0 (by omega)
  · rw [e8 i i0 (by omega)] at he
    rw [e78 i i0 (by omega)]
    have := h6 i b i0 i1 he
    have := hle b
    omega
  · by_cases e : x = y
    · subst e
      obtain ⟨w, w1, w2⟩ := h7 a hk2.1.1 hk2.1.2 (by omega)
      exact ⟨w + 1, by rw [q7y]; omega, w2.snoc hEd⟩
    · rw [q7 x e] at hx2 ⊢
      exact h7 x x0 x1 hx2
  · rw [cntN_flip (f := fun x => decide (μ 7 x < 144)) (i := y.toNat) (n := 144) (by omega) (by simp [Int.toNat_of_nonneg hx.1, hn]) (by simp [Int.toNat_of_nonneg hx.1, q7y]; omega) (fun j j1 hj => by rw [q7 _ (by omega)]), h8]
    rfl
  · rw [ek] at he ⊢
    rw [← ek, ek7]
    by_cases g : e = d
    · subst g
      rw [ek, hy, q7y]; omega
    · have := h10 hk e e0 (by omega) he
      have := hle (a + e - 13)
      rw [ek]
      omega
theorem BI.next {μ : Nat → Int → Int} {Ed : Int → Int → Prop} {a0 ct k : Int} (h : BI μ Ed a0 ct k 27) (hk : k < ct) (hA : ∀ a b, Ed a b → a - 13 ≤ b ∧ b ≤ a + 13) : BI μ Ed a0 ct (k + 1) 0 := by
  obtain ⟨h1, h2, h3, h4, h5, h6, h7, h8, h9, h10⟩ := h
  refine ⟨by omega, h2, h3, h4, fun hk2 j j0 j1 => ?_, fun i b i0 i1 he => ?_, h7, h8, h9, fun _ e e0 e1 => by omega⟩
  · have := h5 hk j j0 j1
    have := h4 k (k + 1) (by omega) (by omega) hk2
    omega
  · by_cases e : i = k
    · subst e
      have := hA _ _ he
      have := h10 hk (b - μ 8 i + 13) (by omega) (by omega) (by rw [show μ 8 i + (b - μ 8 i + 13) - 13 = b by omega]; exact he)
      rwa [show μ 8 i + (b - μ 8 i + 13) - 13 = b by omega] at this
    · exact h6 i b i0 (by omega) he
/-- behind the last one: the steps are the distances -/
def Dst (μ : Nat → Int → Int) (Ed : Int → Int → Prop) (a0 : Int) : Prop := ∀ x, 0 ≤ x → x < 144 → IsDist Ed a0 x (if 144 ≤ μ 7 x then -1 else μ 7 x)
theorem BI.dist {μ : Nat → Int → Int} {Ed : Int → Int → Prop} {a0 ct : Int} (h : BI μ Ed a0 ct ct 0) (h0 : 0 ≤ a0 ∧ a0 < 144) (hR : ∀ a b, Ed a b → (0 ≤ a ∧ a < 144) ∧ 0 ≤ b ∧ b < 144) : Dst μ Ed a0 ∧ IsCount Ed a0 ct := by
  obtain ⟨h1, h2, h3, h4, h5, h6, h7, h8, h9, h10⟩ := h
  have st : ∀ a b, 0 ≤ a → a < 144 → μ 7 a < 144 → Ed a b → μ 7 b ≤ μ 7 a + 1 := fun a b a0 a1 g he => by
    rcases h3 a a0 a1 with e | ⟨j, j0, j1, e⟩
    · omega
    · have := h6 j b j0 j1 (by rw [e]; exact he)
      rwa [e] at this
  have lt : ∀ (w : Nat) (a x : Int), Walk Ed w a x → 0 ≤ a → a < 144 → μ 7 a < 144 → μ 7 x < 144 ∧ μ 7 x ≤ μ 7 a + w := by
    intro w
    induction w with
    | zero => intro a x hw a0 a1 g; have hw : a = x := hw; subst hw; omega
    | succ w ih =>
      intro a x ⟨c, e1, e2⟩ a0 a1 g
      have r := hR _ _ e1
      have s1 := st a c a0 a1 g e1
      have g2 : μ 7 c < 144 := by
        rcases h3 c r.2.1 r.2.2 with e | ⟨j, j0, j1, e⟩
        · rcases h3 a a0 a1 with e' | ⟨i, i0, i1, e'⟩
          · omega
          · exfalso
            have b1 := h2 i i0 i1
            rw [e'] at b1
            have hfull : (cntN (fun x => decide (μ 7 x < 144)) 144) < 144 := cntN_lt (i := c.toNat) (by omega) (by simp [Int.toNat_of_nonneg r.2.1, e])
            omega
        · have := h2 j j0 j1
          rw [e] at this
          omega
      have := ih c x e2 r.2.1 r.2.2 g2
      omega
  have dd : Dst μ Ed a0 := by
    intro x x0 x1
    by_cases g : 144 ≤ μ 7 x
    · rw [if_pos g]
      refine Or.inl ⟨rfl, fun w hw => ?_⟩
      have := (lt w a0 x hw h0.1 h0.2 (by omega)).1
      omega
    · rw [if_neg g]
      obtain ⟨w, w1, w2⟩ := h7 x x0 x1 (by omega)
      exact Or.inr ⟨w, w1.symm, w2, fun v hv => by
        have := (lt v a0 x hv h0.1 h0.2 (by omega)).2
        omega⟩
  refine ⟨dd, fun x => decide (μ 7 x < 144), fun x hx => ?_, h8⟩
  rw [decide_eq_true_eq]
  constructor
  · intro g
    obtain ⟨w, -, w2⟩ := h7 x (by omega) (by omega) g
    exact ⟨w, w2⟩
  · rintro ⟨w, hw⟩
    exact (lt w a0 x hw h0.1 h0.2 (by omega)).1
/-! backwards: rounds over the streets -/
def SD (μ : Nat → Int → Int) (Ed : Int → Int → Prop) (g : Int) : Prop := ∀ x, 0 ≤ x → x < 144 → (0 ≤ μ 7 x ∧ μ 7 x ≤ 144) ∧ (μ 7 x < 144 → ∃ w : Nat, (w : Int) = μ 7 x ∧ Walk Ed w x g)
theorem SD.tell {μ : Nat → Int → Int} {Ed : Int → Int → Prop} {g x y : Int} (h : SD μ Ed g) (hx : 0 ≤ x ∧ x < 144) (hy : 0 ≤ y ∧ y < 144) (hE : Ed x y) (hl : μ 7 y + 1 < μ 7 x) : SD (up μ 7 x (μ 7 y + 1)) Ed g := by
  intro z z0 z1
  have gx := h x hx.1 hx.2
  have gy := h y hy.1 hy.2
  by_cases e : z = x
  · subst e
    rw [up_self]
    refine ⟨by omega, fun _ => ?_⟩
    obtain ⟨w, w1, w2⟩ := gy.2 (by omega)
    exact ⟨w + 1, by omega, y, hE, w2⟩
  · rw [up_at e]; exact h z z0 z1
theorem dist_of {μ : Nat → Int → Int} {Ed : Int → Int → Prop} {g : Int} (hS : SD μ Ed g) (hl : ∀ (x : Int) (w : Nat), 0 ≤ x → x < 144 → Walk Ed w x g → ∃ w' : Nat, w' ≤ w ∧ μ 7 x ≤ w' ∧ w' ≤ 143) : ∀ x, 0 ≤ x → x < 144 → IsDist Ed x g (if 144 ≤ μ 7 x then -1 else μ 7 x) := by
  intro x x0 x1
  by_cases e : 144 ≤ μ 7 x
  · rw [if_pos e]
    exact Or.inl ⟨rfl, fun w hw => by obtain ⟨w', -, a, c⟩ := hl x w x0 x1 hw; omega⟩
  · rw [if_neg e]
    obtain ⟨w, w1, w2⟩ := (hS x x0 x1).2 (by omega)
    exact Or.inr ⟨w, w1.symm, w2, fun v hv => by obtain ⟨w', a, b, -⟩ := hl x v x0 x1 hv; omega⟩
