/-! the law: a line, word by word and run by run -/
def mvc (kd : Int → Int) (N : List Int) : Nat := (filK kd 2 N).length
def ltb (kd : Int → Int) (N : List Int) (w : Int) : Bool := decide (mvc kd N < N.length) && decide (kd w = 2)
def PA (kd : Int → Int) (N : List Int) (k : Nat) : List Int := (N.take (min k 4)).filter (fun w => !ltb kd N w)
def PB (kd : Int → Int) (N : List Int) (k : Nat) : List Int := (N.take (k - 4)).filter (fun w => ltb kd N w)
def tx (X Y : List Int) : List Int := joinT X ++ ((if Y = [] then [] else [44, 32]) ++ joinT Y)
def PT (kd : Int → Int) (N : List Int) (k : Nat) : List Int := tx (PA kd N k) (PB kd N k)
def pn (kd : Int → Int) (N : List Int) (k : Nat) : Nat := (PA kd N k).length + (PB kd N k).length
theorem filt_sum (f : Int → Bool) (N : List Int) : (N.filter f).length + (N.filter (fun w => !f w)).length = N.length := by
  induction N with
  | nil => rfl
  | cons a N ih => cases h : f a <;> simp [h] <;> omega
theorem mvc_le (kd : Int → Int) (N : List Int) : mvc kd N ≤ N.length := List.length_filter_le _ _
theorem PA_0 {kd : Int → Int} {N : List Int} : PT kd N 0 = [] ∧ pn kd N 0 = 0 := by
  constructor <;> simp [PT, pn, PA, PB, tx, joinT]
theorem PA_ge {kd : Int → Int} {N : List Int} {k : Nat} (hk : 4 ≤ k) (hN : N.length ≤ 4) : PA kd N k = N.filter (fun w => !ltb kd N w) := by
  unfold PA
  rw [show min k 4 = 4 by omega, List.take_of_length_le hN]
theorem PB_lt {kd : Int → Int} {N : List Int} {k : Nat} (hk : k ≤ 4) : PB kd N k = [] := by
  unfold PB
  rw [show k - 4 = 0 by omega]; rfl
theorem PA_full {kd : Int → Int} {N : List Int} (h : mvc kd N < N.length) : (N.filter (fun w => !ltb kd N w)).length = N.length - mvc kd N := by
  have h1 := filt_sum (fun w => ltb kd N w) N
  have e : N.filter (fun w => ltb kd N w) = filK kd 2 N := by
    unfold filK
    congr 1
    funext w
    unfold ltb
    simp [h]
  rw [e] at h1
  unfold mvc at *
  omega
theorem PA_ne {kd : Int → Int} {N : List Int} (hN : 1 ≤ N.length) : 0 < (N.filter (fun w => !ltb kd N w)).length := by
  by_cases h : mvc kd N < N.length
  · rw [PA_full h]; omega
  · have e : N.filter (fun w => !ltb kd N w) = N := by
      rw [List.filter_eq_self]
      intro w _
      unfold ltb
      simp [h]
    rw [e]; omega
theorem PT_8 {kd : Int → Int} {N : List Int} (hN : 1 ≤ N.length ∧ N.length ≤ 4) : PT kd N 8 = nameT kd N := by
  have s1 := selK_sum kd N
  have s2 := selK_two kd N
  have hm := mvc_le kd N
  unfold PT
  rw [PA_ge (by omega) hN.2]
  have eB : PB kd N 8 = N.filter (fun w => ltb kd N w) := by
    unfold PB
    rw [show 8 - 4 = 4 from rfl, List.take_of_length_le hN.2]
  rw [eB]
  unfold nameT tx
  by_cases h : mvc kd N < N.length
  · have e1 : N.filter (fun w => !ltb kd N w) = selK kd 0 N := by
      unfold selK
      congr 1
      funext w
      unfold ltb mvd
      by_cases g : kd w = 2 <;> simp [h, g]
    have e2 : N.filter (fun w => ltb kd N w) = selK kd 1 N := by
      unfold selK
      congr 1
      funext w
      unfold ltb mvd
      by_cases g : kd w = 2 <;> simp [h, g]
    rw [e1, e2]
    have e3 : 0 < (selK kd 0 N).length := by
      rw [s2] at s1
      unfold mvc at h
      omega
    by_cases g : selK kd 1 N = []
    · rw [if_pos g, if_neg (fun q => by rw [g] at q; exact absurd q.2 (by decide))]
    · rw [if_neg g, if_pos ⟨e3, List.length_pos_iff.mpr g⟩]
  · have e1 : N.filter (fun w => !ltb kd N w) = N := by
      rw [List.filter_eq_self]
      intro w _
      unfold ltb
      simp [h]
    have e2 : N.filter (fun w => ltb kd N w) = [] := by
      rw [List.filter_eq_nil_iff]
      intro w _
      unfold ltb
      simp [h]
    have e0 : (selK kd 0 N).length = 0 := by
      rw [s2] at s1
      unfold mvc at h hm
      omega
    rw [e1, e2, selK_nil e0, List.length_eq_zero_iff.mp e0, if_pos rfl, if_neg (fun q => absurd q.1 (by decide))]
    simp [joinT]
theorem PT_skip {kd : Int → Int} {N : List Int} {k : Nat} (hk : k < 8) (h : N.length ≤ k % 4 ∨ ∃ x, N[k % 4]? = some x ∧ ltb kd N x ≠ decide (3 < k)) : PT kd N (k + 1) = PT kd N k ∧ pn kd N (k + 1) = pn kd N k := by
  have hA : PA kd N (k + 1) = PA kd N k := by
    unfold PA
    by_cases g : k < 4
    · rw [show min (k + 1) 4 = k + 1 by omega, show min k 4 = k by omega]
      rw [show k % 4 = k by omega] at h
      rcases h with h | ⟨x, hx, hl⟩
      · rw [List.take_of_length_le (i := k + 1) (by omega), List.take_of_length_le (i := k) (by omega)]
      · rw [show decide (3 < k) = false from decide_eq_false (by omega)] at hl
        rw [List.take_succ, hx, List.filter_append]
        cases e : ltb kd N x
        · exact absurd e hl
        · simp [e]
    · rw [show min (k + 1) 4 = 4 by omega, show min k 4 = 4 by omega]
  have hB : PB kd N (k + 1) = PB kd N k := by
    unfold PB
    by_cases g : k < 4
    · rw [show k + 1 - 4 = 0 by omega, show k - 4 = 0 by omega]
    · rw [show k + 1 - 4 = k - 4 + 1 by omega]
      rw [show k % 4 = k - 4 by omega] at h
      rcases h with h | ⟨x, hx, hl⟩
      · rw [List.take_of_length_le (i := k - 4 + 1) (by omega), List.take_of_length_le (i := k - 4) (by omega)]
      · rw [show decide (3 < k) = true from decide_eq_true (by omega)] at hl
        rw [List.take_succ, hx, List.filter_append]
        cases e : ltb kd N x
        · simp [e]
        · exact absurd e hl
  unfold PT pn
  rw [hA, hB]
  exact ⟨rfl, rfl⟩
theorem PT_take {kd : Int → Int} {N : List Int} {k : Nat} {x : Int} (hk : k < 8) (hN : 1 ≤ N.length ∧ N.length ≤ 4) (hx : N[k % 4]? = some x) (hl : ltb kd N x = decide (3 < k)) : pn kd N (k + 1) = pn kd N k + 1 ∧ (pn kd N k = 0 → PT kd N (k + 1) = PT kd N k ++ wordT x.toNat) ∧ (pn kd N k ≠ 0 → 3 < k → pn kd N k = N.length - mvc kd N → PT kd N (k + 1) = PT kd N k ++ ([44, 32] ++ wordT x.toNat)) ∧ (pn kd N k ≠ 0 → ¬ (3 < k ∧ pn kd N k = N.length - mvc kd N) → PT kd N (k + 1) = PT kd N k ++ ([32] ++ wordT x.toNat)) := by
  have jn : ∀ w : Int, joinT [w] = wordT w.toNat := fun w => rfl
  by_cases g : k < 4
  · have hA : PA kd N (k + 1) = PA kd N k ++ [x] := by
      unfold PA
      rw [show min (k + 1) 4 = k + 1 by omega, show min k 4 = k by omega]
      rw [show k % 4 = k by omega] at hx
      rw [show decide (3 < k) = false from decide_eq_false (by omega)] at hl
      rw [List.take_succ, hx, List.filter_append]
      simp [hl]
    have b1 := PB_lt (kd := kd) (N := N) (k := k + 1) (by omega)
    have b0 := PB_lt (kd := kd) (N := N) (k := k) (by omega)
    unfold PT pn tx
    rw [hA, b1, b0, if_pos rfl, joinT_snoc]
    refine ⟨by simp, fun h => ?_, fun _ h => absurd h (by omega), fun h _ => ?_⟩
    · have e : PA kd N k = [] := List.length_eq_zero_iff.mp (by simpa using h)
      rw [e]; simp [joinT]
    · have e : ¬ PA kd N k = [] := fun e => h (by rw [e]; rfl)
      rw [if_neg e]; simp [joinT]
  · have hB : PB kd N (k + 1) = PB kd N k ++ [x] := by
      unfold PB
      rw [show k + 1 - 4 = k - 4 + 1 by omega]
      rw [show k % 4 = k - 4 by omega] at hx
      rw [show decide (3 < k) = true from decide_eq_true (by omega)] at hl
      rw [List.take_succ, hx, List.filter_append]
      simp [hl]
    have a1 := PA_ge (kd := kd) (N := N) (k := k + 1) (by omega) hN.2
    have a0 := PA_ge (kd := kd) (N := N) (k := k) (by omega) hN.2
    have hne := PA_ne (kd := kd) hN.1
    have hmv : mvc kd N < N.length := by
      rw [show decide (3 < k) = true from decide_eq_true (by omega)] at hl
      unfold ltb at hl
      rw [Bool.and_eq_true, decide_eq_true_eq] at hl
      exact hl.1
    have hf := PA_full hmv
    unfold PT pn tx
    rw [a1, a0, hB]
    rw [← hf]
    generalize N.filter (fun w => !ltb kd N w) = AA at *
    rw [if_neg (by simp), joinT_snoc]
    refine ⟨by simp; omega, fun h => by omega, fun _ _ h => ?_, fun _ h => ?_⟩
    · have e : PB kd N k = [] := List.length_eq_zero_iff.mp (by omega)
      rw [e]; simp [joinT]
    · have e : ¬ PB kd N k = [] := fun e => h ⟨by omega, by rw [e]; rfl⟩
      rw [if_neg e, if_neg e]; simp
theorem PT_pre {kd : Int → Int} {N : List Int} (hN : 1 ≤ N.length ∧ N.length ≤ 4) : ∀ d k, k + d = 8 → ∃ R, PT kd N 8 = PT kd N k ++ R
  | 0, k, h => ⟨[], by rw [show k = 8 by omega, List.append_nil]⟩
  | d + 1, k, h => by
    obtain ⟨R, hR⟩ := PT_pre (kd := kd) hN d (k + 1) (by omega)
    by_cases g : N.length ≤ k % 4
    · rw [(PT_skip (by omega) (Or.inl g)).1] at hR; exact ⟨R, hR⟩
    · have g2 : k % 4 < N.length := by omega
      obtain ⟨x, hx⟩ : ∃ x, N[k % 4]? = some x := ⟨_, List.getElem?_eq_getElem g2⟩
      by_cases hl : ltb kd N x = decide (3 < k)
      · obtain ⟨-, t1, t2, t3⟩ := PT_take (by omega) hN hx hl
        by_cases h0 : pn kd N k = 0
        · rw [t1 h0, List.append_assoc] at hR; exact ⟨_, hR⟩
        · by_cases h1 : 3 < k ∧ pn kd N k = N.length - mvc kd N
          · rw [t2 h0 h1.1 h1.2, List.append_assoc] at hR; exact ⟨_, hR⟩
          · rw [t3 h0 h1, List.append_assoc] at hR; exact ⟨_, hR⟩
      · rw [(PT_skip (by omega) (Or.inr ⟨x, hx, hl⟩)).1] at hR; exact ⟨R, hR⟩
theorem Has.of {T P S R : List Int} (h : T = P ++ (S ++ R)) : Has T P.length S := ⟨R, by rw [h, List.drop_left]⟩
theorem PT_has {kd : Int → Int} {N L : List Int} (hN : 1 ≤ N.length ∧ N.length ≤ 4) {k : Nat} (hk : k < 8) {S : List Int} (h : PT kd N (k + 1) = PT kd N k ++ S) : Has (lineT kd N L) (PT kd N k).length S := by
  obtain ⟨R, hR⟩ := PT_pre (kd := kd) hN (8 - (k + 1)) (k + 1) (by omega)
  rw [h, PT_8 hN] at hR
  refine Has.of (R := R ++ ((if 0 < L.length then [58] else []) ++ runsT L 144)) ?_
  unfold lineT
  rw [hR]
  simp
/-! runs -/
theorem runsT_pre {L : List Int} : ∀ {n k : Nat}, k ≤ n → ∃ R, runsT L n = runsT L k ++ R := by
  intro n k hk
  induction n with
  | zero => exact ⟨[], by rw [show k = 0 by omega]; rfl⟩
  | succ n ih =>
    by_cases h : k = n + 1
    · exact ⟨[], by rw [h, List.append_nil]⟩
    · obtain ⟨R, hR⟩ := ih (by omega)
      exact ⟨R ++ (if bgT L n then runT L n else []), by rw [← List.append_assoc, ← hR]; rfl⟩
def bgc (L : List Int) (k : Nat) : Nat := cntN (fun j => bgT L (j : Int)) k
theorem bgc_0 {L : List Int} : ∀ {k : Nat}, bgc L k = 0 → runsT L k = []
  | 0, _ => rfl
  | k + 1, h => by
    unfold bgc at h
    rw [cntN] at h
    have h1 : bgc L k = 0 := by unfold bgc; omega
    have h2 : ¬ bgT L k = true := fun g => by rw [g] at h; simp at h
    rw [runsT_no h2]
    exact bgc_0 h1
/-- how far the line is written when the squares below k have been seen -/
def lAt (kd : Int → Int) (N L : List Int) (k : Nat) : Nat := (nameT kd N).length + (if bgc L k = 0 then 0 else 1 + (runsT L k).length)
theorem line_run {kd : Int → Int} {N L : List Int} {k : Nat} (hk : k < 144) (h : bgT L k = true) : Has (lineT kd N L) (lAt kd N L k) ((if bgc L k = 0 then [58] else []) ++ runT L k) ∧ lAt kd N L (k + 1) = lAt kd N L k + ((if bgc L k = 0 then 1 else 0) + (runT L k).length) ∧ bgc L (k + 1) = bgc L k + 1 := by
  have hL : 0 < L.length := List.length_pos_iff.mpr (fun e => by have := (bgT_iff.mp h).1; rw [e] at this; cases this)
  have hb : bgc L (k + 1) = bgc L k + 1 := by
    unfold bgc
    rw [cntN, if_pos h]
  obtain ⟨R, hR⟩ := runsT_pre (L := L) (n := 144) (k := k + 1) (by omega)
  rw [runsT_yes h] at hR
  refine ⟨?_, ?_, hb⟩
  · unfold lineT lAt
    rw [if_pos hL, hR]
    by_cases g : bgc L k = 0
    · rw [if_pos g, if_pos g, bgc_0 g, Nat.add_zero]
      exact Has.of (R := R) (by simp)
    · rw [if_neg g, if_neg g]
      have e : (nameT kd N).length + (1 + (runsT L k).length) = (nameT kd N ++ ([58] ++ runsT L k)).length := by simp; omega
      rw [e]
      exact Has.of (R := R) (by simp)
  · unfold lAt
    rw [if_neg (show ¬ bgc L (k + 1) = 0 by omega), runsT_yes h, List.length_append]
    by_cases g : bgc L k = 0
    · rw [if_pos g, if_pos g, bgc_0 g]; simp
    · rw [if_neg g, if_neg g]; omega
theorem line_no {kd : Int → Int} {N L : List Int} {k : Nat} (h : ¬ bgT L k = true) : lAt kd N L (k + 1) = lAt kd N L k ∧ bgc L (k + 1) = bgc L k := by
  have hb : bgc L (k + 1) = bgc L k := by
    unfold bgc
    rw [cntN, if_neg h, Nat.add_zero]
  unfold lAt
  rw [hb, runsT_no h]
  exact ⟨rfl, rfl⟩
theorem lAt_0 {kd : Int → Int} {N L : List Int} : lAt kd N L 0 = (nameT kd N).length := by
  unfold lAt
  rw [if_pos (show bgc L 0 = 0 from rfl), Nat.add_zero]
theorem bgc_some {L : List Int} (hR : ∀ x ∈ L, 0 ≤ x ∧ x < 144) (hL : 0 < L.length) : bgc L 144 ≠ 0 := by
  intro h
  have h1 : ∀ k : Nat, k < 144 → ¬ bgT L k = true := by
    intro k hk g
    have h2 : ∀ n : Nat, k < n → bgc L n ≠ 0 := by
      intro n hn
      induction n with
      | zero => omega
      | succ n ih =>
        unfold bgc
        rw [cntN]
        by_cases e : k = n
        · subst e; rw [if_pos g]; omega
        · have := ih (by omega)
          unfold bgc at this
          omega
    exact h2 144 hk h
  have h2 : ∀ n : Nat, n < 144 → ¬ (n : Int) ∈ L := by
    intro n
    induction n with
    | zero =>
      intro hn g
      exact h1 0 hn (bgT_iff.mpr ⟨g, Or.inl (by decide)⟩)
    | succ n ih =>
      intro hn g
      refine h1 (n + 1) hn (bgT_iff.mpr ⟨g, Or.inr ?_⟩)
      rw [show (((n + 1 : Nat) : Int) - 1) = (n : Nat) by omega]
      exact ih (by omega)
  have h3 : L[0] ∈ L := List.getElem_mem hL
  have h4 := hR _ h3
  exact h2 L[0].toNat (by omega) (by rw [Int.toNat_of_nonneg h4.1]; exact h3)
theorem line_end {kd : Int → Int} {N L : List Int} (hR : ∀ x ∈ L, 0 ≤ x ∧ x < 144) : (0 < L.length → lAt kd N L 144 = (lineT kd N L).length) ∧ (L = [] → (nameT kd N).length = (lineT kd N L).length) := by
  refine ⟨fun h => ?_, fun h => ?_⟩
  · unfold lAt lineT
    rw [if_neg (bgc_some hR h), if_pos h]
    simp
    omega
  · subst h
    have r0 : ∀ k, runsT ([] : List Int) k = [] := by
      intro k
      induction k with
      | zero => rfl
      | succ k ih => rw [runsT_no (by simp [bgT]), ih]
    unfold lineT
    rw [r0]; simp
theorem runT_eq {L : List Int} {k e : Nat} (h : endT L 11 (k : Int) = e) : runT L k = [32, 65 + (k : Int) / 12] ++ (numT ((k : Int) % 12 + 1) ++ (if (k : Int) % 12 < (e : Int) % 12 then [45] ++ numT ((e : Int) % 12 + 1) else [])) := by
  unfold runT runX
  rw [h]
