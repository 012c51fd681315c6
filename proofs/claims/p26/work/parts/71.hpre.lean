/-! the law: how long a line is, and what each step does to what is known -/
theorem cntN_or1 (f : Nat → Bool) (a : Int) : ∀ n, cntN (fun j => decide ((j : Int) = a) || f j) n ≤ cntN f n + (if a < n then 1 else 0)
  | 0 => by simp [cntN]
  | n + 1 => by
    have ih := cntN_or1 f a n
    rw [cntN, cntN]
    by_cases e : (n : Int) = a
    · have e1 : (decide ((n : Int) = a) || f n) = true := by simp [e]
      rw [e1]
      rw [if_neg (show ¬ a < (n : Int) by omega)] at ih
      rw [if_pos rfl, if_pos (show a < ((n + 1 : Nat) : Int) by omega)]
      omega
    · have e1 : (decide ((n : Int) = a) || f n) = f n := by simp [e]
      rw [e1]
      by_cases g : a < (n : Int)
      · rw [if_pos g] at ih
        rw [if_pos (show a < ((n + 1 : Nat) : Int) by omega)]
        omega
      · rw [if_neg g] at ih
        rw [if_neg (show ¬ a < ((n + 1 : Nat) : Int) by omega)]
        omega
theorem cnt_mem_le : ∀ (L : List Int) (n : Nat), cntN (fun j => decide ((j : Int) ∈ L)) n ≤ L.length
  | [], n => by rw [cnt_nil]; exact Nat.le_refl _
  | a :: L, n => by
    have ih := cnt_mem_le L n
    have h := cntN_or1 (fun j => decide ((j : Int) ∈ L)) a n
    have e : cntN (fun j => decide ((j : Int) ∈ a :: L)) n = cntN (fun j => decide ((j : Int) = a) || decide ((j : Int) ∈ L)) n := cntN_congr fun k _ => by
      rw [Bool.eq_iff_iff]; simp
    rw [e, List.length_cons]
    have : (if a < (n : Int) then 1 else 0) ≤ 1 := by split <;> omega
    omega
theorem runT_len {L : List Int} {k : Nat} : (runT L k).length ≤ 7 ∧ (¬ ((k : Int) % 12 < 11 ∧ (k : Int) + 1 ∈ L) → (runT L k).length ≤ 4) := by
  refine ⟨runX_le _ _ _, fun h => ?_⟩
  have e : endT L 11 (k : Int) = k := by
    unfold endT
    rw [if_neg h]
  unfold runT runX
  rw [e, if_neg (Int.lt_irrefl _)]
  have := numT_le ((k : Int) % 12 + 1)
  simp only [List.length_append, List.length_cons, List.length_nil]
  omega
theorem runs_bound {L : List Int} : ∀ k : Nat, (runsT L k).length ≤ 4 * cntN (fun j => decide ((j : Int) ∈ L)) k + (if k % 12 ≠ 0 ∧ bgT L ((k : Int) - 1) = true ∧ (k : Int) ∈ L then 3 else 0)
  | 0 => by simp [runsT]
  | k + 1 => by
    have ih := runs_bound (L := L) k
    rw [cntN, show (((k + 1 : Nat) : Int) - 1) = (k : Nat) by omega]
    by_cases h : bgT L k = true
    · have hk := bgT_iff.mp h
      have hd : ¬ (k % 12 ≠ 0 ∧ bgT L ((k : Int) - 1) = true ∧ (k : Int) ∈ L) := fun g => by
        rcases hk.2 with q | q
        · have := g.1; omega
        · exact q (bgT_iff.mp g.2.1).1
      rw [if_neg hd] at ih
      rw [runsT_yes h, List.length_append, if_pos (decide_eq_true hk.1)]
      have hr := runT_len (L := L) (k := k)
      by_cases g : (k : Int) % 12 < 11 ∧ (k : Int) + 1 ∈ L
      · rw [if_pos ⟨by omega, h, by rw [show (((k + 1 : Nat) : Int)) = (k : Int) + 1 by omega]; exact g.2⟩]
        omega
      · have := hr.2 g
        omega
    · rw [runsT_no h]
      by_cases g : (k : Int) ∈ L
      · rw [if_pos (decide_eq_true g)]
        have : (if k % 12 ≠ 0 ∧ bgT L ((k : Int) - 1) = true ∧ (k : Int) ∈ L then 3 else 0) ≤ 3 := by split <;> omega
        omega
      · rw [if_neg (fun q => g q.2.2)] at ih
        omega
theorem line_len {kd : Int → Int} {N L : List Int} (hN : N.length ≤ 4) (hL : L.length ≤ 21) : (lineT kd N L).length ≤ 142 := by
  have h1 := nameT_le (kd := kd) hN
  have h2 := runs_bound (L := L) 144
  rw [if_neg (fun g => by have := g.1; omega)] at h2
  have h3 := cnt_mem_le L 144
  unfold lineT
  rw [List.length_append, List.length_append]
  have h4 : (if 0 < L.length then ([58] : List Int) else []).length ≤ 1 := by split <;> simp
  omega
theorem PBd.len {pp : Nat → Int} {m : Nat} (h : PBd pp m) (hm : m ≤ 5) : (trk pp m).length ≤ 21 := by
  match m, h, hm with
  | 0, _, _ => simp [trk]
  | m + 1, h, hm =>
    have h1 := h m (by omega)
    have h2 : 0 ≤ exs (pp m) := by unfold exs; have := imax_spec 0 (imax (pp m / 12) (pp m % 12) - 5); omega
    omega
section SIU
variable {μ ν μ' : Nat → Int → Int} {n : Nat} {N : Nat → List Int} {ow : Nat → Int} {m : Nat → Nat} {p : Nat → Nat → Int}
theorem SI.line (h : SI μ ν n N ow m p) {i : Nat} (hi : i < n) : (lineT (μ 1) (N i) (trk (p i) (m i))).length ≤ 142 := by
  obtain ⟨s1, s2, s3, s4, s5, s6, s7⟩ := h
  exact line_len (s5 i hi).2.2.1 ((s7 i (by omega)).len (s6 i (by omega)).1.2.1)
theorem SI.mu (h : SI μ ν n N ow m p) (hX : XI μ' n N ow m p) (h1 : μ' 1 = μ 1) : SI μ' ν n N ow m p := by
  obtain ⟨s1, s2, s3, s4, s5, s6, s7⟩ := h
  exact ⟨hX, s2, by rw [h1]; exact s3, s4, s5, s6, s7⟩
theorem SI.scr (h : SI μ ν n N ow m p) (hF : FrS μ μ') : SI μ' ν n N ow m p := h.mu (h.1.scratch hF) (hF 1 (by omega) (by omega) (by omega) (by omega) (by omega))
theorem ANm.same {ν ν' : Nat → Int → Int} {i : Nat} {L : List Int} (h : ANm ν i L) (hL : ∀ j : Int, 5 * (i : Int) ≤ j → j < 5 * (i : Int) + 5 → ν' 1 j = ν 1 j) : ANm ν' i L := by
  obtain ⟨a1, a2, a3, a4, a5⟩ := h
  exact ⟨by rw [hL _ (by omega) (by omega)]; exact a1, a2, a3, fun k x hx => by
    have := (List.getElem?_eq_some_iff.mp hx).1
    rw [hL _ (by omega) (by omega)]; exact a4 k x hx, a5⟩
theorem SI.addS {ν' : Nat → Int → Int} {q : Int} {L : List Int} (h : SI μ ν n N ow m p) (hn : n < 5) (hA : ANm ν' n L) (hW : AWr ν') (h0 : ∀ a, a ≠ 1 → ν' a = ν a) (hO : ∀ j : Int, (j < 5 * (n : Int) ∨ 5 * (n : Int) + 5 ≤ j) → ν' 1 j = ν 1 j) (hX : XI μ' (n + 1) (fset N n (nameL q L.length)) ow m p) (hq : nameL q L.length = L) (h1 : μ' 1 = μ 1) : SI μ' ν' (n + 1) (fset N n L) ow m p := by
  obtain ⟨s1, s2, s3, s4, s5, s6, s7⟩ := h
  rw [hq] at hX
  refine ⟨hX, by omega, fun w w0 w1 => by rw [h0 0 (by omega), h1]; exact s3 w w0 w1, hW, fun j hj => ?_, fun j hj => by unfold APt; rw [h0 2 (by omega)]; exact s6 j hj, s7⟩
  by_cases e : j = n
  · subst e; rw [fset_at]; exact hA
  · rw [fset_ne e]; exact (s5 j (by omega)).same (fun z z0 z1 => hO z (by omega))
theorem SI.ren {ν' : Nat → Int → Int} {q : Int} {L : List Int} {i : Nat} (h : SI μ ν n N ow m p) (hi : i < n) (hA : ANm ν' i L) (hW : AWr ν') (h0 : ∀ a, a ≠ 1 → ν' a = ν a) (hO : ∀ j : Int, (j < 5 * (i : Int) ∨ 5 * (i : Int) + 5 ≤ j) → ν' 1 j = ν 1 j) (hX : XI μ' n (fset N i (nameL q L.length)) ow m p) (hq : nameL q L.length = L) (h1 : μ' 1 = μ 1) : SI μ' ν' n (fset N i L) ow m p := by
  obtain ⟨s1, s2, s3, s4, s5, s6, s7⟩ := h
  rw [hq] at hX
  refine ⟨hX, by omega, fun w w0 w1 => by rw [h0 0 (by omega), h1]; exact s3 w w0 w1, hW, fun j hj => ?_, fun j hj => by unfold APt; rw [h0 2 (by omega)]; exact s6 j hj, s7⟩
  by_cases e : j = i
  · subst e; rw [fset_at]; exact hA
  · rw [fset_ne e]; exact (s5 j hj).same (fun z z0 z1 => hO z (by omega))
theorem SI.kind {ν' : Nat → Int → Int} {w k : Int} (h : SI μ ν n N ow m p) (hw : 0 ≤ w ∧ w < 24) (hk : 0 ≤ k ∧ k ≤ 2) (hν : ν' = up ν 0 w k) (hX : XI μ' n N ow m p) (h1 : ∀ j, μ' 1 j = if j = w then k else μ 1 j) : SI μ' ν' n N ow m p := by
  obtain ⟨s1, s2, s3, s4, s5, s6, s7⟩ := h
  have r1 : ν' 1 = ν 1 := by rw [hν, up_rowf (by omega)]
  have r2 : ν' 2 = ν 2 := by rw [hν, up_rowf (by omega)]
  refine ⟨hX, s2, fun x x0 x1 => ?_, fun j j0 j1 j2 => by rw [r1]; exact s4 j j0 j1 j2, fun j hj => by unfold ANm; rw [r1]; exact s5 j hj, fun j hj => by unfold APt; rw [r2]; exact s6 j hj, s7⟩
  rw [h1, hν]
  by_cases e : x = w
  · rw [e, up_self, if_pos rfl]; exact ⟨rfl, hk⟩
  · rw [up_at e, if_neg e]; exact s3 x x0 x1
theorem SI.way {ν' : Nat → Int → Int} {f : Int} {i : Nat} (h : SI μ ν n N ow m p) (hi : i < n) (hν : ν' = up ν 2 (7 * (i : Int) + 6) f) (hX : XI μ' n N (fset ow i f) m p) (h1 : μ' 1 = μ 1) : SI μ' ν' n N (fset ow i f) m p := by
  obtain ⟨s1, s2, s3, s4, s5, s6, s7⟩ := h
  have r0 : ν' 0 = ν 0 := by rw [hν, up_rowf (by omega)]
  have r1 : ν' 1 = ν 1 := by rw [hν, up_rowf (by omega)]
  refine ⟨hX, s2, fun x x0 x1 => by rw [r0, h1]; exact s3 x x0 x1, fun j j0 j1 j2 => by rw [r1]; exact s4 j j0 j1 j2, fun j hj => by unfold ANm; rw [r1]; exact s5 j hj, fun j hj => ?_, s7⟩
  obtain ⟨⟨t1, t2, t3, t4⟩, t5⟩ := s6 j hj
  refine ⟨⟨by rw [hν, up_at (by omega)]; exact t1, t2, fun k hk => by rw [hν, up_at (by omega)]; exact t3 k hk, t4⟩, ?_⟩
  by_cases e : j = i
  · subst e; rw [fset_at, hν, up_self]
  · rw [fset_ne e, hν, up_at (by omega)]; exact t5
theorem SI.drop {ν' : Nat → Int → Int} {i : Nat} (h : SI μ ν n N ow m p) (hi : i < n) (hm : 0 < m i) (hν : ν' = up ν 2 (7 * (i : Int)) ((m i : Int) - 1)) (hX : XI μ' n N ow (fset m i (m i - 1)) p) (h1 : μ' 1 = μ 1) : SI μ' ν' n N ow (fset m i (m i - 1)) p := by
  obtain ⟨s1, s2, s3, s4, s5, s6, s7⟩ := h
  have r0 : ν' 0 = ν 0 := by rw [hν, up_rowf (by omega)]
  have r1 : ν' 1 = ν 1 := by rw [hν, up_rowf (by omega)]
  refine ⟨hX, s2, fun x x0 x1 => by rw [r0, h1]; exact s3 x x0 x1, fun j j0 j1 j2 => by rw [r1]; exact s4 j j0 j1 j2, fun j hj => by unfold ANm; rw [r1]; exact s5 j hj, fun j hj => ?_, fun j hj => ?_⟩
  · obtain ⟨⟨t1, t2, t3, t4⟩, t5⟩ := s6 j hj
    by_cases e : j = i
    · subst e
      rw [fset_at]
      exact ⟨⟨by rw [hν, up_self]; omega, by omega, fun k hk => by rw [hν, up_at (by omega)]; exact t3 k (by omega), t4.less (by omega)⟩, by rw [hν, up_at (by omega)]; exact t5⟩
    · rw [fset_ne e]
      exact ⟨⟨by rw [hν, up_at (by omega)]; exact t1, t2, fun k hk => by rw [hν, up_at (by omega)]; exact t3 k hk, t4⟩, by rw [hν, up_at (by omega)]; exact t5⟩
  · by_cases e : j = i
    · subst e; rw [fset_at]; exact fun k hk => s7 j hj k (by omega)
    · rw [fset_ne e]; exact s7 j hj
end SIU
def nu0 (k : Nat) : Nat → Int → Int := fun r j => if r = 0 ∧ 0 ≤ j ∧ j < k then 1 else 0
theorem nu0_step {k : Nat} : up (nu0 k) 0 (k : Int) 1 = nu0 (k + 1) := by
  funext r j
  unfold up nu0
  by_cases e : r = 0 ∧ j = (k : Int)
  · rw [if_pos e, if_pos ⟨e.1, by omega, by omega⟩]
  · rw [if_neg e]
    by_cases g : r = 0 ∧ 0 ≤ j ∧ j < (k : Int)
    · rw [if_pos g, if_pos ⟨g.1, g.2.1, by omega⟩]
    · rw [if_neg g, if_neg (fun q => g ⟨q.1, q.2.1, by
        have h1 : ¬ j = (k : Int) := fun h => e ⟨q.1, h⟩
        have := q.2.2
        omega⟩)]
theorem SI_new : SI mu0 (nu0 4) 0 (fun _ => []) (fun _ => 0) (fun _ => 0) (fun _ _ => 0) := by
  refine ⟨XI_new, by omega, fun w w0 w1 => ?_, fun j _ _ _ => ?_, fun i hi => by omega, fun i hi => ⟨⟨rfl, Nat.zero_le _, fun k hk => absurd hk (Nat.not_lt_zero _), ⟨fun k hk => absurd hk (Nat.not_lt_zero _), fun k hk => absurd hk (Nat.not_lt_zero _)⟩⟩, rfl⟩, fun i hi k hk => absurd hk (Nat.not_lt_zero _)⟩
  · show nu0 4 0 w = kd0 w ∧ 0 ≤ kd0 w ∧ kd0 w ≤ 2
    unfold nu0 kd0
    by_cases g : 0 ≤ w ∧ w < 4
    · rw [if_pos ⟨rfl, g.1, by omega⟩, if_pos g]; omega
    · rw [if_neg (fun q => g ⟨q.2.1, by have := q.2.2; omega⟩), if_neg g]; omega
  · unfold nu0
    rw [if_neg (fun q => absurd q.1 (by decide))]; omega
theorem zI_or0 {x : Int} (h0 : 0 ≤ x) (h1 : x < 2147483648) : zI x ||| zI 0 = zI x := by
  rw [zI_n h0, show zI 0 = nI 0 from rfl, nI_or, Nat.or_zero]
theorem bitsOf_step {f : Nat → Bool} {k : Nat} (hk : k < 16) {v : Int} (hv : v = if f k = true then 2 ^ k else 0) : zI (bitsOf f k) ||| zI v = zI (bitsOf f (k + 1)) := by
  have hr := bitsOf_rng (f := f) (k := k) (by omega)
  show _ = zI (if f k then orI (bitsOf f k) k else bitsOf f k)
  rw [hv]
  cases f k
  · exact zI_or0 hr.1 (by omega)
  · exact zI_or (r := (k : Int)) hr.1
