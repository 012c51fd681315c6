/-! the line of a street, as a text -/
def joinT : List Int → List Int
  | [] => []
  | [w] => wordT w.toNat
  | w :: v :: l => wordT w.toNat ++ 32 :: joinT (v :: l)
theorem joinT_snoc : ∀ (K : List Int) (w : Int), joinT (K ++ [w]) = joinT K ++ ((if K = [] then [] else [32]) ++ wordT w.toNat)
  | [], w => by simp [joinT]
  | [a], w => by simp [joinT]
  | a :: c :: l, w => by
    have ih := joinT_snoc (c :: l) w
    show wordT a.toNat ++ 32 :: joinT ((c :: l) ++ [w]) = _
    rw [ih]
    simp [joinT]
theorem wordT_le (i : Nat) : (wordT i).length ≤ 7 := by
  rw [wordT_len]; have := wL_lt i; omega
theorem joinT_le : ∀ K : List Int, (joinT K).length ≤ 8 * K.length
  | [] => by simp [joinT]
  | [w] => by have := wordT_le w.toNat; simp [joinT]; omega
  | w :: v :: l => by
    have ih := joinT_le (v :: l)
    have := wordT_le w.toNat
    simp only [joinT, List.length_append, List.length_cons] at *
    omega
def mvd (kd : Int → Int) (w : Int) : Int := if kd w = 2 then 1 else 0
def selK (kd : Int → Int) (v : Int) (N : List Int) : List Int := N.filter (fun w => decide (mvd kd w = v))
theorem selK_step {kd : Int → Int} {v : Int} {N : List Int} {j : Nat} {x : Int} (h : N[j]? = some x) : selK kd v (N.take (j + 1)) = selK kd v (N.take j) ++ (if mvd kd x = v then [x] else []) := by
  unfold selK
  rw [List.take_succ, h, List.filter_append]
  by_cases e : mvd kd x = v <;> simp [e]
theorem selK_two (kd : Int → Int) (N : List Int) : selK kd 1 N = filK kd 2 N := by
  unfold selK filK
  congr 1
  funext w
  unfold mvd
  by_cases e : kd w = 2 <;> simp [e]
theorem selK_sum (kd : Int → Int) (N : List Int) : (selK kd 0 N).length + (selK kd 1 N).length = N.length := by
  induction N with
  | nil => rfl
  | cons a N ih =>
    unfold selK at *
    by_cases e : kd a = 2
    · have e1 : mvd kd a = 1 := by unfold mvd; rw [if_pos e]
      simp [e1]; omega
    · have e1 : mvd kd a = 0 := by unfold mvd; rw [if_neg e]
      simp [e1]; omega
theorem selK_take {kd : Int → Int} {v : Int} {N : List Int} (j : Nat) : (selK kd v (N.take j)).length ≤ (selK kd v N).length := List.Sublist.length_le ((List.take_sublist j N).filter _)
theorem selK_nil {kd : Int → Int} {N : List Int} (h : (selK kd 0 N).length = 0) : selK kd 1 N = N := by
  have h0 : selK kd 0 N = [] := List.length_eq_zero_iff.mp h
  unfold selK at *
  rw [List.filter_eq_nil_iff] at h0
  rw [List.filter_eq_self]
  intro w hw
  have := h0 w hw
  unfold mvd at *
  by_cases e : kd w = 2 <;> simp [e] at *
theorem selK_nil' {kd : Int → Int} {N : List Int} (h : (selK kd 1 N).length = 0) : selK kd 0 N = N := by
  have h0 : selK kd 1 N = [] := List.length_eq_zero_iff.mp h
  unfold selK at *
  rw [List.filter_eq_nil_iff] at h0
  rw [List.filter_eq_self]
  intro w hw
  have := h0 w hw
  unfold mvd at *
  by_cases e : kd w = 2 <;> simp [e] at *
def nameT (kd : Int → Int) (N : List Int) : List Int := joinT (selK kd 0 N) ++ ((if 0 < (selK kd 0 N).length ∧ 0 < (selK kd 1 N).length then [44, 32] else []) ++ joinT (selK kd 1 N))
theorem nameT_le {kd : Int → Int} {N : List Int} (h : N.length ≤ 4) : (nameT kd N).length ≤ 34 := by
  have h1 := selK_sum kd N
  have h2 := joinT_le (selK kd 0 N)
  have h3 := joinT_le (selK kd 1 N)
  unfold nameT
  rw [List.length_append, List.length_append]
  have h4 : (if 0 < (selK kd 0 N).length ∧ 0 < (selK kd 1 N).length then ([44, 32] : List Int) else []).length ≤ 2 := by split <;> simp
  omega
def bgT (L : List Int) (x : Int) : Bool := decide (x ∈ L) && (decide (x % 12 = 0) || !decide (x - 1 ∈ L))
theorem bgT_iff {L : List Int} {x : Int} : bgT L x = true ↔ x ∈ L ∧ (x % 12 = 0 ∨ ¬ x - 1 ∈ L) := by
  unfold bgT
  simp
def endT (L : List Int) : Nat → Int → Int
  | 0, x => x
  | n + 1, x => if x % 12 < 11 ∧ x + 1 ∈ L then endT L n (x + 1) else x
theorem endT_uniq {L : List Int} : ∀ (n : Nat) (x e : Int), x ≤ e → e ≤ x + n → e / 12 = x / 12 → (∀ j, x < j → j ≤ e → j ∈ L) → ¬ (e % 12 < 11 ∧ e + 1 ∈ L) → endT L n x = e
  | 0, x, e, h1, h2, h3, h4, h5 => by
    show x = e
    omega
  | n + 1, x, e, h1, h2, h3, h4, h5 => by
    unfold endT
    by_cases g : x = e
    · subst g
      rw [if_neg h5]
    · rw [if_pos ⟨by omega, h4 (x + 1) (by omega) (by omega)⟩]
      exact endT_uniq n (x + 1) e (by omega) (by omega) (by omega) (fun j g1 g2 => h4 j (by omega) g2) h5
def runX (c r e : Int) : List Int := [32, 65 + c] ++ (numT (r + 1) ++ (if r < e then [45] ++ numT (e + 1) else []))
def runT (L : List Int) (x : Int) : List Int := runX (x / 12) (x % 12) (endT L 11 x % 12)
theorem numT_le (z : Int) : 1 ≤ (numT z).length ∧ (numT z).length ≤ 2 := by
  unfold numT; split <;> simp
theorem runX_le (c r e : Int) : (runX c r e).length ≤ 7 := by
  have h1 := numT_le (r + 1)
  have h2 := numT_le (e + 1)
  unfold runX
  split <;> simp only [List.length_append, List.length_cons, List.length_nil] <;> omega
def runsT (L : List Int) : Nat → List Int
  | 0 => []
  | k + 1 => runsT L k ++ (if bgT L k then runT L k else [])
theorem runsT_no {L : List Int} {k : Nat} (h : ¬ bgT L k = true) : runsT L (k + 1) = runsT L k := by
  show runsT L k ++ _ = _
  rw [if_neg h, List.append_nil]
theorem runsT_yes {L : List Int} {k : Nat} (h : bgT L k = true) : runsT L (k + 1) = runsT L k ++ runT L k := by
  show runsT L k ++ _ = _
  rw [if_pos h]
theorem runsT_le' {L : List Int} : ∀ k : Nat, (runsT L k).length ≤ 42 * (k / 12) + 7 * ((k % 12 + 1) / 2) ∧ (k % 12 ≠ 0 → bgT L ((k : Int) - 1) = false → (runsT L k).length ≤ 42 * (k / 12) + 7 * (k % 12 / 2))
  | 0 => by simp [runsT]
  | k + 1 => by
    have ih := runsT_le' (L := L) k
    by_cases h : bgT L k = true
    · rw [runsT_yes h, List.length_append]
      have h7 := runX_le ((k : Int) / 12) ((k : Int) % 12) (endT L 11 k % 12)
      have h8 : (runT L k).length ≤ 7 := h7
      refine ⟨?_, fun _ g => ?_⟩
      · by_cases e : k % 12 = 0
        · omega
        · have g : bgT L ((k : Int) - 1) = false := by
            have h9 := (bgT_iff.mp h).2.resolve_left (by omega)
            unfold bgT
            simp [h9]
          have := ih.2 e g
          omega
      · rw [show (((k + 1 : Nat) : Int) - 1) = k by omega, h] at g
        exact absurd g (by decide)
    · rw [runsT_no h]
      exact ⟨by omega, fun _ _ => by omega⟩
theorem runsT_le {L : List Int} {k : Nat} (h : k ≤ 144) : (runsT L k).length ≤ 504 := by
  have := (runsT_le' (L := L) k).1
  omega
def lineT (kd : Int → Int) (N L : List Int) : List Int := nameT kd N ++ ((if 0 < L.length then [58] else []) ++ runsT L 144)
theorem lineT_le {kd : Int → Int} {N L : List Int} (h : N.length ≤ 4) : (lineT kd N L).length ≤ 600 := by
  have h1 := nameT_le (kd := kd) h
  have h2 := runsT_le (L := L) (Nat.le_refl 144)
  unfold lineT
  rw [List.length_append, List.length_append]
  have h4 : (if 0 < L.length then ([58] : List Int) else []).length ≤ 1 := by split <;> simp
  omega
/-- all signs are letters of seven bits -/
def Lat (T : List Int) : Prop := ∀ x ∈ T, 0 ≤ x ∧ x < 128
theorem Lat.app {T K : List Int} (h : Lat T) (h' : Lat K) : Lat (T ++ K) := fun x hx => (List.mem_append.mp hx).elim (h x) (h' x)
theorem Lat.nil : Lat [] := fun _ h => by cases h
theorem Lat.one {c : Int} (h : 0 ≤ c ∧ c < 128) : Lat [c] := fun x hx => by rw [List.mem_singleton.mp hx]; exact h
theorem Lat.cons {c : Int} {T : List Int} (h : 0 ≤ c ∧ c < 128) (h' : Lat T) : Lat (c :: T) := fun x hx => by
  rcases List.mem_cons.mp hx with e | e
  · rw [e]; exact h
  · exact h' x e
theorem Lat.word {i : Nat} (hi : i < 25) : Lat (wordT i) := fun x hx => by
  obtain ⟨k, hk⟩ := List.getElem?_of_mem hx
  obtain ⟨h1, h2⟩ := wordT_at hk
  have := wC_tab i hi k h1
  rw [h2]; exact this.2.2
theorem Lat.num {z : Int} (hz : 1 ≤ z ∧ z ≤ 12) : Lat (numT z) := by
  unfold numT
  split
  · exact Lat.one (by omega)
  · exact Lat.cons (by omega) (Lat.one (by omega))
theorem Lat.join : ∀ {K : List Int}, (∀ w ∈ K, 0 ≤ w ∧ w < 24) → Lat (joinT K)
  | [], _ => Lat.nil
  | [w], h => Lat.word (by have := h w (by simp); omega)
  | w :: v :: l, h => (Lat.word (by have := h w (by simp); omega)).app (Lat.cons (by omega) (Lat.join (fun x hx => h x (List.mem_cons_of_mem _ hx))))
theorem Lat.name {kd : Int → Int} {N : List Int} (h : ∀ w ∈ N, 0 ≤ w ∧ w < 24) : Lat (nameT kd N) := by
  have h1 : ∀ v, ∀ w ∈ selK kd v N, 0 ≤ w ∧ w < 24 := fun v w hw => h w (List.mem_filter.mp hw).1
  refine (Lat.join (h1 0)).app (Lat.app ?_ (Lat.join (h1 1)))
  split
  · exact Lat.cons (by omega) (Lat.one (by omega))
  · exact Lat.nil
theorem Lat.runX {c r e : Int} (hc : 0 ≤ c ∧ c < 12) (hr : 0 ≤ r ∧ r < 12) (he : 0 ≤ e ∧ e < 12) : Lat (runX c r e) := by
  refine Lat.app (Lat.cons (by omega) (Lat.one (by omega))) ((Lat.num (by omega)).app ?_)
  split
  · exact Lat.app (Lat.one (by omega)) (Lat.num (by omega))
  · exact Lat.nil
theorem Lat.runs {L : List Int} : ∀ {k : Nat}, k ≤ 144 → Lat (runsT L k)
  | 0, _ => Lat.nil
  | k + 1, h => by
    refine (Lat.runs (L := L) (k := k) (by omega)).app ?_
    split
    · exact Lat.runX (by omega) (by omega) (by omega)
    · exact Lat.nil
theorem Lat.line {kd : Int → Int} {N L : List Int} (h : ∀ w ∈ N, 0 ≤ w ∧ w < 24) : Lat (lineT kd N L) := by
  refine (Lat.name h).app (Lat.app ?_ (Lat.runs (Nat.le_refl _)))
  split
  · exact Lat.one (by omega)
  · exact Lat.nil
