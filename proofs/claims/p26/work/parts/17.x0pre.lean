/-! names and keys -/
def NmI (μ : Nat → Int → Int) (i : Nat) (N : List Int) : Prop := μ (9 + 6 * i) 1 = N.length ∧ 1 ≤ N.length ∧ N.length ≤ 4 ∧ ArrL (μ (9 + 6 * i + 1)) N ∧ ∀ w ∈ N, 0 ≤ w ∧ w < 24
def KdR (kd : Int → Int) : Prop := ∀ w, 0 ≤ w → w < 24 → 0 ≤ kd w ∧ kd w ≤ 2
def nameL (z : Int) (n : Nat) : List Int := (List.range n).map (fun k : Nat => wd z k)
def filK (kd : Int → Int) (k : Int) (N : List Int) : List Int := N.filter (fun w => decide (kd w = k))
def keyL (kd : Int → Int) (N : List Int) : List Int := if filK kd 0 N ++ filK kd 2 N = [] then N else filK kd 0 N ++ filK kd 2 N
theorem nameL_succ (z : Int) (n : Nat) : nameL z (n + 1) = nameL z n ++ [wd z n] := by simp [nameL, List.range_succ]
theorem nameL_len (z : Int) (n : Nat) : (nameL z n).length = n := by simp [nameL]
theorem filK_take {kd : Int → Int} {k : Int} {N : List Int} (j : Nat) : (filK kd k (N.take j)).length ≤ (filK kd k N).length := List.Sublist.length_le ((List.take_sublist j N).filter _)
theorem filK_step {kd : Int → Int} {k : Int} {N : List Int} {j : Nat} {x : Int} (h : N[j]? = some x) : filK kd k (N.take (j + 1)) = filK kd k (N.take j) ++ (if kd x = k then [x] else []) := by
  unfold filK
  rw [List.take_succ, h, List.filter_append]
  by_cases e : kd x = k <;> simp [e]
theorem filK_sum {kd : Int → Int} {N : List Int} : (filK kd 0 N).length + (filK kd 2 N).length ≤ N.length := by
  induction N with
  | nil => simp [filK]
  | cons a N ih =>
    unfold filK at *
    by_cases e0 : kd a = 0
    · have e2 : ¬ kd a = 2 := by omega
      simp [e0] at *
      omega
    · by_cases e2 : kd a = 2
      · simp [e2] at *
        omega
      · simp [e0, e2] at *
        omega
theorem filK_all {kd : Int → Int} {N : List Int} (h : filK kd 0 N ++ filK kd 2 N = []) (hk : ∀ w ∈ N, 0 ≤ kd w ∧ kd w ≤ 2) : filK kd 1 N = N := by
  unfold filK at *
  rw [List.append_eq_nil_iff, List.filter_eq_nil_iff, List.filter_eq_nil_iff] at h
  rw [List.filter_eq_self]
  intro w hw
  have h0 := h.1 w hw
  have h2 := h.2 w hw
  have h3 := hk w hw
  simp at h0 h2 ⊢
  omega
theorem keyL_len {kd : Int → Int} {N : List Int} (hN : 1 ≤ N.length ∧ N.length ≤ 4) : 1 ≤ (keyL kd N).length ∧ (keyL kd N).length ≤ 4 := by
  unfold keyL
  split
  · exact hN
  · rename_i h
    have := filK_sum (kd := kd) (N := N)
    rw [List.length_append]
    refine ⟨?_, by omega⟩
    have : 0 < (filK kd 0 N ++ filK kd 2 N).length := List.length_pos_iff.mpr h
    rw [List.length_append] at this
    omega
theorem keyL_mem {kd : Int → Int} {N : List Int} {w : Int} (h : w ∈ keyL kd N) : w ∈ N := by
  unfold keyL at h
  split at h
  · exact h
  · rcases List.mem_append.mp h with h | h <;> exact (List.mem_filter.mp h).1
