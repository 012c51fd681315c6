/-! worlds of fixed shape: the cells of one system lie one behind another, from a base b on; their numbers by cell and place -/
def Sh : Type := (Nat × List (Option Nat)) ⊕ ((Nat × Nat) ⊕ (Nat × (Nat → Nat)))
def wfl (b : Nat → Nat) (row : Int → Int) : Nat → List (Option Nat) → List Value
  | _, [] => []
  | j, none :: l => .int (zI (row j)) :: wfl b row (j + 1) l
  | j, some o :: l => .ref (b o) :: wfl b row (j + 1) l
def wcell (cy : Nat → ClassId) (b : Nat → Nat) (s : Sh) (row : Int → Int) : va_E := match s with
  | .inl (ci, fl) => .inr (ci, wfl b row 0 fl)
  | .inr (.inl (t, n)) => .inl (cy t, n, .inl (fun j => zI (row j)))
  | .inr (.inr (n, f)) => .inl (cy 2, n, .inr (.inr (.inr (.inr (fun j => some (b (f j)))))))
theorem wfl_int {b : Nat → Nat} {row : Int → Int} : ∀ {fl : List (Option Nat)} {j0 k : Nat}, fl[k]? = some none → (wfl b row j0 fl)[k]? = some (.int (zI (row ((j0 + k : Nat) : Int))))
  | [], j0, k, h => by simp at h
  | none :: l, j0, 0, h => rfl
  | some o :: l, j0, 0, h => by simp at h
  | none :: l, j0, k + 1, h => by
    have := wfl_int (b := b) (row := row) (fl := l) (j0 := j0 + 1) (k := k) (by simpa using h)
    rw [show j0 + (k + 1) = j0 + 1 + k by omega]; exact this
  | some o :: l, j0, k + 1, h => by
    have := wfl_int (b := b) (row := row) (fl := l) (j0 := j0 + 1) (k := k) (by simpa using h)
    rw [show j0 + (k + 1) = j0 + 1 + k by omega]; exact this
theorem wfl_ref {b : Nat → Nat} {o : Nat} {row : Int → Int} : ∀ {fl : List (Option Nat)} {j0 k : Nat}, fl[k]? = some (some o) → (wfl b row j0 fl)[k]? = some (.ref (b o))
  | [], j0, k, h => by simp at h
  | none :: l, j0, 0, h => by simp at h
  | some o' :: l, j0, 0, h => by simp at h; subst h; rfl
  | none :: l, j0, k + 1, h => wfl_ref (fl := l) (j0 := j0 + 1) (k := k) (by simpa using h)
  | some o' :: l, j0, k + 1, h => wfl_ref (fl := l) (j0 := j0 + 1) (k := k) (by simpa using h)
theorem wfl_len {b : Nat → Nat} {row : Int → Int} : ∀ {fl : List (Option Nat)} {j0 : Nat}, (wfl b row j0 fl).length = fl.length
  | [], _ => rfl
  | none :: l, j0 => by simp [wfl, wfl_len (fl := l)]
  | some o :: l, j0 => by simp [wfl, wfl_len (fl := l)]
theorem wfl_congr {b : Nat → Nat} {row row' : Int → Int} : ∀ {fl : List (Option Nat)} {j0 : Nat}, (∀ j : Nat, j0 ≤ j → row j = row' j) → wfl b row j0 fl = wfl b row' j0 fl
  | [], _, _ => rfl
  | none :: l, j0, h => by
    rw [wfl, wfl, h j0 (Nat.le_refl _), wfl_congr (fl := l) (fun j hj => h j (by omega))]
  | some o :: l, j0, h => by
    rw [wfl, wfl, wfl_congr (fl := l) (fun j hj => h j (by omega))]
theorem wfl_set {b : Nat → Nat} {row : Int → Int} {z : Int} : ∀ {fl : List (Option Nat)} {j0 k : Nat}, fl[k]? = some none → (wfl b row j0 fl).set k (.int (zI z)) = wfl b (fun j => if j = ((j0 + k : Nat) : Int) then z else row j) j0 fl
  | [], j0, k, h => by simp at h
  | none :: l, j0, 0, h => by
    rw [wfl, wfl, List.set_cons_zero]
    congr 1
    · simp
    · exact wfl_congr (fun j hj => by rw [if_neg]; omega)
  | some o :: l, j0, 0, h => by simp at h
  | none :: l, j0, k + 1, h => by
    rw [wfl, wfl, List.set_cons_succ, wfl_set (fl := l) (j0 := j0 + 1) (k := k) (by simpa using h)]
    rw [show j0 + 1 + k = j0 + (k + 1) by omega]
    congr 1
    rw [if_neg (by omega)]
  | some o :: l, j0, k + 1, h => by
    rw [wfl, wfl, List.set_cons_succ, wfl_set (fl := l) (j0 := j0 + 1) (k := k) (by simpa using h)]
    rw [show j0 + 1 + k = j0 + (k + 1) by omega]
def gw (N : Nat) (sh : Nat → Sh) (cy : Nat → ClassId) (b : Nat → Nat) (μ : Nat → Int → Int) : va_W := (List.range N).map (fun k => (b k, wcell cy b (sh k) (μ k)))
def up (μ : Nat → Int → Int) (k : Nat) (j v : Int) : Nat → Int → Int := fun a c => if a = k ∧ c = j then v else μ a c
theorem up_self {μ : Nat → Int → Int} {k : Nat} {j v : Int} : up μ k j v k j = v := by simp [up]
theorem up_row {μ : Nat → Int → Int} {k a : Nat} {j v c : Int} (h : a ≠ k) : up μ k j v a c = μ a c := by simp [up, h]
theorem up_at {μ : Nat → Int → Int} {k a : Nat} {j v c : Int} (h : c ≠ j) : up μ k j v a c = μ a c := by simp [up, h]
theorem gw_get {N : Nat} {sh : Nat → Sh} {cy : Nat → ClassId} {b : Nat → Nat} {k : Nat} {μ : Nat → Int → Int} {E : va_W} (h : k < N) : (gw N sh cy b μ ++ E)[k]? = some (b k, wcell cy b (sh k) (μ k)) := by
  rw [List.getElem?_append_left (by simp [gw]; exact h)]
  simp [gw, h]
theorem gw_set {N : Nat} {sh : Nat → Sh} {cy : Nat → ClassId} {b : Nat → Nat} {k : Nat} {μ μ' : Nat → Int → Int} {E : va_W} {e : va_E} (h : k < N) (he : e = wcell cy b (sh k) (μ' k)) (ho : ∀ a, a ≠ k → μ' a = μ a) : (gw N sh cy b μ ++ E).set k (b k, e) = gw N sh cy b μ' ++ E := by
  subst he
  rw [List.set_append_left _ _ (by simp [gw]; exact h)]
  congr 1
  apply List.ext_getElem?
  intro i
  rw [List.getElem?_set]
  by_cases hi : k = i
  · subst hi
    simp [gw, h]
  · rw [if_neg hi]
    by_cases h2 : i < N
    · simp [gw, h2, ho i (Ne.symm hi)]
    · simp [gw, h2]
theorem gw_len {N : Nat} {sh : Nat → Sh} {cy : Nat → ClassId} {b : Nat → Nat} {μ : Nat → Int → Int} : (gw N sh cy b μ).length = N := by simp [gw]
theorem gw_congr {N : Nat} {sh : Nat → Sh} {cy : Nat → ClassId} {b : Nat → Nat} {μ μ' : Nat → Int → Int} (h : ∀ k, k < N → wcell cy b (sh k) (μ k) = wcell cy b (sh k) (μ' k)) : gw N sh cy b μ = gw N sh cy b μ' := by
  simp only [gw]
  apply List.map_congr_left
  intro k hk
  rw [h k (List.mem_range.mp hk)]
/-! what the tables say of a field's entry -/
def FF (own : String) (idx ci k : Nat) (ty : FieldType) (fl : Bool) : Prop := ∃ (C : String) (T : u_T) (n : Nat) (tys : Nat → FieldType), vwCl[ci]? = some (C, T, n) ∧ k < n ∧ (∀ w ∈ u_ws C T n, w ∈ GT ∧ goodWord w = true) ∧ (∀ j, j < n → parseFieldDescriptor (T j).2.2.1 = some (tys j)) ∧ tys k = ty ∧ (T k).2.2.2 = fl ∧ (∀ a, a < n → ∀ b, b < n → a ≠ b → (T a).2.1 ≠ (T b).2.1) ∧
  (Cond.fieldLink own idx (T k).1 (T k).2.1 (T k).2.2.1 ∈ GT ∨ Cond.fieldLinkNest own idx (T k).1 (T k).2.1 (T k).2.2.1 RX4 ∈ GT)
section JW
variable {l : Launch} {D : va_G} {cy : Nat → ClassId} {n0 : Nat} {ad : Nat → Nat} {own : String} {cc : ByteArray} {nL : Nat} {ret : Option FieldType} {R : Room} {A : Nat → Prop} {PR : Option Value → va_W → Prop} {PX : String → va_W → Prop} {XS : State → Prop} {fin : Bool} {ET : List ExceptionTableEntry} {J : JT}
variable {ws E : va_W} {ce sl pc : Nat} {lv : List (Nat × Value)} {st : List Value} {N : Nat} {sh : Nat → Sh} {b : Nat → Nat} {μ : Nat → Int → Int}
theorem j_get {a q0 ci k idx : Nat} {fs : List Value} {ty : FieldType} {fl : Bool} {v : Value} (hJ : Cx l D cy n0 ad own cc nL ret R A PR PX XS fin ET J) (he : ws[q0]? = some (a, .inr (ci, fs))) (hF : FF own idx ci k ty fl) (hv : fs[k]? = some v) (hd : decode cc pc = .ok (.getfield idx, 3))
    (kk : J ws ce sl (pc + 3) lv (v :: st)) : J ws ce sl pc lv (.ref a :: st) := by
  obtain ⟨p, e, s, m, args, below, meth, c, Q, ⟨hx, hb, hml, hown⟩, hK, hA, hAn, hM, hXS, hQ, rfl⟩ := hJ
  intro H locs ls hP hD hS hl
  obtain ⟨C, T, n, tys, h1, h2, h3, h4, h5, h6, h7, h8⟩ := hF
  have hts : ∀ w ∈ u_ws C T n, w.before args s = true := fun w hw => hK.2.1.good (h3 w hw).1 (h3 w hw).2
  rcases h8 with h8 | h8
  · exact va_get hx hb hts (fun _ h => h) hown hK.1 hP q0 he h1 k h2 (hK.2.1.good h8 rfl) (fun _ h => h) hv hd (kk H locs ls hP hD hS hl)
  · exact va_getN hx hb hts (fun _ h => h) hown hK.1 hP q0 he h1 k h2 (hK.2.1.nest h8 rfl) (fun _ h => h) hv hd (kk H locs ls hP hD hS hl)
theorem j_put {a q0 ci k idx : Nat} {fs : List Value} {ty : FieldType} {v : Value} (hJ : Cx l D cy n0 ad own cc nL ret R A PR PX XS fin ET J) (he : ws[q0]? = some (a, .inr (ci, fs))) (hF : FF own idx ci k ty false) (hn : narrow ty v = v) (hfit : fits ty v = true) (hlen : k < fs.length) (hd : decode cc pc = .ok (.putfield idx, 3))
    (kk : J (ws.set q0 (a, .inr (ci, fs.set k v))) ce sl (pc + 3) lv st) : J ws ce sl pc lv (v :: .ref a :: st) := by
  obtain ⟨p, e, s, m, args, below, meth, c, Q, ⟨hx, hb, hml, hown⟩, hK, hA, hAn, hM, hXS, hQ, rfl⟩ := hJ
  intro H locs ls hP hD hS hl
  obtain ⟨C, T, n, tys, h1, h2, h3, h4, h5, h6, h7, h8⟩ := hF
  have hts : ∀ w ∈ u_ws C T n, w.before args s = true := fun w hw => hK.2.1.good (h3 w hw).1 (h3 w hw).2
  rcases h8 with h8 | h8
  · exact va_put hx hb hts (fun _ h => h) tys h4 h7 hown hK.1 hP hD hS q0 he h1 k h2 (hK.2.1.good h8 rfl) (fun _ h => h) h6 ((h4 k h2).trans (congrArg some h5)) hn hfit hlen hd (fun H1 locs1 hP hD hS => kk H1 locs1 ls hP hD hS hl)
  · exact va_putN hx hb hts (fun _ h => h) tys h4 h7 hown hK.1 hP hD hS q0 he h1 k h2 (hK.2.1.nest h8 rfl) (fun _ h => h) h6 ((h4 k h2).trans (congrArg some h5)) hn hfit hlen hd (fun H1 locs1 hP hD hS => kk H1 locs1 ls hP hD hS hl)
/-- reading a number's field of the system's cell k -/
theorem w_geti {k f ci idx : Nat} {fi : Int} {fl : List (Option Nat)} {ty : FieldType} {fb : Bool} (hJ : Cx l D cy n0 ad own cc nL ret R A PR PX XS fin ET J) (hfi : (f : Int) = fi) (hk : k < N) (hs : sh k = .inl (ci, fl)) (hf : fl[f]? = some none) (hF : FF own idx ci f ty fb) (hd : decode cc pc = .ok (.getfield idx, 3))
    (kk : J (gw N sh cy b μ ++ E) ce sl (pc + 3) lv (.int (zI (μ k fi)) :: st)) : J (gw N sh cy b μ ++ E) ce sl pc lv (.ref (b k) :: st) := by
  subst hfi
  have he : (gw N sh cy b μ ++ E)[k]? = some (b k, .inr (ci, wfl b (μ k) 0 fl)) := by rw [gw_get hk, hs]; rfl
  exact j_get hJ he hF (by rw [wfl_int hf, Nat.zero_add]) hd kk
theorem w_getr {k f ci idx o : Nat} {fl : List (Option Nat)} {ty : FieldType} {fb : Bool} (hJ : Cx l D cy n0 ad own cc nL ret R A PR PX XS fin ET J) (hk : k < N) (hs : sh k = .inl (ci, fl)) (hf : fl[f]? = some (some o)) (hF : FF own idx ci f ty fb) (hd : decode cc pc = .ok (.getfield idx, 3))
    (kk : J (gw N sh cy b μ ++ E) ce sl (pc + 3) lv (.ref (b o) :: st)) : J (gw N sh cy b μ ++ E) ce sl pc lv (.ref (b k) :: st) := by
  have he : (gw N sh cy b μ ++ E)[k]? = some (b k, .inr (ci, wfl b (μ k) 0 fl)) := by rw [gw_get hk, hs]; rfl
  exact j_get hJ he hF (by rw [wfl_ref hf]) hd kk
theorem w_puti {k f ci idx : Nat} {fi : Int} {fl : List (Option Nat)} {ty : FieldType} {z : Int} (hJ : Cx l D cy n0 ad own cc nL ret R A PR PX XS fin ET J) (hfi : (f : Int) = fi) (hk : k < N) (hs : sh k = .inl (ci, fl)) (hf : fl[f]? = some none) (hF : FF own idx ci f ty false) (hn : narrow ty (.int (zI z)) = .int (zI z)) (hfit : fits ty (.int (zI z)) = true) (hd : decode cc pc = .ok (.putfield idx, 3))
    (kk : ∀ μ', μ' = up μ k fi z → J (gw N sh cy b μ' ++ E) ce sl (pc + 3) lv st) : J (gw N sh cy b μ ++ E) ce sl pc lv (.int (zI z) :: .ref (b k) :: st) := by
  subst hfi
  have he : (gw N sh cy b μ ++ E)[k]? = some (b k, .inr (ci, wfl b (μ k) 0 fl)) := by rw [gw_get hk, hs]; rfl
  refine j_put hJ he hF hn hfit (by rw [wfl_len]; exact (List.getElem?_eq_some_iff.mp hf).1) hd ?_
  rw [wfl_set hf, gw_set (μ' := up μ k f z) hk ?_ ?_]
  · exact kk _ rfl
  · rw [hs]
    show _ = Sum.inr (ci, wfl b (up μ k f z k) 0 fl)
    congr 2
    exact wfl_congr fun j _ => by simp [up]
  · intro a ha; funext c; exact up_row ha
theorem w_iald {k n : Nat} {z : Int} (hJ : Cx l D cy n0 ad own cc nL ret R A PR PX XS fin ET J) (hk : k < N) (hs : sh k = .inr (.inl (0, n))) (hn : n < 2147483648) (h0 : 0 ≤ z) (h1 : z < n) (hd : decode cc pc = .ok (.iaload, 1))
    (kk : J (gw N sh cy b μ ++ E) ce sl (pc + 1) lv (.int (zI (μ k z)) :: st)) : J (gw N sh cy b μ ++ E) ce sl pc lv (.int (zI z) :: .ref (b k) :: st) := by
  obtain ⟨p, e, s, m, args, below, meth, c, Q, ⟨hx, hb, hml, hown⟩, hK, hA, hAn, hM, hXS, hQ, rfl⟩ := hJ
  intro H locs ls hP hD hS hl
  have he : (gw N sh cy b μ ++ E)[k]? = some (b k, .inl (cy 0, n, .inl (fun j => zI (μ k j)))) := by rw [gw_get hk, hs]; rfl
  refine va_iald hx hb hK.1 hP k 0 he rfl (zI_in h0 h1 hn) hd ?_
  have e1 : ((zI z).toNatClampNeg : Int) = z := by rw [zI_cl h0 (by omega)]; omega
  rw [e1]
  exact kk H locs ls hP hD hS hl
theorem w_aald {k n : Nat} {z : Int} {f : Nat → Nat} (hJ : Cx l D cy n0 ad own cc nL ret R A PR PX XS fin ET J) (hk : k < N) (hs : sh k = .inr (.inr (n, f))) (hn : n < 2147483648) (h0 : 0 ≤ z) (h1 : z < n) (hd : decode cc pc = .ok (.aaload, 1))
    (kk : J (gw N sh cy b μ ++ E) ce sl (pc + 1) lv (.ref (b (f z.toNat)) :: st)) : J (gw N sh cy b μ ++ E) ce sl pc lv (.int (zI z) :: .ref (b k) :: st) := by
  obtain ⟨p, e, s, m, args, below, meth, c, Q, ⟨hx, hb, hml, hown⟩, hK, hA, hAn, hM, hXS, hQ, rfl⟩ := hJ
  intro H locs ls hP hD hS hl
  have he : (gw N sh cy b μ ++ E)[k]? = some (b k, .inl (cy 2, n, .inr (.inr (.inr (.inr (fun j => some (b (f j)))))))) := by rw [gw_get hk, hs]; rfl
  refine va_aldq hx hb hK.1 hP k 2 he rfl (zI_in h0 h1 hn) hd ?_
  rw [zI_cl h0 (by omega)]
  exact kk H locs ls hP hD hS hl
theorem up_fn {μ : Nat → Int → Int} {k : Nat} {z v : Int} (h0 : 0 ≤ z) (h1 : z < 2147483648) : upd (fun j => zI (μ k j)) (zI z).toNatClampNeg (zI v) = fun j : Nat => zI (up μ k z v k j) := by
  funext j
  rw [zI_cl h0 h1]
  by_cases hj : j = z.toNat
  · subst hj
    have e1 : ((z.toNat : Nat) : Int) = z := by omega
    simp [upd, up, e1]
  · have e1 : ¬ ((j : Int) = z) := by omega
    simp [upd, up, hj, e1]
theorem w_iast {k n : Nat} {z v : Int} (hJ : Cx l D cy n0 ad own cc nL ret R A PR PX XS fin ET J) (hk : k < N) (hs : sh k = .inr (.inl (0, n))) (hn : n < 2147483648) (h0 : 0 ≤ z) (h1 : z < n) (hd : decode cc pc = .ok (.iastore, 1))
    (kk : ∀ μ', μ' = up μ k z v → J (gw N sh cy b μ' ++ E) ce sl (pc + 1) lv st) : J (gw N sh cy b μ ++ E) ce sl pc lv (.int (zI v) :: .int (zI z) :: .ref (b k) :: st) := by
  obtain ⟨p, e, s, m, args, below, meth, c, Q, ⟨hx, hb, hml, hown⟩, hK, hA, hAn, hM, hXS, hQ, rfl⟩ := hJ
  intro H locs ls hP hD hS hl
  have he : (gw N sh cy b μ ++ E)[k]? = some (b k, .inl (cy 0, n, .inl (fun j => zI (μ k j)))) := by rw [gw_get hk, hs]; rfl
  refine va_iast hx hb hK.1 hP hD hS k 0 he rfl (zI_in h0 h1 hn) hd (fun H1 locs1 hP hD hS => ?_)
  have e2 := gw_set (N := N) (sh := sh) (cy := cy) (b := b) (μ := μ) (μ' := up μ k z v) (E := E) (e := .inl (cy 0, n, .inl (upd (fun j => zI (μ k j)) (zI z).toNatClampNeg (zI v)))) hk (by rw [hs, up_fn h0 (by omega)]; rfl) (fun a ha => by funext c; exact up_row ha)
  rw [e2] at hP hD
  exact kk _ rfl H1 locs1 ls hP hD hS hl
end JW
