theorem zI_n {a : Int} (h : 0 ≤ a) : zI a = nI a.toNat := by rw [zI_nI, Int.toNat_of_nonneg h]
theorem shl_cnt : ∀ r : Nat, r < 32 → ((nI r &&& 31).toBitVec.smod 32).toNat = r := by decide +kernel
theorem ushr_cnt : ∀ r : Nat, r < 32 → (((nI r).toUInt32 &&& Int32.toUInt32 31).toBitVec % 32).toNat = r := by decide +kernel
theorem zI_shr {x r : Int} (h0 : 0 ≤ x) (hx : x < 2147483648) (hr0 : 0 ≤ r) (hr : r < 32) : zI x >>> (zI r &&& 31) = zI (x / 2 ^ r.toNat) := by
  rw [zI_n h0, zI_n hr0, pk_shrN (by omega) _ r.toNat (shl_cnt _ (by omega)), zI_nI]
  congr 1
  rw [Int.natCast_ediv, Int.toNat_of_nonneg h0]
  congr 1
theorem zI_shl1 {r : Int} (hr0 : 0 ≤ r) (hr : r < 31) : zI 1 <<< (zI r &&& 31) = zI (2 ^ r.toNat) := by
  have h2 : 2 ^ r.toNat < 2 ^ 31 := Nat.pow_lt_pow_right (by omega) (by omega)
  rw [show zI 1 = nI 1 from rfl, zI_n hr0, pk_shlN _ r.toNat (shl_cnt _ (by omega)) (by omega), zI_nI, Nat.one_mul]
  congr 1
theorem zI_and {y : Int} (k : Nat) {m : Int} (h0 : 0 ≤ y) (h1 : y < 2147483648) (hm : (zI m).toBitVec.toNat = 2 ^ k - 1) : zI y &&& zI m = zI (y % 2 ^ k) := by
  rw [zI_n h0, pk_andN (by omega) k hm, zI_nI]
  congr 1
  rw [Int.natCast_emod, Int.toNat_of_nonneg h0]
  congr 1
theorem zI_andM (x : Int32) (k : Nat) {m : Int} (hm : (zI m).toBitVec.toNat = 2 ^ k - 1) : x &&& zI m = zI ((x.toBitVec.toNat % 2 ^ k : Nat) : Int) := by
  rw [pk_and x k hm, zI_nI]
/-- the squares of a street, by the bits of its rows -/
def RowsOn (μ : Nat → Int → Int) (i : Nat) (On : Int → Prop) : Prop := ∀ c r : Int, 0 ≤ c → c < 12 → 0 ≤ r → r < 12 → 0 ≤ μ (9 + 6 * i + 5) c ∧ μ (9 + 6 * i + 5) c < 4096 ∧ (μ (9 + 6 * i + 5) c / 2 ^ r.toNat % 2 = 1 ↔ On (12 * c + r))
theorem divpow_bit (x : Nat) (r : Nat) : ((x : Int) / 2 ^ r % 2 = 1) ↔ x.testBit r = true := by
  rw [Nat.testBit_eq_decide_div_mod_eq, decide_eq_true_eq]
  have h : ((x : Int) / 2 ^ r % 2) = ((x / 2 ^ r % 2 : Nat) : Int) := by
    rw [Int.natCast_emod, Int.natCast_ediv, Int.natCast_pow]; rfl
  rw [h]
  omega
theorem nI_or (a b : Nat) : nI a ||| nI b = nI (a ||| b) := by
  apply Int32.toBitVec_inj.mp
  show BitVec.ofNat 32 a ||| BitVec.ofNat 32 b = BitVec.ofNat 32 (a ||| b)
  exact (BitVec.ofNat_or).symm
def orI (x r : Int) : Int := ((x.toNat ||| 2 ^ r.toNat : Nat) : Int)
theorem zI_or {x r : Int} (h0 : 0 ≤ x) : zI x ||| zI (2 ^ r.toNat) = zI (orI x r) := by
  have e1 : (2 : Int) ^ r.toNat = ((2 ^ r.toNat : Nat) : Int) := by rw [Int.natCast_pow]; rfl
  rw [zI_n h0, e1, ← zI_nI, orI, ← zI_nI]
  exact nI_or _ _
theorem orI_lt {x r : Int} (n : Nat) (h0 : 0 ≤ x) (hx : x < 2 ^ n) (hr0 : 0 ≤ r) (hr : r < n) : 0 ≤ orI x r ∧ orI x r < 2 ^ n := by
  refine ⟨Int.natCast_nonneg _, ?_⟩
  have e1 : (2 : Int) ^ n = ((2 ^ n : Nat) : Int) := by rw [Int.natCast_pow]; rfl
  rw [e1] at hx ⊢
  have := Nat.or_lt_two_pow (x := x.toNat) (y := 2 ^ r.toNat) (n := n) (by omega) (Nat.pow_lt_pow_right (by omega) (by omega))
  exact Int.ofNat_lt.mpr this
theorem orI_bit {x r q : Int} (h0 : 0 ≤ x) (hr0 : 0 ≤ r) (hq0 : 0 ≤ q) : (orI x r / 2 ^ q.toNat % 2 = 1) ↔ (x / 2 ^ q.toNat % 2 = 1 ∨ q = r) := by
  have e0 : x = ((x.toNat : Nat) : Int) := (Int.toNat_of_nonneg h0).symm
  rw [orI, divpow_bit]
  conv => rhs; rw [e0]
  rw [divpow_bit, Nat.testBit_or, Nat.testBit_two_pow, Bool.or_eq_true, decide_eq_true_eq]
  constructor
  · rintro (h | h)
    · exact Or.inl h
    · exact Or.inr (by omega)
  · rintro (h | h)
    · exact Or.inl h
    · exact Or.inr (by rw [h])
/-! the words of a name -/
def wd (z : Int) (k : Int) : Int := (((zI z).toBitVec.toNat / 2 ^ (8 * k.toNat) % 256 : Nat) : Int)
theorem wd_range (z k : Int) : 0 ≤ wd z k ∧ wd z k < 256 := by unfold wd; omega
theorem wd_ushr {z k : Int} (h0 : 0 ≤ k) (h : k < 4) : ((zI z).toUInt32 >>> ((zI (8 * k)).toUInt32 &&& Int32.toUInt32 31)).toInt32 = zI (((zI z).toBitVec.toNat / 2 ^ (8 * k.toNat) : Nat) : Int) := by
  have e1 : (((zI (8 * k)).toUInt32 &&& Int32.toUInt32 31).toBitVec % 32).toNat = 8 * k.toNat := by
    rw [zI_n (by omega), ushr_cnt _ (by omega)]; omega
  have := pk_ushr (zI z) (zI (8 * k)) (8 * k.toNat) e1
  rw [← zI_nI]
  apply Int32.toBitVec_inj.mp
  apply BitVec.eq_of_toNat_eq
  rw [this, pk_tn]
  have := (zI z).toBitVec.isLt
  exact Nat.lt_of_le_of_lt (Nat.div_le_self _ _) this
theorem wd_and {z k : Int} (h0 : 0 ≤ k) (h : k < 4) : zI (((zI z).toBitVec.toNat / 2 ^ (8 * k.toNat) : Nat) : Int) &&& zI 255 = zI (wd z k) := by
  rw [zI_andM _ 8 (by decide), ← zI_nI, ← zI_nI, pk_tn]
  · rw [zI_nI]; rfl
  · have := (zI z).toBitVec.isLt
    exact Nat.lt_of_le_of_lt (Nat.div_le_self _ _) this
theorem wd_shr {z k : Int} (h0 : 0 ≤ k) (h : k < 4) : (zI z >>> (zI (8 * k) &&& 31)) &&& zI 255 = zI (wd z k) := by
  rw [zI_andM _ 8 (by decide)]
  have e1 : ((zI (8 * k) &&& 31).toBitVec.smod 32).toNat = 8 * k.toNat := by
    rw [zI_n (by omega), shl_cnt _ (by omega)]; omega
  have e2 := pk_shr (zI z) (zI (8 * k) &&& 31) (8 * k.toNat) e1
  congr 1
  unfold wd
  have e3 : ∀ x : Int32, x.toInt = (x.toBitVec.toNat : Int) ∨ x.toInt = (x.toBitVec.toNat : Int) - 4294967296 := fun x => by
    have := BitVec.toInt_eq_toNat_cond x.toBitVec
    show x.toBitVec.toInt = _ ∨ x.toBitVec.toInt = _
    rw [this]
    split
    · exact Or.inl rfl
    · exact Or.inr rfl
  have a1 := e3 (zI z)
  have a2 := e3 (zI z >>> (zI (8 * k) &&& 31))
  generalize (zI z >>> (zI (8 * k) &&& 31)).toBitVec.toNat = A at a2 ⊢
  generalize (zI z).toBitVec.toNat = B at a1 ⊢
  rw [e2, Int.shiftRight_eq_div_pow] at a2
  have hk : k = 0 ∨ k = 1 ∨ k = 2 ∨ k = 3 := by omega
  rcases hk with rfl | rfl | rfl | rfl
  · simp at a2 ⊢; omega
  · simp at a2 ⊢; omega
  · simp at a2 ⊢; omega
  · simp at a2 ⊢; omega
/-! tracks -/
def sg (z : Int) : Int := if z < 0 then -1 else if z = 0 then 0 else 1
def ArrL (f : Int → Int) (L : List Int) : Prop := ∀ (k : Nat) (x : Int), L[k]? = some x → f k = x
theorem ArrL.snoc {f g : Int → Int} {L : List Int} {x : Int} (h : ArrL f L) (h1 : ∀ k : Int, 0 ≤ k → k < L.length → g k = f k) (h2 : g L.length = x) : ArrL g (L ++ [x]) := by
  intro k y hy
  by_cases hk : k < L.length
  · rw [List.getElem?_append_left hk] at hy
    rw [h1 k (by omega) (by omega)]
    exact h k y hy
  · rw [List.getElem?_append_right (by omega)] at hy
    have : k = L.length := by
      have := (List.getElem?_eq_some_iff.mp hy).1
      simp at this
      omega
    subst this
    simp at hy
    rw [h2, hy]
theorem ArrL.app {f : Int → Int} {L L' : List Int} (h : ArrL f (L ++ L')) : ArrL f L := fun k x hx => h k x (by rw [List.getElem?_append_left (List.getElem?_eq_some_iff.mp hx).1]; exact hx)
theorem ArrL.at {f : Int → Int} {L : List Int} (h : ArrL f L) {z : Int} (h0 : 0 ≤ z) (h1 : z < L.length) : ∃ x, L[z.toNat]? = some x ∧ f z = x ∧ x ∈ L := by
  have hk : z.toNat < L.length := by omega
  refine ⟨L[z.toNat], List.getElem?_eq_getElem hk, ?_, List.getElem_mem hk⟩
  have := h z.toNat _ (List.getElem?_eq_getElem hk)
  rwa [Int.toNat_of_nonneg h0] at this
theorem ArrL.congr {f g : Int → Int} {L : List Int} (h : ArrL f L) (h1 : ∀ k : Int, 0 ≤ k → k < L.length → g k = f k) : ArrL g L := fun k x hx => by
  rw [h1 k (by omega) (by have := (List.getElem?_eq_some_iff.mp hx).1; omega)]
  exact h k x hx
def segk (a st : Int) (n : Nat) : List Int := (List.range n).map (fun j : Nat => a + ((j : Int) + 1) * st)
theorem segk_succ (a st : Int) (n : Nat) : segk a st (n + 1) = segk a st n ++ [a + ((n : Int) + 1) * st] := by
  simp [segk, List.range_succ]
theorem segk_len (a st : Int) (n : Nat) : (segk a st n).length = n := by simp [segk]
def far (a c r : Int) : Int := imax (iabs (a / 12 - c)) (iabs (a % 12 - r))
def stp (a c r : Int) : Int := 12 * sg (c - a / 12) + sg (r - a % 12)
def seg (a x : Int) : List Int := segk a (stp a (x / 12) (x % 12)) (far a (x / 12) (x % 12)).toNat
def trk (p : Nat → Int) : Nat → List Int
  | 0 => []
  | 1 => [p 0]
  | m + 2 => trk p (m + 1) ++ seg (p m) (p (m + 1))
def Aln (a c r : Int) : Prop := ¬ (c = a / 12 ∧ r = a % 12) ∧ (c = a / 12 ∨ r = a % 12 ∨ c - a / 12 = r - a % 12 ∨ c - a / 12 = -(r - a % 12))
def PtOK (p : Nat → Int) (m : Nat) : Prop := (∀ k, k < m → 0 ≤ p k ∧ p k < 144) ∧ ∀ k, k + 1 < m → Aln (p k) (p (k + 1) / 12) (p (k + 1) % 12)
theorem far_rng {a c r : Int} (ha : 0 ≤ a ∧ a < 144) (hc : 0 ≤ c ∧ c < 12) (hr : 0 ≤ r ∧ r < 12) : 0 ≤ far a c r ∧ far a c r ≤ 11 := by
  unfold far imax iabs; split <;> split <;> split <;> omega
theorem sg_spec (z : Int) : (sg z = -1 ∧ z < 0) ∨ (sg z = 0 ∧ z = 0) ∨ (sg z = 1 ∧ 0 < z) := by
  unfold sg
  by_cases h : z < 0
  · rw [if_pos h]; omega
  · rw [if_neg h]
    by_cases h2 : z = 0
    · rw [if_pos h2]; omega
    · rw [if_neg h2]; omega
theorem far_spec (a c r : Int) : (far a c r = a / 12 - c ∨ far a c r = c - a / 12 ∨ far a c r = a % 12 - r ∨ far a c r = r - a % 12) ∧ a / 12 - c ≤ far a c r ∧ c - a / 12 ≤ far a c r ∧ a % 12 - r ≤ far a c r ∧ r - a % 12 ≤ far a c r := by
  unfold far imax iabs; split <;> split <;> split <;> omega
/-- the k-th square of a straight way -/
theorem way_sq {a c r k : Int} (ha : 0 ≤ a ∧ a < 144) (hc : 0 ≤ c ∧ c < 12) (hr : 0 ≤ r ∧ r < 12) (h : Aln a c r) (hk1 : 1 ≤ k) (hk : k ≤ far a c r) :
    (0 ≤ a / 12 + k * sg (c - a / 12) ∧ a / 12 + k * sg (c - a / 12) < 12) ∧ (0 ≤ a % 12 + k * sg (r - a % 12) ∧ a % 12 + k * sg (r - a % 12) < 12) ∧
    (k = far a c r → a / 12 + k * sg (c - a / 12) = c ∧ a % 12 + k * sg (r - a % 12) = r) := by
  have hq : 0 ≤ a / 12 ∧ a / 12 < 12 := by omega
  have hm : 0 ≤ a % 12 ∧ a % 12 < 12 := by omega
  have hf := far_spec a c r
  unfold Aln at h
  generalize far a c r = F at *
  generalize a / 12 = A at *
  generalize a % 12 = B at *
  rcases sg_spec (c - A) with ⟨e1, g1⟩ | ⟨e1, g1⟩ | ⟨e1, g1⟩ <;> rcases sg_spec (r - B) with ⟨e2, g2⟩ | ⟨e2, g2⟩ | ⟨e2, g2⟩ <;> rw [e1, e2] <;> refine ⟨by omega, by omega, fun w => by omega⟩
theorem seg_step {a c r : Int} (k : Int) : 12 * (a / 12 + k * sg (c - a / 12)) + (a % 12 + k * sg (r - a % 12)) = a + k * stp a c r := by
  unfold stp
  rcases sg_spec (c - a / 12) with ⟨e1, g1⟩ | ⟨e1, g1⟩ | ⟨e1, g1⟩ <;> rcases sg_spec (r - a % 12) with ⟨e2, g2⟩ | ⟨e2, g2⟩ | ⟨e2, g2⟩ <;> rw [e1, e2] <;> omega
theorem segk_rng {a c r : Int} (ha : 0 ≤ a ∧ a < 144) (hc : 0 ≤ c ∧ c < 12) (hr : 0 ≤ r ∧ r < 12) (h : Aln a c r) {n : Nat} (hn : n ≤ far a c r) : ∀ x ∈ segk a (stp a c r) n, 0 ≤ x ∧ x < 144 := by
  intro x hx
  simp only [segk, List.mem_map, List.mem_range] at hx
  obtain ⟨j, hj, rfl⟩ := hx
  have h1 := way_sq ha hc hr h (k := (j : Int) + 1) (by omega) (by omega)
  rw [← seg_step]
  omega
theorem Aln.far_pos {a c r : Int} (ha : 0 ≤ a ∧ a < 144) (hc : 0 ≤ c ∧ c < 12) (hr : 0 ≤ r ∧ r < 12) (h : Aln a c r) : 1 ≤ far a c r := by
  have hf := far_spec a c r
  unfold Aln at h
  omega
theorem trk_last {p : Nat → Int} : ∀ {m : Nat}, PtOK p (m + 1) → ∃ L, trk p (m + 1) = L ++ [p m]
  | 0, _ => ⟨[], rfl⟩
  | m + 1, h => by
    have h1 := h.1 m (by omega)
    have h2 := h.1 (m + 1) (by omega)
    have h3 := h.2 m (by omega)
    have h4 := h3.far_pos h1 (by omega) (by omega)
    obtain ⟨n, hn⟩ : ∃ n : Nat, (far (p m) (p (m + 1) / 12) (p (m + 1) % 12)).toNat = n + 1 := ⟨_, (Nat.succ_pred_eq_of_pos (by omega)).symm⟩
    refine ⟨trk p (m + 1) ++ segk (p m) (stp (p m) (p (m + 1) / 12) (p (m + 1) % 12)) n, ?_⟩
    show trk p (m + 1) ++ seg (p m) (p (m + 1)) = _
    rw [seg, hn, segk_succ, List.append_assoc]
    congr 3
    have h5 := way_sq h1 (by omega) (by omega) h3 (k := (n : Int) + 1) (by omega) (by omega)
    rw [← seg_step]
    have h6 := h5.2.2 (by omega)
    omega
theorem trk_len {p : Nat → Int} : ∀ {m : Nat}, PtOK p m → (trk p m).length ≤ 1 + 11 * (m - 1) ∧ (m = 0 → (trk p m).length = 0) ∧ (0 < m → 0 < (trk p m).length)
  | 0, _ => ⟨by simp [trk], fun _ => rfl, fun h => absurd h (by omega)⟩
  | 1, _ => ⟨by simp [trk], fun h => absurd h (by omega), fun _ => by simp [trk]⟩
  | m + 2, h => by
    have ih := trk_len (p := p) (m := m + 1) ⟨fun k hk => h.1 k (by omega), fun k hk => h.2 k (by omega)⟩
    have h1 := h.1 m (by omega)
    have h2 := h.1 (m + 1) (by omega)
    have h4 := far_rng h1 (c := p (m + 1) / 12) (r := p (m + 1) % 12) (by omega) (by omega)
    have e : (trk p (m + 2)).length = (trk p (m + 1)).length + (far (p m) (p (m + 1) / 12) (p (m + 1) % 12)).toNat := by
      show (trk p (m + 1) ++ seg (p m) (p (m + 1))).length = _
      rw [List.length_append, seg, segk_len]
    omega
theorem trk_rng {p : Nat → Int} : ∀ {m : Nat}, PtOK p m → ∀ x ∈ trk p m, 0 ≤ x ∧ x < 144
  | 0, _, x, hx => by simp [trk] at hx
  | 1, h, x, hx => by
    simp [trk] at hx
    rw [hx]; exact h.1 0 (by omega)
  | m + 2, h, x, hx => by
    have hx : x ∈ trk p (m + 1) ++ seg (p m) (p (m + 1)) := hx
    rcases List.mem_append.mp hx with hx | hx
    · exact trk_rng (p := p) (m := m + 1) ⟨fun k hk => h.1 k (by omega), fun k hk => h.2 k (by omega)⟩ x hx
    · have h1 := h.1 m (by omega)
      have h2 := h.1 (m + 1) (by omega)
      have h3 := h.2 m (by omega)
      exact segk_rng h1 (by omega) (by omega) h3 (by have := h3.far_pos h1 (by omega) (by omega); omega) x hx
theorem trk_congr {p q : Nat → Int} : ∀ {m : Nat}, (∀ k, k < m → p k = q k) → trk p m = trk q m
  | 0, _ => rfl
  | 1, h => by simp [trk, h 0 (by omega)]
  | m + 2, h => by
    show trk p (m + 1) ++ seg (p m) (p (m + 1)) = trk q (m + 1) ++ seg (q m) (q (m + 1))
    rw [trk_congr (m := m + 1) (fun k hk => h k (by omega)), h m (by omega), h (m + 1) (by omega)]
theorem PtOK.congr {p q : Nat → Int} {m : Nat} (h : PtOK p m) (he : ∀ k, k < m → p k = q k) : PtOK q m := ⟨fun k hk => by rw [← he k hk]; exact h.1 k hk, fun k hk => by rw [← he k (by omega), ← he (k + 1) hk]; exact h.2 k hk⟩
theorem PtOK.less {p : Nat → Int} {m k : Nat} (h : PtOK p m) (hk : k ≤ m) : PtOK p k := ⟨fun j hj => h.1 j (by omega), fun j hj => h.2 j (by omega)⟩
theorem trk_pre {p : Nat → Int} {m : Nat} : ∀ {k : Nat}, k ≤ m → ∃ L, trk p m = trk p k ++ L := by
  intro k hk
  induction m with
  | zero => exact ⟨[], by rw [show k = 0 by omega]; rfl⟩
  | succ m ih =>
    by_cases h : k = m + 1
    · exact ⟨[], by rw [h, List.append_nil]⟩
    · obtain ⟨L, hL⟩ := ih (by omega)
      match m, hL with
      | 0, hL => exact ⟨[p 0], by rw [show k = 0 by omega]; rfl⟩
      | m + 1, hL => exact ⟨L ++ seg (p m) (p (m + 1)), by rw [← List.append_assoc, ← hL]; rfl⟩
