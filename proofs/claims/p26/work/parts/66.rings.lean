/-! ===== lN n to 2^64: shifts, and, or, masks, one bit ===== -/
theorem wb_tb (n : Nat) : (lN n).toBitVec = BitVec.ofNat 64 n := rfl
theorem wb_inj {a b : Int64} (h : a.toBitVec = b.toBitVec) : a = b := Int64.toBitVec_inj.mp h
theorem wb_tn {n : Nat} (h : n < 2 ^ 64) : (lN n).toBitVec.toNat = n := by rw [wb_tb, BitVec.toNat_ofNat, Nat.mod_eq_of_lt h]
theorem wb_of (x : Int64) : ∃ n, n < 2 ^ 64 ∧ x = lN n := ⟨x.toBitVec.toNat, x.toBitVec.isLt, wb_inj (by rw [wb_tb]; simp)⟩
theorem wb_of32 (x : Int32) : ∃ n, n < 2 ^ 32 ∧ x = nI n := ⟨x.toBitVec.toNat, x.toBitVec.isLt, Int32.toBitVec_inj.mp (by show _ = BitVec.ofNat 32 _; simp)⟩
theorem wb_c : ∀ k, k < 64 → ((nI k).toInt64 &&& 63) = lN k := by decide +kernel
theorem wb_cu : ∀ k, k < 64 → ((nI k).toInt64.toUInt64 &&& Int64.toUInt64 63) = UInt64.ofNat k := by decide +kernel
theorem wb_sm : ∀ k, k < 64 → (BitVec.ofNat 64 k).smod 64 = BitVec.ofNat 64 k := by decide +kernel
theorem wb_pw {a b : Nat} (h : a ≤ b) : 2 ^ b = 2 ^ a * 2 ^ (b - a) := by rw [← Nat.pow_add]; congr 1; omega
theorem wb_lt2 {a b : Nat} (h : a < b) : 2 ^ a < 2 ^ b := Nat.pow_lt_pow_right (by decide) h
theorem wb_mod (n : Nat) : lN n = lN (n % 2 ^ 64) := wb_inj (by rw [wb_tb, wb_tb]; apply BitVec.eq_of_toNat_eq; rw [BitVec.toNat_ofNat, BitVec.toNat_ofNat, Nat.mod_mod])
theorem wb_shr {n k : Nat} (hn : n < 2 ^ 64) (hk : k < 64) : ((lN n).toUInt64 >>> ((nI k).toInt64.toUInt64 &&& Int64.toUInt64 63)).toInt64 = lN (n / 2 ^ k) := by
  rw [wb_cu k hk]
  apply wb_inj
  apply BitVec.eq_of_toNat_eq
  show ((lN n).toUInt64 >>> UInt64.ofNat k).toNat = (BitVec.ofNat 64 _).toNat
  have h1 : (UInt64.ofNat k).toNat = k := by
    show (BitVec.ofNat 64 k).toNat = k
    rw [BitVec.toNat_ofNat, Nat.mod_eq_of_lt (by omega)]
  have h2 : (lN n).toUInt64.toNat = n := wb_tn hn
  rw [UInt64.toNat_shiftRight, h1, h2, Nat.mod_eq_of_lt hk, Nat.shiftRight_eq_div_pow, BitVec.toNat_ofNat, Nat.mod_eq_of_lt (Nat.lt_of_le_of_lt (Nat.div_le_self _ _) hn)]
theorem wb_shl (n : Nat) {k : Nat} (hk : k < 64) : lN n <<< ((nI k).toInt64 &&& 63) = lN (n * 2 ^ k) := by
  rw [wb_c k hk]
  apply wb_inj
  rw [Int64.toBitVec_shiftLeft, wb_tb, wb_tb, wb_tb, wb_sm k hk]
  apply BitVec.eq_of_toNat_eq
  rw [BitVec.shiftLeft_eq', BitVec.toNat_shiftLeft, BitVec.toNat_ofNat, BitVec.toNat_ofNat, BitVec.toNat_ofNat, Nat.mod_eq_of_lt (show k < 2 ^ 64 by omega), Nat.shiftLeft_eq, Nat.mul_mod, Nat.mod_mod, ← Nat.mul_mod]
theorem wb_and {a b : Nat} (ha : a < 2 ^ 64) (hb : b < 2 ^ 64) : lN a &&& lN b = lN (a &&& b) := by
  apply wb_inj
  rw [Int64.toBitVec_and, wb_tb, wb_tb, wb_tb]
  apply BitVec.eq_of_toNat_eq
  rw [BitVec.toNat_and, BitVec.toNat_ofNat, BitVec.toNat_ofNat, BitVec.toNat_ofNat, Nat.mod_eq_of_lt ha, Nat.mod_eq_of_lt hb, Nat.mod_eq_of_lt (Nat.and_lt_two_pow _ hb)]
theorem wb_or {a b : Nat} (ha : a < 2 ^ 64) (hb : b < 2 ^ 64) : lN a ||| lN b = lN (a ||| b) := by
  apply wb_inj
  rw [Int64.toBitVec_or, wb_tb, wb_tb, wb_tb]
  apply BitVec.eq_of_toNat_eq
  rw [BitVec.toNat_or, BitVec.toNat_ofNat, BitVec.toNat_ofNat, BitVec.toNat_ofNat, Nat.mod_eq_of_lt ha, Nat.mod_eq_of_lt hb, Nat.mod_eq_of_lt (Nat.or_lt_two_pow ha hb)]
theorem wb_mask {n k : Nat} (hn : n < 2 ^ 64) (hk : k < 64) : lN n &&& lN (2 ^ k - 1) = lN (n % 2 ^ k) := by
  rw [wb_and hn (by have := wb_lt2 hk; omega), Nat.and_two_pow_sub_one_eq_mod]
theorem wb_a1 {n : Nat} (hn : n < 2 ^ 64) : lN n &&& 1 = lN (n % 2) := wb_mask (k := 1) hn (by decide)
theorem wb_bit {n k : Nat} (hn : n < 2 ^ 64) (hk : k < 64) : ((lN n).toUInt64 >>> ((nI k).toInt64.toUInt64 &&& Int64.toUInt64 63)).toInt64 &&& 1 = lN (n / 2 ^ k % 2) := by
  rw [wb_shr hn hk, wb_a1 (Nat.lt_of_le_of_lt (Nat.div_le_self _ _) hn)]
theorem pf_lI {a : Nat} (h : a < 2 ^ 63) : (lN a).toInt = (a : Int) := lg_ofNat_toInt h
theorem pf_shr {a d : Nat} {D : Int64} (hD : (D.toBitVec.smod 64).toNat = d) (h : a < 2 ^ 62) : lN a >>> D = lN (a / 2 ^ d) := by
  have hd : a / 2 ^ d ≤ a := Nat.div_le_self _ _
  apply Int64.toInt_inj.mp
  have e : (lN a >>> D).toInt = (lN a).toInt >>> d := by
    rw [← hD]
    exact BitVec.toInt_sshiftRight ..
  rw [e, Int.shiftRight_eq_div_pow, pf_lI (by omega), pf_lI (by omega)]
  rfl
/-! the law's sets of squares: three longs of 48 bits -/
def lcell (cy : Nat → ClassId) (q : Nat) (f : Nat → Int64) : Nat × va_E := (q, .inl (cy 4, 3, .inr (.inl f)))
def SB (f : Nat → Int64) (S : Nat → Bool) : Prop := ∀ k : Nat, k < 3 → ∃ w : Nat, f k = lN w ∧ w < 2 ^ 48 ∧ ∀ j : Nat, j < 48 → w.testBit j = S (48 * k + j)
theorem SB.zero : SB (fun _ => 0) (fun _ => false) := fun k _ => ⟨0, rfl, by decide, fun j _ => by simp⟩
theorem SB.copy {f g : Nat → Int64} {S : Nat → Bool} (h : SB g S) (he : ∀ k, k < 3 → f k = g k) : SB f S := fun k hk => by rw [he k hk]; exact h k hk
theorem SB.iff {f : Nat → Int64} {S T : Nat → Bool} (h : SB f S) (he : ∀ x, x < 144 → S x = T x) : SB f T := fun k hk => by
  obtain ⟨w, h1, h2, h3⟩ := h k hk
  exact ⟨w, h1, h2, fun j hj => by rw [h3 j hj, he _ (by omega)]⟩
theorem lsh_amt {d : Int} (h0 : 0 ≤ d) (h1 : d < 48) : ((zI d).toInt64 &&& 63) = lN d.toNat ∧ ((lN d.toNat).toBitVec.smod 64).toNat = d.toNat := by
  rw [zI_n h0]
  refine ⟨wb_c _ (by omega), ?_⟩
  rw [wb_tb, wb_sm _ (by omega), BitVec.toNat_ofNat, Nat.mod_eq_of_lt (by omega)]
theorem SB.test {f : Nat → Int64} {S : Nat → Bool} (h : SB f S) {x : Int} (h0 : 0 ≤ x) (h1 : x < 144) : ∃ v : Nat, f (x / 48).toNat >>> ((zI (x % 48)).toInt64 &&& 63) = lN v ∧ lN v &&& (1 : Int64) = lN (v % 2) ∧ lg_cmp (lN (v % 2)) 1 = zI (if S x.toNat then 0 else -1) := by
  obtain ⟨w, e1, e2, e3⟩ := h (x / 48).toNat (by omega)
  obtain ⟨a1, a2⟩ := lsh_amt (d := x % 48) (by omega) (by omega)
  have hw : w / 2 ^ (x % 48).toNat ≤ w := Nat.div_le_self _ _
  refine ⟨w / 2 ^ (x % 48).toNat, ?_, ?_, ?_⟩
  · rw [e1, a1]
    exact pf_shr a2 (Nat.lt_trans e2 (by decide))
  · exact wb_a1 (Nat.lt_trans (Nat.lt_of_le_of_lt hw e2) (by decide))
  · have h5 := e3 (x % 48).toNat (by omega)
    rw [show 48 * (x / 48).toNat + (x % 48).toNat = x.toNat by omega, Nat.testBit_eq_decide_div_mod_eq] at h5
    rw [← h5]
    rcases Nat.mod_two_eq_zero_or_one (w / 2 ^ (x % 48).toNat) with g | g
    · rw [g]; decide
    · rw [g]; decide
/-- the mask that is put in, or none -/
def msk (c : Bool) (x : Int) : Int64 := if c then (1 : Int64) <<< ((zI (x % 48)).toInt64 &&& 63) else 0
theorem SB.ins {f : Nat → Int64} {S : Nat → Bool} (h : SB f S) {x : Int} (h0 : 0 ≤ x) (h1 : x < 144) (c : Bool) : SB (vp_updL f (x / 48).toNat (f (x / 48).toNat ||| msk c x)) (fun y => S y || (c && y == x.toNat)) := by
  intro k hk
  by_cases e : k = (x / 48).toNat
  · subst e
    obtain ⟨w, e1, e2, e3⟩ := h (x / 48).toNat (by omega)
    rw [pk_uLs, e1]
    cases c with
    | false =>
      refine ⟨w, ?_, e2, fun j hj => by rw [e3 j hj]; simp⟩
      show lN w ||| lN 0 = lN w
      rw [wb_or (Nat.lt_trans e2 (by decide)) (by decide), Nat.or_zero]
    | true =>
      obtain ⟨a1, a2⟩ := lsh_amt (d := x % 48) (by omega) (by omega)
      have hp : 2 ^ (x % 48).toNat < 2 ^ 48 := Nat.pow_lt_pow_right (by decide) (by omega)
      have em : msk true x = lN (2 ^ (x % 48).toNat) := by
        show (lN 1) <<< ((zI (x % 48)).toInt64 &&& 63) = _
        rw [zI_n (by omega), wb_shl 1 (by omega), Nat.one_mul]
      refine ⟨w ||| 2 ^ (x % 48).toNat, ?_, Nat.or_lt_two_pow e2 hp, fun j hj => ?_⟩
      · rw [em, wb_or (Nat.lt_trans e2 (by decide)) (Nat.lt_trans hp (by decide))]
      · show _ = (S (48 * (x / 48).toNat + j) || (true && (48 * (x / 48).toNat + j) == x.toNat))
        rw [Nat.testBit_or, e3 j hj, Nat.testBit_two_pow, Bool.true_and]
        congr 1
        rw [Bool.eq_iff_iff, decide_eq_true_eq, beq_iff_eq]
        omega
  · rw [pk_uLn e]
    obtain ⟨w, e1, e2, e3⟩ := h k hk
    refine ⟨w, e1, e2, fun j hj => ?_⟩
    rw [e3 j hj]
    have : ((48 * k + j) == x.toNat) = false := by
      rw [Bool.eq_false_iff]; intro g; rw [beq_iff_eq] at g; omega
    show _ = (S (48 * k + j) || (c && (48 * k + j) == x.toNat))
    rw [this, Bool.and_false, Bool.or_false]
theorem cntN_ins {T : Nat → Bool} {c : Bool} {y : Nat} (h : c = true → T y = false) : ∀ n, cntN (fun b => T b || (c && b == y)) n = cntN T n + (if c = true ∧ y < n then 1 else 0)
  | 0 => by simp [cntN]
  | n + 1 => by
    rw [cntN, cntN, cntN_ins h n]
    cases c with
    | false => simp
    | true =>
      have h := h rfl
      by_cases e : n = y
      · subst e
        simp [h]
      · have e2 : (n == y) = false := by rw [Bool.eq_false_iff]; intro g; exact e (beq_iff_eq.mp g)
        have e3 : (T n || (true && n == y)) = T n := by rw [e2]; simp
        rw [e3]
        by_cases g : y < n
        · rw [if_pos (⟨rfl, g⟩ : true = true ∧ y < n), if_pos (⟨rfl, Nat.lt_succ_of_lt g⟩ : true = true ∧ y < n + 1)]; omega
        · rw [if_neg (fun q : true = true ∧ y < n => g q.2), if_neg (fun q : true = true ∧ y < n + 1 => by have := q.2; omega), Nat.add_zero, Nat.add_zero]
theorem cntN_sub {S T : Nat → Bool} : ∀ {n : Nat}, (∀ x, x < n → S x = true → T x = true) → cntN S n ≤ cntN T n ∧ (cntN S n = cntN T n → ∀ x, x < n → T x = true → S x = true)
  | 0, _ => ⟨Nat.le_refl _, fun _ x hx => absurd hx (Nat.not_lt_zero _)⟩
  | n + 1, h => by
    obtain ⟨h1, h2⟩ := cntN_sub (S := S) (T := T) (n := n) (fun x hx => h x (by omega))
    have h3 := h n (by omega)
    rw [cntN, cntN]
    cases hs : S n <;> cases ht : T n
    · simp only [Bool.false_eq_true, if_false, Nat.add_zero]
      refine ⟨h1, fun e x hx hT => ?_⟩
      by_cases g : x = n
      · subst g; rw [ht] at hT; cases hT
      · exact h2 e x (by omega) hT
    · simp only [Bool.false_eq_true, if_false, if_true, Nat.add_zero]
      exact ⟨by omega, fun e => absurd e (by omega)⟩
    · rw [hs, ht] at h3; exact absurd (h3 rfl) (by decide)
    · simp only [if_true]
      refine ⟨by omega, fun e x hx hT => ?_⟩
      by_cases g : x = n
      · subst g; exact hs
      · exact h2 (by omega) x (by omega) hT
/-! rings of walks -/
def WLe (Ed : Int → Int → Prop) (r : Nat) (a x : Int) : Prop := ∃ k, k ≤ r ∧ Walk Ed k a x
theorem Walk.last {Ed : Int → Int → Prop} : ∀ {k : Nat} {a x : Int}, Walk Ed (k + 1) a x → ∃ y, Walk Ed k a y ∧ Ed y x
  | 0, a, x, ⟨c, h1, h2⟩ => ⟨a, rfl, by have h2 : c = x := h2; rw [← h2]; exact h1⟩
  | k + 1, a, x, ⟨c, h1, h2⟩ => by
    obtain ⟨y, h3, h4⟩ := Walk.last h2
    exact ⟨y, ⟨c, h1, h3⟩, h4⟩
theorem WLe.zero {Ed : Int → Int → Prop} {a x : Int} : WLe Ed 0 a x ↔ a = x := by
  constructor
  · rintro ⟨k, h1, h2⟩
    have e : k = 0 := Nat.le_zero.mp h1
    subst e; exact h2
  · exact fun h => ⟨0, Nat.le_refl _, h⟩
theorem WLe.succ {Ed : Int → Int → Prop} {r : Nat} {a x : Int} : WLe Ed (r + 1) a x ↔ WLe Ed r a x ∨ ∃ y, WLe Ed r a y ∧ Ed y x := by
  constructor
  · rintro ⟨k, h1, h2⟩
    by_cases g : k ≤ r
    · exact Or.inl ⟨k, g, h2⟩
    · obtain rfl : k = r + 1 := by omega
      obtain ⟨y, h3, h4⟩ := h2.last
      exact Or.inr ⟨y, ⟨r, Nat.le_refl _, h3⟩, h4⟩
  · rintro (⟨k, h1, h2⟩ | ⟨y, ⟨k, h1, h2⟩, h3⟩)
    · exact ⟨k, by omega, h2⟩
    · exact ⟨k + 1, by omega, h2.snoc h3⟩
theorem WLe.stable {Ed : Int → Int → Prop} {r : Nat} {a : Int} (h : ∀ x, WLe Ed (r + 1) a x → WLe Ed r a x) : ∀ (k : Nat) (x : Int), Walk Ed k a x → WLe Ed r a x
  | 0, x, hk => ⟨0, Nat.zero_le _, hk⟩
  | k + 1, x, hk => by
    obtain ⟨y, h3, h4⟩ := hk.last
    exact h x (WLe.succ.mpr (Or.inr ⟨y, WLe.stable h k y h3, h4⟩))
def EdP (L : Nat → List Int) (ow : Nat → Int) (t k : Nat) (a b : Int) : Prop := (∃ s, s < t ∧ EdL (L s) (ow s) a b) ∨ EdK (L t) (ow t) (k + 1) a b
theorem EdP.zero {L : Nat → List Int} {ow : Nat → Int} {a b : Int} : ¬ EdP L ow 0 0 a b := by
  rintro (⟨s, h, -⟩ | h)
  · omega
  · exact EdK_1 h
theorem EdP.step {L : Nat → List Int} {ow : Nat → Int} {t k : Nat} {a b x y : Int} (hx : (L t)[k]? = some x) (hy : (L t)[k + 1]? = some y) : EdP L ow t (k + 1) a b ↔ EdP L ow t k a b ∨ (a = x ∧ b = y) ∨ (ow t = 0 ∧ a = y ∧ b = x) := by
  unfold EdP
  rw [EdK_succ (k := k + 1) (by omega) (by exact hx) hy, or_assoc]
theorem EdP.next {L : Nat → List Int} {ow : Nat → Int} {t k : Nat} {a b : Int} (hk : (L t).length ≤ k + 1) : EdP L ow (t + 1) 0 a b ↔ EdP L ow t k a b := by
  unfold EdP
  rw [EdK_ge hk]
  constructor
  · rintro (⟨s, h1, h2⟩ | h)
    · by_cases g : s = t
      · subst g; exact Or.inr h2
      · exact Or.inl ⟨s, by omega, h2⟩
    · exact absurd h EdK_1
  · rintro (⟨s, h1, h2⟩ | h)
    · exact Or.inl ⟨s, by omega, h2⟩
    · exact Or.inl ⟨t, by omega, h⟩
theorem EdP.all {L : Nat → List Int} {ow : Nat → Int} {n : Nat} {a b : Int} : EdP L ow n 0 a b ↔ EdS n L ow a b := by
  unfold EdP EdS
  exact ⟨fun h => h.resolve_right EdK_1, Or.inl⟩
/-- next: what stood, and what one step along the ways seen leads to -/
def RT (L : Nat → List Int) (ow : Nat → Int) (S T : Nat → Bool) (t k : Nat) : Prop := ∀ x : Nat, x < 144 → (T x = true ↔ S x = true ∨ ∃ a : Nat, a < 144 ∧ S a = true ∧ EdP L ow t k a x)
theorem RT.init {L : Nat → List Int} {ow : Nat → Int} {S T : Nat → Bool} (h : ∀ x, x < 144 → T x = S x) : RT L ow S T 0 0 := fun x hx => by
  rw [h x hx]
  exact ⟨Or.inl, fun g => g.resolve_right (fun ⟨a, _, _, h3⟩ => EdP.zero h3)⟩
theorem RT.next {L : Nat → List Int} {ow : Nat → Int} {S T : Nat → Bool} {t k : Nat} (h : RT L ow S T t k) (hk : (L t).length ≤ k + 1) : RT L ow S T (t + 1) 0 := fun x hx => by
  rw [h x hx]
  constructor
  · rintro (g | ⟨a, h1, h2, h3⟩)
    · exact Or.inl g
    · exact Or.inr ⟨a, h1, h2, (EdP.next hk).mpr h3⟩
  · rintro (g | ⟨a, h1, h2, h3⟩)
    · exact Or.inl g
    · exact Or.inr ⟨a, h1, h2, (EdP.next hk).mp h3⟩
theorem RT.step {L : Nat → List Int} {ow : Nat → Int} {S T T1 : Nat → Bool} {t k : Nat} {x y : Int} (h : RT L ow S T t k) (hx : (L t)[k]? = some x) (hy : (L t)[k + 1]? = some y) (rx : 0 ≤ x ∧ x < 144) (ry : 0 ≤ y ∧ y < 144)
    (hT : ∀ b, b < 144 → (T1 b = true ↔ T b = true ∨ (S x.toNat = true ∧ b = y.toNat) ∨ (ow t = 0 ∧ S y.toNat = true ∧ b = x.toNat))) : RT L ow S T1 t (k + 1) := fun b hb => by
  rw [hT b hb, h b hb]
  constructor
  · rintro ((g | ⟨a, h1, h2, h3⟩) | ⟨g1, g2⟩ | ⟨g0, g1, g2⟩)
    · exact Or.inl g
    · exact Or.inr ⟨a, h1, h2, (EdP.step hx hy).mpr (Or.inl h3)⟩
    · exact Or.inr ⟨x.toNat, by omega, g1, (EdP.step hx hy).mpr (Or.inr (Or.inl ⟨by omega, by omega⟩))⟩
    · exact Or.inr ⟨y.toNat, by omega, g1, (EdP.step hx hy).mpr (Or.inr (Or.inr ⟨g0, by omega, by omega⟩))⟩
  · rintro (g | ⟨a, h1, h2, h3⟩)
    · exact Or.inl (Or.inl g)
    · rcases (EdP.step hx hy).mp h3 with h4 | ⟨e1, e2⟩ | ⟨e0, e1, e2⟩
      · exact Or.inl (Or.inr ⟨a, h1, h2, h4⟩)
      · exact Or.inr (Or.inl ⟨by rw [show x.toNat = a by omega]; exact h2, by omega⟩)
      · exact Or.inr (Or.inr ⟨e0, by rw [show y.toNat = a by omega]; exact h2, by omega⟩)
/-- a ring's set -/
def RS (n : Nat) (L : Nat → List Int) (ow : Nat → Int) (a : Int) (S : Nat → Bool) (r : Nat) : Prop := ∀ x : Nat, x < 144 → (S x = true ↔ WLe (EdS n L ow) r a x)
theorem RS.next {n : Nat} {L : Nat → List Int} {ow : Nat → Int} {a : Int} {S T : Nat → Bool} {r : Nat} (h : RS n L ow a S r) (hT : RT L ow S T n 0) (hR : ∀ x y, EdS n L ow x y → (0 ≤ x ∧ x < 144) ∧ 0 ≤ y ∧ y < 144) : RS n L ow a T (r + 1) := fun x hx => by
  rw [hT x hx, WLe.succ, h x hx]
  constructor
  · rintro (g | ⟨b, h1, h2, h3⟩)
    · exact Or.inl g
    · exact Or.inr ⟨b, (h b h1).mp h2, EdP.all.mp h3⟩
  · rintro (g | ⟨y, h1, h2⟩)
    · exact Or.inl g
    · have hy := (hR y x h2).1
      refine Or.inr ⟨y.toNat, by omega, ?_, EdP.all.mpr ?_⟩
      · rw [h y.toNat (by omega), Int.toNat_of_nonneg hy.1]; exact h1
      · rw [Int.toNat_of_nonneg hy.1]; exact h2
/-- the steps found so far -/
def StI (Ed : Int → Int → Prop) (a g q : Int) (r : Nat) : Prop := (q = -1 ∧ ¬ WLe Ed r a g) ∨ (∃ d : Nat, d ≤ r ∧ q = d ∧ Walk Ed d a g ∧ ∀ k, Walk Ed k a g → d ≤ k)
theorem StI.init {Ed : Int → Int → Prop} {a g q : Int} (h1 : a = g → q = 0) (h2 : a ≠ g → q = -1) : StI Ed a g q 0 := by
  by_cases e : a = g
  · exact Or.inr ⟨0, Nat.le_refl _, h1 e, e, fun k _ => Nat.zero_le _⟩
  · exact Or.inl ⟨h2 e, fun w => e (WLe.zero.mp w)⟩
theorem StI.step {Ed : Int → Int → Prop} {a g q q' : Int} {r : Nat} (h : StI Ed a g q r) (h1 : q < 0 → WLe Ed (r + 1) a g → q' = (r : Int) + 1) (h2 : q < 0 → ¬ WLe Ed (r + 1) a g → q' = q) (h3 : 0 ≤ q → q' = q) : StI Ed a g q' (r + 1) := by
  rcases h with ⟨e, hn⟩ | ⟨d, hd, e, hw, hm⟩
  · by_cases w : WLe Ed (r + 1) a g
    · obtain ⟨k, hk, hw⟩ := w
      have hkr : k = r + 1 := by
        by_cases g9 : k ≤ r
        · exact absurd ⟨k, g9, hw⟩ hn
        · omega
      subst hkr
      refine Or.inr ⟨r + 1, Nat.le_refl _, by rw [h1 (by omega) ⟨_, hk, hw⟩]; omega, hw, fun k hk2 => Nat.le_of_not_lt fun g9 => hn ⟨k, by omega, hk2⟩⟩
    · exact Or.inl ⟨by rw [h2 (by omega) w]; exact e, w⟩
  · exact Or.inr ⟨d, by omega, by rw [h3 (by omega)]; exact e, hw, hm⟩
theorem StI.fin {Ed : Int → Int → Prop} {a g q : Int} {r : Nat} (h : StI Ed a g q r) (hs : ∀ (k : Nat) (x : Int), Walk Ed k a x → WLe Ed r a x) : IsDist Ed a g q := by
  rcases h with ⟨e, hn⟩ | ⟨d, hd, e, hw, hm⟩
  · exact Or.inl ⟨e, fun k hk => hn (hs k g hk)⟩
  · exact Or.inr ⟨d, e, hw, hm⟩
theorem StI.rng {Ed : Int → Int → Prop} {a g q : Int} {r : Nat} (h : StI Ed a g q r) : -1 ≤ q ∧ q ≤ r := by
  rcases h with ⟨e, hn⟩ | ⟨d, hd, e, hw, hm⟩ <;> omega
/-- what the ring before had: as many as now means that nothing is left to come to -/
theorem ring_end {n : Nat} {L : Nat → List Int} {ow : Nat → Int} {a : Int} {S S0 : Nat → Bool} {r : Nat} (h0 : RS n L ow a S0 r) (h : RS n L ow a S (r + 1)) (he : cntN S 144 ≤ cntN S0 144) (ha : 0 ≤ a ∧ a < 144) (hR : ∀ x y, EdS n L ow x y → (0 ≤ x ∧ x < 144) ∧ 0 ≤ y ∧ y < 144) : ∀ (k : Nat) (x : Int), Walk (EdS n L ow) k a x → WLe (EdS n L ow) (r + 1) a x := by
  obtain ⟨c1, c2⟩ := cntN_sub (S := S0) (T := S) (n := 144) (fun x hx g => (h x hx).mpr (WLe.succ.mpr (Or.inl ((h0 x hx).mp g))))
  have c3 := c2 (by omega)
  have hs : ∀ x, WLe (EdS n L ow) (r + 1) a x → WLe (EdS n L ow) r a x := fun x hx => by
    have rg : 0 ≤ x ∧ x < 144 := by
      obtain ⟨k, -, hw⟩ := hx
      cases k with
      | zero => have e : a = x := hw; rw [← e]; exact ha
      | succ k => obtain ⟨y, -, g⟩ := hw.last; exact (hR y x g).2
    have e : ((x.toNat : Nat) : Int) = x := Int.toNat_of_nonneg rg.1
    have := c3 x.toNat (by omega) ((h x.toNat (by omega)).mpr (by rw [e]; exact hx))
    rw [h0 x.toNat (by omega), e] at this
    exact this
  intro k x hk
  obtain ⟨j, hj, hw⟩ := WLe.stable hs k x hk
  exact ⟨j, by omega, hw⟩
section JLL
variable {l : Launch} {D : va_G} {cy : Nat → ClassId} {n0 : Nat} {ad : Nat → Nat} {own : String} {cc : ByteArray} {nL : Nat} {ret : Option FieldType} {R : Room} {A : Nat → Prop} {PR : Option Value → va_W → Prop} {PX : String → va_W → Prop} {XS : State → Prop} {fin : Bool} {ET : List ExceptionTableEntry} {J : JT}
variable {b ba : Nat → Nat} {μ ν : Nat → Int → Int} {E : va_W} {s1 s2 : Nat} {f g : Nat → Int64} {ce sl pc : Nat} {lv : List (Nat × Value)} {st : List Value}
def WW (cy : Nat → ClassId) (b ba : Nat → Nat) (μ ν : Nat → Int → Int) (s1 s2 : Nat) (f g : Nat → Int64) (E : va_W) : va_W := gw 105 XSh cy b μ ++ (gw 3 ASh cy ba ν ++ (lcell cy s1 f :: lcell cy s2 g :: E))
theorem lc_1 : (WW cy b ba μ ν s1 s2 f g E)[108]? = some (lcell cy s1 f) := by
  unfold WW
  rw [List.getElem?_append_right (by rw [gw_len]; decide), gw_len, List.getElem?_append_right (by rw [gw_len]; decide), gw_len]; rfl
theorem lc_2 : (WW cy b ba μ ν s1 s2 f g E)[109]? = some (lcell cy s2 g) := by
  unfold WW
  rw [List.getElem?_append_right (by rw [gw_len]; decide), gw_len, List.getElem?_append_right (by rw [gw_len]; decide), gw_len]; rfl
theorem lc_s1 {f' : Nat → Int64} : (WW cy b ba μ ν s1 s2 f g E).set 108 (lcell cy s1 f') = WW cy b ba μ ν s1 s2 f' g E := by
  unfold WW
  rw [List.set_append_right _ _ (by rw [gw_len]; decide), gw_len, List.set_append_right _ _ (by rw [gw_len]; decide), gw_len]; rfl
theorem lc_s2 {g' : Nat → Int64} : (WW cy b ba μ ν s1 s2 f g E).set 109 (lcell cy s2 g') = WW cy b ba μ ν s1 s2 f g' E := by
  unfold WW
  rw [List.set_append_right _ _ (by rw [gw_len]; decide), gw_len, List.set_append_right _ _ (by rw [gw_len]; decide), gw_len]; rfl
theorem perm_l1 : (WW cy b ba μ ν s1 s2 f g E).Perm (lcell cy s1 f :: (gw 105 XSh cy b μ ++ (gw 3 ASh cy ba ν ++ (lcell cy s2 g :: E)))) := by
  unfold WW
  rw [← List.append_assoc, ← List.append_assoc]
  exact List.perm_middle
theorem perm_l2 : (WW cy b ba μ ν s1 s2 f g E).Perm (lcell cy s2 g :: (gw 105 XSh cy b μ ++ (gw 3 ASh cy ba ν ++ (lcell cy s1 f :: E)))) := by
  unfold WW
  rw [← List.append_assoc, ← List.append_assoc]
  exact (List.Perm.append_left _ (List.Perm.swap _ _ _)).trans List.perm_middle
theorem w_ll1 {z : Int} (hJ : Cx l D cy n0 ad own cc nL ret R A PR PX XS fin ET J) (h0 : 0 ≤ z) (h1 : z < 3) (hd : decode cc pc = .ok (.laload, 1)) (kk : J (WW cy b ba μ ν s1 s2 f g E) ce sl (pc + 1) lv (.long (f z.toNat) :: st)) : J (WW cy b ba μ ν s1 s2 f g E) ce sl pc lv (.int (zI z) :: .ref s1 :: st) :=
  j_lald hJ lc_1 (by decide) h0 h1 hd kk
theorem w_ll2 {z : Int} (hJ : Cx l D cy n0 ad own cc nL ret R A PR PX XS fin ET J) (h0 : 0 ≤ z) (h1 : z < 3) (hd : decode cc pc = .ok (.laload, 1)) (kk : J (WW cy b ba μ ν s1 s2 f g E) ce sl (pc + 1) lv (.long (g z.toNat) :: st)) : J (WW cy b ba μ ν s1 s2 f g E) ce sl pc lv (.int (zI z) :: .ref s2 :: st) :=
  j_lald hJ lc_2 (by decide) h0 h1 hd kk
theorem w_ls1 {z : Int} {x : Int64} (hJ : Cx l D cy n0 ad own cc nL ret R A PR PX XS fin ET J) (h0 : 0 ≤ z) (h1 : z < 3) (hd : decode cc pc = .ok (.lastore, 1)) (kk : ∀ f', f' = vp_updL f z.toNat x → J (WW cy b ba μ ν s1 s2 f' g E) ce sl (pc + 1) lv st) : J (WW cy b ba μ ν s1 s2 f g E) ce sl pc lv (.long x :: .int (zI z) :: .ref s1 :: st) := by
  refine j_last hJ lc_1 (by decide) h0 h1 hd ?_
  have h9 := kk _ rfl
  rw [← lc_s1] at h9
  exact h9
theorem w_ls2 {z : Int} {x : Int64} (hJ : Cx l D cy n0 ad own cc nL ret R A PR PX XS fin ET J) (h0 : 0 ≤ z) (h1 : z < 3) (hd : decode cc pc = .ok (.lastore, 1)) (kk : ∀ g', g' = vp_updL g z.toNat x → J (WW cy b ba μ ν s1 s2 f g' E) ce sl (pc + 1) lv st) : J (WW cy b ba μ ν s1 s2 f g E) ce sl pc lv (.long x :: .int (zI z) :: .ref s2 :: st) := by
  refine j_last hJ lc_2 (by decide) h0 h1 hd ?_
  have h9 := kk _ rfl
  rw [← lc_s2] at h9
  exact h9
end JLL
