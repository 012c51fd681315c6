theorem zI_n {a : Int} (h : 0 ≤ a) : zI a = nI a.toNat := by rw [zI_nI, Int.toNat_of_nonneg h]
theorem shl_cnt : ∀ r : Nat, r < 32 → ((nI r &&& 31).toBitVec.smod 32).toNat = r := by decide +kernel
theorem ushr_cnt : ∀ r : Nat, r < 32 → (((nI r).toUInt32 &&& Int32.toUInt32 31).toBitVec % 32).toNat = r := by decide +kernel
theorem zI_shr {x r : Int} (h0 : 0 ≤ x) (hx : x < 2147483648) (hr0 : 0 ≤ r) (hr : r < 32) : zI x >>> (zI r &&& 31) = zI (x / 2 ^ r.toNat) := by
  rw [zI_n h0, zI_n hr0, pk_shrN (by omega) _ r.toNat (shl_cnt _ (by omega)), zI_nI]
  congr 1
  rw [Int.natCast_ediv, Int.toNat_of_nonneg h0]
  congr 1
theorem zI_shl1 {r : Int} (hr0 : 0 ≤ r) (hr : r < 31) : zI 1 <<< (zI r &&& 31) = zI (2 ^ r.toNat) := by
  have h2 : 2 ^ r.toNat < 2 ^ 31 := Nat.pow_lt_pow_right (by omega) (by omega)
  rw [show zI 1 = nI 1 from rfl, zI_n hr0, pk_shlN _ r.toNat (shl_cnt _ (by omega)) (by omega), zI_nI, Nat.one_mul]
  congr 1
theorem zI_and {y : Int} (k : Nat) {m : Int} (h0 : 0 ≤ y) (h1 : y < 2147483648) (hm : (zI m).toBitVec.toNat = 2 ^ k - 1) : zI y &&& zI m = zI (y % 2 ^ k) := by
  rw [zI_n h0, pk_andN (by omega) k hm, zI_nI]
  congr 1
  rw [Int.natCast_emod, Int.toNat_of_nonneg h0]
  congr 1
theorem zI_andM (x : Int32) (k : Nat) {m : Int} (hm : (zI m).toBitVec.toNat = 2 ^ k - 1) : x &&& zI m = zI ((x.toBitVec.toNat % 2 ^ k : Nat) : Int) := by
  rw [pk_and x k hm, zI_nI]
/-- the squares of a street, by the bits of its rows -/
def RowsOn (μ : Nat → Int → Int) (i : Nat) (On : Int → Prop) : Prop := ∀ c r : Int, 0 ≤ c → c < 12 → 0 ≤ r → r < 12 → 0 ≤ μ (9 + 6 * i + 5) c ∧ μ (9 + 6 * i + 5) c < 4096 ∧ (μ (9 + 6 * i + 5) c / 2 ^ r.toNat % 2 = 1 ↔ On (12 * c + r))
