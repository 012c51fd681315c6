set_option maxHeartbeats 1000000 in
theorem cb_addStreet {μ : Nat → Int → Int} {n : Nat} {N : Nat → List Int} {ow : Nat → Int} {m : Nat → Nat} {p : Nat → Nat → Int} {w z : Int} {ν μ1 ν1 : Nat → Int → Int} {q : Int} {f1 : Nat → Int64} {zz : Int} (hX : XI μ n N ow m p) (hwR : -2147483648 ≤ w ∧ w < 2147483648) (hx : ((zz = 0 ∧ ∃ q, f1 0 = (zI q).toInt64 ∧ (q = n ∧ n < 16 ∧ NmOK w z ∧ XI μ1 (n + 1) (fset N n (nameL z w.toNat)) ow m p ∧ μ1 1 = μ 1)) ∨ (∃ X, zz = ecode [xIA, xIS] X ∧ (((X = xIA ∧ ¬ NmOK w z) ∨ (X = xIS ∧ NmOK w z ∧ n = 16)) ∧ μ1 = μ)))) (hm : ((NmOK w z ∧ n < 16 ∧ ν1 0 16 = 0 ∧ q = n ∧ MI ν1 (μ 1) (n + 1) (fset N n (nameL z w.toNat)) ow m p) ∨ (ν1 0 16 = 1 ∧ ¬ NmOK w z ∧ MI ν1 (μ 1) n N ow m p) ∨ (ν1 0 16 = 2 ∧ NmOK w z ∧ n = 16 ∧ MI ν1 (μ 1) n N ow m p))) : zz = ν1 0 16 ∧ 0 ≤ zz ∧ zz ≤ 3 ∧ (zz = 0 → f1 0 = (zI q).toInt64) ∧ ∃ n' N' ow' m' p', XI μ1 n' N' ow' m' p' ∧ MI ν1 (μ1 1) n' N' ow' m' p' := by
  rcases hx with ⟨rfl, q9, hf, hq, b2, b1, hX2, h1⟩ | ⟨X, rfl, ⟨rfl, b1⟩ | ⟨rfl, b1, b2⟩, rfl⟩
  · rcases hm with ⟨d1, d2, e, hq2, hM2⟩ | ⟨e, d1, hM2⟩ | ⟨e, d1, d2, hM2⟩
    · exact ⟨e.symm, by omega, by omega, fun _ => by rw [hf, hq, hq2], _, _, _, _, _, hX2, by rw [show μ1 1 = _ from h1]; exact hM2⟩
    · exfalso; first | contradiction | omega | (exact absurd ⟨‹_›, ‹_›⟩ ‹¬ (_ ∧ _)›) | (simp_all; done)
    · exfalso; first | contradiction | omega | (exact absurd ⟨‹_›, ‹_›⟩ ‹¬ (_ ∧ _)›) | (simp_all; done)
  · rcases hm with ⟨d1, d2, e, hq2, hM2⟩ | ⟨e, d1, hM2⟩ | ⟨e, d1, d2, hM2⟩
    · exfalso; first | contradiction | omega | (exact absurd ⟨‹_›, ‹_›⟩ ‹¬ (_ ∧ _)›) | (simp_all; done)
    · rw [show ecode [xIA, xIS] xIA = 1 by decide +kernel]
      exact ⟨e.symm, by decide, by decide, fun h => absurd h (by decide), _, _, _, _, _, hX, hM2⟩
    · exfalso; first | contradiction | omega | (exact absurd ⟨‹_›, ‹_›⟩ ‹¬ (_ ∧ _)›) | (simp_all; done)
  · rcases hm with ⟨d1, d2, e, hq2, hM2⟩ | ⟨e, d1, hM2⟩ | ⟨e, d1, d2, hM2⟩
    · exfalso; first | contradiction | omega | (exact absurd ⟨‹_›, ‹_›⟩ ‹¬ (_ ∧ _)›) | (simp_all; done)
    · exfalso; first | contradiction | omega | (exact absurd ⟨‹_›, ‹_›⟩ ‹¬ (_ ∧ _)›) | (simp_all; done)
    · rw [show ecode [xIA, xIS] xIS = 2 by decide +kernel]
      exact ⟨e.symm, by decide, by decide, fun h => absurd h (by decide), _, _, _, _, _, hX, hM2⟩
set_option maxHeartbeats 1000000 in
theorem cb_addPoint {μ : Nat → Int → Int} {n : Nat} {N : Nat → List Int} {ow : Nat → Int} {m : Nat → Nat} {p : Nat → Nat → Int} {s c r : Int} {ν μ1 ν1 : Nat → Int → Int} {q : Int} {f1 : Nat → Int64} {zz : Int} (hX : XI μ n N ow m p) (hsR : -2147483648 ≤ s ∧ s < 2147483648) (hcR : -2147483648 ≤ c ∧ c < 2147483648) (hrR : -2147483648 ≤ r ∧ r < 2147483648) (hx : ((zz = 0 ∧ ∃ q, f1 0 = (zI q).toInt64 ∧ (StOK n s ∧ SqOK c r ∧ (m s.toNat = 0 ∨ Aln (p s.toNat (m s.toNat - 1)) c r) ∧ m s.toNat < 10 ∧ q = ((trk (pset (p s.toNat) (m s.toNat) (12 * c + r)) (m s.toNat + 1)).length : Nat) ∧ XI μ1 n N ow (fset m s.toNat (m s.toNat + 1)) (fset p s.toNat (pset (p s.toNat) (m s.toNat) (12 * c + r))) ∧ μ1 1 = μ 1)) ∨ (∃ X, zz = ecode [xIO, xIA, xIS] X ∧ (((X = xIO ∧ ¬ (StOK n s ∧ SqOK c r)) ∨ (X = xIA ∧ (StOK n s ∧ SqOK c r) ∧ ¬ (m s.toNat = 0 ∨ Aln (p s.toNat (m s.toNat - 1)) c r)) ∨ (X = xIS ∧ (StOK n s ∧ SqOK c r) ∧ (m s.toNat = 0 ∨ Aln (p s.toNat (m s.toNat - 1)) c r) ∧ m s.toNat = 10)) ∧ μ1 = μ)))) (hm : (((StOK n s ∧ SqOK c r) ∧ (m s.toNat = 0 ∨ Aln (p s.toNat (m s.toNat - 1)) c r) ∧ m s.toNat < 10 ∧ ν1 0 16 = 0 ∧ q = ((trk (pset (p s.toNat) (m s.toNat) (12 * c + r)) (m s.toNat + 1)).length : Nat) ∧ MI ν1 (μ 1) n N ow (fset m s.toNat (m s.toNat + 1)) (fset p s.toNat (pset (p s.toNat) (m s.toNat) (12 * c + r)))) ∨ (ν1 0 16 = 1 ∧ ¬ (StOK n s ∧ SqOK c r) ∧ MI ν1 (μ 1) n N ow m p) ∨ (ν1 0 16 = 2 ∧ (StOK n s ∧ SqOK c r) ∧ ¬ (m s.toNat = 0 ∨ Aln (p s.toNat (m s.toNat - 1)) c r) ∧ MI ν1 (μ 1) n N ow m p) ∨ (ν1 0 16 = 3 ∧ (StOK n s ∧ SqOK c r) ∧ (m s.toNat = 0 ∨ Aln (p s.toNat (m s.toNat - 1)) c r) ∧ m s.toNat = 10 ∧ MI ν1 (μ 1) n N ow m p))) : zz = ν1 0 16 ∧ 0 ≤ zz ∧ zz ≤ 3 ∧ (zz = 0 → f1 0 = (zI q).toInt64) ∧ ∃ n' N' ow' m' p', XI μ1 n' N' ow' m' p' ∧ MI ν1 (μ1 1) n' N' ow' m' p' := by
  rcases hx with ⟨rfl, q9, hf, b1, b3, b2, b4, hq, hX2, h1⟩ | ⟨X, rfl, ⟨rfl, b1⟩ | ⟨rfl, b1, b2⟩ | ⟨rfl, b1, b2, b4⟩, rfl⟩
  · rcases hm with ⟨⟨d1, d3⟩, d2, d4, e, hq2, hM2⟩ | ⟨e, d1, hM2⟩ | ⟨e, d1, d2, hM2⟩ | ⟨e, d1, d2, d4, hM2⟩
    · exact ⟨e.symm, by omega, by omega, fun _ => by rw [hf, hq, hq2], _, _, _, _, _, hX2, by rw [show μ1 1 = _ from h1]; exact hM2⟩
    · exfalso; first | contradiction | omega | (exact absurd ⟨‹_›, ‹_›⟩ ‹¬ (_ ∧ _)›) | (simp_all; done)
    · exfalso; first | contradiction | omega | (exact absurd ⟨‹_›, ‹_›⟩ ‹¬ (_ ∧ _)›) | (simp_all; done)
    · exfalso; first | contradiction | omega | (exact absurd ⟨‹_›, ‹_›⟩ ‹¬ (_ ∧ _)›) | (simp_all; done)
  · rcases hm with ⟨⟨d1, d3⟩, d2, d4, e, hq2, hM2⟩ | ⟨e, d1, hM2⟩ | ⟨e, d1, d2, hM2⟩ | ⟨e, d1, d2, d4, hM2⟩
    · exfalso; first | contradiction | omega | (exact absurd ⟨‹_›, ‹_›⟩ ‹¬ (_ ∧ _)›) | (simp_all; done)
    · rw [show ecode [xIO, xIA, xIS] xIO = 1 by decide +kernel]
      exact ⟨e.symm, by decide, by decide, fun h => absurd h (by decide), _, _, _, _, _, hX, hM2⟩
    · exfalso; first | contradiction | omega | (exact absurd ⟨‹_›, ‹_›⟩ ‹¬ (_ ∧ _)›) | (simp_all; done)
    · exfalso; first | contradiction | omega | (exact absurd ⟨‹_›, ‹_›⟩ ‹¬ (_ ∧ _)›) | (simp_all; done)
  · rcases hm with ⟨⟨d1, d3⟩, d2, d4, e, hq2, hM2⟩ | ⟨e, d1, hM2⟩ | ⟨e, d1, d2, hM2⟩ | ⟨e, d1, d2, d4, hM2⟩
    · exfalso; first | contradiction | omega | (exact absurd ⟨‹_›, ‹_›⟩ ‹¬ (_ ∧ _)›) | (simp_all; done)
    · exfalso; first | contradiction | omega | (exact absurd ⟨‹_›, ‹_›⟩ ‹¬ (_ ∧ _)›) | (simp_all; done)
    · rw [show ecode [xIO, xIA, xIS] xIA = 2 by decide +kernel]
      exact ⟨e.symm, by decide, by decide, fun h => absurd h (by decide), _, _, _, _, _, hX, hM2⟩
    · exfalso; first | contradiction | omega | (exact absurd ⟨‹_›, ‹_›⟩ ‹¬ (_ ∧ _)›) | (simp_all; done)
  · rcases hm with ⟨⟨d1, d3⟩, d2, d4, e, hq2, hM2⟩ | ⟨e, d1, hM2⟩ | ⟨e, d1, d2, hM2⟩ | ⟨e, d1, d2, d4, hM2⟩
    · exfalso; first | contradiction | omega | (exact absurd ⟨‹_›, ‹_›⟩ ‹¬ (_ ∧ _)›) | (simp_all; done)
    · exfalso; first | contradiction | omega | (exact absurd ⟨‹_›, ‹_›⟩ ‹¬ (_ ∧ _)›) | (simp_all; done)
    · exfalso; first | contradiction | omega | (exact absurd ⟨‹_›, ‹_›⟩ ‹¬ (_ ∧ _)›) | (simp_all; done)
    · rw [show ecode [xIO, xIA, xIS] xIS = 3 by decide +kernel]
      exact ⟨e.symm, by decide, by decide, fun h => absurd h (by decide), _, _, _, _, _, hX, hM2⟩
set_option maxHeartbeats 1000000 in
theorem cb_dropPoint {μ : Nat → Int → Int} {n : Nat} {N : Nat → List Int} {ow : Nat → Int} {m : Nat → Nat} {p : Nat → Nat → Int} {s : Int} {ν μ1 ν1 : Nat → Int → Int} {q : Int} {f1 : Nat → Int64} {zz : Int} (hX : XI μ n N ow m p) (hsR : -2147483648 ≤ s ∧ s < 2147483648) (hx : ((zz = 0 ∧ ∃ q, f1 0 = (zI q).toInt64 ∧ (StOK n s ∧ 0 < m s.toNat ∧ q = ((trk (p s.toNat) (m s.toNat - 1)).length : Nat) ∧ XI μ1 n N ow (fset m s.toNat (m s.toNat - 1)) p ∧ μ1 1 = μ 1)) ∨ (∃ X, zz = ecode [xIO, xIS] X ∧ (((X = xIO ∧ ¬ StOK n s) ∨ (X = xIS ∧ StOK n s ∧ m s.toNat = 0)) ∧ μ1 = μ)))) (hm : ((StOK n s ∧ 0 < m s.toNat ∧ ν1 0 16 = 0 ∧ q = ((trk (p s.toNat) (m s.toNat - 1)).length : Nat) ∧ MI ν1 (μ 1) n N ow (fset m s.toNat (m s.toNat - 1)) p) ∨ (ν1 0 16 = 1 ∧ ¬ StOK n s ∧ MI ν1 (μ 1) n N ow m p) ∨ (ν1 0 16 = 2 ∧ StOK n s ∧ m s.toNat = 0 ∧ MI ν1 (μ 1) n N ow m p))) : zz = ν1 0 16 ∧ 0 ≤ zz ∧ zz ≤ 3 ∧ (zz = 0 → f1 0 = (zI q).toInt64) ∧ ∃ n' N' ow' m' p', XI μ1 n' N' ow' m' p' ∧ MI ν1 (μ1 1) n' N' ow' m' p' := by
  rcases hx with ⟨rfl, q9, hf, b1, b2, hq, hX2, h1⟩ | ⟨X, rfl, ⟨rfl, b1⟩ | ⟨rfl, b1, b2⟩, rfl⟩
  · rcases hm with ⟨d1, d2, e, hq2, hM2⟩ | ⟨e, d1, hM2⟩ | ⟨e, d1, d2, hM2⟩
    · exact ⟨e.symm, by omega, by omega, fun _ => by rw [hf, hq, hq2], _, _, _, _, _, hX2, by rw [show μ1 1 = _ from h1]; exact hM2⟩
    · exfalso; first | contradiction | omega | (exact absurd ⟨‹_›, ‹_›⟩ ‹¬ (_ ∧ _)›) | (simp_all; done)
    · exfalso; first | contradiction | omega | (exact absurd ⟨‹_›, ‹_›⟩ ‹¬ (_ ∧ _)›) | (simp_all; done)
  · rcases hm with ⟨d1, d2, e, hq2, hM2⟩ | ⟨e, d1, hM2⟩ | ⟨e, d1, d2, hM2⟩
    · exfalso; first | contradiction | omega | (exact absurd ⟨‹_›, ‹_›⟩ ‹¬ (_ ∧ _)›) | (simp_all; done)
    · rw [show ecode [xIO, xIS] xIO = 1 by decide +kernel]
      exact ⟨e.symm, by decide, by decide, fun h => absurd h (by decide), _, _, _, _, _, hX, hM2⟩
    · exfalso; first | contradiction | omega | (exact absurd ⟨‹_›, ‹_›⟩ ‹¬ (_ ∧ _)›) | (simp_all; done)
  · rcases hm with ⟨d1, d2, e, hq2, hM2⟩ | ⟨e, d1, hM2⟩ | ⟨e, d1, d2, hM2⟩
    · exfalso; first | contradiction | omega | (exact absurd ⟨‹_›, ‹_›⟩ ‹¬ (_ ∧ _)›) | (simp_all; done)
    · exfalso; first | contradiction | omega | (exact absurd ⟨‹_›, ‹_›⟩ ‹¬ (_ ∧ _)›) | (simp_all; done)
    · rw [show ecode [xIO, xIS] xIS = 2 by decide +kernel]
      exact ⟨e.symm, by decide, by decide, fun h => absurd h (by decide), _, _, _, _, _, hX, hM2⟩
set_option maxHeartbeats 1000000 in
theorem cb_setOneWay {μ : Nat → Int → Int} {n : Nat} {N : Nat → List Int} {ow : Nat → Int} {m : Nat → Nat} {p : Nat → Nat → Int} {s f : Int} {ν μ1 ν1 : Nat → Int → Int} {q : Int} {f1 : Nat → Int64} {zz : Int} (hX : XI μ n N ow m p) (hsR : -2147483648 ≤ s ∧ s < 2147483648) (hf : f = 0 ∨ f = 1) (hx : ((zz = 0 ∧ ∃ q, f1 0 = (zI q).toInt64 ∧ (StOK n s ∧ q = ow s.toNat ∧ XI μ1 n N (fset ow s.toNat f) m p ∧ μ1 1 = μ 1)) ∨ (∃ X, zz = ecode [xIO] X ∧ ((X = xIO ∧ ¬ StOK n s) ∧ μ1 = μ)))) (hm : ((StOK n s ∧ ν1 0 16 = 0 ∧ q = ow s.toNat ∧ MI ν1 (μ 1) n N (fset ow s.toNat f) m p) ∨ (ν1 0 16 = 1 ∧ ¬ StOK n s ∧ MI ν1 (μ 1) n N ow m p))) : zz = ν1 0 16 ∧ 0 ≤ zz ∧ zz ≤ 3 ∧ (zz = 0 → f1 0 = (zI q).toInt64 ∧ (q = 0 ∨ q = 1)) ∧ ∃ n' N' ow' m' p', XI μ1 n' N' ow' m' p' ∧ MI ν1 (μ1 1) n' N' ow' m' p' := by
  rcases hx with ⟨rfl, q9, hf, hc, hq, hX2, h1⟩ | ⟨X, rfl, ⟨rfl, hc⟩, rfl⟩
  · rcases hm with ⟨hc2, e, hq2, hM2⟩ | ⟨e, hc2, hM2⟩
    · exact ⟨e.symm, by omega, by omega, fun _ => ⟨by rw [hf, hq, hq2], by rw [hq2]; obtain ⟨x1, x2, x3, x4, x5, x6, x7⟩ := hX; obtain ⟨g1, g2⟩ := hc; exact (x5 s.toNat (by omega)).2⟩, _, _, _, _, _, hX2, by rw [show μ1 1 = _ from h1]; exact hM2⟩
    · exfalso; first | contradiction | omega | (exact absurd ⟨‹_›, ‹_›⟩ ‹¬ (_ ∧ _)›) | (simp_all; done)
  · rcases hm with ⟨hc2, e, hq2, hM2⟩ | ⟨e, hc2, hM2⟩
    · exfalso; first | contradiction | omega | (exact absurd ⟨‹_›, ‹_›⟩ ‹¬ (_ ∧ _)›) | (simp_all; done)
    · rw [show ecode [xIO] xIO = 1 by decide +kernel]
      exact ⟨e.symm, by decide, by decide, fun h => absurd h (by decide), _, _, _, _, _, hX, hM2⟩
set_option maxHeartbeats 1000000 in
theorem cb_rename {μ : Nat → Int → Int} {n : Nat} {N : Nat → List Int} {ow : Nat → Int} {m : Nat → Nat} {p : Nat → Nat → Int} {s w z : Int} {ν μ1 ν1 : Nat → Int → Int} {zz : Int} (hX : XI μ n N ow m p) (hsR : -2147483648 ≤ s ∧ s < 2147483648) (hwR : -2147483648 ≤ w ∧ w < 2147483648) (hx : ((zz = 0 ∧ (StOK n s ∧ NmOK w z ∧ XI μ1 n (fset N s.toNat (nameL z w.toNat)) ow m p ∧ μ1 1 = μ 1)) ∨ (∃ X, zz = ecode [xIO, xIA] X ∧ (((X = xIO ∧ ¬ StOK n s) ∨ (X = xIA ∧ StOK n s ∧ ¬ NmOK w z)) ∧ μ1 = μ)))) (hm : ((StOK n s ∧ NmOK w z ∧ ν1 0 16 = 0 ∧ MI ν1 (μ 1) n (fset N s.toNat (nameL z w.toNat)) ow m p) ∨ (ν1 0 16 = 1 ∧ ¬ StOK n s ∧ MI ν1 (μ 1) n N ow m p) ∨ (ν1 0 16 = 2 ∧ StOK n s ∧ ¬ NmOK w z ∧ MI ν1 (μ 1) n N ow m p))) : zz = ν1 0 16 ∧ 0 ≤ zz ∧ zz ≤ 3 ∧ ∃ n' N' ow' m' p', XI μ1 n' N' ow' m' p' ∧ MI ν1 (μ1 1) n' N' ow' m' p' := by
  rcases hx with ⟨rfl, b1, b2, hX2, h1⟩ | ⟨X, rfl, ⟨rfl, b1⟩ | ⟨rfl, b1, b2⟩, rfl⟩
  · rcases hm with ⟨d1, d2, e, hM2⟩ | ⟨e, d1, hM2⟩ | ⟨e, d1, d2, hM2⟩
    · exact ⟨e.symm, by omega, by omega, _, _, _, _, _, hX2, by rw [show μ1 1 = _ from h1]; exact hM2⟩
    · exfalso; first | contradiction | omega | (exact absurd ⟨‹_›, ‹_›⟩ ‹¬ (_ ∧ _)›) | (simp_all; done)
    · exfalso; first | contradiction | omega | (exact absurd ⟨‹_›, ‹_›⟩ ‹¬ (_ ∧ _)›) | (simp_all; done)
  · rcases hm with ⟨d1, d2, e, hM2⟩ | ⟨e, d1, hM2⟩ | ⟨e, d1, d2, hM2⟩
    · exfalso; first | contradiction | omega | (exact absurd ⟨‹_›, ‹_›⟩ ‹¬ (_ ∧ _)›) | (simp_all; done)
    · rw [show ecode [xIO, xIA] xIO = 1 by decide +kernel]
      exact ⟨e.symm, by decide, by decide, _, _, _, _, _, hX, hM2⟩
    · exfalso; first | contradiction | omega | (exact absurd ⟨‹_›, ‹_›⟩ ‹¬ (_ ∧ _)›) | (simp_all; done)
  · rcases hm with ⟨d1, d2, e, hM2⟩ | ⟨e, d1, hM2⟩ | ⟨e, d1, d2, hM2⟩
    · exfalso; first | contradiction | omega | (exact absurd ⟨‹_›, ‹_›⟩ ‹¬ (_ ∧ _)›) | (simp_all; done)
    · exfalso; first | contradiction | omega | (exact absurd ⟨‹_›, ‹_›⟩ ‹¬ (_ ∧ _)›) | (simp_all; done)
    · rw [show ecode [xIO, xIA] xIA = 2 by decide +kernel]
      exact ⟨e.symm, by decide, by decide, _, _, _, _, _, hX, hM2⟩
set_option maxHeartbeats 1000000 in
theorem cb_setKind {μ : Nat → Int → Int} {n : Nat} {N : Nat → List Int} {ow : Nat → Int} {m : Nat → Nat} {p : Nat → Nat → Int} {w k : Int} {ν μ1 ν1 : Nat → Int → Int} {q : Int} {f1 : Nat → Int64} {zz : Int} (hX : XI μ n N ow m p) (hwR : -2147483648 ≤ w ∧ w < 2147483648) (hkR : -2147483648 ≤ k ∧ k < 2147483648) (hx : ((zz = 0 ∧ ∃ q, f1 0 = (zI q).toInt64 ∧ ((0 ≤ w ∧ w < 24) ∧ (0 ≤ k ∧ k ≤ 2) ∧ q = μ 1 w ∧ XI μ1 n N ow m p ∧ ∀ j, μ1 1 j = if j = w then k else μ 1 j)) ∨ (∃ X, zz = ecode [xIO, xIA] X ∧ (((X = xIO ∧ ¬ (0 ≤ w ∧ w < 24)) ∨ (X = xIA ∧ (0 ≤ w ∧ w < 24) ∧ ¬ (0 ≤ k ∧ k ≤ 2))) ∧ μ1 = μ)))) (hm : (((0 ≤ w ∧ w < 24) ∧ (0 ≤ k ∧ k ≤ 2) ∧ ν1 0 16 = 0 ∧ q = (μ 1) w ∧ MI ν1 (kset (μ 1) w k) n N ow m p) ∨ (ν1 0 16 = 1 ∧ ¬ (0 ≤ w ∧ w < 24) ∧ MI ν1 (μ 1) n N ow m p) ∨ (ν1 0 16 = 2 ∧ (0 ≤ w ∧ w < 24) ∧ ¬ (0 ≤ k ∧ k ≤ 2) ∧ MI ν1 (μ 1) n N ow m p))) : zz = ν1 0 16 ∧ 0 ≤ zz ∧ zz ≤ 3 ∧ (zz = 0 → f1 0 = (zI q).toInt64) ∧ ∃ n' N' ow' m' p', XI μ1 n' N' ow' m' p' ∧ MI ν1 (μ1 1) n' N' ow' m' p' := by
  rcases hx with ⟨rfl, q9, hf, b1, b2, hq, hX2, h1⟩ | ⟨X, rfl, ⟨rfl, b1⟩ | ⟨rfl, b1, b2⟩, rfl⟩
  · rcases hm with ⟨d1, d2, e, hq2, hM2⟩ | ⟨e, d1, hM2⟩ | ⟨e, d1, d2, hM2⟩
    · exact ⟨e.symm, by omega, by omega, fun _ => by rw [hf, hq, hq2], _, _, _, _, _, hX2, by rw [show μ1 1 = _ from funext fun j => (h1 j).trans rfl]; exact hM2⟩
    · exfalso; first | contradiction | omega | (exact absurd ⟨‹_›, ‹_›⟩ ‹¬ (_ ∧ _)›) | (simp_all; done)
    · exfalso; first | contradiction | omega | (exact absurd ⟨‹_›, ‹_›⟩ ‹¬ (_ ∧ _)›) | (simp_all; done)
  · rcases hm with ⟨d1, d2, e, hq2, hM2⟩ | ⟨e, d1, hM2⟩ | ⟨e, d1, d2, hM2⟩
    · exfalso; first | contradiction | omega | (exact absurd ⟨‹_›, ‹_›⟩ ‹¬ (_ ∧ _)›) | (simp_all; done)
    · rw [show ecode [xIO, xIA] xIO = 1 by decide +kernel]
      exact ⟨e.symm, by decide, by decide, fun h => absurd h (by decide), _, _, _, _, _, hX, hM2⟩
    · exfalso; first | contradiction | omega | (exact absurd ⟨‹_›, ‹_›⟩ ‹¬ (_ ∧ _)›) | (simp_all; done)
  · rcases hm with ⟨d1, d2, e, hq2, hM2⟩ | ⟨e, d1, hM2⟩ | ⟨e, d1, d2, hM2⟩
    · exfalso; first | contradiction | omega | (exact absurd ⟨‹_›, ‹_›⟩ ‹¬ (_ ∧ _)›) | (simp_all; done)
    · exfalso; first | contradiction | omega | (exact absurd ⟨‹_›, ‹_›⟩ ‹¬ (_ ∧ _)›) | (simp_all; done)
    · rw [show ecode [xIO, xIA] xIA = 2 by decide +kernel]
      exact ⟨e.symm, by decide, by decide, fun h => absurd h (by decide), _, _, _, _, _, hX, hM2⟩
set_option maxHeartbeats 1000000 in
theorem cb_streetAt {μ : Nat → Int → Int} {n : Nat} {N : Nat → List Int} {ow : Nat → Int} {m : Nat → Nat} {p : Nat → Nat → Int} {v : Int} {ν μ1 ν1 : Nat → Int → Int} {q : Int} {f1 : Nat → Int64} {zz : Int} (hX : XI μ n N ow m p) (hvR : -2147483648 ≤ v ∧ v < 2147483648) (hx : ((zz = 0 ∧ ∃ q, f1 0 = (zI q).toInt64 ∧ (StOK n v ∧ (∃ s : Nat, s < n ∧ q = s ∧ (cnt (μ 1) N n s : Int) = v) ∧ FrS μ μ1)) ∨ (∃ X, zz = ecode [xIO] X ∧ ((X = xIO ∧ ¬ StOK n v) ∧ μ1 = μ)))) (hm : ((StOK n v ∧ ν1 0 16 = 0 ∧ (∃ s : Nat, s < n ∧ q = s ∧ (cnt (μ 1) N n s : Int) = v) ∧ MI ν1 (μ 1) n N ow m p) ∨ (ν1 0 16 = 1 ∧ ¬ StOK n v ∧ MI ν1 (μ 1) n N ow m p))) : zz = ν1 0 16 ∧ 0 ≤ zz ∧ zz ≤ 3 ∧ (zz = 0 → f1 0 = (zI q).toInt64) ∧ ∃ n' N' ow' m' p', XI μ1 n' N' ow' m' p' ∧ MI ν1 (μ1 1) n' N' ow' m' p' := by
  rcases hx with ⟨rfl, q9, hf, hc, ⟨t1, u1, rfl, v1⟩, hF⟩ | ⟨X, rfl, ⟨rfl, hc⟩, rfl⟩
  · rcases hm with ⟨hc2, e, ⟨t2, u2, rfl, v2⟩, hM2⟩ | ⟨e, hc2, hM2⟩
    · exact ⟨e.symm, by omega, by omega, fun _ => by rw [hf, cnt_inj u1 u2 (Int.ofNat_inj.mp (v1.trans v2.symm))], _, _, _, _, _, hX.scratch hF, by rw [show μ1 1 = _ from hF 1 (by omega) (by omega) (by omega) (by omega) (by omega)]; exact hM2⟩
    · exfalso; first | contradiction | omega | (exact absurd ⟨‹_›, ‹_›⟩ ‹¬ (_ ∧ _)›) | (simp_all; done)
  · rcases hm with ⟨hc2, e, ⟨t2, u2, rfl, v2⟩, hM2⟩ | ⟨e, hc2, hM2⟩
    · exfalso; first | contradiction | omega | (exact absurd ⟨‹_›, ‹_›⟩ ‹¬ (_ ∧ _)›) | (simp_all; done)
    · rw [show ecode [xIO] xIO = 1 by decide +kernel]
      exact ⟨e.symm, by decide, by decide, fun h => absurd h (by decide), _, _, _, _, _, hX, hM2⟩
set_option maxHeartbeats 1000000 in
theorem cb_placeOf {μ : Nat → Int → Int} {n : Nat} {N : Nat → List Int} {ow : Nat → Int} {m : Nat → Nat} {p : Nat → Nat → Int} {s : Int} {ν μ1 ν1 : Nat → Int → Int} {q : Int} {f1 : Nat → Int64} {zz : Int} (hX : XI μ n N ow m p) (hsR : -2147483648 ≤ s ∧ s < 2147483648) (hx : ((zz = 0 ∧ ∃ q, f1 0 = (zI q).toInt64 ∧ (StOK n s ∧ q = (cnt (μ 1) N n s.toNat : Nat) ∧ FrS μ μ1)) ∨ (∃ X, zz = ecode [xIO] X ∧ ((X = xIO ∧ ¬ StOK n s) ∧ μ1 = μ)))) (hm : ((StOK n s ∧ ν1 0 16 = 0 ∧ q = (cnt (μ 1) N n s.toNat : Nat) ∧ MI ν1 (μ 1) n N ow m p) ∨ (ν1 0 16 = 1 ∧ ¬ StOK n s ∧ MI ν1 (μ 1) n N ow m p))) : zz = ν1 0 16 ∧ 0 ≤ zz ∧ zz ≤ 3 ∧ (zz = 0 → f1 0 = (zI q).toInt64) ∧ ∃ n' N' ow' m' p', XI μ1 n' N' ow' m' p' ∧ MI ν1 (μ1 1) n' N' ow' m' p' := by
  rcases hx with ⟨rfl, q9, hf, hc, hq, hF⟩ | ⟨X, rfl, ⟨rfl, hc⟩, rfl⟩
  · rcases hm with ⟨hc2, e, hq2, hM2⟩ | ⟨e, hc2, hM2⟩
    · exact ⟨e.symm, by omega, by omega, fun _ => by rw [hf, hq, hq2], _, _, _, _, _, hX.scratch hF, by rw [show μ1 1 = _ from hF 1 (by omega) (by omega) (by omega) (by omega) (by omega)]; exact hM2⟩
    · exfalso; first | contradiction | omega | (exact absurd ⟨‹_›, ‹_›⟩ ‹¬ (_ ∧ _)›) | (simp_all; done)
  · rcases hm with ⟨hc2, e, hq2, hM2⟩ | ⟨e, hc2, hM2⟩
    · exfalso; first | contradiction | omega | (exact absurd ⟨‹_›, ‹_›⟩ ‹¬ (_ ∧ _)›) | (simp_all; done)
    · rw [show ecode [xIO] xIO = 1 by decide +kernel]
      exact ⟨e.symm, by decide, by decide, fun h => absurd h (by decide), _, _, _, _, _, hX, hM2⟩
set_option maxHeartbeats 1000000 in
theorem cb_compareKeys {μ : Nat → Int → Int} {n : Nat} {N : Nat → List Int} {ow : Nat → Int} {m : Nat → Nat} {p : Nat → Nat → Int} {s t : Int} {ν μ1 ν1 : Nat → Int → Int} {q : Int} {f1 : Nat → Int64} {zz : Int} (hX : XI μ n N ow m p) (hsR : -2147483648 ≤ s ∧ s < 2147483648) (htR : -2147483648 ≤ t ∧ t < 2147483648) (hx : ((zz = 0 ∧ ∃ q, f1 0 = (zI q).toInt64 ∧ ((StOK n s ∧ StOK n t) ∧ q = ko (μ 1) N s.toNat t.toNat ∧ FrS μ μ1)) ∨ (∃ X, zz = ecode [xIO] X ∧ ((X = xIO ∧ ¬ (StOK n s ∧ StOK n t)) ∧ μ1 = μ)))) (hm : (((StOK n s ∧ StOK n t) ∧ ν1 0 16 = 0 ∧ q = ko (μ 1) N s.toNat t.toNat ∧ MI ν1 (μ 1) n N ow m p) ∨ (ν1 0 16 = 1 ∧ ¬ (StOK n s ∧ StOK n t) ∧ MI ν1 (μ 1) n N ow m p))) : zz = ν1 0 16 ∧ 0 ≤ zz ∧ zz ≤ 3 ∧ (zz = 0 → f1 0 = (zI q).toInt64) ∧ ∃ n' N' ow' m' p', XI μ1 n' N' ow' m' p' ∧ MI ν1 (μ1 1) n' N' ow' m' p' := by
  rcases hx with ⟨rfl, q9, hf, hc, hq, hF⟩ | ⟨X, rfl, ⟨rfl, hc⟩, rfl⟩
  · rcases hm with ⟨hc2, e, hq2, hM2⟩ | ⟨e, hc2, hM2⟩
    · exact ⟨e.symm, by omega, by omega, fun _ => by rw [hf, hq, hq2], _, _, _, _, _, hX.scratch hF, by rw [show μ1 1 = _ from hF 1 (by omega) (by omega) (by omega) (by omega) (by omega)]; exact hM2⟩
    · exfalso; first | contradiction | omega | (exact absurd ⟨‹_›, ‹_›⟩ ‹¬ (_ ∧ _)›) | (simp_all; done)
  · rcases hm with ⟨hc2, e, hq2, hM2⟩ | ⟨e, hc2, hM2⟩
    · exfalso; first | contradiction | omega | (exact absurd ⟨‹_›, ‹_›⟩ ‹¬ (_ ∧ _)›) | (simp_all; done)
    · rw [show ecode [xIO] xIO = 1 by decide +kernel]
      exact ⟨e.symm, by decide, by decide, fun h => absurd h (by decide), _, _, _, _, _, hX, hM2⟩
set_option maxHeartbeats 1000000 in
theorem cb_lineLength {μ : Nat → Int → Int} {n : Nat} {N : Nat → List Int} {ow : Nat → Int} {m : Nat → Nat} {p : Nat → Nat → Int} {s : Int} {ν μ1 ν1 : Nat → Int → Int} {q : Int} {f1 : Nat → Int64} {zz : Int} (hX : XI μ n N ow m p) (hsR : -2147483648 ≤ s ∧ s < 2147483648) (hx : ((zz = 0 ∧ ∃ q, f1 0 = (zI q).toInt64 ∧ (μ1 = μ ∧ (StOK n s ∧ q = ((lineT (μ 1) (N s.toNat) (trk (p s.toNat) (m s.toNat))).length : Nat)))) ∨ (∃ X, zz = ecode [xIO] X ∧ ((X = xIO ∧ ¬ StOK n s) ∧ μ1 = μ)))) (hm : ((StOK n s ∧ ν1 0 16 = 0 ∧ q = ((lineT (μ 1) (N s.toNat) (trk (p s.toNat) (m s.toNat))).length : Nat) ∧ MI ν1 (μ 1) n N ow m p) ∨ (ν1 0 16 = 1 ∧ ¬ StOK n s ∧ MI ν1 (μ 1) n N ow m p))) : zz = ν1 0 16 ∧ 0 ≤ zz ∧ zz ≤ 3 ∧ (zz = 0 → f1 0 = (zI q).toInt64) ∧ ∃ n' N' ow' m' p', XI μ1 n' N' ow' m' p' ∧ MI ν1 (μ1 1) n' N' ow' m' p' := by
  rcases hx with ⟨rfl, q9, hf, rfl, hc, hq⟩ | ⟨X, rfl, ⟨rfl, hc⟩, rfl⟩
  · rcases hm with ⟨hc2, e, hq2, hM2⟩ | ⟨e, hc2, hM2⟩
    · exact ⟨e.symm, by omega, by omega, fun _ => by rw [hf, hq, hq2], _, _, _, _, _, hX, hM2⟩
    · exfalso; first | contradiction | omega | (exact absurd ⟨‹_›, ‹_›⟩ ‹¬ (_ ∧ _)›) | (simp_all; done)
  · rcases hm with ⟨hc2, e, hq2, hM2⟩ | ⟨e, hc2, hM2⟩
    · exfalso; first | contradiction | omega | (exact absurd ⟨‹_›, ‹_›⟩ ‹¬ (_ ∧ _)›) | (simp_all; done)
    · rw [show ecode [xIO] xIO = 1 by decide +kernel]
      exact ⟨e.symm, by decide, by decide, fun h => absurd h (by decide), _, _, _, _, _, hX, hM2⟩
set_option maxHeartbeats 1000000 in
theorem cb_lineChar {μ : Nat → Int → Int} {n : Nat} {N : Nat → List Int} {ow : Nat → Int} {m : Nat → Nat} {p : Nat → Nat → Int} {s k : Int} {ν μ1 ν1 : Nat → Int → Int} {q : Int} {f1 : Nat → Int64} {zz : Int} (hX : XI μ n N ow m p) (hsR : -2147483648 ≤ s ∧ s < 2147483648) (hkR : -2147483648 ≤ k ∧ k < 2147483648) (hx : ((zz = 0 ∧ ∃ q, f1 0 = (zI q).toInt64 ∧ (μ1 = μ ∧ ((StOK n s ∧ 0 ≤ k ∧ k < ((lineT (μ 1) (N s.toNat) (trk (p s.toNat) (m s.toNat))).length : Nat)) ∧ (lineT (μ 1) (N s.toNat) (trk (p s.toNat) (m s.toNat)))[k.toNat]? = some q ∧ 0 ≤ q ∧ q < 128))) ∨ (∃ X, zz = ecode [xIO] X ∧ ((X = xIO ∧ ¬ (StOK n s ∧ 0 ≤ k ∧ k < ((lineT (μ 1) (N s.toNat) (trk (p s.toNat) (m s.toNat))).length : Nat))) ∧ μ1 = μ)))) (hm : (((StOK n s ∧ 0 ≤ k ∧ k < ((lineT (μ 1) (N s.toNat) (trk (p s.toNat) (m s.toNat))).length : Nat)) ∧ ν1 0 16 = 0 ∧ (lineT (μ 1) (N s.toNat) (trk (p s.toNat) (m s.toNat)))[k.toNat]? = some q ∧ MI ν1 (μ 1) n N ow m p) ∨ (ν1 0 16 = 1 ∧ ¬ (StOK n s ∧ 0 ≤ k ∧ k < ((lineT (μ 1) (N s.toNat) (trk (p s.toNat) (m s.toNat))).length : Nat)) ∧ MI ν1 (μ 1) n N ow m p))) : zz = ν1 0 16 ∧ 0 ≤ zz ∧ zz ≤ 3 ∧ (zz = 0 → f1 0 = (zI q).toInt64) ∧ ∃ n' N' ow' m' p', XI μ1 n' N' ow' m' p' ∧ MI ν1 (μ1 1) n' N' ow' m' p' := by
  rcases hx with ⟨rfl, q9, hf, rfl, hc, hq, -, -⟩ | ⟨X, rfl, ⟨rfl, hc⟩, rfl⟩
  · rcases hm with ⟨hc2, e, hq2, hM2⟩ | ⟨e, hc2, hM2⟩
    · exact ⟨e.symm, by omega, by omega, fun _ => by rw [hf, Option.some.inj (hq.symm.trans hq2)], _, _, _, _, _, hX, hM2⟩
    · exfalso; first | contradiction | omega | (exact absurd ⟨‹_›, ‹_›⟩ ‹¬ (_ ∧ _)›) | (simp_all; done)
  · rcases hm with ⟨hc2, e, hq2, hM2⟩ | ⟨e, hc2, hM2⟩
    · exfalso; first | contradiction | omega | (exact absurd ⟨‹_›, ‹_›⟩ ‹¬ (_ ∧ _)›) | (simp_all; done)
    · rw [show ecode [xIO] xIO = 1 by decide +kernel]
      exact ⟨e.symm, by decide, by decide, fun h => absurd h (by decide), _, _, _, _, _, hX, hM2⟩
set_option maxHeartbeats 1000000 in
theorem cb_trackLength {μ : Nat → Int → Int} {n : Nat} {N : Nat → List Int} {ow : Nat → Int} {m : Nat → Nat} {p : Nat → Nat → Int} {s : Int} {ν μ1 ν1 : Nat → Int → Int} {q : Int} {f1 : Nat → Int64} {zz : Int} (hX : XI μ n N ow m p) (hsR : -2147483648 ≤ s ∧ s < 2147483648) (hx : ((zz = 0 ∧ ∃ q, f1 0 = (zI q).toInt64 ∧ (μ1 = μ ∧ (StOK n s ∧ q = ((trk (p s.toNat) (m s.toNat)).length : Nat)))) ∨ (∃ X, zz = ecode [xIO] X ∧ ((X = xIO ∧ ¬ StOK n s) ∧ μ1 = μ)))) (hm : ((StOK n s ∧ ν1 0 16 = 0 ∧ q = ((trk (p s.toNat) (m s.toNat)).length : Nat) ∧ MI ν1 (μ 1) n N ow m p) ∨ (ν1 0 16 = 1 ∧ ¬ StOK n s ∧ MI ν1 (μ 1) n N ow m p))) : zz = ν1 0 16 ∧ 0 ≤ zz ∧ zz ≤ 3 ∧ (zz = 0 → f1 0 = (zI q).toInt64) ∧ ∃ n' N' ow' m' p', XI μ1 n' N' ow' m' p' ∧ MI ν1 (μ1 1) n' N' ow' m' p' := by
  rcases hx with ⟨rfl, q9, hf, rfl, hc, hq⟩ | ⟨X, rfl, ⟨rfl, hc⟩, rfl⟩
  · rcases hm with ⟨hc2, e, hq2, hM2⟩ | ⟨e, hc2, hM2⟩
    · exact ⟨e.symm, by omega, by omega, fun _ => by rw [hf, hq, hq2], _, _, _, _, _, hX, hM2⟩
    · exfalso; first | contradiction | omega | (exact absurd ⟨‹_›, ‹_›⟩ ‹¬ (_ ∧ _)›) | (simp_all; done)
  · rcases hm with ⟨hc2, e, hq2, hM2⟩ | ⟨e, hc2, hM2⟩
    · exfalso; first | contradiction | omega | (exact absurd ⟨‹_›, ‹_›⟩ ‹¬ (_ ∧ _)›) | (simp_all; done)
    · rw [show ecode [xIO] xIO = 1 by decide +kernel]
      exact ⟨e.symm, by decide, by decide, fun h => absurd h (by decide), _, _, _, _, _, hX, hM2⟩
set_option maxHeartbeats 1000000 in
theorem cb_squares {μ : Nat → Int → Int} {n : Nat} {N : Nat → List Int} {ow : Nat → Int} {m : Nat → Nat} {p : Nat → Nat → Int} {s : Int} {ν μ1 ν1 : Nat → Int → Int} {q : Int} {f1 : Nat → Int64} {zz : Int} (hX : XI μ n N ow m p) (hsR : -2147483648 ≤ s ∧ s < 2147483648) (hx : ((zz = 0 ∧ ∃ q, f1 0 = (zI q).toInt64 ∧ (μ1 = μ ∧ (StOK n s ∧ q = (cntN (fun k => decide ((k : Int) ∈ trk (p s.toNat) (m s.toNat))) 144 : Nat)))) ∨ (∃ X, zz = ecode [xIO] X ∧ ((X = xIO ∧ ¬ StOK n s) ∧ μ1 = μ)))) (hm : ((StOK n s ∧ ν1 0 16 = 0 ∧ q = (cntN (fun k => decide ((k : Int) ∈ trk (p s.toNat) (m s.toNat))) 144 : Nat) ∧ MI ν1 (μ 1) n N ow m p) ∨ (ν1 0 16 = 1 ∧ ¬ StOK n s ∧ MI ν1 (μ 1) n N ow m p))) : zz = ν1 0 16 ∧ 0 ≤ zz ∧ zz ≤ 3 ∧ (zz = 0 → f1 0 = (zI q).toInt64) ∧ ∃ n' N' ow' m' p', XI μ1 n' N' ow' m' p' ∧ MI ν1 (μ1 1) n' N' ow' m' p' := by
  rcases hx with ⟨rfl, q9, hf, rfl, hc, hq⟩ | ⟨X, rfl, ⟨rfl, hc⟩, rfl⟩
  · rcases hm with ⟨hc2, e, hq2, hM2⟩ | ⟨e, hc2, hM2⟩
    · exact ⟨e.symm, by omega, by omega, fun _ => by rw [hf, hq, hq2], _, _, _, _, _, hX, hM2⟩
    · exfalso; first | contradiction | omega | (exact absurd ⟨‹_›, ‹_›⟩ ‹¬ (_ ∧ _)›) | (simp_all; done)
  · rcases hm with ⟨hc2, e, hq2, hM2⟩ | ⟨e, hc2, hM2⟩
    · exfalso; first | contradiction | omega | (exact absurd ⟨‹_›, ‹_›⟩ ‹¬ (_ ∧ _)›) | (simp_all; done)
    · rw [show ecode [xIO] xIO = 1 by decide +kernel]
      exact ⟨e.symm, by decide, by decide, fun h => absurd h (by decide), _, _, _, _, _, hX, hM2⟩
set_option maxHeartbeats 1000000 in
theorem cb_runs {μ : Nat → Int → Int} {n : Nat} {N : Nat → List Int} {ow : Nat → Int} {m : Nat → Nat} {p : Nat → Nat → Int} {s : Int} {ν μ1 ν1 : Nat → Int → Int} {q : Int} {f1 : Nat → Int64} {zz : Int} (hX : XI μ n N ow m p) (hsR : -2147483648 ≤ s ∧ s < 2147483648) (hx : ((zz = 0 ∧ ∃ q, f1 0 = (zI q).toInt64 ∧ (μ1 = μ ∧ (StOK n s ∧ q = (cntN (fun k => decide ((k : Int) ∈ trk (p s.toNat) (m s.toNat)) && (k % 12 == 0 || !decide ((k : Int) - 1 ∈ trk (p s.toNat) (m s.toNat)))) 144 : Nat)))) ∨ (∃ X, zz = ecode [xIO] X ∧ ((X = xIO ∧ ¬ StOK n s) ∧ μ1 = μ)))) (hm : ((StOK n s ∧ ν1 0 16 = 0 ∧ q = (cntN (fun k => decide ((k : Int) ∈ trk (p s.toNat) (m s.toNat)) && (k % 12 == 0 || !decide ((k : Int) - 1 ∈ trk (p s.toNat) (m s.toNat)))) 144 : Nat) ∧ MI ν1 (μ 1) n N ow m p) ∨ (ν1 0 16 = 1 ∧ ¬ StOK n s ∧ MI ν1 (μ 1) n N ow m p))) : zz = ν1 0 16 ∧ 0 ≤ zz ∧ zz ≤ 3 ∧ (zz = 0 → f1 0 = (zI q).toInt64) ∧ ∃ n' N' ow' m' p', XI μ1 n' N' ow' m' p' ∧ MI ν1 (μ1 1) n' N' ow' m' p' := by
  rcases hx with ⟨rfl, q9, hf, rfl, hc, hq⟩ | ⟨X, rfl, ⟨rfl, hc⟩, rfl⟩
  · rcases hm with ⟨hc2, e, hq2, hM2⟩ | ⟨e, hc2, hM2⟩
    · exact ⟨e.symm, by omega, by omega, fun _ => by rw [hf, hq, hq2], _, _, _, _, _, hX, hM2⟩
    · exfalso; first | contradiction | omega | (exact absurd ⟨‹_›, ‹_›⟩ ‹¬ (_ ∧ _)›) | (simp_all; done)
  · rcases hm with ⟨hc2, e, hq2, hM2⟩ | ⟨e, hc2, hM2⟩
    · exfalso; first | contradiction | omega | (exact absurd ⟨‹_›, ‹_›⟩ ‹¬ (_ ∧ _)›) | (simp_all; done)
    · rw [show ecode [xIO] xIO = 1 by decide +kernel]
      exact ⟨e.symm, by decide, by decide, fun h => absurd h (by decide), _, _, _, _, _, hX, hM2⟩
set_option maxHeartbeats 1000000 in
theorem cb_isOn {μ : Nat → Int → Int} {n : Nat} {N : Nat → List Int} {ow : Nat → Int} {m : Nat → Nat} {p : Nat → Nat → Int} {s c r : Int} {ν μ1 ν1 : Nat → Int → Int} {q : Int} {f1 : Nat → Int64} {zz : Int} (hX : XI μ n N ow m p) (hsR : -2147483648 ≤ s ∧ s < 2147483648) (hcR : -2147483648 ≤ c ∧ c < 2147483648) (hrR : -2147483648 ≤ r ∧ r < 2147483648) (hx : ((zz = 0 ∧ ∃ q, f1 0 = (zI q).toInt64 ∧ (μ1 = μ ∧ ((StOK n s ∧ SqOK c r) ∧ q = (if 12 * c + r ∈ trk (p s.toNat) (m s.toNat) then 1 else 0)))) ∨ (∃ X, zz = ecode [xIO] X ∧ ((X = xIO ∧ ¬ (StOK n s ∧ SqOK c r)) ∧ μ1 = μ)))) (hm : (((StOK n s ∧ SqOK c r) ∧ ν1 0 16 = 0 ∧ q = (if 12 * c + r ∈ trk (p s.toNat) (m s.toNat) then 1 else 0) ∧ MI ν1 (μ 1) n N ow m p) ∨ (ν1 0 16 = 1 ∧ ¬ (StOK n s ∧ SqOK c r) ∧ q = 0 ∧ MI ν1 (μ 1) n N ow m p))) : zz = ν1 0 16 ∧ 0 ≤ zz ∧ zz ≤ 3 ∧ (zz = 0 → f1 0 = (zI q).toInt64 ∧ (q = 0 ∨ q = 1)) ∧ ∃ n' N' ow' m' p', XI μ1 n' N' ow' m' p' ∧ MI ν1 (μ1 1) n' N' ow' m' p' := by
  rcases hx with ⟨rfl, q9, hf, rfl, hc, hq⟩ | ⟨X, rfl, ⟨rfl, hc⟩, rfl⟩
  · rcases hm with ⟨hc2, e, hq2, hM2⟩ | ⟨e, hc2, -, hM2⟩
    · exact ⟨e.symm, by omega, by omega, fun _ => ⟨by rw [hf, hq, hq2], by rw [hq2]; split <;> omega⟩, _, _, _, _, _, hX, hM2⟩
    · exfalso; first | contradiction | omega | (exact absurd ⟨‹_›, ‹_›⟩ ‹¬ (_ ∧ _)›) | (simp_all; done)
  · rcases hm with ⟨hc2, e, hq2, hM2⟩ | ⟨e, hc2, -, hM2⟩
    · exfalso; first | contradiction | omega | (exact absurd ⟨‹_›, ‹_›⟩ ‹¬ (_ ∧ _)›) | (simp_all; done)
    · rw [show ecode [xIO] xIO = 1 by decide +kernel]
      exact ⟨e.symm, by decide, by decide, fun h => absurd h (by decide), _, _, _, _, _, hX, hM2⟩
set_option maxHeartbeats 1000000 in
theorem cb_isOnTrack {μ : Nat → Int → Int} {n : Nat} {N : Nat → List Int} {ow : Nat → Int} {m : Nat → Nat} {p : Nat → Nat → Int} {s c r : Int} {ν μ1 ν1 : Nat → Int → Int} {q : Int} {f1 : Nat → Int64} {zz : Int} (hX : XI μ n N ow m p) (hsR : -2147483648 ≤ s ∧ s < 2147483648) (hcR : -2147483648 ≤ c ∧ c < 2147483648) (hrR : -2147483648 ≤ r ∧ r < 2147483648) (hx : ((zz = 0 ∧ ∃ q, f1 0 = (zI q).toInt64 ∧ (μ1 = μ ∧ ((StOK n s ∧ SqOK c r) ∧ q = (if 12 * c + r ∈ trk (p s.toNat) (m s.toNat) then 1 else 0)))) ∨ (∃ X, zz = ecode [xIO] X ∧ ((X = xIO ∧ ¬ (StOK n s ∧ SqOK c r)) ∧ μ1 = μ)))) (hm : (((StOK n s ∧ SqOK c r) ∧ ν1 0 16 = 0 ∧ q = (if 12 * c + r ∈ trk (p s.toNat) (m s.toNat) then 1 else 0) ∧ MI ν1 (μ 1) n N ow m p) ∨ (ν1 0 16 = 1 ∧ ¬ (StOK n s ∧ SqOK c r) ∧ q = 0 ∧ MI ν1 (μ 1) n N ow m p))) : zz = ν1 0 16 ∧ 0 ≤ zz ∧ zz ≤ 3 ∧ (zz = 0 → f1 0 = (zI q).toInt64 ∧ (q = 0 ∨ q = 1)) ∧ ∃ n' N' ow' m' p', XI μ1 n' N' ow' m' p' ∧ MI ν1 (μ1 1) n' N' ow' m' p' := by
  rcases hx with ⟨rfl, q9, hf, rfl, hc, hq⟩ | ⟨X, rfl, ⟨rfl, hc⟩, rfl⟩
  · rcases hm with ⟨hc2, e, hq2, hM2⟩ | ⟨e, hc2, -, hM2⟩
    · exact ⟨e.symm, by omega, by omega, fun _ => ⟨by rw [hf, hq, hq2], by rw [hq2]; split <;> omega⟩, _, _, _, _, _, hX, hM2⟩
    · exfalso; first | contradiction | omega | (exact absurd ⟨‹_›, ‹_›⟩ ‹¬ (_ ∧ _)›) | (simp_all; done)
  · rcases hm with ⟨hc2, e, hq2, hM2⟩ | ⟨e, hc2, -, hM2⟩
    · exfalso; first | contradiction | omega | (exact absurd ⟨‹_›, ‹_›⟩ ‹¬ (_ ∧ _)›) | (simp_all; done)
    · rw [show ecode [xIO] xIO = 1 by decide +kernel]
      exact ⟨e.symm, by decide, by decide, fun h => absurd h (by decide), _, _, _, _, _, hX, hM2⟩
set_option maxHeartbeats 1000000 in
theorem cb_streetsOf {μ : Nat → Int → Int} {n : Nat} {N : Nat → List Int} {ow : Nat → Int} {m : Nat → Nat} {p : Nat → Nat → Int} {c r : Int} {ν μ1 ν1 : Nat → Int → Int} {q : Int} {f1 : Nat → Int64} {zz : Int} (hX : XI μ n N ow m p) (hcR : -2147483648 ≤ c ∧ c < 2147483648) (hrR : -2147483648 ≤ r ∧ r < 2147483648) (hx : ((zz = 0 ∧ ∃ q, f1 0 = (zI q).toInt64 ∧ (μ1 = μ ∧ (SqOK c r ∧ q = bitsOf (fun k => decide (12 * c + r ∈ trk (p k) (m k))) n))) ∨ (∃ X, zz = ecode [xIO] X ∧ ((X = xIO ∧ ¬ SqOK c r) ∧ μ1 = μ)))) (hm : ((SqOK c r ∧ ν1 0 16 = 0 ∧ q = bitsOf (fun k => decide (12 * c + r ∈ trk (p k) (m k))) n ∧ MI ν1 (μ 1) n N ow m p) ∨ (ν1 0 16 = 1 ∧ ¬ SqOK c r ∧ MI ν1 (μ 1) n N ow m p))) : zz = ν1 0 16 ∧ 0 ≤ zz ∧ zz ≤ 3 ∧ (zz = 0 → f1 0 = (zI q).toInt64) ∧ ∃ n' N' ow' m' p', XI μ1 n' N' ow' m' p' ∧ MI ν1 (μ1 1) n' N' ow' m' p' := by
  rcases hx with ⟨rfl, q9, hf, rfl, hc, hq⟩ | ⟨X, rfl, ⟨rfl, hc⟩, rfl⟩
  · rcases hm with ⟨hc2, e, hq2, hM2⟩ | ⟨e, hc2, hM2⟩
    · exact ⟨e.symm, by omega, by omega, fun _ => by rw [hf, hq, hq2], _, _, _, _, _, hX, hM2⟩
    · exfalso; first | contradiction | omega | (exact absurd ⟨‹_›, ‹_›⟩ ‹¬ (_ ∧ _)›) | (simp_all; done)
  · rcases hm with ⟨hc2, e, hq2, hM2⟩ | ⟨e, hc2, hM2⟩
    · exfalso; first | contradiction | omega | (exact absurd ⟨‹_›, ‹_›⟩ ‹¬ (_ ∧ _)›) | (simp_all; done)
    · rw [show ecode [xIO] xIO = 1 by decide +kernel]
      exact ⟨e.symm, by decide, by decide, fun h => absurd h (by decide), _, _, _, _, _, hX, hM2⟩
set_option maxHeartbeats 1000000 in
theorem cb_distance {μ : Nat → Int → Int} {n : Nat} {N : Nat → List Int} {ow : Nat → Int} {m : Nat → Nat} {p : Nat → Nat → Int} {s c r : Int} {ν μ1 ν1 : Nat → Int → Int} {q : Int} {f1 : Nat → Int64} {zz : Int} (hX : XI μ n N ow m p) (hsR : -2147483648 ≤ s ∧ s < 2147483648) (hcR : -2147483648 ≤ c ∧ c < 2147483648) (hrR : -2147483648 ≤ r ∧ r < 2147483648) (hx : ((zz = 0 ∧ ∃ q, f1 0 = (zI q).toInt64 ∧ (μ1 = μ ∧ ((StOK n s ∧ SqOK c r) ∧ ∃ sq, IsNear (fun x => x ∈ trk (p s.toNat) (m s.toNat)) c r 144 sq ∧ q = (if sq = -1 then -1 else far sq c r)))) ∨ (∃ X, zz = ecode [xIO] X ∧ ((X = xIO ∧ ¬ (StOK n s ∧ SqOK c r)) ∧ μ1 = μ)))) (hm : (((StOK n s ∧ SqOK c r) ∧ ν1 0 16 = 0 ∧ (∃ sq, IsNear (fun x => x ∈ trk (p s.toNat) (m s.toNat)) c r 144 sq ∧ q = (if sq = -1 then -1 else far sq c r)) ∧ MI ν1 (μ 1) n N ow m p) ∨ (ν1 0 16 = 1 ∧ ¬ (StOK n s ∧ SqOK c r) ∧ MI ν1 (μ 1) n N ow m p))) : zz = ν1 0 16 ∧ 0 ≤ zz ∧ zz ≤ 3 ∧ (zz = 0 → f1 0 = (zI q).toInt64) ∧ ∃ n' N' ow' m' p', XI μ1 n' N' ow' m' p' ∧ MI ν1 (μ1 1) n' N' ow' m' p' := by
  rcases hx with ⟨rfl, q9, hf, rfl, hc, sq, hs, hq⟩ | ⟨X, rfl, ⟨rfl, hc⟩, rfl⟩
  · rcases hm with ⟨hc2, e, ⟨sq2, hs2, hq2⟩, hM2⟩ | ⟨e, hc2, hM2⟩
    · exact ⟨e.symm, by omega, by omega, fun _ => by rw [hf, hq, hq2, hs.one hs2], _, _, _, _, _, hX, hM2⟩
    · exfalso; first | contradiction | omega | (exact absurd ⟨‹_›, ‹_›⟩ ‹¬ (_ ∧ _)›) | (simp_all; done)
  · rcases hm with ⟨hc2, e, ⟨sq2, hs2, hq2⟩, hM2⟩ | ⟨e, hc2, hM2⟩
    · exfalso; first | contradiction | omega | (exact absurd ⟨‹_›, ‹_›⟩ ‹¬ (_ ∧ _)›) | (simp_all; done)
    · rw [show ecode [xIO] xIO = 1 by decide +kernel]
      exact ⟨e.symm, by decide, by decide, fun h => absurd h (by decide), _, _, _, _, _, hX, hM2⟩
set_option maxHeartbeats 1000000 in
theorem cb_nearest {μ : Nat → Int → Int} {n : Nat} {N : Nat → List Int} {ow : Nat → Int} {m : Nat → Nat} {p : Nat → Nat → Int} {s c r : Int} {ν μ1 ν1 : Nat → Int → Int} {q : Int} {f1 : Nat → Int64} {zz : Int} (hX : XI μ n N ow m p) (hsR : -2147483648 ≤ s ∧ s < 2147483648) (hcR : -2147483648 ≤ c ∧ c < 2147483648) (hrR : -2147483648 ≤ r ∧ r < 2147483648) (hx : ((zz = 0 ∧ ∃ q, f1 0 = (zI q).toInt64 ∧ (μ1 = μ ∧ ((StOK n s ∧ SqOK c r) ∧ IsNear (fun x => x ∈ trk (p s.toNat) (m s.toNat)) c r 144 q))) ∨ (∃ X, zz = ecode [xIO] X ∧ ((X = xIO ∧ ¬ (StOK n s ∧ SqOK c r)) ∧ μ1 = μ)))) (hm : (((StOK n s ∧ SqOK c r) ∧ ν1 0 16 = 0 ∧ IsNear (fun x => x ∈ trk (p s.toNat) (m s.toNat)) c r 144 q ∧ MI ν1 (μ 1) n N ow m p) ∨ (ν1 0 16 = 1 ∧ ¬ (StOK n s ∧ SqOK c r) ∧ MI ν1 (μ 1) n N ow m p))) : zz = ν1 0 16 ∧ 0 ≤ zz ∧ zz ≤ 3 ∧ (zz = 0 → f1 0 = (zI q).toInt64) ∧ ∃ n' N' ow' m' p', XI μ1 n' N' ow' m' p' ∧ MI ν1 (μ1 1) n' N' ow' m' p' := by
  rcases hx with ⟨rfl, q9, hf, rfl, hc, hq⟩ | ⟨X, rfl, ⟨rfl, hc⟩, rfl⟩
  · rcases hm with ⟨hc2, e, hq2, hM2⟩ | ⟨e, hc2, hM2⟩
    · exact ⟨e.symm, by omega, by omega, fun _ => by rw [hf, hq.one hq2], _, _, _, _, _, hX, hM2⟩
    · exfalso; first | contradiction | omega | (exact absurd ⟨‹_›, ‹_›⟩ ‹¬ (_ ∧ _)›) | (simp_all; done)
  · rcases hm with ⟨hc2, e, hq2, hM2⟩ | ⟨e, hc2, hM2⟩
    · exfalso; first | contradiction | omega | (exact absurd ⟨‹_›, ‹_›⟩ ‹¬ (_ ∧ _)›) | (simp_all; done)
    · rw [show ecode [xIO] xIO = 1 by decide +kernel]
      exact ⟨e.symm, by decide, by decide, fun h => absurd h (by decide), _, _, _, _, _, hX, hM2⟩
set_option maxHeartbeats 1000000 in
theorem cb_walk {μ : Nat → Int → Int} {n : Nat} {N : Nat → List Int} {ow : Nat → Int} {m : Nat → Nat} {p : Nat → Nat → Int} {c r tc tr : Int} {ν μ1 ν1 : Nat → Int → Int} {q : Int} {f1 : Nat → Int64} {zz : Int} (hX : XI μ n N ow m p) (hcR : -2147483648 ≤ c ∧ c < 2147483648) (hrR : -2147483648 ≤ r ∧ r < 2147483648) (htcR : -2147483648 ≤ tc ∧ tc < 2147483648) (htrR : -2147483648 ≤ tr ∧ tr < 2147483648) (hx : ((zz = 0 ∧ ∃ q, f1 0 = (zI q).toInt64 ∧ ((SqOK c r ∧ SqOK tc tr) ∧ IsDist (EdS n (fun s => trk (p s) (m s)) ow) (12 * c + r) (12 * tc + tr) q ∧ XI μ1 n N ow m p ∧ μ1 1 = μ 1)) ∨ (∃ X, zz = ecode [xIO] X ∧ ((X = xIO ∧ ¬ (SqOK c r ∧ SqOK tc tr)) ∧ μ1 = μ)))) (hm : (((SqOK c r ∧ SqOK tc tr) ∧ ν1 0 16 = 0 ∧ IsDist (EdS n (fun s => trk (p s) (m s)) ow) (12 * c + r) (12 * tc + tr) q ∧ MI ν1 (μ 1) n N ow m p) ∨ (ν1 0 16 = 1 ∧ ¬ (SqOK c r ∧ SqOK tc tr) ∧ MI ν1 (μ 1) n N ow m p))) : zz = ν1 0 16 ∧ 0 ≤ zz ∧ zz ≤ 3 ∧ (zz = 0 → f1 0 = (zI q).toInt64) ∧ ∃ n' N' ow' m' p', XI μ1 n' N' ow' m' p' ∧ MI ν1 (μ1 1) n' N' ow' m' p' := by
  rcases hx with ⟨rfl, q9, hf, hc, hd, hX2, h1⟩ | ⟨X, rfl, ⟨rfl, hc⟩, rfl⟩
  · rcases hm with ⟨hc2, e, hd2, hM2⟩ | ⟨e, hc2, hM2⟩
    · exact ⟨e.symm, by omega, by omega, fun _ => by rw [hf, hd.one hd2], _, _, _, _, _, hX2, by rw [show μ1 1 = _ from h1]; exact hM2⟩
    · exfalso; first | contradiction | omega | (exact absurd ⟨‹_›, ‹_›⟩ ‹¬ (_ ∧ _)›) | (simp_all; done)
  · rcases hm with ⟨hc2, e, hd2, hM2⟩ | ⟨e, hc2, hM2⟩
    · exfalso; first | contradiction | omega | (exact absurd ⟨‹_›, ‹_›⟩ ‹¬ (_ ∧ _)›) | (simp_all; done)
    · rw [show ecode [xIO] xIO = 1 by decide +kernel]
      exact ⟨e.symm, by decide, by decide, fun h => absurd h (by decide), _, _, _, _, _, hX, hM2⟩
set_option maxHeartbeats 1000000 in
theorem cb_walkByRounds {μ : Nat → Int → Int} {n : Nat} {N : Nat → List Int} {ow : Nat → Int} {m : Nat → Nat} {p : Nat → Nat → Int} {c r tc tr : Int} {ν μ1 ν1 : Nat → Int → Int} {q : Int} {f1 : Nat → Int64} {zz : Int} (hX : XI μ n N ow m p) (hcR : -2147483648 ≤ c ∧ c < 2147483648) (hrR : -2147483648 ≤ r ∧ r < 2147483648) (htcR : -2147483648 ≤ tc ∧ tc < 2147483648) (htrR : -2147483648 ≤ tr ∧ tr < 2147483648) (hx : ((zz = 0 ∧ ∃ q, f1 0 = (zI q).toInt64 ∧ ((SqOK c r ∧ SqOK tc tr) ∧ IsDist (EdS n (fun s => trk (p s) (m s)) ow) (12 * c + r) (12 * tc + tr) q ∧ XI μ1 n N ow m p ∧ μ1 1 = μ 1)) ∨ (∃ X, zz = ecode [xIO] X ∧ ((X = xIO ∧ ¬ (SqOK c r ∧ SqOK tc tr)) ∧ μ1 = μ)))) (hm : (((SqOK c r ∧ SqOK tc tr) ∧ ν1 0 16 = 0 ∧ IsDist (EdS n (fun s => trk (p s) (m s)) ow) (12 * c + r) (12 * tc + tr) q ∧ MI ν1 (μ 1) n N ow m p) ∨ (ν1 0 16 = 1 ∧ ¬ (SqOK c r ∧ SqOK tc tr) ∧ MI ν1 (μ 1) n N ow m p))) : zz = ν1 0 16 ∧ 0 ≤ zz ∧ zz ≤ 3 ∧ (zz = 0 → f1 0 = (zI q).toInt64) ∧ ∃ n' N' ow' m' p', XI μ1 n' N' ow' m' p' ∧ MI ν1 (μ1 1) n' N' ow' m' p' := by
  rcases hx with ⟨rfl, q9, hf, hc, hd, hX2, h1⟩ | ⟨X, rfl, ⟨rfl, hc⟩, rfl⟩
  · rcases hm with ⟨hc2, e, hd2, hM2⟩ | ⟨e, hc2, hM2⟩
    · exact ⟨e.symm, by omega, by omega, fun _ => by rw [hf, hd.one hd2], _, _, _, _, _, hX2, by rw [show μ1 1 = _ from h1]; exact hM2⟩
    · exfalso; first | contradiction | omega | (exact absurd ⟨‹_›, ‹_›⟩ ‹¬ (_ ∧ _)›) | (simp_all; done)
  · rcases hm with ⟨hc2, e, hd2, hM2⟩ | ⟨e, hc2, hM2⟩
    · exfalso; first | contradiction | omega | (exact absurd ⟨‹_›, ‹_›⟩ ‹¬ (_ ∧ _)›) | (simp_all; done)
    · rw [show ecode [xIO] xIO = 1 by decide +kernel]
      exact ⟨e.symm, by decide, by decide, fun h => absurd h (by decide), _, _, _, _, _, hX, hM2⟩
set_option maxHeartbeats 1000000 in
theorem cb_reachable {μ : Nat → Int → Int} {n : Nat} {N : Nat → List Int} {ow : Nat → Int} {m : Nat → Nat} {p : Nat → Nat → Int} {c r : Int} {ν μ1 ν1 : Nat → Int → Int} {q : Int} {f1 : Nat → Int64} {zz : Int} (hX : XI μ n N ow m p) (hcR : -2147483648 ≤ c ∧ c < 2147483648) (hrR : -2147483648 ≤ r ∧ r < 2147483648) (hx : ((zz = 0 ∧ ∃ q, f1 0 = (zI q).toInt64 ∧ (SqOK c r ∧ IsCount (EdS n (fun s => trk (p s) (m s)) ow) (12 * c + r) q ∧ XI μ1 n N ow m p ∧ μ1 1 = μ 1)) ∨ (∃ X, zz = ecode [xIO] X ∧ ((X = xIO ∧ ¬ SqOK c r) ∧ μ1 = μ)))) (hm : ((SqOK c r ∧ ν1 0 16 = 0 ∧ IsCount (EdS n (fun s => trk (p s) (m s)) ow) (12 * c + r) q ∧ MI ν1 (μ 1) n N ow m p) ∨ (ν1 0 16 = 1 ∧ ¬ SqOK c r ∧ MI ν1 (μ 1) n N ow m p))) : zz = ν1 0 16 ∧ 0 ≤ zz ∧ zz ≤ 3 ∧ (zz = 0 → f1 0 = (zI q).toInt64) ∧ ∃ n' N' ow' m' p', XI μ1 n' N' ow' m' p' ∧ MI ν1 (μ1 1) n' N' ow' m' p' := by
  rcases hx with ⟨rfl, q9, hf, hc, hd, hX2, h1⟩ | ⟨X, rfl, ⟨rfl, hc⟩, rfl⟩
  · rcases hm with ⟨hc2, e, hd2, hM2⟩ | ⟨e, hc2, hM2⟩
    · exact ⟨e.symm, by omega, by omega, fun _ => by rw [hf, hd.one hd2], _, _, _, _, _, hX2, by rw [show μ1 1 = _ from h1]; exact hM2⟩
    · exfalso; first | contradiction | omega | (exact absurd ⟨‹_›, ‹_›⟩ ‹¬ (_ ∧ _)›) | (simp_all; done)
  · rcases hm with ⟨hc2, e, hd2, hM2⟩ | ⟨e, hc2, hM2⟩
    · exfalso; first | contradiction | omega | (exact absurd ⟨‹_›, ‹_›⟩ ‹¬ (_ ∧ _)›) | (simp_all; done)
    · rw [show ecode [xIO] xIO = 1 by decide +kernel]
      exact ⟨e.symm, by decide, by decide, fun h => absurd h (by decide), _, _, _, _, _, hX, hM2⟩
