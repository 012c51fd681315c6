/-! new arrays, copies, cells forgotten; StringBuilder's two cells -/
theorem va_RA_inj {s : State} {a c : ClassId} {ty : FieldType} (h : va_RA s a ty) (h' : va_RA s c ty) : a = c := by
  cases ty with
  | object C =>
    obtain ⟨_, _, _, _, _, h4⟩ := h
    obtain ⟨_, _, _, _, _, h5⟩ := h'
    exact Option.some.inj (h4.symm.trans h5)
  | _ => exact Option.some.inj ((show s.vm.findClass _ = some a from h).symm.trans (show s.vm.findClass _ = some c from h'))
theorem va_A_perm {ws ws' : va_W} (h : ws.Perm ws') {sz : Nat} : va_A ws sz = va_A ws' sz := by
  funext q
  refine propext ⟨?_, ?_⟩
  · rintro (⟨k, e, hk⟩ | h1)
    · obtain ⟨k', hk'⟩ := List.getElem?_of_mem (h.mem_iff.mp (List.mem_of_getElem? hk))
      exact Or.inl ⟨k', e, hk'⟩
    · exact Or.inr h1
  · rintro (⟨k, e, hk⟩ | h1)
    · obtain ⟨k', hk'⟩ := List.getElem?_of_mem (h.mem_iff.mpr (List.mem_of_getElem? hk))
      exact Or.inl ⟨k', e, hk'⟩
    · exact Or.inr h1
theorem va_P_perm {D : va_G} {ws ws' : va_W} {H : Heap} (h : ws.Perm ws') (hP : va_P D vwCl ws H) : va_P D vwCl ws' H := va_P_iff.mpr fun q hq => va_P_iff.mp hP q (h.mem_iff.mpr hq)
theorem va_D_perm {A : Nat → Prop} {ws ws' : va_W} (h : ws.Perm ws') (hD : va_D A ws) : va_D A ws' := va_D_iff.mpr ⟨((h.map Prod.fst).nodup_iff).mp (va_D_iff.mp hD).1, fun q hq => (va_D_iff.mp hD).2 q (h.mem_iff.mpr hq)⟩
theorem CT.perm {l : Launch} {D : va_G} {cy : Nat → ClassId} {n0 : Nat} {ad : Nat → Nat} {y : MethodName} {wd : Cond} {rm : Room} {args : List Value} {ws ws' : va_W} {PR PR' : Option Value → va_W → Prop} (h : CT l D cy n0 ad y wd rm args ws PR) (hp : ws'.Perm ws) (hq : ∀ v u, PR v u → ∃ u', u.Perm u' ∧ PR' v u') : CT l D cy n0 ad y wd rm args ws' PR' := by
  intro sz p e h1 h2 h3 s m ar below h4 h5 h6 h7
  have h8 := h sz p e h1 h2 h3 s m ar below h4 h5
  rw [← va_A_perm hp] at h8
  obtain ⟨n, o, a1, a2, a3, ⟨⟨v, u, b1, b2, b3, b4⟩, b5⟩, a5⟩ := h8 ⟨h6.1, h6.2.1, h6.2.2.1, va_P_perm hp h6.2.2.2.1, va_D_perm hp h6.2.2.2.2⟩ h7
  obtain ⟨u', c1, c2⟩ := hq v u b2
  exact ⟨n, o, a1, a2, a3, ⟨⟨v, u', b1, c2, va_P_perm c1 b3, va_D_perm c1 b4⟩, b5⟩, a5⟩
theorem acp_n : Cond.native arraycopyName ∈ GT := (List.mem_of_getElem? (i := 644) (by decide +kernel))
theorem acp_s : Cond.static arraycopyName ∈ GT := (List.mem_of_getElem? (i := 643) (by decide +kernel))
theorem acp_i : Cond.initialized "java/lang/System" ∈ GT := (List.mem_of_getElem? (i := 61) (by decide +kernel))
theorem arr_b : Cond.arrayClass .byte ∈ GT := (List.mem_of_getElem? (i := 254) (by decide +kernel))
theorem arr_i : Cond.arrayClass .int ∈ GT := (List.mem_of_getElem? (i := 99) (by decide +kernel))
theorem arr_l : Cond.arrayClass .long ∈ GT := (List.mem_of_getElem? (i := 594) (by decide +kernel))
section JN
variable {l : Launch} {D : va_G} {cy : Nat → ClassId} {n0 : Nat} {ad : Nat → Nat} {own : String} {cc : ByteArray} {nL : Nat} {ret : Option FieldType} {R : Room} {A : Nat → Prop} {PR : Option Value → va_W → Prop} {PX : String → va_W → Prop} {XS : State → Prop} {fin : Bool} {ET : List ExceptionTableEntry} {J : JT}
variable {ws E : va_W} {ce sl pc : Nat} {lv : List (Nat × Value)} {st : List Value} {N : Nat} {sh : Nat → Sh} {b : Nat → Nat} {μ : Nat → Int → Int}
theorem j_newa {atype : ArrayType} {ty : FieldType} {t N' : Nat} {z : Int} (hJ : Cx l D cy n0 ad own cc nL ret R A PR PX XS fin ET J) (hty : newarray.typeOf atype = ty) (ht : ∀ cy, (TY cy)[t]? = some (cy t, ty)) (hw : Cond.arrayClass ty ∈ GT) (hz : z = N') (hN : N' ≤ 2000) (hcb : componentBytes ty ≤ 8) (h0 : ∀ cA : ClassId, vp_cell cA (N', .inl (fun _ => zI 0)) = arrV cA N' (fun _ => defaultValue ty)) (hc : ce + 1 ≤ R.cells) (hs : sl + N' ≤ R.slots) (hd : decode cc pc = .ok (.newarray atype, 2))
    (kk : ∀ q, J (ws ++ [(q, .inl (cy t, N', .inl (fun _ => zI 0)))]) (ce + 1) (sl + N') (pc + 2) lv (.ref q :: st)) : J ws ce sl pc lv (.int (zI z) :: st) := by
  obtain ⟨p, e, s, m, args, below, meth, c, Q, ⟨hx, hb, hml, hown⟩, hK, hA, hAn, hM, hXS, hQ, rfl⟩ := hJ
  intro H locs ls hP hD hS hl
  subst hz
  refine va_newa (N' := N') hx hb (by rw [hty]; exact hK.2.1.good hw rfl) hty hK.1 hP hD hS hA h0 ?_ ?_ ?_ hc hs hd (fun q cA H1 hK1 hP1 hD1 hS1 => ?_)
  · have := zI_lt (a := (N' : Int)) (b := 0) ⟨by omega, by omega⟩ zI_inR0
    intro g
    have g : zI (N' : Int) < zI 0 := g
    rw [this] at g
    omega
  · rw [zI_cl (by omega) (by omega)]; omega
  · exact Nat.le_trans (Nat.mul_le_mul hN hcb) (Nat.le_of_ble_eq_true rfl)
  · have e1 : cA = cy t := va_RA_inj (hK1.2 5 (cA, ty) rfl).2 (hK.1.2 t (cy t, ty) (ht cy)).2
    subst e1
    exact kk q H1 locs ls hP1 hD1 hS1 hl
theorem j_drop {ws' X : va_W} (hJ : Cx l D cy n0 ad own cc nL ret R A PR PX XS fin ET J) (h : ws.Perm (ws' ++ X)) (k : J ws' ce sl pc lv st) : J ws ce sl pc lv st := by
  refine j_perm hJ h ?_
  obtain ⟨p, e, s, m, args, below, meth, c, Q, ⟨hx, hb, hml, hown⟩, hK, hA, hAn, hM, hXS, hQ, rfl⟩ := hJ
  intro H locs ls hP hD hS hl
  exact k H locs ls hP.left hD.left hS hl
theorem fitB {z : Int} (h0 : -128 ≤ z) (h1 : z < 128) : fits .byte (.int (zI z)) = true := by
  obtain ⟨k, rfl⟩ : ∃ k : Nat, z = (k : Int) - 128 := ⟨(z + 128).toNat, by omega⟩
  have : ∀ k < 256, fits .byte (.int (zI ((k : Nat) - 128 : Int))) = true := by decide +kernel
  exact this k (by omega)
theorem narB {z : Int} (h0 : -128 ≤ z) (h1 : z < 128) : vp_nar .byte (zI z) = zI z := by
  obtain ⟨k, rfl⟩ : ∃ k : Nat, z = (k : Int) - 128 := ⟨(z + 128).toNat, by omega⟩
  have : ∀ k < 256, vp_nar .byte (zI ((k : Nat) - 128 : Int)) = zI ((k : Nat) - 128 : Int) := by decide +kernel
  exact this k (by omega)
theorem i2bB {z : Int} (h0 : -128 ≤ z) (h1 : z < 128) : (zI z).toInt8.toInt32 = zI z := narB h0 h1
theorem andB {z : Int} (h0 : 0 ≤ z) (h1 : z < 128) : ((zI z &&& zI 255).toUInt32 % 65536).toInt32 = zI z := by
  obtain ⟨k, rfl⟩ := Int.eq_ofNat_of_zero_le h0
  have : ∀ k < 128, ((zI ((k : Nat) : Int) &&& zI 255).toUInt32 % 65536).toInt32 = zI ((k : Nat) : Int) := by decide +kernel
  exact this k (by omega)
theorem narC {z : Int} (h0 : 0 ≤ z) (h1 : z < 128) : narrow .char (.int (zI z)) = .int (zI z) := by
  obtain ⟨k, rfl⟩ := Int.eq_ofNat_of_zero_le h0
  have : ∀ k < 128, narrow .char (.int (zI ((k : Nat) : Int))) = .int (zI ((k : Nat) : Int)) := by decide +kernel
  exact this k (by omega)
theorem i2cC {z : Int} (h0 : 0 ≤ z) (h1 : z < 128) : ((zI z).toUInt32 % 65536).toInt32 = zI z := by
  obtain ⟨k, rfl⟩ := Int.eq_ofNat_of_zero_le h0
  have : ∀ k < 128, ((zI ((k : Nat) : Int)).toUInt32 % 65536).toInt32 = zI ((k : Nat) : Int) := by decide +kernel
  exact this k (by omega)
theorem sh0 {z : Int} (h0 : 0 ≤ z) (h1 : z < 2000) : zI z >>> (zI 0 &&& 31) = zI z ∧ zI z <<< (zI 0 &&& 31) = zI z := by
  obtain ⟨k, rfl⟩ := Int.eq_ofNat_of_zero_le h0
  have : ∀ k < 2000, zI ((k : Nat) : Int) >>> (zI 0 &&& 31) = zI ((k : Nat) : Int) ∧ zI ((k : Nat) : Int) <<< (zI 0 &&& 31) = zI ((k : Nat) : Int) := by decide +kernel
  exact this k (by omega)
theorem j_i2b {z : Int} (hJ : Cx l D cy n0 ad own cc nL ret R A PR PX XS fin ET J) (h0 : -128 ≤ z) (h1 : z < 128) (hd : decode cc pc = .ok (.i2b, 1)) (k : J ws ce sl (pc + 1) lv (.int (zI z) :: st)) : J ws ce sl pc lv (.int (zI z) :: st) := by
  obtain ⟨p, e, s, m, args, below, meth, c, Q, ⟨hx, hb, hml, hown⟩, hK, hA, hAn, hM, hXS, hQ, rfl⟩ := hJ
  intro H locs ls hP hD hS hl
  exact lv_i2b hx hb hd (i2bB h0 h1) (k H locs ls hP hD hS hl)
theorem w_bald {k n : Nat} {z : Int} (hJ : Cx l D cy n0 ad own cc nL ret R A PR PX XS fin ET J) (hk : k < N) (hs : sh k = .inr (.inl (3, n))) (hn : n < 2147483648) (h0 : 0 ≤ z) (h1 : z < n) (hd : decode cc pc = .ok (.baload, 1))
    (kk : J (gw N sh cy b μ ++ E) ce sl (pc + 1) lv (.int (zI (μ k z)) :: st)) : J (gw N sh cy b μ ++ E) ce sl pc lv (.int (zI z) :: .ref (b k) :: st) := by
  obtain ⟨p, e, s, m, args, below, meth, c, Q, ⟨hx, hb, hml, hown⟩, hK, hA, hAn, hM, hXS, hQ, rfl⟩ := hJ
  intro H locs ls hP hD hS hl
  have he : (gw N sh cy b μ ++ E)[k]? = some (b k, .inl (cy 3, n, .inl (fun j => zI (μ k j)))) := by rw [gw_get hk, hs]; rfl
  refine va_bald hx hb hK.1 hP k 3 he rfl (zI_in h0 h1 hn) hd ?_
  have e1 : ((zI z).toNatClampNeg : Int) = z := by rw [zI_cl h0 (by omega)]; omega
  rw [e1]
  exact kk H locs ls hP hD hS hl
theorem w_bast {k n : Nat} {z v : Int} (hJ : Cx l D cy n0 ad own cc nL ret R A PR PX XS fin ET J) (hk : k < N) (hs : sh k = .inr (.inl (3, n))) (hn : n < 2147483648) (h0 : 0 ≤ z) (h1 : z < n) (hv : -128 ≤ v ∧ v < 128) (hd : decode cc pc = .ok (.bastore, 1))
    (kk : ∀ μ', μ' = up μ k z v → J (gw N sh cy b μ' ++ E) ce sl (pc + 1) lv st) : J (gw N sh cy b μ ++ E) ce sl pc lv (.int (zI v) :: .int (zI z) :: .ref (b k) :: st) := by
  obtain ⟨p, e, s, m, args, below, meth, c, Q, ⟨hx, hb, hml, hown⟩, hK, hA, hAn, hM, hXS, hQ, rfl⟩ := hJ
  intro H locs ls hP hD hS hl
  have he : (gw N sh cy b μ ++ E)[k]? = some (b k, .inl (cy 3, n, .inl (fun j => zI (μ k j)))) := by rw [gw_get hk, hs]; rfl
  refine va_bast hx hb hK.1 hP hD hS k 3 he rfl (zI_in h0 h1 hn) hd (fun H1 locs1 hP hD hS => ?_)
  rw [narB hv.1 hv.2] at hP hD
  have e2 := gw_set (N := N) (sh := sh) (cy := cy) (b := b) (μ := μ) (μ' := up μ k z v) (E := E) (e := .inl (cy 3, n, .inl (upd (fun j => zI (μ k j)) (zI z).toNatClampNeg (zI v)))) hk (by rw [hs, up_fn h0 (by omega)]; rfl) (fun a ha => by funext c; exact up_row ha)
  rw [e2] at hP hD
  exact kk _ rfl H1 locs1 ls hP hD hS hl
theorem j_copyi {idx q0 q1 m0 m1 a0 a : Nat} {f g : Nat → Int32} {sp dp n : Int} (hJ : Cx l D cy n0 ad own cc nL ret R A PR PX XS fin ET J) (hlk : Cond.methodLink own idx arraycopyName ∈ GT) (ha0 : ws[q0]? = some (a0, .inl (cy 3, m0, .inl f))) (ha1 : ws[q1]? = some (a, .inl (cy 3, m1, .inl g))) (h1 : 0 ≤ sp) (h2 : 0 ≤ dp) (h3 : 0 ≤ n) (h4 : sp + n ≤ m0) (h5 : dp + n ≤ m1) (hm : m0 ≤ 2000 ∧ m1 ≤ 2000) (hfit : ∀ i : Nat, (i : Int) < n → fits .byte (.int (f (sp.toNat + i))) = true) (hR : 1 ≤ R.frames) (hRl : (st.map fun v => v.category).sum + (nativeFrameWords "java/lang/System" "arraycopy" 5 + 11) ≤ R.locals) (hd : decode cc pc = .ok (.invokestatic idx, 3))
    (kk : J (ws.set q1 (a, .inl (cy 3, m1, .inl (va_cpy f g sp.toNat dp.toNat n.toNat)))) ce sl (pc + 3) lv st) : J ws ce sl pc lv (.int (zI n) :: .int (zI dp) :: .ref a :: .int (zI sp) :: .ref a0 :: st) := by
  obtain ⟨p, e, s, m, args, below, meth, c, Q, ⟨hx, hb, hml, hown⟩, hK, hA, hAn, hM, hXS, hQ, rfl⟩ := hJ
  intro H locs ls hP hD hS hl
  have c1 := zI_cl h1 (by omega : sp < 2147483648)
  have c2 := zI_cl h2 (by omega : dp < 2147483648)
  have c3 := zI_cl h3 (by omega : n < 2147483648)
  have nn : ∀ z : Int, 0 ≤ z → z < 2147483648 → ¬ zI z < 0 := fun z g0 g1 g => by
    have g : zI z < zI 0 := g
    rw [zI_lt ⟨by omega, by omega⟩ zI_inR0] at g
    omega
  refine va_copyi hx hb (by rw [hml]; exact hl.1.symm) hown (hK.2.1.good hlk rfl) (hK.2.1.good acp_n rfl) (hK.2.1.good acp_s rfl) (hK.2.1.good acp_i rfl) hK.1 hP hD hS q0 q1 3 3 ha0 ha1 rfl rfl rfl (nn _ h1 (by omega)) (nn _ h2 (by omega)) (nn _ h3 (by omega)) (by rw [c1, c3]; omega) (by rw [c2, c3]; omega) (fun i hi => by rw [c1]; rw [c3] at hi; exact hfit i (by omega)) hR hRl hd (fun H1 locs1 hP hD hS => ?_)
  rw [c1, c2, c3] at hP hD
  exact kk H1 locs1 ls hP hD hS hl
theorem j_copyt {idx q1 m1 i a : Nat} {g : Nat → Int32} {sp dp n : Int} (hJ : Cx l D cy n0 ad own cc nL ret R A PR PX XS fin ET J) (hlk : Cond.methodLink own idx arraycopyName ∈ GT) (hi : i < 25) (ha1 : ws[q1]? = some (a, .inl (cy 3, m1, .inl g))) (h1 : sp = 0) (h2 : 0 ≤ dp) (h3 : n = wL i) (h5 : dp + n ≤ m1) (hm : m1 ≤ 2000) (hR : 1 ≤ R.frames) (hRl : (st.map fun v => v.category).sum + (nativeFrameWords "java/lang/System" "arraycopy" 5 + 11) ≤ R.locals) (hd : decode cc pc = .ok (.invokestatic idx, 3))
    (kk : J (ws.set q1 (a, .inl (cy 3, m1, .inl (va_cpy (fun j => zI (wC i j)) g 0 dp.toNat (wL i))))) ce sl (pc + 3) lv st) : J ws ce sl pc lv (.int (zI n) :: .int (zI dp) :: .ref a :: .int (zI sp) :: .ref (ad (60 + i)) :: st) := by
  obtain ⟨p, e, s, m, args, below, meth, c, Q, ⟨hx, hb, hml, hown⟩, hK, hA, hAn, hM, hXS, hQ, rfl⟩ := hJ
  intro H locs ls hP hD hS hl
  have hw := wL_lt i
  subst h1 h3
  have c1 : (zI 0).toNatClampNeg = 0 := zI_cl (Int.le_refl 0) (by decide)
  have c2 := zI_cl h2 (by omega : dp < 2147483648)
  have c3 := zI_cl (z := (wL i : Int)) (by omega) (by omega)
  have nn : ∀ z : Int, 0 ≤ z → z < 2147483648 → ¬ zI z < 0 := fun z g0 g1 g => by
    have g : zI z < zI 0 := g
    rw [zI_lt ⟨by omega, by omega⟩ zI_inR0] at g
    omega
  have hT := (((k_Z hK).2.2.2.2.2.1.1 i hi).2.2.2).narrow hAn
  have e1 : (fun j : Nat => Value.int ((wByt.getD i []).getD j 0)) = fun j => Value.int (zI (wC i j)) := by
    funext j; unfold wC; rw [zI_of]
  rw [e1] at hT
  refine vk_copyt hx hb (by rw [hml]; exact hl.1.symm) hown (hK.2.1.good hlk rfl) (hK.2.1.good acp_n rfl) (hK.2.1.good acp_s rfl) (hK.2.1.good acp_i rfl) hK.1 hP hD hS (f := fun j => zI (wC i j)) hT q1 3 ha1 rfl (nn _ (Int.le_refl 0) (by omega)) (nn _ h2 (by omega)) (nn _ (by omega) (by omega)) (by rw [c1, c3]; show 0 + (wL i : Int).toNat ≤ wL i; omega) (by rw [c2, c3]; omega) (fun k hk => by
    rw [c3] at hk
    rw [c1, Nat.zero_add]
    have := wC_tab i hi k (by omega)
    exact fitB (by omega) (by omega)) hR hRl hd (fun H1 locs1 hP hD hS => ?_)
  rw [c1, c2, c3, Int.toNat_natCast] at hP hD
  exact kk H1 locs1 ls hP hD hS hl
theorem j_ifnonnull {x tgt : Nat} {off : Int} (hJ : Cx l D cy n0 ad own cc nL ret R A PR PX XS fin ET J) (ht : (pc : Int) + off = (tgt : Int)) (hd : decode cc pc = .ok (.ifnonnull off, 3)) (k : J ws ce sl tgt lv st) : J ws ce sl pc lv (.ref x :: st) := by
  obtain ⟨p, e, s, m, args, below, meth, c, Q, ⟨hx, hb, hml, hown⟩, hK, hA, hAn, hM, hXS, hQ, rfl⟩ := hJ
  intro H locs ls hP hD hS hl
  exact lv_ifnonnull hx hb hd ht (k H locs ls hP hD hS hl)
theorem j_ldcs {idx i : Nat} {tx : String} (hJ : Cx l D cy n0 ad own cc nL ret R A PR PX XS fin ET J) (hZ : ∀ s, TX ad s → vk_R own idx tx (ad (30 + i)) s) (hd : decode cc pc = .ok (.ldc idx, 2)) (k : J ws ce sl (pc + 2) lv (.ref (ad (30 + i)) :: st)) : J ws ce sl pc lv st := by
  obtain ⟨p, e, s, m, args, below, meth, c, Q, ⟨hx, hb, hml, hown⟩, hK, hA, hAn, hM, hXS, hQ, rfl⟩ := hJ
  intro H locs ls hP hD hS hl
  exact va_ldcS hx hb hown (hZ s hK.2.2.2.2) hd (k H locs ls hP hD hS hl)
theorem j_aretA {ty : FieldType} {a : Nat} (hJ : Cx l D cy n0 ad own cc nL ret R A PR PX XS fin ET J) (hf : fin = true) (hr : ret = some (.array ty)) (h1 : ce ≤ R.cells) (h2 : sl ≤ R.slots) (hd : decode cc pc = .ok (.areturn, 1)) (hp : PR (some (.ref a)) ws) : J ws ce sl pc lv [.ref a] := by
  obtain ⟨p, e, s, m, args, below, meth, c, Q, ⟨hx, hb, hml, hown⟩, hK, hA, hAn, hM, hXS, hQ, rfl⟩ := hJ
  intro H locs ls hP hD hS hl
  rw [hQ hf]
  refine W.widen h1 h2 (vx_ret (W.aret hx hb (hM.1.trans hr) (Or.inr ⟨ty, rfl⟩) (Or.inr ⟨a, rfl⟩) (fun t ht hW => ⟨⟨some (.ref a), ws, rfl, hp, by rw [ht]; exact hP, hD⟩, hS.F ht⟩) hS.2.2 hd hM.2.1))
theorem j_alenC {q0 a t n : Nat} {f : Nat → Int32} {ty : FieldType} (hJ : Cx l D cy n0 ad own cc nL ret R A PR PX XS fin ET J) (he : ws[q0]? = some (a, .inl (cy t, n, .inl f))) (ht : ∀ cy, (TY cy)[t]? = some (cy t, ty)) (hd : decode cc pc = .ok (.arraylength, 1)) (kk : J ws ce sl (pc + 1) lv (.int (zI n) :: st)) : J ws ce sl pc lv (.ref a :: st) := by
  obtain ⟨p, e, s, m, args, below, meth, c, Q, ⟨hx, hb, hml, hown⟩, hK, hA, hAn, hM, hXS, hQ, rfl⟩ := hJ
  intro H locs ls hP hD hS hl
  exact va_alen hx hb hK.1 hP q0 t he (ht cy) (zI_nI n) hd (kk H locs ls hP hD hS hl)
end JN
section JQ
variable {l : Launch} {D : va_G} {cy : Nat → ClassId} {n0 : Nat} {ad : Nat → Nat} {own : String} {cc : ByteArray} {nL : Nat} {ret : Option FieldType} {R : Room} {A : Nat → Prop} {PR : Option Value → va_W → Prop} {PX : String → va_W → Prop} {XS : State → Prop} {fin : Bool} {ET : List ExceptionTableEntry} {J : JT}
variable {wc : va_W} {ce sl pc : Nat} {lv : List (Nat × Value)} {rest As : List Value} {y : MethodName} {bytes : ByteArray} {maxL : Nat} {rt : Option FieldType} {rm : Room} {PR1 : Option Value → va_W → Prop} {idx a q0 : Nat} {fs : List Value}
theorem j_callU0 (hJ : Cx l D cy n0 ad own cc nL ret R A PR PX XS fin ET J) (hM : CT l D cy n0 ad y (.code y bytes maxL rt) rm (.ref a :: As) wc PR1) (hF : MU own idx y As.length) (hw : Cond.code y bytes maxL rt ∈ GT) (he : wc[q0]? = some (a, .inr (0, fs)))
    (hR : rm.frames + 1 ≤ R.frames ∧ 8 + (maxL + 11) + rm.locals ≤ R.locals) (hce : ce + rm.cells ≤ R.cells ∧ sl + rm.slots ≤ R.slots) (hst : (rest.map fun v => v.category).sum ≤ 8) (hd : decode cc pc = .ok (.invokevirtual idx, 3))
    {as : List Value} (has : as = As.reverse ++ .ref a :: rest)
    (kk : ∀ v u, PR1 v u → J u (ce + rm.cells) (sl + rm.slots) (pc + 3) lv (v.toList ++ rest)) : J wc ce sl pc lv as := by
  have h := j_callU (E := []) (lv := lv) hJ hM hF hw he hR hce hst hd has (fun v u hp => by rw [List.append_nil]; exact kk v u hp)
  rwa [List.append_nil] at h
theorem j_callP0 (hJ : Cx l D cy n0 ad own cc nL ret R A PR PX XS fin ET J) (hM : CT l D cy n0 ad y (.code y bytes maxL rt) rm (.ref a :: As) wc PR1) (hF : MP own idx y As.length) (hw : Cond.code y bytes maxL rt ∈ GT) (he : wc[q0]? = some (a, .inr (0, fs)))
    (hR : rm.frames + 1 ≤ R.frames ∧ 8 + (maxL + 11) + rm.locals ≤ R.locals) (hce : ce + rm.cells ≤ R.cells ∧ sl + rm.slots ≤ R.slots) (hst : (rest.map fun v => v.category).sum ≤ 8) (hd : decode cc pc = .ok (.invokespecial idx, 3))
    {as : List Value} (has : as = As.reverse ++ .ref a :: rest)
    (kk : ∀ v u, PR1 v u → J u (ce + rm.cells) (sl + rm.slots) (pc + 3) lv (v.toList ++ rest)) : J wc ce sl pc lv as := by
  have h := j_callP (E := []) (lv := lv) hJ hM hF hw he hR hce hst hd has (fun v u hp => by rw [List.append_nil]; exact kk v u hp)
  rwa [List.append_nil] at h
theorem j_callI0 (hJ : Cx l D cy n0 ad own cc nL ret R A PR PX XS fin ET J) (hM : CT l D cy n0 ad y (.code y bytes maxL none) rm (.ref a :: As) wc PR1) (hF : MF own idx 2 y As.length) (hw : Cond.code y bytes maxL none ∈ GT)
    (hR : rm.frames + 1 ≤ R.frames ∧ 8 + (maxL + 11) + rm.locals ≤ R.locals) (hce : ce + rm.cells ≤ R.cells ∧ sl + rm.slots ≤ R.slots) (hst : (rest.map fun v => v.category).sum ≤ 8) (hd : decode cc pc = .ok (.invokespecial idx, 3))
    {as : List Value} (has : as = As.reverse ++ .ref a :: rest)
    (kk : ∀ v u, PR1 v u → J u (ce + rm.cells) (sl + rm.slots) (pc + 3) lv (v.toList ++ rest)) : J wc ce sl pc lv as := by
  have h := j_callI (E := []) (lv := lv) hJ hM hF hw hR hce hst hd has (fun v u hp => by rw [List.append_nil]; exact kk v u hp)
  rwa [List.append_nil] at h
end JQ
/-! StringBuilder: s the object, t its bytes, m how many of them, ν the numbers -/
def SBSh (m : Nat) : Nat → Sh
  | 0 => .inl (0, [some 1, none, none, none])
  | _ + 1 => .inr (.inl (3, m))
def sbb (s t : Nat) : Nat → Nat
  | 0 => s
  | _ + 1 => t
def capO (n : Nat) : Nat := if n ≤ 16 then 16 else if n ≤ 34 then 34 else if n ≤ 70 then 70 else if n ≤ 142 then 142 else if n ≤ 286 then 286 else if n ≤ 574 then 574 else 1150
def cpC (n : Nat) : Nat := if n ≤ 16 then 0 else if n ≤ 34 then 1 else if n ≤ 70 then 2 else if n ≤ 142 then 3 else if n ≤ 286 then 4 else if n ≤ 574 then 5 else 6
def cpS (n : Nat) : Nat := if n ≤ 16 then 0 else if n ≤ 34 then 34 else if n ≤ 70 then 104 else if n ≤ 142 then 246 else if n ≤ 286 then 532 else if n ≤ 574 then 1106 else 2256
theorem cap_mono {n k : Nat} (h : n ≤ k) : capO n ≤ capO k ∧ cpC n ≤ cpC k ∧ cpS n ≤ cpS k := by
  unfold capO cpC cpS
  refine ⟨?_, ?_, ?_⟩ <;> (repeat' split) <;> omega
theorem cap_rng (n : Nat) : 16 ≤ capO n ∧ capO n ≤ 1150 ∧ cpC n ≤ 6 ∧ cpS n ≤ 2256 ∧ (n ≤ 1150 → n ≤ capO n) := by
  unfold capO cpC cpS
  refine ⟨?_, ?_, ?_, ?_, ?_⟩ <;> (repeat' split) <;> omega
theorem cap_grow {n k : Nat} (h : n ≤ k) (h8 : k ≤ n + 8) (hk : k ≤ 1150) : (k ≤ capO n → capO k = capO n ∧ cpC k = cpC n ∧ cpS k = cpS n) ∧ (capO n < k → capO k = 2 * capO n + 2 ∧ cpC k = cpC n + 1 ∧ cpS k = cpS n + capO k) := by
  unfold capO cpC cpS
  constructor <;> intro g <;> (repeat' split at g) <;> (refine ⟨?_, ?_, ?_⟩ <;> (repeat' split) <;> omega)
/-- the builder holds the text L -/
def SBI (m : Nat) (ν : Nat → Int → Int) (L : List Int) : Prop := ν 0 1 = 0 ∧ ν 0 3 = L.length ∧ m = capO L.length ∧ L.length ≤ 1150 ∧ (∀ j, 0 ≤ ν 1 j ∧ ν 1 j < 128) ∧ ArrL (ν 1) L
def SBP (cy : Nat → ClassId) (s : Nat) (L : List Int) (w : va_W) : Prop := ∃ t m ν, w = gw 2 (SBSh m) cy (sbb s t) ν ∧ SBI m ν L
theorem SBP.recv {cy : Nat → ClassId} {s : Nat} {L : List Int} {w E : va_W} (h : SBP cy s L w) : ∃ fs, (w ++ E)[0]? = some (s, .inr (0, fs)) := by
  obtain ⟨t, m, ν, rfl, -⟩ := h
  exact ⟨_, by rw [gw_get (by decide)]; rfl⟩
theorem SBP.recv' {cy : Nat → ClassId} {s N : Nat} {sh : Nat → Sh} {b : Nat → Nat} {μ : Nat → Int → Int} {L : List Int} {w E : va_W} (h : SBP cy s L w) : ∃ fs, (gw N sh cy b μ ++ (w ++ E))[N]? = some (s, .inr (0, fs)) := by
  obtain ⟨fs, h1⟩ := h.recv (E := E)
  exact ⟨fs, by rw [List.getElem?_append_right (by rw [gw_len]; exact Nat.le_refl _), gw_len, Nat.sub_self]; exact h1⟩
theorem sbw_eq {cy : Nat → ClassId} {s t m : Nat} {ν : Nat → Int → Int} : gw 2 (SBSh m) cy (sbb s t) ν = [(s, .inr (0, [.ref t, .int (zI (ν 0 1)), .int (zI (ν 0 2)), .int (zI (ν 0 3))])), (t, .inl (cy 3, m, .inl (fun j => zI (ν 1 j))))] := rfl
def putW (ν : Nat → Int → Int) (i : Nat) (dp : Int) : Nat → Int → Int := fun a c => if a = 1 ∧ dp ≤ c ∧ c < dp + wL i then wC i (c - dp).toNat else ν a c
theorem putW_eq {cy : Nat → ClassId} {s t m i : Nat} {ν : Nat → Int → Int} {dp : Int} (h0 : 0 ≤ dp) (E : va_W) : (gw 2 (SBSh m) cy (sbb s t) ν ++ E).set 1 (t, .inl (cy 3, m, .inl (va_cpy (fun j => zI (wC i j)) (fun j => zI (ν 1 j)) 0 dp.toNat (wL i)))) = gw 2 (SBSh m) cy (sbb s t) (putW ν i dp) ++ E := by
  have e1 : va_cpy (fun j => zI (wC i j)) (fun j => zI (ν 1 j)) 0 dp.toNat (wL i) = fun j : Nat => zI (putW ν i dp 1 j) := by
    funext j
    unfold va_cpy putW
    by_cases h : dp.toNat ≤ j ∧ j < dp.toNat + wL i
    · rw [if_pos h, if_pos ⟨rfl, by omega, by omega⟩, show 0 + (j - dp.toNat) = ((j : Int) - dp).toNat by omega]
    · rw [if_neg h, if_neg (fun g => h ⟨by omega, by omega⟩)]
  have e2 : ∀ c, putW ν i dp 0 c = ν 0 c := fun c => if_neg (fun g => absurd g.1 (by decide))
  rw [e1, sbw_eq, sbw_eq, e2, e2, e2]
  rfl
def cpyM (ν : Nat → Int → Int) (m : Nat) : Nat → Int → Int := fun a c => if a = 1 ∧ ¬ (0 ≤ c ∧ c < m) then 0 else ν a c
theorem cpyM_eq {ν : Nat → Int → Int} {m : Nat} : va_cpy (fun j => zI (ν 1 j)) (fun _ => zI 0) 0 0 m = fun j : Nat => zI (cpyM ν m 1 j) := by
  funext j
  unfold va_cpy cpyM
  by_cases h : j < m
  · rw [if_pos ⟨Nat.zero_le _, by omega⟩, if_neg (fun g => g.2 ⟨by omega, by omega⟩), show 0 + (j - 0) = j by omega]
  · rw [if_neg (fun g => h (by omega)), if_pos ⟨rfl, fun g => h (by omega)⟩]
theorem tx_cs {ad : Nat → Nat} (s : State) (h : TX ad s) : vk_R RX4 242 ", " (ad (30 + 24)) s := h.2
theorem sbw_app {cy : Nat → ClassId} {s t m : Nat} {ν : Nat → Int → Int} {E : va_W} : gw 2 (SBSh m) cy (sbb s t) ν ++ E = (s, .inr (0, [.ref t, .int (zI (ν 0 1)), .int (zI (ν 0 2)), .int (zI (ν 0 3))])) :: (t, .inl (cy 3, m, .inl (fun j => zI (ν 1 j)))) :: E := rfl
theorem cpyM_0 {ν : Nat → Int → Int} {m : Nat} {c : Int} : cpyM ν m 0 c = ν 0 c := if_neg (fun g => absurd g.1 (by decide))
theorem putW_0 {ν : Nat → Int → Int} {i : Nat} {dp c : Int} : putW ν i dp 0 c = ν 0 c := if_neg (fun g => absurd g.1 (by decide))
theorem grow_eq {cy : Nat → ClassId} {s m m' q : Nat} {ν : Nat → Int → Int} {E : va_W} : ((s, .inr (0, [.ref q, .int (zI (ν 0 1)), .int (zI (ν 0 2)), .int (zI (ν 0 3))])) :: (q, .inl (cy 3, m', .inl (va_cpy (fun j => zI (ν 1 j)) (fun _ => zI 0) 0 0 m))) :: E : va_W) = gw 2 (SBSh m') cy (sbb s q) (cpyM ν m) ++ E := by
  rw [cpyM_eq, sbw_app, cpyM_0, cpyM_0, cpyM_0]
theorem perm_grow (a b c : Nat × va_E) (E : va_W) : (a :: ((b :: E) ++ [c])).Perm ((b :: c :: E) ++ [a]) := by
  have h1 : (E ++ [c]).Perm (c :: E) := List.perm_append_singleton c E
  have h2 : ((b :: c :: E) ++ [a]).Perm (a :: b :: c :: E) := List.perm_append_singleton a _
  exact ((h1.cons b).cons a).trans h2.symm
theorem SBI.app {m m' : Nat} {ν ν1 ν2 : Nat → Int → Int} {L K : List Int} (hI : SBI m ν L) (hl : L.length + K.length ≤ 1150) (e1 : m' = capO (L.length + K.length)) (e5 : ∀ j : Int, 0 ≤ j → j < m → ν1 1 j = ν 1 j) (g1 : ν2 0 1 = 0) (g2 : ν2 0 3 = (L.length + K.length : Nat)) (g3 : ∀ j : Int, 0 ≤ j → j < L.length → ν2 1 j = ν1 1 j) (g4 : ∀ (k : Nat) (x : Int), K[k]? = some x → ν2 1 (L.length + k) = x) (g5 : ∀ j, 0 ≤ ν2 1 j ∧ ν2 1 j < 128) : SBI m' ν2 (L ++ K) := by
  obtain ⟨i1, i2, i3, i4, i5, i6⟩ := hI
  have r := cap_rng L.length
  refine ⟨g1, by rw [List.length_append]; exact g2, by rw [List.length_append]; exact e1, by rw [List.length_append]; exact hl, g5, fun k x hx => ?_⟩
  by_cases hk : k < L.length
  · rw [List.getElem?_append_left hk] at hx
    rw [g3 k (by omega) (by omega), e5 k (by omega) (by omega)]
    exact i6 k x hx
  · rw [List.getElem?_append_right (by omega)] at hx
    have := g4 (k - L.length) x hx
    rwa [show (L.length : Int) + (k - L.length : Nat) = k by omega] at this
def numT (z : Int) : List Int := if z < 10 then [48 + z % 10] else [48 + z / 10, 48 + z % 10]
def wordT (i : Nat) : List Int := (List.range (wL i)).map (fun k => wC i k)
theorem numT_len (z : Int) : ((numT z).length : Int) = if z < 10 then 1 else 2 := by unfold numT; split <;> rfl
theorem wordT_len (i : Nat) : (wordT i).length = wL i := by simp [wordT]
theorem wordT_at {i k : Nat} {x : Int} (h : (wordT i)[k]? = some x) : k < wL i ∧ x = wC i k := by
  have hk : k < wL i := by
    have := (List.getElem?_eq_some_iff.mp h).1
    rwa [wordT_len] at this
  refine ⟨hk, ?_⟩
  unfold wordT at h
  rw [List.getElem?_map, List.getElem?_range hk] at h
  exact (Option.some.inj h).symm
theorem dg_ones {z : Int} (h0 : 0 ≤ z) (h1 : z < 100) : (Value.int (nI (48 + z.toNat % 10))) = .int (zI (48 + z % 10)) := by
  rw [zI_nI]; congr 2; omega
theorem dg_tens {z : Int} (h0 : 0 ≤ z) (h1 : z < 100) : (Value.int (nI (48 + z.toNat / 10))) = .int (zI (48 + z / 10)) := by
  rw [zI_nI]; congr 2; omega
theorem mlk_J7 : Cond.methodLink RJ7 150 arraycopyName ∈ GT := (List.mem_of_getElem? (i := 642) (by decide +kernel))
theorem mlk_J0 : Cond.methodLink RJ0 212 arraycopyName ∈ GT := (List.mem_of_getElem? (i := 715) (by decide +kernel))
theorem mlm_J7 : Cond.methodLink RJ7 304 Lib.Math.min.name ∈ GT := (List.mem_of_getElem? (i := 641) (by decide +kernel))
section
variable {l : Launch} {D : va_G} {cy : Nat → ClassId} {n0 : Nat} {ad : Nat → Nat} {E : va_W}
set_option maxHeartbeats 4000000 in
set_option maxRecDepth 100000 in
theorem c_J7_copyOf_9075b {t m m' : Nat} {f : Nat → Int32} (hfl : l.stackTraces = false) (hm : m < m') (hm' : m' ≤ 1150) (hfit : ∀ i : Nat, (i : Int) < m → fits .byte (.int (f i)) = true) : CT l D cy n0 ad yJ7_copyOf_9075b (.code yJ7_copyOf_9075b cJ7_copyOf_9075b 3 (some (.array .byte))) ({ frames := 1, cells := 1, slots := m', locals := 40 }) [.ref t, .int (zI (m' : Int))] ((t, .inl (cy 3, m, .inl f)) :: E) (fun vv uu => ∃ q, vv = some (.ref q) ∧ uu = (t, .inl (cy 3, m, .inl f)) :: (E ++ [(q, .inl (cy 3, m', .inl (va_cpy f (fun _ => zI 0) 0 0 m)))])) := by
  refine CT.walk hfl (by decide) (Nat.le_of_ble_eq_true rfl) ?_
  intro A J hJ
  show J ((t, .inl (cy 3, m, .inl f)) :: E) 0 0 0 [(0, .ref t), (1, .int (zI (m' : Int)))] []
  refine j_iload_n hJ (j := 1) rfl rfl dJ7_copyOf_9075b_0 ?_
  refine j_aload_n hJ (j := 0) rfl rfl dJ7_copyOf_9075b_1 ?_
  refine j_alenC hJ (q0 := 0) (t := 3) rfl (fun _ => rfl) dJ7_copyOf_9075b_2 ?_
  refine j_icmp_ne hJ (tgt := 14) ⟨by omega, by omega⟩ ⟨by omega, by omega⟩ (by decide) dJ7_copyOf_9075b_3 ?_ ?_
  · intro h3
    refine j_iload_n hJ (j := 1) rfl rfl dJ7_copyOf_9075b_14 ?_
    refine j_newa hJ (ty := .byte) (t := 3) (N' := m') rfl (fun _ => rfl) arr_b rfl (by omega) (by decide) (fun _ => rfl) (by dsimp only; omega) (by dsimp only; omega) dJ7_copyOf_9075b_15 (fun q => ?_)
    refine j_astore_n hJ (lv' := [(2, .ref q), (0, .ref t), (1, .int (zI (m' : Int)))]) rfl (by decide) rfl dJ7_copyOf_9075b_17 ?_
    refine j_aload_n hJ (j := 1) rfl rfl dJ7_copyOf_9075b_18 ?_
    refine j_iconst hJ dJ7_copyOf_9075b_19 ?_
    refine j_aload_n hJ (j := 0) rfl rfl dJ7_copyOf_9075b_20 ?_
    refine j_iconst hJ dJ7_copyOf_9075b_21 ?_
    refine j_aload_n hJ (j := 1) rfl rfl dJ7_copyOf_9075b_22 ?_
    refine j_alenC hJ (q0 := 0) (t := 3) (n := m) (f := f) rfl (fun _ => rfl) dJ7_copyOf_9075b_23 ?_
    refine j_iload_n hJ (j := 2) rfl rfl dJ7_copyOf_9075b_24 ?_
    refine j_mmin hJ mlm_J7 ⟨by omega, by omega⟩ ⟨by omega, by omega⟩ (Nat.le_of_ble_eq_true rfl) (Nat.le_of_ble_eq_true rfl) (by dsimp only; omega) (by dsimp only; omega) dJ7_copyOf_9075b_25 ?_
    refine j_topi (y := zI (m : Int)) (by congr 1; unfold imin; split <;> omega) ?_
    refine j_copyi hJ (q0 := 0) (q1 := E.length + 1) (m0 := m) (m1 := m') (f := f) (g := fun _ => zI 0) mlk_J7 rfl (by simp) (by decide) (by decide) (by omega) (by omega) (by omega) (by omega) (fun i hi => by rw [show (0 : Int).toNat + i = i from Nat.zero_add i]; exact hfit i hi) (Nat.le_of_ble_eq_true rfl) (Nat.le_of_ble_eq_true rfl) dJ7_copyOf_9075b_28 ?_
    refine j_aload_n hJ (j := 0) rfl rfl dJ7_copyOf_9075b_31 ?_
    refine j_aretA hJ rfl rfl (by dsimp only; omega) (by dsimp only; omega) dJ7_copyOf_9075b_32 ⟨q, rfl, ?_⟩
    rw [List.cons_append, List.set_cons_succ, List.set_append_right _ _ (Nat.le_refl _), Nat.sub_self, Int.toNat_natCast]
    rfl
  · intro h3
    omega
end
