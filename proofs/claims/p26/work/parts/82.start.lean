/-! what holds at the law's entry -/
section ST
variable {s : State} {args : Array Value}
theorem gx_one {n d : String} (hsel : (Cond.selects RJ4 ⟨RJ5, "isLatin1", "()Z"⟩ ⟨RJ5, "isLatin1", "()Z"⟩).before args s = true) (hpriv : (Cond.privateMethod ⟨RJ5, n, d⟩).before args s = true) (hinst : (Cond.instanceMethod ⟨RJ5, n, d⟩).before args s = true) : (Cond.selects RJ4 ⟨RJ5, n, d⟩ ⟨RJ5, n, d⟩).before args s = true := by
  obtain ⟨c, r, m, hc, hr, hm, -, mk0, hk0, hni⟩ := Cond.selects_spec hsel
  obtain ⟨mk, methM, hnamed, hmethM, -, -⟩ := Cond.instanceMethod_spec hinst
  have hfound : s.methodFound? RJ5 n d = some mk := State.methodFound?_of_named hnamed ⟨(by decide +kernel : RJ5 ≠ "java/lang/invoke/MethodHandle"), (by decide +kernel : RJ5 ≠ "java/lang/invoke/VarHandle")⟩
  have e1 : s.vm.findClass RJ5 = some mk.cls := findClass_of_methodNamed hnamed
  have e2 : s.vm.findClass RJ5 = some m.cls := findClass_of_methodNamed hm
  have hcls : mk.cls = m.cls := Option.some.inj (e1.symm.trans e2)
  have hsl : selectMethod {} s.vm c mk = .method mk := selectMethod_private hmethM (Cond.privateMethod_at hpriv mk methM hnamed hmethM)
  simp only [Cond.before, Cond.holds, Cond.value, hc, hfound, hnamed, hsl, hcls, hk0]
  simp
  exact hni
theorem gt_all (h : ∀ w ∈ lw_tbl, w.before args s = true) : ∀ w ∈ GT, w.before args s = true := by
  have g : ∀ {w : Cond} {k : Nat}, GT[k]? = some w → 6 ≤ k → w.before args s = true := by
    intro w k hk h6
    have e : GT = GX ++ lw_tbl := rfl
    rw [e, List.getElem?_append_right h6] at hk
    exact h w (List.mem_of_getElem? hk)
  intro w hw
  rcases List.mem_append.mp hw with hw | hw
  · have e : GX = [Cond.selects RJ4 ⟨RJ5, "ensureCapacityInternal", "(I)V"⟩ ⟨RJ5, "ensureCapacityInternal", "(I)V"⟩, Cond.selects RJ4 ⟨RJ5, "newCapacity", "(I)I"⟩ ⟨RJ5, "newCapacity", "(I)I"⟩, Cond.selects RJ4 ⟨RJ5, "inflate", "()V"⟩ ⟨RJ5, "inflate", "()V"⟩, Cond.selects RJ4 ⟨RJ5, "appendNull", "()Ljava/lang/AbstractStringBuilder;"⟩ ⟨RJ5, "appendNull", "()Ljava/lang/AbstractStringBuilder;"⟩, Cond.selects RJ4 ⟨RJ5, "putStringAt", "(ILjava/lang/String;)V"⟩ ⟨RJ5, "putStringAt", "(ILjava/lang/String;)V"⟩, Cond.selects RJ4 ⟨RJ5, "inflateIfNeededFor", "(Ljava/lang/String;)V"⟩ ⟨RJ5, "inflateIfNeededFor", "(Ljava/lang/String;)V"⟩] := rfl
    rw [e] at hw
    have hsel : (Cond.selects RJ4 ⟨RJ5, "isLatin1", "()Z"⟩ ⟨RJ5, "isLatin1", "()Z"⟩).before args s = true := g (k := 648) (by decide +kernel) (by decide)
    simp only [List.mem_cons, List.not_mem_nil, or_false] at hw
    rcases hw with rfl | rfl | rfl | rfl | rfl | rfl
    · exact gx_one hsel (g (k := 615) (by decide +kernel) (by decide)) (g (k := 616) (by decide +kernel) (by decide))
    · exact gx_one hsel (g (k := 619) (by decide +kernel) (by decide)) (g (k := 620) (by decide +kernel) (by decide))
    · exact gx_one hsel (g (k := 654) (by decide +kernel) (by decide)) (g (k := 655) (by decide +kernel) (by decide))
    · exact gx_one hsel (g (k := 686) (by decide +kernel) (by decide)) (g (k := 687) (by decide +kernel) (by decide))
    · exact gx_one hsel (g (k := 703) (by decide +kernel) (by decide)) (g (k := 704) (by decide +kernel) (by decide))
    · exact gx_one hsel (g (k := 707) (by decide +kernel) (by decide)) (g (k := 708) (by decide +kernel) (by decide))
  · exact h w hw
theorem tb_start (h : ∀ w ∈ GT, w.before args s = true) : TB s := by
  intro w hw hg
  have h := h w hw
  rcases hg with hg | hg
  · exact word_at (State.WarmedH.refl s) (good_of_word hg) h
  · cases w <;> first | (cases hg; done) | exact va_Nw.of rfl h | (rename_i ty; cases ty <;> first | (cases hg; done) | exact va_AO.of h)
theorem arr_p {ty : FieldType} (hR : ∀ c, s.vm.findClass ("[" ++ ty.toString) = some c → va_RA s c ty ∨ ∃ n, ty = .object n) (hn : ∀ n, ty ≠ .object n) (h : (Cond.arrayClass ty).before args s = true) : ∃ c, ArrOfT s c ty ∧ va_RA s c ty := by
  obtain ⟨c, k, comp, h1, h2, h3⟩ := Cond.arrayClass_spec h
  refine ⟨c, fun N z => ⟨(fun k h => by cases h), k, h2, comp, h3⟩, ?_⟩
  rcases hR c h1 with h4 | ⟨n, h4⟩
  · exact h4
  · exact absurd h4 (hn n)
theorem arr_q {C : String} (h : (Cond.arrayOver (.object C)).before args s = true) : ∃ c, ArrOfT s c (.object C) ∧ va_RA s c (.object C) := by
  obtain ⟨comp, c, k, h1, -, h3, h4, h5⟩ := Cond.arrayOver_spec h
  exact ⟨c, fun N z => ⟨(fun k h => by cases h), k, h3, comp, h4⟩, k, comp, h3, h4, h1, h5⟩
theorem start_K (h : ∀ w ∈ GT, w.before args s = true) : ∃ (D : va_G) (cy : Nat → ClassId), va_K D vwCl (TY cy) s := by
  have hc : ∀ c : Nat, ∃ x : ClassId × (Nat → Nat), ∀ q, vwCl[c]? = some q → u_Kn s q.1 q.2.1 q.2.2 x.1 x.2 := by
    intro c
    have one : ∀ {C : String} {T : u_T} {N : Nat}, (∀ w ∈ u_ws C T N, w ∈ GT ∧ goodWord w = true) → Cond.instantiable C N ∈ GT → vwCl[c]? = some (C, T, N) → ∃ x : ClassId × (Nat → Nat), ∀ q, vwCl[c]? = some q → u_Kn s q.1 q.2.1 q.2.2 x.1 x.2 := by
      intro C T N hl hi hv
      obtain ⟨cC, iS, hk⟩ := u_known (ws := GT) h (fun w hw => (hl w hw).1) (h _ hi)
      refine ⟨(cC, iS), fun q hq => ?_⟩
      rw [hv] at hq
      cases hq
      exact hk
    match c with
    | 0 => exact one lays_J4 (List.mem_of_getElem? (i := 566) (by decide +kernel)) rfl
    | 1 => exact one lays_X0 (List.mem_of_getElem? (i := 100) (by decide +kernel)) rfl
    | 2 => exact one lays_X1 (List.mem_of_getElem? (i := 106) (by decide +kernel)) rfl
    | 3 => exact one lays_X2 (List.mem_of_getElem? (i := 84) (by decide +kernel)) rfl
    | 4 => exact one lays_X4 (List.mem_of_getElem? (i := 74) (by decide +kernel)) rfl
    | c + 5 => exact ⟨(0, fun _ => 0), fun q hq => nomatch hq⟩
  obtain ⟨f, hf⟩ := Classical.axiomOfChoice hc
  obtain ⟨c0, a0, b0⟩ := arr_p (s := s) (ty := .int) (fun c hc => Or.inl hc) (fun n h => nomatch h) (h _ arr_i)
  obtain ⟨c2, a2, b2⟩ := arr_q (s := s) (C := RX0) (h _ (List.mem_of_getElem? (i := 82) (by decide +kernel)))
  obtain ⟨c3, a3, b3⟩ := arr_p (s := s) (ty := .byte) (fun c hc => Or.inl hc) (fun n h => nomatch h) (h _ arr_b)
  obtain ⟨c4, a4, b4⟩ := arr_p (s := s) (ty := .long) (fun c hc => Or.inl hc) (fun n h => nomatch h) (h _ arr_l)
  refine ⟨(fun c => (f c).1, fun c => (f c).2), fun k => match k with | 0 => c0 | 1 => c0 | 2 => c2 | 3 => c3 | _ => c4, fun c q hq => hf c q hq, fun k q hq => ?_⟩
  match k with
  | 0 => cases hq; exact ⟨a0, b0⟩
  | 1 => cases hq; exact ⟨a0, b0⟩
  | 2 => cases hq; exact ⟨a2, b2⟩
  | 3 => cases hq; exact ⟨a3, b3⟩
  | 4 => cases hq; exact ⟨a4, b4⟩
  | k + 5 => exact nomatch hq
theorem va_T.addr {ty : FieldType} {t N N' : Nat} {f g : Nat → Value} {A : Nat → Prop} {U : State} {H : Heap} (h : va_T ty t N f A U H) (h' : va_T ty t N' g A U H) (hN : N < 2 ^ 31) (hN' : N' < 2 ^ 31) : N = N' ∧ ∀ j, j < N → f j = g j := by
  obtain ⟨c, h1, -, -, -, h5, h6, -⟩ := h
  obtain ⟨c', g1, -, -, -, g5, g6, -⟩ := h'
  cases Option.some.inj (h1.symm.trans g1)
  have e : N = N' := by
    have e := congrArg Int32.toNatClampNeg (h5.symm.trans g5)
    rwa [Int32.toNatClampNeg_ofNat_of_lt hN, Int32.toNatClampNeg_ofNat_of_lt hN'] at e
  subst e
  exact ⟨rfl, fun j hj => Option.some.inj ((h6 j hj).symm.trans (g6 j hj))⟩
theorem va_OF.addr {o n d : String} {v w : Value} {t : Nat} {A : Nat → Prop} {U : State} {H : Heap} (h : va_OF o n d v t A U H) (h' : va_OF o n d w t A U H) : v = w := by
  obtain ⟨cf, k, i, f, c, h1, -, h3, -, h5, -⟩ := h
  obtain ⟨cf', k', i', f', c', g1, -, g3, -, g5, -⟩ := h'
  cases Option.some.inj (h1.symm.trans g1)
  cases Option.some.inj (h3.symm.trans g3)
  exact Option.some.inj (h5.symm.trans g5)
theorem wLen_lt : ∀ i : Nat, wLen.getD i 0 < 2 ^ 31 := by
  intro i
  by_cases h : i < 25
  · have : ∀ j < 25, wLen.getD j 0 < 2 ^ 31 := by decide
    exact this i h
  · rw [List.getD_eq_getElem?_getD, List.getElem?_eq_none (by show 25 ≤ i; omega)]; decide
theorem start_S (hg : ∀ w ∈ NF, w.before args s = true) {A : Nat → Prop} (hA : ∀ a : Nat, a < s.heap.size → ¬ A a) : ∃ adK adV : Nat → Nat, vk_S 25 wLen wByt adK adV A s s.heap ∧ ∀ i : Nat, i < 25 → (tS i).eval args s none [] s = some (.ref (adK i)) := by
  have h0 : ∀ i : Nat, ∃ q : Nat × Nat, i < 25 → (tS i).eval args s none [] s = some (.ref q.1) ∧ va_O "java/lang/String" q.1 A s s.heap ∧ va_OF "java/lang/String" "coder" "B" (.int 0) q.1 A s s.heap ∧ va_OF "java/lang/String" "value" "[B" (.ref q.2) q.1 A s s.heap ∧ va_T .byte q.2 (wLen.getD i 0) (fun j => .int ((wByt.getD i []).getD j 0)) A s s.heap := by
    intro i
    by_cases hi : i < 25
    · obtain ⟨a, c, cA, kA, q1, q2, q3, q4, q5, q6, -⟩ := Cond.exactly_spec (args := args) (first := s) (o := none) (s := s) (idx := []) (t := tS i) (cls := "java/lang/String") (hg _ (nf_in (nfD i hi)))
      obtain ⟨t, ht, hT⟩ := va_Tof (f := fun j => .int ((wByt.getD i []).getD j 0)) (A := A) (wLen_lt i) (hg _ (nf_in (nfF i hi))) (va_eqt (hg _ (nf_in (nfG i hi)))) (fun j hj => va_eqt (hg _ (nf_in (nfH i hi j hj)))) hA
      exact ⟨(a, t), fun _ => ⟨q1, ⟨cA, q3, q5, by rw [q6]; exact q2, hA a (Array.getElem?_eq_some_iff.mp q3).1⟩, vk_OFof q1 (va_eqt (hg _ (nf_in (nfE i hi)))) hA, vk_OFof q1 ht hA, hT⟩⟩
    · exact ⟨(0, 0), fun h => absurd h hi⟩
  obtain ⟨ad, had⟩ := Classical.axiomOfChoice h0
  refine ⟨fun i => (ad i).1, fun i => (ad i).2, ⟨fun i hi => (had i hi).2, fun i j hi hj e => ?_⟩, fun i hi => (had i hi).1⟩
  by_cases hij : i = j
  · exact hij
  · exfalso
    have e : (ad i).1 = (ad j).1 := e
    obtain ⟨-, -, -, v1, t1⟩ := had i hi
    obtain ⟨-, -, -, v2, t2⟩ := had j hj
    rw [e] at v1
    have ev : (ad i).2 = (ad j).2 := by
      exact Value.ref.inj (v1.addr v2)
    rw [ev] at t1
    obtain ⟨el, eb⟩ := t1.addr t2 (wLen_lt i) (wLen_lt j)
    obtain ⟨k, k1, k2⟩ := wdiff i hi j hj hij el
    exact k2 (Value.int.inj (eb k k1))
theorem start_ad (h : ∀ w ∈ GT, w.before args s = true) (hg : ∀ w ∈ NF, w.before args s = true) : ∃ ad : Nat → Nat, SF ad s.heap.size s s.heap ∧ TX ad s := by
  have hA : ∀ a : Nat, a < s.heap.size → ¬ AN s.heap.size a := fun a h1 h2 => Nat.not_le.mpr h1 h2
  obtain ⟨adK, adV, hS, hK⟩ := start_S hg hA
  have hw : ∀ j : Nat, ∃ a : Nat, j < 24 → (tW j).eval args s none [] s = some (.ref a) := by
    intro j
    by_cases hj : j < 24
    · obtain ⟨a, c, cA, kA, q1, -⟩ := Cond.exactly_spec (args := args) (first := s) (o := none) (s := s) (idx := []) (t := tW j) (hg _ (nf_in (nfB j hj)))
      exact ⟨a, fun _ => q1⟩
    · exact ⟨0, fun h => absurd h hj⟩
  obtain ⟨adW, hW⟩ := Classical.axiomOfChoice hw
  obtain ⟨tA, c, cA, kA, hA1, -⟩ := Cond.exactly_spec (args := args) (first := s) (o := none) (s := s) (idx := []) (t := tALL) (hg _ nf_allx)
  obtain ⟨t1, h1, hT1⟩ := va_Tof (N := 100) (f := fun j => .int (nI (48 + j % 10))) (A := AN s.heap.size) (by decide) (hg _ nf_ona) (va_eqt (hg _ nf_onl)) (fun j hj => va_eqt (hg _ (nf_in (nfI j hj)))) hA
  obtain ⟨t2, h2, hT2⟩ := va_Tof (N := 100) (f := fun j => .int (nI (48 + j / 10))) (A := AN s.heap.size) (by decide) (hg _ nf_tea) (va_eqt (hg _ nf_tel)) (fun j hj => va_eqt (hg _ (nf_in (nfJ j hj)))) hA
  obtain ⟨ad, a0, a1, a2, a3, a4, a5⟩ : ∃ ad : Nat → Nat, ad 0 = tA ∧ (∀ k, k < 24 → ad (1 + k) = adW k) ∧ (∀ k, k < 25 → ad (30 + k) = adK k) ∧ (∀ k, k < 25 → ad (60 + k) = adV k) ∧ ad 90 = t1 ∧ ad 91 = t2 := by
    refine ⟨fun k => if k = 0 then tA else if k < 30 then adW (k - 1) else if k < 60 then adK (k - 30) else if k < 90 then adV (k - 60) else if k = 90 then t1 else t2, rfl, fun k hk => ?_, fun k hk => ?_, fun k hk => ?_, rfl, rfl⟩
    · show (if 1 + k = 0 then tA else if 1 + k < 30 then adW (1 + k - 1) else _) = _
      rw [if_neg (by omega), if_pos (by omega), show 1 + k - 1 = k by omega]
    · show (if 30 + k = 0 then tA else if 30 + k < 30 then adW (30 + k - 1) else if 30 + k < 60 then adK (30 + k - 30) else _) = _
      rw [if_neg (by omega), if_neg (by omega), if_pos (by omega), show 30 + k - 30 = k by omega]
    · show (if 60 + k = 0 then tA else if 60 + k < 30 then adW (60 + k - 1) else if 60 + k < 60 then adK (60 + k - 30) else if 60 + k < 90 then adV (60 + k - 60) else _) = _
      rw [if_neg (by omega), if_neg (by omega), if_neg (by omega), if_pos (by omega), show 60 + k - 60 = k by omega]
  have hTA : va_T (.object "StreetIndex$Word") (ad 0) 24 (fun k => .ref (ad (1 + k))) (AN s.heap.size) s s.heap := by
    obtain ⟨t, g1, g2⟩ := va_Tof (tm := tALL) (N := 24) (f := fun k => .ref (ad (1 + k))) (A := AN s.heap.size) (by decide) (hg _ nf_alla) (va_eqt (hg _ nf_alll)) (fun j hj => by
      obtain ⟨y, y1, y2⟩ := Cond.eq_one (hg _ (nf_in (nfA j hj)))
      rw [y1, ← y2, hW j hj, ← a1 j hj]) hA
    have e : t = ad 0 := by
      rw [a0]
      have := g1.symm.trans hA1
      cases this
      rfl
    rw [← e]; exact g2
  refine ⟨ad, ⟨vx_Zqof (h _ (List.mem_of_getElem? (i := 214) (by decide +kernel))) (h _ (List.mem_of_getElem? (i := 44) (by decide +kernel))) (hg _ nf_us) hA, vx_Zqof (h _ (List.mem_of_getElem? (i := 216) (by decide +kernel))) (h _ (List.mem_of_getElem? (i := 44) (by decide +kernel))) (hg _ nf_ss) hA, va_Zof (h _ (List.mem_of_getElem? (i := 422) (by decide +kernel))) (h _ (List.mem_of_getElem? (i := 53) (by decide +kernel))) (by rw [a0]; exact hA1) hA, hTA, fun k hk => ?_, ⟨fun i hi => ?_, fun i j hi hj e => ?_⟩, va_Zof (h _ (List.mem_of_getElem? (i := 435) (by decide +kernel))) (h _ (List.mem_of_getElem? (i := 54) (by decide +kernel))) (va_eqt (hg _ nf_cs)) hA, va_Zof (h _ (List.mem_of_getElem? (i := 750) (by decide +kernel))) (h _ (List.mem_of_getElem? (i := 63) (by decide +kernel))) (by rw [a4]; exact h1) hA, by rw [a4]; exact hT1, va_Zof (h _ (List.mem_of_getElem? (i := 752) (by decide +kernel))) (h _ (List.mem_of_getElem? (i := 63) (by decide +kernel))) (by rw [a5]; exact h2) hA, by rw [a5]; exact hT2, va_Zqof (h _ (List.mem_of_getElem? (i := 451) (by decide +kernel))) (h _ (List.mem_of_getElem? (i := 56) (by decide +kernel))) (hg _ nf_fo) hA⟩, ?_, ?_⟩
  · rw [a1 k hk, a2 k (by omega)]
    refine vk_OFof (hW k hk) ?_ hA
    obtain ⟨y, y1, y2⟩ := Cond.eq_one (hg _ (nf_in (nfC k hk)))
    rw [y1, ← y2, hK k (by omega)]
  · have := hS.1 i hi
    show va_O _ (ad (30 + i)) _ _ _ ∧ va_OF _ _ _ _ (ad (30 + i)) _ _ _ ∧ va_OF _ _ _ (.ref (ad (60 + i))) (ad (30 + i)) _ _ _ ∧ va_T _ (ad (60 + i)) _ _ _ _ _
    rw [a2 i hi, a3 i hi]
    exact this
  · have e : ad (30 + i) = ad (30 + j) := e
    rw [a2 i hi, a2 j hj] at e
    exact hS.2 i j hi hj e
  · have one : ∀ {k : Nat} {tx : String}, Cond.stringRef RX4 k tx ∈ GT → Cond.exactly (.string RX4 k) "java/lang/String" ∈ NF → ∃ sa, vk_R RX4 k tx sa s := by
      intro k tx w1 w2
      obtain ⟨a, c, cA, kA, q1, -⟩ := Cond.exactly_spec (args := args) (first := s) (o := none) (s := s) (idx := []) (t := .string RX4 k) (hg _ w2)
      exact ⟨a, vk_R.of (h _ w1) q1⟩
    intro q hq
    have hq : q = (163, "a name has 1 to 4 words") ∨ q = (95, "no such word") ∨ q = (43, "there are 16 streets") ∨ q = (159, "no such street") ∨ q = (161, "no such square") ∨ q = (70, "the point is not straight on from the last one") ∨ q = (76, "the street has 10 points") ∨ q = (84, "the street has no point") ∨ q = (98, "no such kind") ∨ q = (100, "not so many streets") ∨ q = (119, "no such character") := by
      simpa only [thTx, List.mem_cons, List.not_mem_nil, or_false] using hq
    rcases hq with rfl | rfl | rfl | rfl | rfl | rfl | rfl | rfl | rfl | rfl | rfl
    · exact one (List.mem_of_getElem? (i := 228) (by decide +kernel)) (nf_in (nfK 0 (by decide)))
    · exact one (List.mem_of_getElem? (i := 258) (by decide +kernel)) (nf_in (nfK 1 (by decide)))
    · exact one (List.mem_of_getElem? (i := 268) (by decide +kernel)) (nf_in (nfK 2 (by decide)))
    · exact one (List.mem_of_getElem? (i := 297) (by decide +kernel)) (nf_in (nfK 3 (by decide)))
    · exact one (List.mem_of_getElem? (i := 345) (by decide +kernel)) (nf_in (nfK 4 (by decide)))
    · exact one (List.mem_of_getElem? (i := 353) (by decide +kernel)) (nf_in (nfK 5 (by decide)))
    · exact one (List.mem_of_getElem? (i := 354) (by decide +kernel)) (nf_in (nfK 6 (by decide)))
    · exact one (List.mem_of_getElem? (i := 317) (by decide +kernel)) (nf_in (nfK 7 (by decide)))
    · exact one (List.mem_of_getElem? (i := 308) (by decide +kernel)) (nf_in (nfK 8 (by decide)))
    · exact one (List.mem_of_getElem? (i := 494) (by decide +kernel)) (nf_in (nfK 9 (by decide)))
    · exact one (List.mem_of_getElem? (i := 772) (by decide +kernel)) (nf_in (nfK 10 (by decide)))
  · refine vk_R.of (h _ (List.mem_of_getElem? (i := 717) (by decide +kernel))) ?_
    rw [show ad 54 = ad (30 + 24) from rfl, a2 24 (by decide)]
    exact hK 24 (by decide)
end ST
