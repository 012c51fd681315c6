abbrev vwCl : List vw_C := [(RJ4, TJ4, 4), (RX0, TX0, 4), (RX1, TX1, 5), (RX2, TX2, 3), (RX4, TX4, 6)]
/-! numbers: a whole number as an int -/
def zI (z : Int) : Int32 := Int32.ofInt z
abbrev inR (z : Int) : Prop := -2147483648 ≤ z ∧ z < 2147483648
theorem zI_toInt {z : Int} (h : inR z) : (zI z).toInt = z := Int32.toInt_ofInt_of_le h.1 h.2
theorem zI_of (x : Int32) : zI x.toInt = x := Int32.ofInt_toInt x
theorem inR_toInt (x : Int32) : inR x.toInt := ⟨Int32.le_toInt x, Int32.toInt_lt x⟩
theorem zI_nI (n : Nat) : nI n = zI (n : Int) := by
  show Int32.ofNat n = Int32.ofInt n
  exact (Int32.ofInt_eq_ofNat).symm
theorem zI_add (a b : Int) : zI a + zI b = zI (a + b) := (Int32.ofInt_add a b).symm
theorem zI_sub (a b : Int) : zI a - zI b = zI (a - b) := (Int32.ofInt_sub a b).symm
theorem zI_mul (a b : Int) : zI a * zI b = zI (a * b) := (Int32.ofInt_mul a b).symm
theorem zI_lt {a b : Int} (ha : inR a) (hb : inR b) : zI a < zI b ↔ a < b := by
  rw [Int32.lt_iff_toInt_lt, zI_toInt ha, zI_toInt hb]
theorem zI_le {a b : Int} (ha : inR a) (hb : inR b) : zI a ≤ zI b ↔ a ≤ b := by
  rw [Int32.le_iff_toInt_le, zI_toInt ha, zI_toInt hb]
theorem zI_eq {a b : Int} (ha : inR a) (hb : inR b) : zI a = zI b ↔ a = b := by
  constructor
  · intro h
    have := congrArg Int32.toInt h
    rwa [zI_toInt ha, zI_toInt hb] at this
  · intro h; rw [h]
theorem zI_0 : zI 0 = 0 := rfl
theorem zI_1 : zI 1 = 1 := rfl
theorem zI_inR0 : inR 0 := ⟨by decide, by decide⟩
theorem zI_in {z : Int} {n : Nat} (h0 : 0 ≤ z) (h : z < n) (hn : n < 2 ^ 31) : vp_in (zI z) n := by
  rw [vp_in_iff, zI_toInt ⟨by omega, by omega⟩]
  exact ⟨h0, h⟩
theorem zI_cl {z : Int} (h0 : 0 ≤ z) (h : z < 2147483648) : (zI z).toNatClampNeg = z.toNat := by
  show (zI z).toInt.toNat = z.toNat
  rw [zI_toInt ⟨by omega, h⟩]
theorem zI_div {a d : Int} (h0 : 0 ≤ a) (ha : a < 2147483648) (hd0 : 0 < d) (hd : d < 2147483648) : zI a / zI d = zI (a / d) := by
  obtain ⟨m, rfl⟩ := Int.eq_ofNat_of_zero_le h0
  obtain ⟨n, rfl⟩ := Int.eq_ofNat_of_zero_le (Int.le_of_lt hd0)
  rw [← zI_nI, ← zI_nI, pk_div (by omega) (by omega) (by omega), zI_nI]
  rfl
theorem zI_rem {a d : Int} (h0 : 0 ≤ a) (ha : a < 2147483648) (hd0 : 0 < d) (hd : d < 2147483648) : zI a - zI a / zI d * zI d = zI (a % d) := by
  rw [zI_div h0 ha hd0 hd, zI_mul, zI_sub]
  congr 1
  have := Int.mul_ediv_add_emod a d
  rw [Int.mul_comm] at this
  omega
theorem zI_ne0 {a : Int} (ha : inR a) (h : a ≠ 0) : ¬ zI a = 0 := fun e => h ((zI_eq ha zI_inR0).mp e)
/-! the tables' words -/
def GX : List Cond := (["ensureCapacityInternal", "newCapacity", "inflate", "appendNull", "putStringAt", "inflateIfNeededFor"].zip ["(I)V", "(I)I", "()V", "()Ljava/lang/AbstractStringBuilder;", "(ILjava/lang/String;)V", "(Ljava/lang/String;)V"]).map fun q => Cond.selects RJ4 ⟨RJ5, q.1, q.2⟩ ⟨RJ5, q.1, q.2⟩
def GT : List Cond := GX ++ lw_tbl
def isNest : Cond → Bool
  | .fieldLinkNest .. => true
  | .methodLinkNest .. => true
  | .castable .. => true
  | .declares _ => true
  | .arrayOver (.object _) => true
  | _ => false
def TB (U : State) : Prop := ∀ w ∈ GT, (goodWord w = true ∨ isNest w = true) → va_Nw w U
theorem Nw_warm {w : Cond} {s U : State} (hW : s.WarmedH U.vm) (hg : goodWord w = true ∨ isNest w = true) (h : va_Nw w s) : va_Nw w U := by
  rcases hg with hg | hg
  · exact word_at hW (good_of_word hg) h
  · cases w <;> first | (cases hg; done) | exact va_Nw.warmF hW h | exact va_Nw.warmM hW h | exact va_Nw.warmC hW h | exact va_Nw.warmD hW h | (rename_i ty; cases ty <;> first | (cases hg; done) | exact va_AO.moved hW.alike h)
theorem TB.warm {s U : State} (hW : s.WarmedH U.vm) (h : TB s) : TB U := fun w hw hg => Nw_warm hW hg (h w hw hg)
theorem Nw_args {w : Cond} {s : State} {args : Array Value} (hg : goodWord w = true ∨ isNest w = true) (h : va_Nw w s) : w.before args s = true := by
  rcases hg with hg | hg
  · exact word_at (State.WarmedH.refl s) (good_of_word hg) h
  · cases w <;> first | (cases hg; done) | exact va_Nw.use rfl h | (rename_i ty; cases ty <;> first | (cases hg; done) | exact va_AO.use h)
theorem TB.good {s : State} {args : Array Value} (h : TB s) {w : Cond} (hw : w ∈ GT) (hg : goodWord w = true) : w.before args s = true := Nw_args (Or.inl hg) (h w hw (Or.inl hg))
theorem TB.nest {s : State} {args : Array Value} (h : TB s) {w : Cond} (hw : w ∈ GT) (hg : isNest w = true) : w.before args s = true := Nw_args (Or.inr hg) (h w hw (Or.inr hg))
/-! the array classes by their places: 0 int, 1 boolean, 2 Street, 3 byte, 4 long -/
def TY (cy : Nat → ClassId) : List (ClassId × FieldType) := [(cy 0, .int), (cy 1, .int), (cy 2, .object RX0), (cy 3, .byte), (cy 4, .long)]
/-! what lay in the heap before: below the place n0. ad: the places of the words' array, the words, their texts -/
def AN (n0 : Nat) : Nat → Prop := fun q => n0 ≤ q
def wLen : List Nat := [3, 2, 2, 4, 3, 3, 5, 5, 5, 6, 5, 4, 4, 3, 3, 6, 6, 6, 7, 6, 4, 4, 3, 4, 2]
def wTxt : List String := ["the", "of", "on", "upon", "old", "new", "upper", "lower", "great", "little", "saint", "king", "mill", "oak", "elm", "bridge", "market", "church", "station", "street", "lane", "road", "row", "hill", ", "]
def wByt : List (List Int32) := wTxt.map fun t => t.toList.map fun c => nI c.toNat
def thTx : List (Nat × String) := [(163, "a name has 1 to 4 words"), (95, "no such word"), (43, "there are 16 streets"), (159, "no such street"), (161, "no such square"), (70, "the point is not straight on from the last one"), (76, "the street has 10 points"), (84, "the street has no point"), (98, "no such kind"), (100, "not so many streets"), (119, "no such character")]
def TX (ad : Nat → Nat) (U : State) : Prop := (∀ q ∈ thTx, ∃ sa, vk_R RX4 q.1 q.2 sa U) ∧ vk_R RX4 242 ", " (ad 54) U
theorem TX.warm {ad : Nat → Nat} {s U : State} (hW : s.WarmedH U.vm) (h : TX ad s) : TX ad U := ⟨fun q hq => by obtain ⟨sa, h1⟩ := h.1 q hq; exact ⟨sa, h1.warm hW⟩, h.2.warm hW⟩
def SF (ad : Nat → Nat) (n0 : Nat) (U : State) (H : Heap) : Prop :=
  vx_Zq Bundle.tN "UNASSIGNED_STACK" Bundle.steD (AN n0) U H ∧ vx_Zq Bundle.tN "SUPPRESSED_SENTINEL" Bundle.listD (AN n0) U H ∧
  va_Z "StreetIndex$Word" "ALL" "[LStreetIndex$Word;" (.ref (ad 0)) (AN n0) U H ∧ va_T (.object "StreetIndex$Word") (ad 0) 24 (fun k => .ref (ad (1 + k))) (AN n0) U H ∧
  (∀ k, k < 24 → va_OF "StreetIndex$Word" "letters" "Ljava/lang/String;" (.ref (ad (30 + k))) (ad (1 + k)) (AN n0) U H) ∧
  vk_S 25 wLen wByt (fun k => ad (30 + k)) (fun k => ad (60 + k)) (AN n0) U H ∧
  va_Z RJ0 "COMPACT_STRINGS" "Z" (.int 1) (AN n0) U H ∧
  va_Z RJ6 "DigitOnes" "[B" (.ref (ad 90)) (AN n0) U H ∧ va_T .byte (ad 90) 100 (fun j => .int (nI (48 + j % 10))) (AN n0) U H ∧
  va_Z RJ6 "DigitTens" "[B" (.ref (ad 91)) (AN n0) U H ∧ va_T .byte (ad 91) 100 (fun j => .int (nI (48 + j / 10))) (AN n0) U H ∧
  va_Zq RJ3 "SIOOBE_FORMATTER" "Ljava/util/function/BiFunction;" (AN n0) U H
theorem SF.moved {ad : Nat → Nat} {n0 : Nat} {u U : State} {H : Heap} (hv : u.vm.Alike U.vm) (h : SF ad n0 u H) : SF ad n0 U H :=
  ⟨h.1.moved hv, h.2.1.moved hv, h.2.2.1.moved hv, h.2.2.2.1.moved hv, fun k hk => (h.2.2.2.2.1 k hk).moved hv, h.2.2.2.2.2.1.moved hv, h.2.2.2.2.2.2.1.moved hv, h.2.2.2.2.2.2.2.1.moved hv, h.2.2.2.2.2.2.2.2.1.moved hv, h.2.2.2.2.2.2.2.2.2.1.moved hv, h.2.2.2.2.2.2.2.2.2.2.1.moved hv, h.2.2.2.2.2.2.2.2.2.2.2.moved hv⟩
theorem SF.kept {ad : Nat → Nat} {n0 : Nat} {U : State} {H H1 : Heap} (h : SF ad n0 U H) (hq : ∀ a : Nat, a < H.size → ¬ AN n0 a → H1[a]? = H[a]?) : SF ad n0 U H1 :=
  ⟨h.1.kept hq, h.2.1.kept hq, h.2.2.1.kept hq, h.2.2.2.1.kept hq, fun k hk => (h.2.2.2.2.1 k hk).kept hq, h.2.2.2.2.2.1.kept hq, h.2.2.2.2.2.2.1.kept hq, h.2.2.2.2.2.2.2.1.kept hq, h.2.2.2.2.2.2.2.2.1.kept hq, h.2.2.2.2.2.2.2.2.2.1.kept hq, h.2.2.2.2.2.2.2.2.2.2.1.kept hq, h.2.2.2.2.2.2.2.2.2.2.2.kept hq⟩
def KK (D : va_G) (cy : Nat → ClassId) (n0 : Nat) (ad : Nat → Nat) (U : State) : Prop := va_K D vwCl (TY cy) U ∧ TB U ∧ n0 ≤ U.heap.size ∧ SF ad n0 U U.heap ∧ TX ad U
theorem KK.moved {D : va_G} {cy : Nat → ClassId} {n0 : Nat} {ad : Nat → Nat} {s U : State} (hW : s.WarmedH U.vm) (hz : s.heap.size ≤ U.heap.size) (hq : ∀ q, q < s.heap.size → ¬ n0 ≤ q → U.heap[q]? = s.heap[q]?) (h : KK D cy n0 ad s) : KK D cy n0 ad U :=
  ⟨va_K.moved hW.alike h.1, h.2.1.warm hW, Nat.le_trans h.2.2.1 hz, (h.2.2.2.1.kept (H1 := U.heap) (fun a h1 h2 => hq a h1 h2)).moved hW.alike, h.2.2.2.2.warm hW⟩
/-! contracts: a world by a state of any kind; one that returns, one that returns or throws -/
def Pcc (D : va_G) (cy : Nat → ClassId) (n0 : Nat) (ad : Nat → Nat) (args : List Value) (ws : va_W) (sz : Nat) : Array Value → State → Prop :=
  va_Pc args (fun U => U.heap.size = sz ∧ KK D cy n0 ad U ∧ va_P D vwCl ws U.heap ∧ va_D (AN n0) ws)
def Qcc (D : va_G) (A : Nat → Prop) (PR : Option Value → va_W → Prop) : Array Value → State → Outcome → State → Prop :=
  fun _ st oc t => (∃ v ws, oc = .returned v ∧ PR v ws ∧ va_P D vwCl ws t.heap ∧ va_D A ws) ∧ va_F A st t
def Xcc (D : va_G) (A : Nat → Prop) (PX : String → va_W → Prop) : String → State → State → Prop :=
  fun E st t => (∃ ws, PX E ws ∧ va_P D vwCl ws t.heap ∧ va_D A ws) ∧ va_F A st t
def CV (l : Launch) (D : va_G) (cy : Nat → ClassId) (n0 : Nat) (ad : Nat → Nat) (y : MethodName) (wd : Cond) (rm : Room) (args : List Value) (ws : va_W) (PR : Option Value → va_W → Prop) (PX : String → va_W → Prop) : Prop :=
  ∀ sz, vx_Met l y [wd] rm (Pcc D cy n0 ad args ws sz) (Qcc D (va_A ws sz) PR) (Xcc D (va_A ws sz) PX) rm.cells rm.slots (va_A ws sz)
def CT (l : Launch) (D : va_G) (cy : Nat → ClassId) (n0 : Nat) (ad : Nat → Nat) (y : MethodName) (wd : Cond) (rm : Room) (args : List Value) (ws : va_W) (PR : Option Value → va_W → Prop) : Prop :=
  ∀ sz, Met l y [wd] rm (Pcc D cy n0 ad args ws sz) (Qcc D (va_A ws sz) PR) rm.cells rm.slots (va_A ws sz)
theorem CT.of {l : Launch} {D : va_G} {cy : Nat → ClassId} {n0 : Nat} {ad : Nat → Nat} {y : MethodName} {wd : Cond} {rm : Room} {args : List Value} {ws : va_W} {PR : Option Value → va_W → Prop} (h : CV l D cy n0 ad y wd rm args ws PR (fun _ _ => False)) : CT l D cy n0 ad y wd rm args ws PR := by
  intro sz p e h1 h2 h3 s m args below h4 h5 h6 h7
  obtain ⟨n, o, a1, a2, a3, a4⟩ := h sz p e h1 h2 h3 s m args below h4 h5 h6 h7
  refine ⟨n, o, a1, a2, a3, ?_⟩
  rcases a4 with a4 | ⟨q, -, E, ce, L, ⟨⟨ws, hF, -⟩, -⟩, -⟩
  · exact a4
  · exact hF.elim
theorem CT.mono {l : Launch} {D : va_G} {cy : Nat → ClassId} {n0 : Nat} {ad : Nat → Nat} {y : MethodName} {wd : Cond} {rm : Room} {args : List Value} {ws : va_W} {PR PR' : Option Value → va_W → Prop} (h : CT l D cy n0 ad y wd rm args ws PR) (hP : ∀ v u, PR v u → PR' v u) : CT l D cy n0 ad y wd rm args ws PR' := by
  intro sz p e h1 h2 h3 s m args below h4 h5 h6 h7
  obtain ⟨n, o, a1, a2, a3, ⟨⟨v, u, b1, b2, b3⟩, b4⟩, a5⟩ := h sz p e h1 h2 h3 s m args below h4 h5 h6 h7
  exact ⟨n, o, a1, a2, a3, ⟨⟨v, u, b1, hP v u b2, b3⟩, b4⟩, a5⟩
theorem CV.mono {l : Launch} {D : va_G} {cy : Nat → ClassId} {n0 : Nat} {ad : Nat → Nat} {y : MethodName} {wd : Cond} {rm : Room} {args : List Value} {ws : va_W} {PR PR' : Option Value → va_W → Prop} {PX PX' : String → va_W → Prop} (h : CV l D cy n0 ad y wd rm args ws PR PX) (hP : ∀ v u, PR v u → PR' v u) (hX : ∀ E u, PX E u → PX' E u) : CV l D cy n0 ad y wd rm args ws PR' PX' := by
  intro sz p e h1 h2 h3 s m args below h4 h5 h6 h7
  obtain ⟨n, o, a1, a2, a3, a4⟩ := h sz p e h1 h2 h3 s m args below h4 h5 h6 h7
  refine ⟨n, o, a1, a2, a3, ?_⟩
  rcases a4 with ⟨⟨⟨v, u, b1, b2, b3⟩, b4⟩, a5⟩ | ⟨q, r1, E, ce, L, ⟨⟨ws, hF, r2⟩, r3⟩, r4⟩
  · exact Or.inl ⟨⟨⟨v, u, b1, hP v u b2, b3⟩, b4⟩, a5⟩
  · exact Or.inr ⟨q, r1, E, ce, L, ⟨⟨ws, hX E ws hF, r2⟩, r3⟩, r4⟩
theorem Pcc.blind {D : va_G} {cy : Nat → ClassId} {n0 : Nat} {ad : Nat → Nat} {args : List Value} {ws : va_W} {sz : Nat} : FrameBlind (Pcc D cy n0 ad args ws sz) := by
  intro a U g mk ⟨h1, h2, h3, h4, h5⟩
  exact ⟨h1, h2, KK.moved (State.WarmedH.refl U) (Nat.le_refl _) (fun _ _ _ => rfl) h3, h4, h5⟩
