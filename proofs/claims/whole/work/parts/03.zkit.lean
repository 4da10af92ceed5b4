/-! ints as Int, a memory as a function, one world of numbered objects -/
abbrev zMem : Type := Nat → Nat → Int
def zI (x : Int) : Int32 := Int32.ofInt x
def zJ (x : Int) : Int64 := Int64.ofInt x
abbrev zR (x : Int) : Prop := -2147483648 ≤ x ∧ x < 2147483648
def zU (σ : zMem) (o k : Nat) (v : Int) : zMem := fun a b => if a = o ∧ b = k then v else σ a b
theorem zI_toInt {x : Int} (h : zR x) : (zI x).toInt = x := Int32.toInt_ofInt_of_le (by omega) (by omega)
theorem zI_lt {a b : Int} (ha : zR a) (hb : zR b) : zI a < zI b ↔ a < b := by rw [Int32.lt_iff_toInt_lt, zI_toInt ha, zI_toInt hb]
theorem zI_le {a b : Int} (ha : zR a) (hb : zR b) : zI a ≤ zI b ↔ a ≤ b := by rw [Int32.le_iff_toInt_le, zI_toInt ha, zI_toInt hb]
theorem zI_eq {a b : Int} (ha : zR a) (hb : zR b) : zI a = zI b ↔ a = b := by
  constructor
  · intro h
    have h2 := congrArg Int32.toInt h
    rwa [zI_toInt ha, zI_toInt hb] at h2
  · intro h; rw [h]
theorem zI_0 : zI 0 = 0 := by decide +kernel
theorem zR_0 : zR 0 := by omega
theorem zI_add (a b : Int) : zI a + zI b = zI (a + b) := (Int32.ofInt_add a b).symm
theorem zI_sub (a b : Int) : zI a - zI b = zI (a - b) := (Int32.ofInt_sub a b).symm
theorem zI_mul (a b : Int) : zI a * zI b = zI (a * b) := (Int32.ofInt_mul a b).symm
theorem zI_of (x : Int32) : zI x.toInt = x := Int32.ofInt_toInt x
theorem zR_of (x : Int32) : zR x.toInt := ⟨by have := Int32.le_toInt x; omega, by have := Int32.toInt_lt x; omega⟩
theorem zI_ge0 {a : Int} (ha : zR a) : 0 ≤ zI a ↔ 0 ≤ a := by rw [← zI_0, zI_le zR_0 ha]
theorem zI_lt0 {a : Int} (ha : zR a) : zI a < 0 ↔ a < 0 := by rw [← zI_0, zI_lt ha zR_0]
theorem zI_le0 {a : Int} (ha : zR a) : zI a ≤ 0 ↔ a ≤ 0 := by rw [← zI_0, zI_le ha zR_0]
theorem zI_eq0 {a : Int} (ha : zR a) : zI a = 0 ↔ a = 0 := by rw [← zI_0, zI_eq ha zR_0]
theorem zI_div {a b : Int} (ha : 0 ≤ a) (ha2 : a < 2147483648) (hb : 0 < b) (hb2 : b < 2147483648) : zI a / zI b = zI (a / b) := by
  have h1 : (zI a).toInt = a := zI_toInt (by omega)
  have h2 : (zI b).toInt = b := zI_toInt (by omega)
  have h3 : (zI a / zI b).toInt = a / b := by
    rw [Int32.toInt_div_of_ne_right _ _ (by intro h; have := congrArg Int32.toInt h; rw [h2] at this; revert this; have : (-1 : Int32).toInt = -1 := by decide +kernel
                                            rw [this]; omega), h1, h2, Int.tdiv_eq_ediv_of_nonneg ha]
  rw [← Int32.ofInt_toInt (zI a / zI b), h3]
  rfl
theorem zI_rem {a b : Int} (ha : 0 ≤ a) (ha2 : a < 2147483648) (hb : 0 < b) (hb2 : b < 2147483648) : zI a - zI a / zI b * zI b = zI (a % b) := by
  rw [zI_div ha ha2 hb hb2, zI_mul, zI_sub, Int.emod_def, Int.mul_comm]
theorem zI_nat {i : Nat} (h : i < 2147483648) : (zI (i : Int)).toNatClampNeg = i := by
  show (zI (i : Int)).toInt.toNat = i
  rw [zI_toInt (by omega)]
  omega
theorem zI_in {i n : Nat} (h : i < n) (hn : n < 2147483648) : vp_in (zI (i : Int)) n := by
  intro q
  rcases q with q | q
  · rw [zI_lt0 (by omega)] at q; omega
  · rw [zI_nat (by omega)] at q; omega
theorem zJ_toInt {x : Int} (h : -9223372036854775808 ≤ x) (h2 : x < 9223372036854775808) : (zJ x).toInt = x := Int64.toInt_ofInt_of_le (by omega) (by omega)
theorem zJ_add (a b : Int) : zJ a + zJ b = zJ (a + b) := (Int64.ofInt_add a b).symm
theorem zJ_sub (a b : Int) : zJ a - zJ b = zJ (a - b) := (Int64.ofInt_sub a b).symm
theorem zJ_mul (a b : Int) : zJ a * zJ b = zJ (a * b) := (Int64.ofInt_mul a b).symm
theorem zJ_0 : zJ 0 = 0 := by decide +kernel
theorem zJ_i2l {x : Int} (h : zR x) : (zI x).toInt64 = zJ x := by
  rw [← Int64.ofInt_toInt (zI x).toInt64, Int32.toInt_toInt64, zI_toInt h]
  rfl
theorem zJ_l2i {x : Int} (h : zR x) : (zJ x).toInt32 = zI x := by
  rw [← Int32.ofInt_toInt (zJ x).toInt32, Int64.toInt_toInt32, zJ_toInt (by omega) (by omega)]
  unfold zI
  congr 1
  rw [Int.bmod_eq_of_le (by omega) (by omega)]
theorem zJ_div {a b : Int} (ha : 0 ≤ a) (ha2 : a < 9223372036854775808) (hb : 0 < b) (hb2 : b < 9223372036854775808) : zJ a / zJ b = zJ (a / b) := by
  have h1 : (zJ a).toInt = a := zJ_toInt (by omega) ha2
  have h2 : (zJ b).toInt = b := zJ_toInt (by omega) hb2
  have h3 : (zJ a / zJ b).toInt = a / b := by
    rw [Int64.toInt_div_of_ne_right _ _ (by intro h; have := congrArg Int64.toInt h; rw [h2] at this; revert this; have : (-1 : Int64).toInt = -1 := by decide +kernel
                                            rw [this]; omega), h1, h2, Int.tdiv_eq_ediv_of_nonneg ha]
  rw [← Int64.ofInt_toInt (zJ a / zJ b), h3]
  rfl
theorem zJ_rem {a b : Int} (ha : 0 ≤ a) (ha2 : a < 9223372036854775808) (hb : 0 < b) (hb2 : b < 9223372036854775808) : zJ a - zJ a / zJ b * zJ b = zJ (a % b) := by
  rw [zJ_div ha ha2 hb hb2, zJ_mul, zJ_sub, Int.emod_def, Int.mul_comm]
theorem zJ_ne0 {b : Int} (hb : 0 < b) (hb2 : b < 9223372036854775808) : ¬ zJ b = 0 := by
  intro h
  have h1 := congrArg Int64.toInt h
  rw [zJ_toInt (by omega) hb2, Int64.toInt_zero] at h1
  omega
theorem zI_ne0 {b : Int} (hb : 0 < b) (hb2 : b < 2147483648) : ¬ zI b = 0 := by rw [zI_eq0 (by omega)]; omega
/-! the objects: their kinds, lengths, fields -/
def zLn : List Nat := [1, 6, 11, 6, 11, 6, 11, 6, 11]
def zSg : List Nat := [8, 6, 11, 6, 11, 6, 11]
def zkL : List Nat := [9] ++ [2, 6, 11] ++ zLn ++ zSg ++ zLn ++ zSg ++ zLn ++ [7, 6, 11, 6, 11] ++ [5, 13] ++ zLn ++ zLn ++ zLn ++ zLn ++ zLn ++ [6, 11, 6, 11] ++ [3, 6, 11, 6, 11] ++ [4] ++ [0] ++ [10, 11, 11, 11, 11, 11, 11, 12, 11, 11, 11, 11, 11, 11, 11, 11, 11, 11, 11, 11, 11]
def zLz : List Nat := [0, 0, 6, 0, 6, 0, 6, 0, 6]
def zSz : List Nat := [0, 0, 6, 0, 6, 0, 6]
def zlL : List Nat := [0] ++ [0, 0, 26] ++ zLz ++ zSz ++ zLz ++ zSz ++ zLz ++ [0, 0, 100, 0, 21] ++ [0, 5] ++ zLz ++ zLz ++ zLz ++ zLz ++ zLz ++ [0, 4, 0, 4] ++ [0, 0, 6, 0, 6] ++ [0] ++ [0] ++ [0, 6, 6, 6, 6, 6, 6, 26, 6, 6, 64, 6, 49, 49, 21, 6, 6, 6, 6, 6, 6]
def zT : Nat := 129
theorem zkL_len : zkL.length = 129 ∧ zlL.length = 129 := by decide +kernel
def zk (o : Nat) : Nat := zkL.getD o 99
def zl (o : Nat) : Nat := zlL.getD o 0
/-- fields of a kind: 0 int, 1 long, 2 boolean, d + 2 a reference to the object d places on -/
def zt (c : Nat) : List Nat := match c with
  | 0 => [1]
  | 1 => [3, 5, 7, 9, 0, 0, 0]
  | 2 => [3, 0]
  | 3 => [3, 5, 0]
  | 4 => [0, 0, 0, 0]
  | 5 => [3, 49, 51, 0, 0, 0, 0]
  | 6 => [3]
  | 7 => [3, 5]
  | 8 => [3, 5, 7, 0]
  | 9 => [3, 6, 15, 22, 31, 38, 47, 52, 103, 108, 109, 2, 0]
  | 10 => [0, 0, 3, 4, 5, 0, 0, 0, 0, 6, 7, 8, 0, 9, 2, 0, 10, 11, 0, 0, 0, 0, 0, 12, 13, 14, 15, 16, 1, 2, 0, 0, 0, 0, 0, 17, 18, 19, 20, 21, 22, 1]
  | _ => []
def zv (B o t : Nat) (x : Int) : Value := match t with
  | 0 => .int (zI x)
  | 1 => .long (zJ x)
  | 2 => .int (zI x)
  | t + 3 => if x = 0 then .null else .ref (B + (o + (t + 1)))
abbrev zGt : Type := Nat × va_G × (ClassId × ClassId × ClassId) × ((Nat → Nat) × (Nat → Nat))
abbrev zB (G : zGt) : Nat := G.1
abbrev zD (G : zGt) : va_G := G.2.1
abbrev zA (G : zGt) : Nat → Prop := fun q => zB G ≤ q
abbrev zty (G : zGt) : List (ClassId × FieldType) := [(G.2.2.1.1, .int), (G.2.2.1.2.1, .byte), (G.2.2.1.2.2, .object RX1)]
def zF (G : zGt) (σ : zMem) (o : Nat) : List Value := (List.range (zt (zk o)).length).map (fun k => zv (zB G) o ((zt (zk o)).getD k 0) (σ o k))
def zE (G : zGt) (σ : zMem) (o : Nat) : va_E :=
  if zk o < 11 then .inr (zk o, zF G σ o)
  else if zk o = 11 then .inl (G.2.2.1.1, zl o, .inl (fun i => zI (σ o i)))
  else if zk o = 12 then .inl (G.2.2.1.2.1, zl o, .inl (fun i => zI (σ o i)))
  else .inl (G.2.2.1.2.2, zl o, .inr (.inr (.inr (.inr (fun i => if σ o i = 0 then none else some (zB G + (o + (1 + 9 * i))))))))
def zw (G : zGt) (T : Nat) (σ : zMem) : va_W := (List.range T).map (fun o => (zB G + o, zE G σ o))
theorem zw_get {G : zGt} {T : Nat} {σ : zMem} {o : Nat} (h : o < T) : (zw G T σ)[o]? = some (zB G + o, zE G σ o) := by simp [zw, h]
theorem zF_get {G : zGt} {σ : zMem} {o k t : Nat} (h : (zt (zk o))[k]? = some t) : (zF G σ o)[k]? = some (zv (zB G) o t (σ o k)) := by
  have hl := (List.getElem?_eq_some_iff.mp h).1
  have h2 := (List.getElem?_eq_some_iff.mp h).2
  simp [zF, hl, h2]
theorem zE_congr {G : zGt} {σ σ' : zMem} {o : Nat} (h : σ' o = σ o) : zE G σ' o = zE G σ o := by
  unfold zE zF
  rw [h]
theorem zw_set {G : zGt} {T : Nat} {σ σ' : zMem} {o : Nat} (h : o < T) (hs : ∀ a, a ≠ o → σ' a = σ a) : (zw G T σ).set o (zB G + o, zE G σ' o) = zw G T σ' := by
  apply List.ext_getElem?
  intro k
  rw [List.getElem?_set]
  by_cases hk : o = k
  · subst hk
    simp [zw, h]
  · rw [if_neg hk]
    by_cases hkT : k < T
    · rw [zw_get hkT, zw_get hkT, zE_congr (hs k (Ne.symm hk))]
    · simp [zw, hkT]
theorem zw_push {G : zGt} {T : Nat} {σ : zMem} : zw G T σ ++ [(zB G + T, zE G σ T)] = zw G (T + 1) σ := by simp [zw, List.range_succ]
theorem zw_len {G : zGt} {T : Nat} {σ : zMem} {k : Nat} {q : Nat × va_E} (h : (zw G T σ)[k]? = some q) : k < T ∧ q = (zB G + k, zE G σ k) := by
  have hl := (List.getElem?_eq_some_iff.mp h).1
  have hk : k < T := by simpa [zw] using hl
  rw [zw_get hk] at h
  exact ⟨hk, (Option.some.inj h).symm⟩
theorem zw_D {G : zGt} {T : Nat} {σ : zMem} : va_D (zA G) (zw G T σ) := by
  refine ⟨fun i j p q hi hj he => ?_, fun k q hk => ?_⟩
  · obtain ⟨-, rfl⟩ := zw_len hi
    obtain ⟨-, rfl⟩ := zw_len hj
    dsimp only at he
    omega
  · obtain ⟨-, rfl⟩ := zw_len hk
    exact Nat.le_add_right _ _
/-! what the tables say, at every state -/
def zTW (U : State) : Prop := (∀ w ∈ lw_tbl, goodWord w = true → ∀ a, w.before a U = true) ∧ (∀ o i r n d h, Cond.fieldLinkNest o i r n d h ∈ lw_tbl → va_Nw (.fieldLinkNest o i r n d h) U) ∧ (∀ o i x h, Cond.methodLinkNest o i x h ∈ lw_tbl → va_Nw (.methodLinkNest o i x h) U)
theorem zTW.warm {s U : State} (hW : s.WarmedH U.vm) (h : zTW s) : zTW U :=
  ⟨fun w hw hg a => word_at (args := #[]) hW (good_of_word hg) (h.1 w hw hg #[]), fun o i r n d k hw => va_Nw.warmF hW (h.2.1 o i r n d k hw), fun o i x k hw => va_Nw.warmM hW (h.2.2 o i x k hw)⟩
def zS (G : zGt) (U : State) (H : Heap) : Prop := va_K (zD G) vwCl (zty G) U ∧ va_AO RX1 U ∧ zTW U ∧ vk_R RX2 43 "hwoyt" (G.2.2.2.1 0) U ∧ vk_S 1 [5] [[104, 119, 111, 121, 116]] G.2.2.2.1 G.2.2.2.2 (zA G) U H ∧
  va_Z "java/lang/String" "COMPACT_STRINGS" "Z" (.int 1) (zA G) U H ∧ va_Zq "jdk/internal/util/Preconditions" "SIOOBE_FORMATTER" "Ljava/util/function/BiFunction;" (zA G) U H
theorem zS.warm {G : zGt} {s U : State} {H : Heap} (hW : s.WarmedH U.vm) (h : zS G s H) : zS G U H :=
  ⟨va_K.moved hW.alike h.1, va_AO.moved hW.alike h.2.1, h.2.2.1.warm hW, vk_R.warm hW h.2.2.2.1, vk_S.moved hW.alike h.2.2.2.2.1, va_Z.moved hW.alike h.2.2.2.2.2.1, va_Zq.moved hW.alike h.2.2.2.2.2.2⟩
theorem zS.kept {G : zGt} {U : State} {H H1 : Heap} (hq : ∀ a : Nat, a < H.size → ¬ zA G a → H1[a]? = H[a]?) (h : zS G U H) : zS G U H1 := ⟨h.1, h.2.1, h.2.2.1, h.2.2.2.1, vk_S.kept h.2.2.2.2.1 hq, h.2.2.2.2.2.1.kept hq, h.2.2.2.2.2.2.kept hq⟩
/-- references are set (where the world is complete), numbers are in their ranges -/
def zBu (c : Bool) (σ : zMem) : Prop := (c = true → ∀ o k, 3 ≤ (zt (zk o)).getD k 0 ∨ zk o = 13 → σ o k ≠ 0) ∧ ∀ o k, ¬ (zt (zk o)).getD k 0 = 1 → zR (σ o k)
abbrev zXt : Type := Program × Launch × Env × Room × State × MethodId × Array Value × List Frame × Method × Code × (State → Prop)
/-- the judgement: from this place of the method, over any heap that holds the memory -/
def zg (G : zGt) (X : zXt) (c : Bool) (nL T ce sl pc : Nat) (lv : List (Nat × Value)) (st : List Value) (σ : zMem) : Prop :=
  ∀ (H : Heap) (locs : List Loc) (ls : Array Slot), H.size = zB G + T → va_P (zD G) vwCl (zw G T σ) H → va_S (zA G) X.2.2.2.2.1.heap H locs → lv_has ls nL lv → zBu c σ →
    W X.1 X.2.1 X.2.2.1 X.2.2.2.1 X.2.2.2.2.1 X.2.2.2.2.2.1 X.2.2.2.2.2.2.1 X.2.2.2.2.2.2.2.1 X.2.2.2.2.2.2.2.2.1 X.2.2.2.2.2.2.2.2.2.1 H locs ce sl X.2.2.2.2.2.2.2.2.2.2 (F0 X.2.2.2.2.2.1 pc ls st)
def zQ (G : zGt) (c : Bool) (T : Nat) (post : Option Value → zMem → Prop) : Array Value → State → Outcome → State → Prop := fun _ st oc t =>
  ∃ (v : Option Value) (σ : zMem), oc = .returned v ∧ post v σ ∧ zBu c σ ∧ t.heap.size = zB G + T ∧ va_P (zD G) vwCl (zw G T σ) t.heap ∧ ∀ q : Nat, q < st.heap.size → ¬ zA G q → t.heap[q]? = st.heap[q]?
def zP (G : zGt) (c : Bool) (T : Nat) (σ : zMem) (U : State) : Prop := zS G U U.heap ∧ zB G ≤ U.heap.size ∧ U.heap.size = zB G + T ∧ va_P (zD G) vwCl (zw G T σ) U.heap ∧ zBu c σ
/-- a contract -/
def zM (l : Launch) (G : zGt) (y : MethodName) (cc : ByteArray) (nL : Nat) (ret : Option FieldType) (c : Bool) (fr lo mc ms T T1 : Nat) (av : List Value) (σ : zMem) (post : Option Value → zMem → Prop) : Prop :=
  Met l y [.code y cc nL ret] { frames := fr, cells := mc, slots := ms, locals := lo } (va_Pc av (zP G c T σ)) (zQ G c T1 post) mc ms (zA G)
def zC (G : zGt) (X : zXt) (cc : ByteArray) (nL : Nat) (own : String) (ret : Option FieldType) (c : Bool) (fr lo mc ms T1 : Nat) (post : Option Value → zMem → Prop) (isI : Bool) (l : Launch) : Prop :=
  X.1.tables.exec = Jvm.exec ∧ X.2.2.2.2.2.2.2.2.2.1.code = cc ∧ X.2.2.2.2.2.2.2.2.2.1.maxLocals = nL ∧ X.2.2.2.2.1.vm.findClass own = some X.2.2.2.2.2.1.cls ∧ zS G X.2.2.2.2.1 X.2.2.2.2.1.heap ∧ zB G ≤ X.2.2.2.2.1.heap.size ∧
  X.2.2.2.2.2.2.2.2.1.locks = false ∧ X.2.2.2.2.2.2.2.2.1.sig.returnType = ret ∧ X.2.2.2.1 = { frames := fr, cells := mc, slots := ms, locals := lo } ∧
  X.2.2.2.2.2.2.2.2.2.2 = MQ X.2.2.2.2.2.2.2.1 (zQ G c T1 post) X.2.2.2.2.2.2.1 X.2.2.2.2.1 mc ms (zA G) ∧ (isI = true → X.2.2.2.2.2.2.2.2.1.name = "<init>") ∧ X.2.1 = l
theorem zTW.same {u U : State} (h : u.vm = U.vm) (hz : zTW u) : zTW U := zTW.warm (by rw [← h]; exact State.WarmedH.refl u) hz
theorem zP.blind {G : zGt} {c : Bool} {T : Nat} {σ : zMem} {av : List Value} : FrameBlind (va_Pc av (zP G c T σ)) := by
  rintro a U g mk ⟨h1, ⟨k1, k2, k3, k4, k5, k6, k7⟩, h2, h3, h4, h5⟩
  exact ⟨h1, ⟨va_K.moved (u := U) (U := U.calling g mk a) (Vm.Alike.refl U.vm) k1, va_AO.moved (u := U) (U := U.calling g mk a) (Vm.Alike.refl U.vm) k2, zTW.same (u := U) rfl k3, vk_R.same (u := U) rfl k4, vk_S.moved (u := U) (U := U.calling g mk a) (Vm.Alike.refl U.vm) k5, va_Z.moved (u := U) (U := U.calling g mk a) (Vm.Alike.refl U.vm) k6, va_Zq.moved (u := U) (U := U.calling g mk a) (Vm.Alike.refl U.vm) k7⟩, h2, h3, h4, h5⟩
theorem zM.of {l : Launch} {G : zGt} {y : MethodName} {cc : ByteArray} {nL : Nat} {ret : Option FieldType} {c : Bool} {fr lo mc ms T T1 : Nat} {av : List Value} {σ : zMem} {post : Option Value → zMem → Prop} {lv0 : List (Nat × Value)} (hy : plainName y.cls = true) (hn : (lg_sl av).length ≤ nL) (hlv : lv_args 0 av = lv0)
    (body : ∀ X : zXt, zC G X cc nL y.cls ret c fr lo mc ms T1 post (y.name == "<init>") l → zg G X c nL T 0 0 0 lv0 [] σ) : zM l G y cc nL ret c fr lo mc ms T T1 av σ post := by
  refine Met.ofW (cc := cc) (maxL := nL) (ret := ret) hy rfl ?_
  rintro p e s m args below meth co s₁ B hml ⟨rfl, h1, h2, h3, h4, h5⟩
  have hC : zC G (p, l, e, (headSpec [Cond.code y cc nL ret] { frames := fr, cells := mc, slots := ms, locals := lo }).room, s, m, av.toArray, below, meth, co, MQ below (zQ G c T1 post) av.toArray s mc ms (zA G)) cc nL y.cls ret c fr lo mc ms T1 post (y.name == "<init>") l :=
    ⟨B.exec, B.bytes, hml, findClass_of_methodNamed B.named, h1, h2, B.notSynchronized, B.returns, rfl, rfl, fun h => by rw [(name_of_methodNamed B.named B.method).1]; exact beq_iff_eq.mp h, rfl⟩
  have hl := lv_entry av (n := nL) hn
  rw [lg_entry_eq]
  rw [hlv] at hl
  exact body _ hC s.heap [] _ h3 h4 va_S.rf hl h5
