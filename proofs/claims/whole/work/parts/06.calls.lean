theorem zw_store {G : zGt} {T : Nat} {σ : zMem} {o i : Nat} {x : Int} (h : o < T) (hk : zk o = 11) : (zw G T σ).set o (zB G + o, .inl (G.2.2.1.1, zl o, .inl (upd (fun j => zI (σ o j)) i (zI x)))) = zw G T (zU σ o i x) := by
  have h1 : zE G (zU σ o i x) o = .inl (G.2.2.1.1, zl o, .inl (upd (fun j => zI (σ o j)) i (zI x))) := by
    rw [zE, if_neg (by omega), if_pos hk]
    congr 3
    have h2 : (fun j => zI (zU σ o i x o j)) = upd (fun j => zI (σ o j)) i (zI x) := by
      funext j
      by_cases hj : j = i
      · subst hj; simp [zU, upd]
      · simp [zU, upd, hj]
    rw [h2]
  rw [← h1]
  exact zw_set h (fun a ha => zU_ne ha)
theorem zw_storeB {G : zGt} {T : Nat} {σ : zMem} {o i : Nat} {x : Int} (h : o < T) (hk : zk o = 12) : (zw G T σ).set o (zB G + o, .inl (G.2.2.1.2.1, zl o, .inl (upd (fun j => zI (σ o j)) i (zI x)))) = zw G T (zU σ o i x) := by
  have h1 : zE G (zU σ o i x) o = .inl (G.2.2.1.2.1, zl o, .inl (upd (fun j => zI (σ o j)) i (zI x))) := by
    rw [zE, if_neg (by omega), if_neg (by omega), if_pos hk]
    congr 3
    have h2 : (fun j => zI (zU σ o i x o j)) = upd (fun j => zI (σ o j)) i (zI x) := by
      funext j
      by_cases hj : j = i
      · subst hj; simp [zU, upd]
      · simp [zU, upd, hj]
    rw [h2]
  rw [← h1]
  exact zw_set h (fun a ha => zU_ne ha)
theorem zt_big {k : Nat} (h : 11 ≤ k) (i : Nat) (d : Nat) : (zt k).getD i d = d := by
  have : zt k = [] := by
    unfold zt
    split <;> first | omega | rfl
  rw [this]; rfl
theorem zBu.arr {c : Bool} {σ : zMem} (h : zBu c σ) {o i : Nat} (hk : zk o = 11 ∨ zk o = 12) : zR (σ o i) := h.2 o i (by rw [zt_big (by omega)]; decide)
theorem zBu.store {c : Bool} {σ : zMem} {o i : Nat} {v : Int} (h : zBu c σ) (hk : zk o = 11 ∨ zk o = 12) (hv : zR v) : zBu c (zU σ o i v) :=
  h.putI (fun _ => by rw [zt_big (by omega)]; omega) (fun _ => hv)
/-- what a method of ours gives: an int, nothing, a long -/
def zPi (p : Int → zMem → Prop) : Option Value → zMem → Prop := fun v σ => ∃ r : Int, v = some (.int (zI r)) ∧ zR r ∧ p r σ
def zPv (p : zMem → Prop) : Option Value → zMem → Prop := fun v σ => v = none ∧ p σ
def zPl (p : Int → zMem → Prop) : Option Value → zMem → Prop := fun v σ => ∃ r : Int, v = some (.long (zJ r)) ∧ p r σ
def zPr (G : zGt) (p : Nat → zMem → Prop) : Option Value → zMem → Prop := fun v σ => ∃ o : Nat, v = some (.ref (zB G + o)) ∧ p o σ
/-- a method link of a pool -/
def zml (own : String) (index : Nat) (y : MethodName) : Prop := zin (.methodLink own index y) ∨ Cond.methodLinkNest own index y RX9 ∈ lw_tbl
def zny (y : MethodName) (n : Nat) : Prop := y.cls ≠ "java/lang/invoke/MethodHandle" ∧ y.cls ≠ "java/lang/invoke/VarHandle" ∧ (parseMethodDescriptor y.desc).map (fun d => d.parameters.length) = some n
/-- a method of an instance, of class number ci -/
def zcv (y : MethodName) (ci : Nat) (cc : ByteArray) (nL : Nat) (ret : Option FieldType) (n : Nat) : Prop := (ci < 11 ∧ (zq ci).1 = y.cls) ∧ zin (.code y cc nL ret) ∧ zin (.initialized y.cls) ∧ zin (.instanceMethod y) ∧ zin (.selects y.cls y y) ∧ zny y n
def zcs (y : MethodName) (cc : ByteArray) (nL : Nat) (ret : Option FieldType) (n : Nat) : Prop := zin (.code y cc nL ret) ∧ zin (.initialized y.cls) ∧ zin (.static y) ∧ zny y n
def zci (y : MethodName) (ci : Nat) (cc : ByteArray) (nL n : Nat) : Prop := (ci < 11 ∧ (zq ci).1 = y.cls) ∧ zin (.code y cc nL none) ∧ zin (.initialized y.cls) ∧ zin (.instanceMethod y) ∧ y.name = "<init>" ∧ zny y n
theorem zny.sig {y : MethodName} {n : Nat} (h : zny y n) : ∀ sig, parseMethodDescriptor y.desc = some sig → n = sig.parameters.length := by
  intro sig hs
  have h2 := h.2.2
  rw [hs] at h2
  exact (Option.some.inj h2).symm
section ZCALL
variable {G : zGt} {X : zXt} {c : Bool} {nL T ce sl pc fr lo mc ms T1 : Nat} {lv : List (Nat × Value)} {st : List Value} {σ : zMem} {cc : ByteArray} {own : String} {ret : Option FieldType} {post : Option Value → zMem → Prop} {isI : Bool} {l : Launch}
theorem z_iaload (C : zC G X cc nL own ret c fr lo mc ms T1 post isI l) {o : Nat} {a : Int} (i : Nat) (hd : decode cc pc = .ok (.iaload, 1)) (hk : zk o = 11) (ho : o < T) (hi : a = i) (hin : i < zl o)
    (kk : zR (σ o i) → zg G X c nL T ce sl (pc + 1) lv (.int (zI (σ o i)) :: st) σ) : zg G X c nL T ce sl pc lv (.int (zI a) :: .ref (zB G + o) :: st) σ := fun H locs ls hz hP hS hl hb => by
  subst hi
  have hl2 := zl_le o
  refine va_iald C.1 C.2.1 C.2.2.2.2.1.1 hP o 0 (zw_arr ho hk) rfl (zI_in hin (by omega)) hd ?_
  rw [zI_nat (by omega)]
  exact kk (hb.arr (Or.inl hk)) H locs ls hz hP hS hl hb
theorem z_baload (C : zC G X cc nL own ret c fr lo mc ms T1 post isI l) {o : Nat} {a : Int} (i : Nat) (hd : decode cc pc = .ok (.baload, 1)) (hk : zk o = 12) (ho : o < T) (hi : a = i) (hin : i < zl o)
    (kk : zR (σ o i) → zg G X c nL T ce sl (pc + 1) lv (.int (zI (σ o i)) :: st) σ) : zg G X c nL T ce sl pc lv (.int (zI a) :: .ref (zB G + o) :: st) σ := fun H locs ls hz hP hS hl hb => by
  subst hi
  have hl2 := zl_le o
  refine va_bald C.1 C.2.1 C.2.2.2.2.1.1 hP o 1 (zw_byt ho hk) rfl (zI_in hin (by omega)) hd ?_
  rw [zI_nat (by omega)]
  exact kk (hb.arr (Or.inr hk)) H locs ls hz hP hS hl hb
theorem z_aaload (C : zC G X cc nL own ret c fr lo mc ms T1 post isI l) {o : Nat} {a : Int} (i o' : Nat) (hd : decode cc pc = .ok (.aaload, 1)) (hk : zk o = 13) (ho : o < T) (hi : a = i) (hin : i < zl o) (ho' : o + (1 + 9 * i) = o') (hc : c = true ∨ σ o i ≠ 0)
    (kk : zg G X c nL T ce sl (pc + 1) lv (.ref (zB G + o') :: st) σ) : zg G X c nL T ce sl pc lv (.int (zI a) :: .ref (zB G + o) :: st) σ := fun H locs ls hz hP hS hl hb => by
  subst hi
  have hl2 := zl_le o
  have hne : σ o i ≠ 0 := by
    rcases hc with hc | hc
    · exact hb.1 hc o i (Or.inr hk)
    · exact hc
  refine va_aldq C.1 C.2.1 C.2.2.2.2.1.1 hP o 2 (zw_ref ho hk) rfl (zI_in hin (by omega)) hd ?_
  rw [zI_nat (by omega), if_neg hne, ho']
  exact kk H locs ls hz hP hS hl hb
theorem z_iastore (C : zC G X cc nL own ret c fr lo mc ms T1 post isI l) {o : Nat} {a x : Int} (i : Nat) (hd : decode cc pc = .ok (.iastore, 1)) (hk : zk o = 11) (ho : o < T) (hi : a = i) (hin : i < zl o) (hx : zR x)
    (kk : zg G X c nL T ce sl (pc + 1) lv st (zU σ o i x)) : zg G X c nL T ce sl pc lv (.int (zI x) :: .int (zI a) :: .ref (zB G + o) :: st) σ := fun H locs ls hz hP hS hl hb => by
  subst hi
  have hl2 := zl_le o
  have hlt : i < 2147483648 := by omega
  have ha := zw_arr (G := G) (σ := σ) ho hk
  refine W.iast C.1 C.2.1 (hP o _ ha) ((C.2.2.2.2.1.1.2 0 _ rfl).1 (zl o) (fun j => .int (zI (σ o j)))) (fun q => by cases q) (by show ¬ (zI (i : Int) < 0 ∨ (arrV _ _ _).slots.size ≤ _); rw [arrV_size]; exact zI_in (n := zl o) hin (by omega)) rfl rfl hd fun H1 e z oq => ?_
  rw [zI_nat hlt] at e ⊢
  have h1 : va_P (zD G) vwCl (zw G T (zU σ o i x)) H1 := by
    rw [← zw_store ho hk]
    refine hP.set zw_D ha ?_ oq
    show H1[_]? = some (vp_cell _ _)
    rw [e]
    rw [vp_cell_i, vp_cell_i, arrV_store]
    congr 2
    funext q
    by_cases hq : q = i
    · subst hq
      simp [updV, upd]
    · simp [updV, upd, hq]
  exact kk H1 _ ls (z.trans hz) h1 (hS.put z oq (Nat.le_add_right _ _)) hl (hb.store (Or.inl hk) hx)
theorem z_bastore (C : zC G X cc nL own ret c fr lo mc ms T1 post isI l) {o : Nat} {a x : Int} (i : Nat) (hd : decode cc pc = .ok (.bastore, 1)) (hk : zk o = 12) (ho : o < T) (hi : a = i) (hin : i < zl o) (hx : zR x) (hn : narrow .byte (.int (zI x)) = .int (zI x))
    (kk : zg G X c nL T ce sl (pc + 1) lv st (zU σ o i x)) : zg G X c nL T ce sl pc lv (.int (zI x) :: .int (zI a) :: .ref (zB G + o) :: st) σ := fun H locs ls hz hP hS hl hb => by
  subst hi
  have hl2 := zl_le o
  have hlt : i < 2147483648 := by omega
  have ha := zw_byt (G := G) (σ := σ) ho hk
  refine W.bast C.1 C.2.1 (hP o _ ha) ((C.2.2.2.2.1.1.2 1 _ rfl).1 (zl o) (fun j => .int (zI (σ o j)))) (fun q => by cases q) (by show ¬ (zI (i : Int) < 0 ∨ (arrV _ _ _).slots.size ≤ _); rw [arrV_size]; exact zI_in (n := zl o) hin (by omega)) rfl rfl hd fun H1 e z oq => ?_
  rw [zI_nat hlt] at e ⊢
  have h1 : va_P (zD G) vwCl (zw G T (zU σ o i x)) H1 := by
    rw [← zw_storeB ho hk]
    refine hP.set zw_D ha ?_ oq
    show H1[_]? = some (vp_cell _ _)
    rw [e]
    rw [vp_cell_i, vp_cell_i, arrV_store]
    congr 2
    funext q
    by_cases hq : q = i
    · subst hq
      simp [updV, upd]
      exact hn
    · simp [updV, upd, hq]
  exact kk H1 _ ls (z.trans hz) h1 (hS.put z oq (Nat.le_add_right _ _)) hl (hb.store (Or.inr hk) hx)
theorem z_alen (C : zC G X cc nL own ret c fr lo mc ms T1 post isI l) {o : Nat} {n : Int} (hd : decode cc pc = .ok (.arraylength, 1)) (hk : zk o = 11 ∨ zk o = 13) (ho : o < T) (hn : n = zl o)
    (kk : zg G X c nL T ce sl (pc + 1) lv (.int (zI n) :: st) σ) : zg G X c nL T ce sl pc lv (.ref (zB G + o) :: st) σ := fun H locs ls hz hP hS hl hb => by
  subst hn
  rcases hk with hk | hk
  · exact va_alen C.1 C.2.1 C.2.2.2.2.1.1 hP o 0 (zw_arr ho hk) (ty := .int) rfl Int32.ofInt_eq_ofNat.symm hd (kk H locs ls hz hP hS hl hb)
  · exact va_alen C.1 C.2.1 C.2.2.2.2.1.1 hP o 2 (zw_ref ho hk) (ty := .object RX1) rfl Int32.ofInt_eq_ofNat.symm hd (kk H locs ls hz hP hS hl hb)
/-- behind a call -/
theorem z_after {mcy msy Ty : Nat} {H : Heap} {locs : List Loc} {ls : Array Slot} {a : Array Value} {rest : List Value} {posty : Option Value → zMem → Prop} (hz : H.size = zB G + T) (hS : va_S (zA G) X.2.2.2.2.1.heap H locs) (hl : lv_has ls nL lv) (hle : T ≤ Ty)
    (hr : va_Run X.1 X.2.1 X.2.2.1 X.2.2.2.1 X.2.2.2.2.1 X.2.2.2.2.2.1 X.2.2.2.2.2.2.1 X.2.2.2.2.2.2.2.1 X.2.2.2.2.2.2.2.2.1 X.2.2.2.2.2.2.2.2.2.1 H locs ce sl mcy msy (F0 X.2.2.2.2.2.1 pc ls st) rest (zQ G c Ty posty a) (zA G))
    (kk : ∀ (v : Option Value) (τ : zMem), posty v τ → zg G X c nL Ty (ce + mcy) (sl + msy) (pc + 3) lv (v.toList ++ rest) τ) :
    W X.1 X.2.1 X.2.2.1 X.2.2.2.1 X.2.2.2.2.1 X.2.2.2.2.2.1 X.2.2.2.2.2.2.1 X.2.2.2.2.2.2.2.1 X.2.2.2.2.2.2.2.2.1 X.2.2.2.2.2.2.2.2.2.1 H locs ce sl X.2.2.2.2.2.2.2.2.2.2 (F0 X.2.2.2.2.2.1 pc ls st) := by
  intro U hU S
  obtain ⟨v, st₀, t, T', L, h0, X', hL, e1, e2, ⟨v', τ, hv, hp, hbu, hsz, hPt, hkeep⟩, stp⟩ := hr U hU S
  cases hv
  rw [h0] at hkeep
  have hS' : va_S (zA G) X.2.2.2.2.1.heap t.heap (locs ++ L) := by
    refine ⟨by rw [hsz]; have := hS.1; rw [hz] at this; omega, fun q h1 h2 => ?_, fun q hq => ?_⟩
    · rw [hkeep q (Nat.lt_of_lt_of_le h1 hS.1) h2]
      exact hS.2.1 q h1 h2
    · rcases List.mem_append.mp hq with h | h
      · exact hS.2.2 q h
      · exact hL q h
  obtain ⟨t2, a1, b1⟩ := kk v τ hp t.heap (locs ++ L) ls hsz hPt hS' hl hbu T' e1 X'
  exact ⟨t2, stp t2 a1, b1⟩
theorem z_pre (C : zC G X cc nL own ret c fr lo mc ms T1 post isI l) {H : Heap} {locs : List Loc} (hz : H.size = zB G + T) (hP : va_P (zD G) vwCl (zw G T σ) H) (hS : va_S (zA G) X.2.2.2.2.1.heap H locs) (hb : zBu c σ) {U : State} (hU : U.heap = H) (hW : X.2.2.2.2.1.WarmedH U.vm) : zP G c T σ U := by
  refine ⟨?_, by rw [hU]; exact Nat.le_trans C.2.2.2.2.2.1 hS.1, by rw [hU]; exact hz, by rw [hU]; exact hP, hb⟩
  rw [hU]
  exact (C.2.2.2.2.1.warm hW).kept hS.2.1
/-- invokevirtual -/
theorem z_V (C : zC G X cc nL own ret c fr lo mc ms T1 post isI l) {y : MethodName} {ccy : ByteArray} {nLy : Nat} {rety : Option FieldType} {fry loy mcy msy Ty n ci o index : Nat} {av As rest : List Value} {posty : Option Value → zMem → Prop}
    (hM : zM l G y ccy nLy rety c fry loy mcy msy T Ty av σ posty) (hl : zml own index y) (hy : zcv y ci ccy nLy rety n) (hd : decode cc pc = .ok (.invokevirtual index, 3)) (hk : zk o = ci) (ho : o < T) (hav : av = .ref (zB G + o) :: As) (hst : st = As.reverse ++ .ref (zB G + o) :: rest) (hn : As.length = n) (hW : (rest.map fun v => v.category).sum ≤ 8) (hR : (fry + 1 ≤ fr ∧ 8 + (nLy + 11) + loy ≤ lo) ∧ ce + mcy ≤ mc ∧ sl + msy ≤ ms) (hle : T ≤ Ty)
    (kk : ∀ (v : Option Value) (τ : zMem), posty v τ → zg G X c nL Ty (ce + mcy) (sl + msy) (pc + 3) lv (v.toList ++ rest) τ) : zg G X c nL T ce sl pc lv st σ := fun H locs ls hz hP hS hl0 hb => by
  obtain ⟨⟨hci, hcn⟩, w1, w2, w3, w4, hny⟩ := hy
  subst hk
  have hTW := C.2.2.2.2.1.2.2.1
  have hMet : Met X.2.1 y [.code y ccy nLy rety] { frames := fry, cells := mcy, slots := msy, locals := loy } (va_Pc av (zP G c T σ)) (zQ G c Ty posty) mcy msy (zA G) := by
    rw [C.2.2.2.2.2.2.2.2.2.2.2]; exact hM
  have hRR := C.2.2.2.2.2.2.2.2.1
  have hws : ∀ w ∈ [Cond.code y ccy nLy rety], ∀ (a' : Array Value) (U : State), X.2.2.2.2.1.WarmedH U.vm → w.before a' U = true := fun w hw a' U hWU => by
    rw [List.mem_singleton] at hw; subst hw
    exact word_at (args := #[]) hWU (good_of_word w1.2) (hTW.use w1 _)
  refine z_after (a := (Value.ref (zB G + o) :: As).toArray) (rest := rest) hz hS hl0 hle ?_ kk
  have hp : PreV X.2.2.2.2.1 H (zq (zk o)).1 (zB G + o) (va_Pc av (zP G c T σ)) As := ⟨zP.blind, va_recv C.2.2.2.2.1.1 hP (zq_at hci) (zw_obj ho rfl hci), fun U hU hWU => ⟨by rw [hav], z_pre C hz hP hS hb hU hWU⟩⟩
  rcases hl with hl | hl
  · refine va_runV (Ts := []) (n := n) (C := (zq (zk o)).1) ⟨C.1, C.2.1, C.2.2.1, C.2.2.2.1, fun w hw => by cases hw⟩ hMet ⟨⟨rfl, rfl, by rw [hRR]; exact hR.1.1, by rw [hRR]; exact hR.1.2, hws, List.mem_cons_self, hTW.use w1 _, hTW.use w2 _, ⟨hny.1, hny.2.1⟩, hny.sig, hTW.use hl _⟩, hTW.use w3 _, by rw [hcn]; exact hTW.use w4 _⟩ hp rfl hn hl0.1 hst (by show 2 * 0 + _ ≤ 8; omega) hd (by rw [hRR]; exact hR.2)
  · refine va_runVN (Ts := []) (n := n) (C := (zq (zk o)).1) ⟨C.1, C.2.1, C.2.2.1, C.2.2.2.1, fun w hw => by cases hw⟩ hMet ⟨⟨⟨rfl, rfl, by rw [hRR]; exact hR.1.1, by rw [hRR]; exact hR.1.2, hws, List.mem_cons_self⟩, hTW.use w1 _, hTW.use w2 _, ⟨hny.1, hny.2.1⟩, hny.sig, va_Nw.use rfl (hTW.2.2 _ _ _ _ hl)⟩, hTW.use w3 _, by rw [hcn]; exact hTW.use w4 _⟩ hp rfl hn hl0.1 hst (by show 2 * 0 + _ ≤ 8; omega) hd (by rw [hRR]; exact hR.2)
/-- invokestatic -/
theorem z_S (C : zC G X cc nL own ret c fr lo mc ms T1 post isI l) {y : MethodName} {ccy : ByteArray} {nLy : Nat} {rety : Option FieldType} {fry loy mcy msy Ty n index : Nat} {av rest : List Value} {posty : Option Value → zMem → Prop}
    (hM : zM l G y ccy nLy rety c fry loy mcy msy T Ty av σ posty) (hl : zml own index y) (hy : zcs y ccy nLy rety n) (hd : decode cc pc = .ok (.invokestatic index, 3)) (hst : st = av.reverse ++ rest) (hn : av.length = n) (hW : (rest.map fun v => v.category).sum ≤ 8) (hR : (fry + 1 ≤ fr ∧ 8 + (nLy + 11) + loy ≤ lo) ∧ ce + mcy ≤ mc ∧ sl + msy ≤ ms) (hle : T ≤ Ty)
    (kk : ∀ (v : Option Value) (τ : zMem), posty v τ → zg G X c nL Ty (ce + mcy) (sl + msy) (pc + 3) lv (v.toList ++ rest) τ) : zg G X c nL T ce sl pc lv st σ := fun H locs ls hz hP hS hl0 hb => by
  obtain ⟨w1, w2, w3, hny⟩ := hy
  have hTW := C.2.2.2.2.1.2.2.1
  have hMet : Met X.2.1 y [.code y ccy nLy rety] { frames := fry, cells := mcy, slots := msy, locals := loy } (va_Pc av (zP G c T σ)) (zQ G c Ty posty) mcy msy (zA G) := by
    rw [C.2.2.2.2.2.2.2.2.2.2.2]; exact hM
  have hRR := C.2.2.2.2.2.2.2.2.1
  have hws : ∀ w ∈ [Cond.code y ccy nLy rety], ∀ (a' : Array Value) (U : State), X.2.2.2.2.1.WarmedH U.vm → w.before a' U = true := fun w hw a' U hWU => by
    rw [List.mem_singleton] at hw; subst hw
    exact word_at (args := #[]) hWU (good_of_word w1.2) (hTW.use w1 _)
  refine z_after (a := av.toArray) (rest := rest) hz hS hl0 hle ?_ kk
  have hp : PreS X.2.2.2.2.1 H (va_Pc av (zP G c T σ)) av := ⟨zP.blind, fun U hU hWU => ⟨rfl, z_pre C hz hP hS hb hU hWU⟩⟩
  rcases hl with hl | hl
  · exact va_runS (Ts := []) (n := n) ⟨C.1, C.2.1, C.2.2.1, C.2.2.2.1, fun w hw => by cases hw⟩ hMet ⟨⟨rfl, rfl, by rw [hRR]; exact hR.1.1, by rw [hRR]; exact hR.1.2, hws, List.mem_cons_self, hTW.use w1 _, hTW.use w2 _, ⟨hny.1, hny.2.1⟩, hny.sig, hTW.use hl _⟩, hTW.use w3 _⟩ hp rfl hn hl0.1 hst (by show 2 * 0 + _ ≤ 8; omega) hd (by rw [hRR]; exact hR.2)
  · exact va_runSN (Ts := []) (n := n) ⟨C.1, C.2.1, C.2.2.1, C.2.2.2.1, fun w hw => by cases hw⟩ hMet ⟨⟨⟨rfl, rfl, by rw [hRR]; exact hR.1.1, by rw [hRR]; exact hR.1.2, hws, List.mem_cons_self⟩, hTW.use w1 _, hTW.use w2 _, ⟨hny.1, hny.2.1⟩, hny.sig, va_Nw.use rfl (hTW.2.2 _ _ _ _ hl)⟩, hTW.use w3 _, trivial⟩ hp rfl hn hl0.1 hst (by show 2 * 0 + _ ≤ 8; omega) hd (by rw [hRR]; exact hR.2)
/-- invokespecial of a constructor -/
theorem z_I (C : zC G X cc nL own ret c fr lo mc ms T1 post isI l) {y : MethodName} {ccy : ByteArray} {nLy : Nat} {fry loy mcy msy Ty n ci o index : Nat} {av As rest : List Value} {posty : Option Value → zMem → Prop}
    (hM : zM l G y ccy nLy none c fry loy mcy msy T Ty av σ posty) (hl : zml own index y) (hy : zci y ci ccy nLy n) (hd : decode cc pc = .ok (.invokespecial index, 3)) (hav : av = .ref (zB G + o) :: As) (hst : st = As.reverse ++ .ref (zB G + o) :: rest) (hn : As.length = n) (hW : (rest.map fun v => v.category).sum ≤ 8) (hR : (fry + 1 ≤ fr ∧ 8 + (nLy + 11) + loy ≤ lo) ∧ ce + mcy ≤ mc ∧ sl + msy ≤ ms) (hle : T ≤ Ty)
    (kk : ∀ (v : Option Value) (τ : zMem), posty v τ → zg G X c nL Ty (ce + mcy) (sl + msy) (pc + 3) lv (v.toList ++ rest) τ) : zg G X c nL T ce sl pc lv st σ := fun H locs ls hz hP hS hl0 hb => by
  obtain ⟨⟨hci, hcn⟩, w1, w2, w3, w4, hny⟩ := hy
  have hTW := C.2.2.2.2.1.2.2.1
  have hMet : Met X.2.1 y [.code y ccy nLy none] { frames := fry, cells := mcy, slots := msy, locals := loy } (va_Pc av (zP G c T σ)) (zQ G c Ty posty) mcy msy (zA G) := by
    rw [C.2.2.2.2.2.2.2.2.2.2.2]; exact hM
  have hRR := C.2.2.2.2.2.2.2.2.1
  have hws : ∀ w ∈ [Cond.code y ccy nLy none], ∀ (a' : Array Value) (U : State), X.2.2.2.2.1.WarmedH U.vm → w.before a' U = true := fun w hw a' U hWU => by
    rw [List.mem_singleton] at hw; subst hw
    exact word_at (args := #[]) hWU (good_of_word w1.2) (hTW.use w1 _)
  refine z_after (a := (Value.ref (zB G + o) :: As).toArray) (rest := rest) hz hS hl0 hle ?_ kk
  have hp : PreS X.2.2.2.2.1 H (va_Pc av (zP G c T σ)) (.ref (zB G + o) :: As) := ⟨zP.blind, fun U hU hWU => ⟨by rw [hav], z_pre C hz hP hS hb hU hWU⟩⟩
  rcases hl with hl | hl
  · exact va_runI (Ts := []) (n := n) ⟨C.1, C.2.1, C.2.2.1, C.2.2.2.1, fun w hw => by cases hw⟩ hMet ⟨⟨rfl, rfl, by rw [hRR]; exact hR.1.1, by rw [hRR]; exact hR.1.2, hws, List.mem_cons_self, hTW.use w1 _, hTW.use w2 _, ⟨hny.1, hny.2.1⟩, hny.sig, hTW.use hl _⟩, w4, hTW.use w3 _⟩ hp rfl hn hl0.1 hst (by show 2 * 0 + _ ≤ 8; omega) hd (by rw [hRR]; exact hR.2)
  · exact va_runIN (Ts := []) (n := n) ⟨C.1, C.2.1, C.2.2.1, C.2.2.2.1, fun w hw => by cases hw⟩ hMet ⟨⟨⟨rfl, rfl, by rw [hRR]; exact hR.1.1, by rw [hRR]; exact hR.1.2, hws, List.mem_cons_self⟩, hTW.use w1 _, hTW.use w2 _, ⟨hny.1, hny.2.1⟩, hny.sig, va_Nw.use rfl (hTW.2.2 _ _ _ _ hl)⟩, w4, hTW.use w3 _⟩ hp rfl hn hl0.1 hst (by show 2 * 0 + _ ≤ 8; omega) hd (by rw [hRR]; exact hR.2)
/-- returns -/
theorem z_end (C : zC G X cc nL own ret c fr lo mc ms T1 post isI l) {H : Heap} {locs : List Loc} (hz : H.size = zB G + T1) (hP : va_P (zD G) vwCl (zw G T1 σ) H) (hS : va_S (zA G) X.2.2.2.2.1.heap H locs) (hb : zBu c σ) {v : Option Value} (hp : post v σ) : ∀ t : State, t.heap = H → X.2.2.2.2.1.WarmedH t.vm → zQ G c T1 post X.2.2.2.2.2.2.1 X.2.2.2.2.1 (.returned v) t := by
  intro t ht _
  exact ⟨v, σ, rfl, hp, hb, by rw [ht]; exact hz, by rw [ht]; exact hP, by rw [ht]; exact hS.2.1⟩
theorem z_iret (C : zC G X cc nL own (some .int) c fr lo ce sl T post isI l) {a : Int} (hd : decode cc pc = .ok (.ireturn, 1)) (hp : post (some (.int (zI a))) σ) : zg G X c nL T ce sl pc lv [.int (zI a)] σ := fun H locs ls hz hP hS hl hb => by
  rw [C.2.2.2.2.2.2.2.2.2.1]
  exact W.iret C.1 C.2.1 C.2.2.2.2.2.2.2.1 (z_end C hz hP hS hb hp) hS.2.2 hd C.2.2.2.2.2.2.1
theorem z_zret (C : zC G X cc nL own (some .boolean) c fr lo ce sl T post isI l) {a : Int} (hd : decode cc pc = .ok (.ireturn, 1)) (ha : a = 0 ∨ a = 1) (hp : post (some (.int (zI a))) σ) : zg G X c nL T ce sl pc lv [.int (zI a)] σ := fun H locs ls hz hP hS hl hb => by
  rw [C.2.2.2.2.2.2.2.2.2.1]
  exact W.zret C.1 C.2.1 C.2.2.2.2.2.2.2.1 (by rcases ha with rfl | rfl <;> decide +kernel) (z_end C hz hP hS hb hp) hS.2.2 hd C.2.2.2.2.2.2.1
theorem z_lret (C : zC G X cc nL own (some .long) c fr lo ce sl T post isI l) {a : Int} (hd : decode cc pc = .ok (.lreturn, 1)) (hp : post (some (.long (zJ a))) σ) : zg G X c nL T ce sl pc lv [.long (zJ a)] σ := fun H locs ls hz hP hS hl hb => by
  rw [C.2.2.2.2.2.2.2.2.2.1]
  exact W.lret C.1 C.2.1 C.2.2.2.2.2.2.2.1 (z_end C hz hP hS hb hp) hS.2.2 hd C.2.2.2.2.2.2.1
theorem z_aret {nm : String} (C : zC G X cc nL own (some (.object nm)) c fr lo ce sl T post isI l) {o : Nat} (hd : decode cc pc = .ok (.areturn, 1)) (hp : post (some (.ref (zB G + o))) σ) : zg G X c nL T ce sl pc lv [.ref (zB G + o)] σ := fun H locs ls hz hP hS hl hb => by
  rw [C.2.2.2.2.2.2.2.2.2.1]
  exact W.aret C.1 C.2.1 C.2.2.2.2.2.2.2.1 (Or.inl ⟨_, rfl⟩) (Or.inr ⟨_, rfl⟩) (z_end C hz hP hS hb hp) hS.2.2 hd C.2.2.2.2.2.2.1
theorem z_vret (C : zC G X cc nL own none c fr lo ce sl T post isI l) (hd : decode cc pc = .ok (.return_, 1)) (hp : post none σ) : zg G X c nL T ce sl pc lv [] σ := fun H locs ls hz hP hS hl hb => by
  rw [C.2.2.2.2.2.2.2.2.2.1]
  exact W.vret C.1 C.2.1 C.2.2.2.2.2.2.2.1 (z_end C hz hP hS hb hp) hS.2.2 hd C.2.2.2.2.2.2.1
/-- Math -/
theorem z_max (C : zC G X cc nL own ret c fr lo mc ms T1 post isI l) {a b : Int} {index : Nat} (hl0 : zin (.methodLink own index Lib.Math.max.name)) (hw : zin (.static Lib.Math.max.name) ∧ zin (.initialized "java/lang/Math") ∧ zin (.code Lib.Math.max.name Lib.Math.max.code 2 (some .int))) (hd : decode cc pc = .ok (.invokestatic index, 3)) (hR : (1 ≤ fr ∧ (st.map fun v => v.category).sum + 13 ≤ lo) ∧ ce ≤ mc ∧ sl ≤ ms) (ha : zR a ∧ zR b)
    (kk : zg G X c nL T ce sl (pc + 3) lv (.int (zI (if a < b then b else a)) :: st) σ) : zg G X c nL T ce sl pc lv (.int (zI b) :: .int (zI a) :: st) σ := fun H locs ls hz hP hS hl hb => by
  have hRR := C.2.2.2.2.2.2.2.2.1
  have hTW := C.2.2.2.2.1.2.2.1
  refine va_mmax C.1 C.2.1 (by rw [C.2.2.1]; exact hl.1.symm) C.2.2.2.1 (hTW.use hl0 _) (hTW.use hw.1 _) (hTW.use hw.2.1 _) (hTW.use hw.2.2 _) (by rw [hRR]; exact hR.1.1) (by rw [hRR]; exact hR.1.2) (by rw [hRR]; exact hR.2.1) (by rw [hRR]; exact hR.2.2) hd ?_
  rw [show (if zI a < zI b then zI b else zI a) = zI (if a < b then b else a) by by_cases h : a < b <;> simp [h, zI_lt ha.1 ha.2]]
  exact kk H locs ls hz hP hS hl hb
theorem z_min (C : zC G X cc nL own ret c fr lo mc ms T1 post isI l) {a b : Int} {index : Nat} (hl0 : zin (.methodLink own index Lib.Math.min.name)) (hw : zin (.static Lib.Math.min.name) ∧ zin (.initialized "java/lang/Math") ∧ zin (.code Lib.Math.min.name Lib.Math.min.code 2 (some .int))) (hd : decode cc pc = .ok (.invokestatic index, 3)) (hR : (1 ≤ fr ∧ (st.map fun v => v.category).sum + 13 ≤ lo) ∧ ce ≤ mc ∧ sl ≤ ms) (ha : zR a ∧ zR b)
    (kk : zg G X c nL T ce sl (pc + 3) lv (.int (zI (if b < a then b else a)) :: st) σ) : zg G X c nL T ce sl pc lv (.int (zI b) :: .int (zI a) :: st) σ := fun H locs ls hz hP hS hl hb => by
  have hRR := C.2.2.2.2.2.2.2.2.1
  have hTW := C.2.2.2.2.1.2.2.1
  refine va_mmin C.1 C.2.1 (by rw [C.2.2.1]; exact hl.1.symm) C.2.2.2.1 (hTW.use hl0 _) (hTW.use hw.1 _) (hTW.use hw.2.1 _) (hTW.use hw.2.2 _) (by rw [hRR]; exact hR.1.1) (by rw [hRR]; exact hR.1.2) (by rw [hRR]; exact hR.2.1) (by rw [hRR]; exact hR.2.2) hd ?_
  rw [show (if zI b < zI a then zI b else zI a) = zI (if b < a then b else a) by by_cases h : b < a <;> simp [h, zI_lt ha.2 ha.1]]
  exact kk H locs ls hz hP hS hl hb
theorem z_abs (C : zC G X cc nL own ret c fr lo mc ms T1 post isI l) {a : Int} {index : Nat} (hl0 : zin (.methodLink own index Lib.Math.abs.name)) (hw : zin (.static Lib.Math.abs.name) ∧ zin (.initialized "java/lang/Math") ∧ zin (.code Lib.Math.abs.name Lib.Math.abs.code 1 (some .int))) (hd : decode cc pc = .ok (.invokestatic index, 3)) (hR : (1 ≤ fr ∧ (st.map fun v => v.category).sum + 13 ≤ lo) ∧ ce ≤ mc ∧ sl ≤ ms) (ha : zR a)
    (kk : zg G X c nL T ce sl (pc + 3) lv (.int (zI (if 0 ≤ a then a else 0 - a)) :: st) σ) : zg G X c nL T ce sl pc lv (.int (zI a) :: st) σ := fun H locs ls hz hP hS hl hb => by
  have hRR := C.2.2.2.2.2.2.2.2.1
  have hTW := C.2.2.2.2.1.2.2.1
  refine va_mabs C.1 C.2.1 (by rw [C.2.2.1]; exact hl.1.symm) C.2.2.2.1 (hTW.use hl0 _) (hTW.use hw.1 _) (hTW.use hw.2.1 _) (hTW.use hw.2.2 _) (by rw [hRR]; exact hR.1.1) (by rw [hRR]; exact hR.1.2) (by rw [hRR]; exact hR.2.1) (by rw [hRR]; exact hR.2.2) hd ?_
  have h1 : (if 0 ≤ zI a then zI a else 0 - zI a) = zI (if 0 ≤ a then a else 0 - a) := by
    by_cases h : 0 ≤ a
    · rw [if_pos ((zI_ge0 ha).mpr h), if_pos h]
    · rw [if_neg (fun q => h ((zI_ge0 ha).mp q)), if_neg h, ← zI_sub, zI_0]
  rw [h1]
  exact kk H locs ls hz hP hS hl hb
end ZCALL
