/-! THE CLAIM OUT OF ONE WALK OF THE LAW'S BODY. Your part is whole_start (and what it stands on); all else here is the same for every law, but numbers. -/
def R_law : String := "ThatchLaneLaw"
def lw_P (b : Addr) (xs : List Int32) (args : Array Value) (s : State) : Prop := args = #[.ref b] ∧ s.IntsAt b xs ∧ xs.length ≤ 256 ∧ (Jvm.Cond.and given_1 narrow_1).before args s = true
def lw_Q (_ : Array Value) (s : State) (o : Outcome) (t : State) : Prop := o = .returned (some (.int 1)) ∧ Framed s o t [] 666514 7102705
def lw_Z (below : List Frame) (a : Array Value) (s : State) : State → Prop := fun t => ∃ o, t.status = .running ∧ Ended t below o ∧ lw_Q a s o t
/-- the law's own end, with 1 on the stack, nothing written that was there before, its room as the claim has it -/
theorem lw_ret {p : Program} {l : Launch} {e : Env} {s : State} {m : MethodId} {below : List Frame} {meth : Method} {c : Code} {b : Nat} (hx : p.tables.exec = Jvm.exec) (hb : c.code = code) (hr : meth.sig.returnType = ret) (hlocks : meth.locks = false) {pc : Nat} {H : Heap} {ls : Array Slot} (hdg : decode code pc = .ok (.ireturn, 1)) : W p l e room_1 s m #[Value.ref b] below meth c H [] 666514 7102705 (lw_Z below #[Value.ref b] s) (F0 m pc ls [.int 1]) := by
  intro T hT X
  obtain ⟨fs, hret, hrun, hended, hW, hframe⟩ := X.leave (v := some (.int 1)) (hlocks := hlocks) (fun h => by rw [hr] at h; cases h)
  have hmeth' : T.vm.method? m = some meth := X.method'
  refine ⟨T.setFrames fs, ?_, .returned (some (.int 1)), hrun, hended, rfl, ⟨_, rfl⟩, hW, hframe⟩
  jvm_step X.here [X.here.top, hx, hb, hdg, hmeth', hr, ret, narrow_b1]
  (try refine ⟨rfl, ?_⟩); (try refine ⟨rfl, ?_⟩)
  first | (intro acts; rw [hret _ acts rfl rfl rfl]) | rw [hret _ _ rfl rfl rfl]
  exact Steps.refl _
/-- what holds at the law's entry: the machine, the code, the tables' words (any of lw_tbl by 'hts w (by decide +kernel)'), the script of L ints xs at the cell b, what the Statement gives of the start (any of its parts by flat_of_before) -/
def lw_At (p : Program) (s : State) (m : MethodId) (meth : Method) (c : Code) (b L : Nat) (xs : Nat → Int32) : Prop :=
  p.tables.exec = Jvm.exec ∧ c.code = code ∧ meth.sig.returnType = ret ∧ c.maxLocals = 4 ∧ s.vm.findClass R_law = some m.cls ∧ (∀ w ∈ lw_tbl, w.before #[Value.ref b] s = true) ∧ va_X b L xs s s.heap ∧ b < s.heap.size ∧ meth.locks = false ∧ (Jvm.Cond.and given_1 narrow_1).before #[Value.ref b] s = true

set_option maxRecDepth 100000 in
theorem nC_L_7 : zin (.classLink RL 7 (zq 9).1) := ⟨List.mem_of_getElem? (i := 73) (by decide +kernel), by decide +kernel⟩
set_option maxRecDepth 100000 in
theorem nC_L_10 : zin (.classLink RL 10 (zq 10).1) := ⟨List.mem_of_getElem? (i := 774) (by decide +kernel), by decide +kernel⟩
/-! the world as it is made -/
def zM0 : zMem := fun q k => if zk q = 13 ∧ 5 ≤ k then 1 else 0
theorem zM0_z (a b : Nat) : zZ a b zM0 := fun q _ _ k => rfl
theorem zRf_lt {q k : Nat} (h : zRf q k) : q < 129 := by
  by_cases hq : q < 129
  · exact hq
  · exfalso
    have e : zk q = 99 := by
      unfold zk
      rw [List.getD_eq_getElem?_getD, List.getElem?_eq_none (by rw [zkL_len.1]; omega)]; rfl
    unfold zRf at h
    rw [e, zt_big (by decide)] at h
    omega
theorem zmade_1 {τ1 τ2 : zMem} (h1 : zOn 0 108 zM0 τ1) (h2 : zOn 108 129 τ1 τ2) {q k : Nat} (hr : zRf q k) : τ2 q k = 1 := by
  have hq := zRf_lt hr
  by_cases h : q < 108
  · rw [(h2 q k).2 (by omega)]; exact (h1 q k).1 ⟨by omega, hr⟩
  · exact (h2 q k).1 ⟨by omega, hr⟩
theorem zmade_n {τ1 τ2 : zMem} (h1 : zOn 0 108 zM0 τ1) (h2 : zOn 108 129 τ1 τ2) {q k : Nat} (hr : ¬ zRf q k) : τ2 q k = zM0 q k := by
  rw [(h2 q k).2 (fun z => hr z.2), (h1 q k).2 (fun z => hr z.2)]
theorem zmade_0 {τ1 τ2 : zMem} (h1 : zOn 0 108 zM0 τ1) (h2 : zOn 108 129 τ1 τ2) (q k c : Nat) (hq : zk q = c) (hc : (zt c).getD k 0 < 3 ∧ c ≠ 13) : τ2 q k = 0 := by
  rw [zmade_n h1 h2 (zNk hq hc)]
  unfold zM0
  rw [if_neg (by omega)]
theorem zmade_b {τ1 τ2 : zMem} (h1 : zOn 0 108 zM0 τ1) (h2 : zOn 108 129 τ1 τ2) : zBu true τ2 := by
  refine ⟨fun _ q k hr => ?_, fun q k _ => ?_⟩
  · rw [zmade_1 h1 h2 hr]; decide
  · by_cases hr : zRf q k
    · rw [zmade_1 h1 h2 hr]; omega
    · rw [zmade_n h1 h2 hr]
      unfold zM0
      split <;> omega
theorem zmade_r {τ1 τ2 : zMem} (h1 : zOn 0 108 zM0 τ1) (h2 : zOn 108 129 τ1 τ2) : ∃ g, zOk 0 g ∧ zRc τ2 g ∧ zRm τ2 g := by
  have Z := zmade_0 h1 h2
  refine ⟨((0, 0, 0, fun _ => 0, fun _ => 0, fun _ => 0, fun _ => 0), (0, fun _ => 0, fun _ => 1, fun _ => 0), (0, fun _ => 32), 0, 0, (0, 0, 0, fun _ => 0, fun _ => 0, fun _ => 0, fun _ => 0), (0, fun _ => 0, fun _ => 1, fun _ => 0)), ?_, ?_, ?_⟩
  · have hl : zOl 0 0 0 (fun _ => 0) (fun _ => 0) (fun _ => 0) (fun _ => 0) := ⟨by omega, by omega, by omega, fun j => by dsimp only; omega⟩
    have hs : zSr (fun _ => 0) (fun _ => 1) (fun _ => 0) := fun j => by dsimp only; omega
    exact ⟨hl, ⟨by omega, hs⟩, ⟨by omega, fun j => by dsimp only; omega⟩, by omega, Or.inl rfl, hl, ⟨by omega, hs⟩, fun z => absurd rfl z⟩
  · exact ⟨⟨Z 4 4 1 (by decide) (by decide), Z 4 5 1 (by decide) (by decide), Z 4 6 1 (by decide) (by decide), fun i hi => absurd hi (Nat.not_lt_zero _)⟩, ⟨Z 13 3 8 (by decide) (by decide), fun i hi => absurd hi (Nat.not_lt_zero _)⟩, ⟨Z 1 1 2 (by decide) (by decide), fun i hi => absurd hi (Nat.not_lt_zero _)⟩, Z 0 12 9 (by decide) (by decide), Z 0 11 9 (by decide) (by decide), fun z => absurd rfl z⟩
  · have e29 := Z 108 29 10 (by decide) (by decide)
    have e30 := Z 108 30 10 (by decide) (by decide)
    exact ⟨⟨Z 108 1 10 (by decide) (by decide), Z 108 6 10 (by decide) (by decide), Z 108 5 10 (by decide) (by decide), fun i hi => absurd hi (Nat.not_lt_zero _)⟩, Z 108 7 10 (by decide) (by decide), ⟨Z 108 8 10 (by decide) (by decide), fun i hi => absurd hi (Nat.not_lt_zero _)⟩, ⟨Z 108 12 10 (by decide) (by decide), fun i hi => absurd hi (Nat.not_lt_zero _)⟩, Z 108 0 10 (by decide) (by decide), by omega, Or.inr ⟨rfl, by omega⟩⟩
theorem zand31 (x : Int32) : zI x.toInt &&& zI 31 = zI (x.toInt % 32) := by
  rw [zI_of]
  apply Int32.toBitVec_inj.mp
  rw [Int32.toBitVec_and]
  unfold zI
  rw [Int32.toBitVec_ofInt, Int32.toBitVec_ofInt]
  apply BitVec.eq_of_toNat_eq
  rw [BitVec.toNat_and, BitVec.toNat_ofInt, BitVec.toNat_ofInt]
  have e1 : ((31 : Int) % ((2 ^ 32 : Nat) : Int)).toNat = 2 ^ 5 - 1 := by decide
  rw [e1, Nat.and_two_pow_sub_one_eq_mod]
  have e2 : x.toInt = x.toBitVec.toInt := rfl
  rw [e2, BitVec.toInt_eq_toNat_cond]
  have := x.toBitVec.isLt
  split <;> omega
theorem zcmp0 (z : Int) : lg_cmp (zJ z) (zJ z) = zI 0 := by
  unfold lg_cmp
  rw [if_neg (Int64.lt_irrefl), if_pos rfl, zI_0]
section ZLAW
variable {G : zGt} {X : zXt} {c : Bool} {nL T ce sl pc fr lo mc ms T1 : Nat} {lv : List (Nat × Value)} {st : List Value} {σ : zMem} {cc : ByteArray} {own : String} {ret : Option FieldType} {post : Option Value → zMem → Prop} {isI : Bool} {l : Launch}
theorem z_sld (C : zC G X cc nL own ret c fr lo mc ms T1 post isI l) {b L i : Nat} {xs : Nat → Int32} {a : Int} (hX : va_X b L xs X.2.2.2.2.1 X.2.2.2.2.1.heap) (hbl : b < X.2.2.2.2.1.heap.size) (hbA : ¬ zA G b) (ha : a = i) (hi : i < L) (hL : L ≤ 256) (hd : decode cc pc = .ok (.iaload, 1))
    (kk : zg G X c nL T ce sl (pc + 1) lv (.int (zI (xs i).toInt) :: st) σ) : zg G X c nL T ce sl pc lv (.int (zI a) :: .ref b :: st) σ := fun H locs ls hz hP hS hl hb => by
  subst ha
  refine va_sld C.1 C.2.1 hX hbl hbA hS (zI_in hi (by omega)) hd ?_
  rw [zI_nat (by omega), ← zI_of (xs i)]
  exact kk H locs ls hz hP hS hl hb
theorem z_slen (C : zC G X cc nL own ret c fr lo mc ms T1 post isI l) {b L : Nat} {xs : Nat → Int32} (hX : va_X b L xs X.2.2.2.2.1 X.2.2.2.2.1.heap) (hbl : b < X.2.2.2.2.1.heap.size) (hbA : ¬ zA G b) (hd : decode cc pc = .ok (.arraylength, 1))
    (kk : zg G X c nL T ce sl (pc + 1) lv (.int (zI (L : Int)) :: st) σ) : zg G X c nL T ce sl pc lv (.ref b :: st) σ := fun H locs ls hz hP hS hl hb => by
  refine va_slen C.1 C.2.1 hX hbl hbA hS hd ?_
  rw [show Int32.ofNat L = zI (L : Int) from Int32.ofInt_eq_ofNat.symm]
  exact kk H locs ls hz hP hS hl hb
theorem z_LV (C : zC G X cc nL own ret true 2048 84000 mc ms T1 post isI l) {y : MethodName} {ccy : ByteArray} {nLy ky : Nat} {rety : Option FieldType} {n ci o index : Nat} {av As rest : List Value} {posty : Option Value → zMem → Prop}
    (hM : zN l G y ccy nLy rety ky av σ posty) (hl : zml own index y) (hy : zcv y ci ccy nLy rety n) (hd : decode cc pc = .ok (.invokevirtual index, 3)) (hk : zk o = ci) (ho : o < 129) (hav : av = .ref (zB G + o) :: As) (hst : st = As.reverse ++ .ref (zB G + o) :: rest) (hn : As.length = n) (hW : (rest.map fun v => v.category).sum ≤ 8) (hR : ky ≤ 100 ∧ nLy ≤ 45) (hc : ce ≤ mc ∧ sl ≤ ms)
    (kk : ∀ (v : Option Value) (τ : zMem), posty v τ → zg G X true nL 129 ce sl (pc + 3) lv (v.toList ++ rest) τ) : zg G X true nL 129 ce sl pc lv st σ :=
  z_V C hM hl hy hd hk ho hav hst hn hW ⟨⟨by omega, by omega⟩, by omega, by omega⟩ (Nat.le_refl _) kk
theorem z_full (hb2 : zBu true σ) (kk : zg G X true nL T ce sl pc lv st σ) : zg G X false nL T ce sl pc lv st σ := fun H locs ls hz hP hS hl _ => kk H locs ls hz hP hS hl hb2
end ZLAW
def zPo : Option Value → zMem → Prop := fun v σ => v = some (.int (zI 1)) ∧ zBu true σ
theorem zQ_eq (G : zGt) : zQ G false 129 zPo = zQ G true 129 zPo := by
  funext a st oc t
  apply propext
  constructor
  · rintro ⟨v, σ, h1, h2, -, h3⟩
    exact ⟨v, σ, h1, h2, h2.2, h3⟩
  · rintro ⟨v, σ, h1, h2, h4, h3⟩
    exact ⟨v, σ, h1, h2, ⟨(fun q => by cases q), h4.2⟩, h3⟩
/-- the law's own answer out of the walk's -/
theorem zMQ_end {G : zGt} {s : State} {below : List Frame} {b : Nat} (hG : zB G = s.heap.size) : ∀ t, MQ below (zQ G true 129 zPo) #[Value.ref b] s 666514 7102705 (zA G) t → lw_Z below #[Value.ref b] s t := by
  rintro t ⟨o, h1, h2, ⟨v, σ, rfl, hp, -⟩, L, ⟨hv, hW, hsame⟩, hL⟩
  refine ⟨_, h1, h2, ?_, hv, hW, hsame.weaken (fun y hy hlt => absurd hlt (Nat.not_lt.mpr (by have := hL y hy; rw [← hG]; exact this))) (Nat.le_refl _) (Nat.le_refl _)⟩
  rw [hp.1]; rfl
set_option maxHeartbeats 8000000 in
set_option maxRecDepth 100000 in
theorem z_loop {G : zGt} {X : zXt} {l : Launch} {b L : Nat} {xs : Nat → Int32} (C : zC G X code 4 RL (some .boolean) true 2048 84000 666514 7102705 129 zPo false l) (hX : va_X b L xs X.2.2.2.2.1 X.2.2.2.2.1.heap) (hbl : b < X.2.2.2.2.1.heap.size) (hbA : ¬ zA G b) (hL : L ≤ 256) : ∀ (fuel i : Nat) (σ : zMem) (g : zGs), 300 - i < fuel → i ≤ 256 → zOk (i : Int) g → zRc σ g → zRm σ g → zBu true σ → zg G X true 4 129 129 882 18 [(0, .ref b), (1, .ref (zB G + 0)), (2, .ref (zB G + 108)), (3, .int (zI (i : Int)))] [] σ := by
  intro fuel
  induction fuel with
  | zero => intro i σ g hm; exact absurd hm (Nat.not_lt_zero _)
  | succ fuel ih =>
    intro i σ g hm hi hok hc hmo hbu
    refine z_iload_n (pc := 18) C dL_law_18 rfl 3 rfl ?_
    refine z_aload_n (pc := 19) C dL_law_19 rfl 0 rfl ?_
    refine z_slen (pc := 20) C hX hbl hbA dL_law_20 ?_
    refine z_iconst (pc := 21) C dL_law_21 ?_
    refine z_isub (pc := 22) C dL_law_22 ?_
    refine z_icmp_gt (pc := 23) (tgt := 810) C dL_law_23 (by decide) ⟨by omega, by omega⟩ (fun c23 => ?_) (fun c23 => ?_)
    · refine z_iconst (pc := 810) C dL_law_810 ?_
      refine z_widen (ce2 := 666514) (sl2 := 7102705) (by decide) (by decide) ?_
      exact z_zret (pc := 811) C dL_law_811 (Or.inr rfl) ⟨rfl, hbu⟩
    have hi4 : i + 4 ≤ L := by omega
    have J804 : ∀ (τ : zMem) (g2 : zGs), zOk ((i : Int) + 1) g2 → zRc τ g2 → zRm τ g2 → zg G X true 4 129 129 882 804 [(0, .ref b), (1, .ref (zB G + 0)), (2, .ref (zB G + 108)), (3, .int (zI (i : Int)))] [] τ := by
      intro τ g2 k1 k2 k3
      intro H locs ls hz hP hS hl hb
      refine (?_ : zg G X true 4 129 129 882 804 [(0, .ref b), (1, .ref (zB G + 0)), (2, .ref (zB G + 108)), (3, .int (zI (i : Int)))] [] τ) H locs ls hz hP hS hl hb
      refine z_iinc (pc := 804) (lv' := [(3, _), (0, _), (1, _), (2, _)]) C dL_law_804 3 rfl (by decide) rfl ?_
      refine z_goto (pc := 807) (tgt := 18) C dL_law_807 (by decide) ?_
      refine z_subc [1, 2, 3, 0] rfl ?_
      exact ih (i + 4) τ g2 (by omega) (by omega) (k1.up (by omega)) k2 k3 hb
    refine z_aload_n (pc := 26) C dL_law_26 rfl 0 rfl ?_
    refine z_iload_n (pc := 27) C dL_law_27 rfl 3 rfl ?_
    refine z_sld (pc := 28) C hX hbl hbA rfl (show i < L by omega) hL dL_law_28 ?_
    refine z_bipush (pc := 29) C dL_law_29 (by decide +kernel) ?_
    refine z_iand (pc := 31) (r := (xs i).toInt % 32) C dL_law_31 (zand31 (xs i)) ?_
    have hx1 := zR_of (xs (i + 1))
    have hx2 := zR_of (xs (i + 2))
    have hx3 := zR_of (xs (i + 3))
    by_cases w32 : (xs i).toInt % 32 < 0 ∨ 24 < (xs i).toInt % 32
    · refine z_tableOut (pc := 32) (tgt := 804) C dL_law_32 (by omega) (by omega) (by decide) ?_
      exact J804 σ g (hok.up (by omega)) hc hmo
    by_cases w32_0 : (xs i).toInt % 32 = 0
    · refine z_tableIn (pc := 32) (off := 116) (tgt := 148) C dL_law_32 (by omega) (by omega) (by omega) (by rw [show ((xs i).toInt % 32 - 0).toNat = 0 by omega]; rfl) (by decide) ?_
      obtain ⟨x, g2, hok2, h9, h10⟩ := k_letter l G (i : Int) (by omega) g hok (xs (i + 1)).toInt hx1
      obtain ⟨q9, c9, i9⟩ := h9 σ hc
      refine z_aload_n (pc := 148) C dL_law_148 rfl 1 rfl ?_
      refine z_aload_n (pc := 149) C dL_law_149 rfl 0 rfl ?_
      refine z_iload_n (pc := 150) C dL_law_150 rfl 3 rfl ?_
      refine z_iconst (pc := 151) C dL_law_151 ?_
      refine z_iadd (pc := 152) C dL_law_152 ?_
      refine z_sld (pc := 153) C hX hbl hbA (i := i + 1) rfl (by omega) hL dL_law_153 ?_
      refine z_LV (pc := 154) (o := 0) (As := [.int (zI (xs (i + 1)).toInt)]) (rest := []) C c9 ml_L_13 yw_X9_letter dL_law_154 (by decide) (by decide) rfl rfl rfl (Nat.le_of_ble_eq_true rfl) ⟨by decide, by decide⟩ ⟨by decide, by decide⟩ (fun v τ9 hq => ?_)
      obtain ⟨r9, rfl, hr9, hq⟩ := hq
      obtain ⟨rfl, hc9, hh9⟩ := i9 _ _ hq
      obtain ⟨q10, c10, i10⟩ := h10 τ9 (hmo.fr hh9)
      refine z_aload_n (pc := 157) C dL_law_157 rfl 2 rfl ?_
      refine z_aload_n (pc := 158) C dL_law_158 rfl 0 rfl ?_
      refine z_iload_n (pc := 159) C dL_law_159 rfl 3 rfl ?_
      refine z_iconst (pc := 160) C dL_law_160 ?_
      refine z_iadd (pc := 161) C dL_law_161 ?_
      refine z_sld (pc := 162) C hX hbl hbA (i := i + 1) rfl (by omega) hL dL_law_162 ?_
      refine z_LV (pc := 163) (o := 108) (As := [.int (zI (xs (i + 1)).toInt)]) (rest := [.int (zI r9)]) C c10 ml_L_17 yw_X10_letter dL_law_163 (by decide) (by decide) rfl rfl rfl (Nat.le_of_ble_eq_true rfl) ⟨by decide, by decide⟩ ⟨by decide, by decide⟩ (fun v τ10 hq => ?_)
      obtain ⟨r10, rfl, hr10, hq⟩ := hq
      obtain ⟨e10, hm10, hh10⟩ := i10 _ _ hq
      subst e10
      refine z_icmp_eq (pc := 166) (tgt := 804) C dL_law_166 (by decide) ⟨by omega, by omega⟩ (fun _ => ?_) (fun cne => absurd rfl cne)
      exact J804 τ10 g2 hok2 (hc9.fr (fun o k ho => hh10 o k (by omega))) hm10
    by_cases w32_1 : (xs i).toInt % 32 = 1
    · refine z_tableIn (pc := 32) (off := 139) (tgt := 171) C dL_law_32 (by omega) (by omega) (by omega) (by rw [show ((xs i).toInt % 32 - 0).toNat = 1 by omega]; rfl) (by decide) ?_
      obtain ⟨x, g2, hok2, h9, h10⟩ := k_blank l G (i : Int) (by omega) g hok
      obtain ⟨q9, c9, i9⟩ := h9 σ hc
      refine z_aload_n (pc := 171) C dL_law_171 rfl 1 rfl ?_
      refine z_LV (pc := 172) (o := 0) (As := []) (rest := []) C c9 ml_L_18 yw_X9_blank dL_law_172 (by decide) (by decide) rfl rfl rfl (Nat.le_of_ble_eq_true rfl) ⟨by decide, by decide⟩ ⟨by decide, by decide⟩ (fun v τ9 hq => ?_)
      obtain ⟨r9, rfl, hr9, hq⟩ := hq
      obtain ⟨rfl, hc9, hh9⟩ := i9 _ _ hq
      obtain ⟨q10, c10, i10⟩ := h10 τ9 (hmo.fr hh9)
      refine z_aload_n (pc := 175) C dL_law_175 rfl 2 rfl ?_
      refine z_LV (pc := 176) (o := 108) (As := []) (rest := [.int (zI r9)]) C c10 ml_L_22 yw_X10_blank dL_law_176 (by decide) (by decide) rfl rfl rfl (Nat.le_of_ble_eq_true rfl) ⟨by decide, by decide⟩ ⟨by decide, by decide⟩ (fun v τ10 hq => ?_)
      obtain ⟨r10, rfl, hr10, hq⟩ := hq
      obtain ⟨e10, hm10, hh10⟩ := i10 _ _ hq
      subst e10
      refine z_icmp_eq (pc := 179) (tgt := 804) C dL_law_179 (by decide) ⟨by omega, by omega⟩ (fun _ => ?_) (fun cne => absurd rfl cne)
      exact J804 τ10 g2 hok2 (hc9.fr (fun o k ho => hh10 o k (by omega))) hm10
    by_cases w32_2 : (xs i).toInt % 32 = 2
    · refine z_tableIn (pc := 32) (off := 152) (tgt := 184) C dL_law_32 (by omega) (by omega) (by omega) (by rw [show ((xs i).toInt % 32 - 0).toNat = 2 by omega]; rfl) (by decide) ?_
      obtain ⟨x, g2, hok2, h9, h10⟩ := k_fault l G (i : Int) (by omega) g hok
      obtain ⟨q9, c9, i9⟩ := h9 σ hc
      refine z_aload_n (pc := 184) C dL_law_184 rfl 1 rfl ?_
      refine z_LV (pc := 185) (o := 0) (As := []) (rest := []) C c9 ml_L_23 yw_X9_fault dL_law_185 (by decide) (by decide) rfl rfl rfl (Nat.le_of_ble_eq_true rfl) ⟨by decide, by decide⟩ ⟨by decide, by decide⟩ (fun v τ9 hq => ?_)
      obtain ⟨r9, rfl, hr9, hq⟩ := hq
      obtain ⟨rfl, hc9, hh9⟩ := i9 _ _ hq
      obtain ⟨q10, c10, i10⟩ := h10 τ9 (hmo.fr hh9)
      refine z_aload_n (pc := 188) C dL_law_188 rfl 2 rfl ?_
      refine z_LV (pc := 189) (o := 108) (As := []) (rest := [.int (zI r9)]) C c10 ml_L_26 yw_X10_fault dL_law_189 (by decide) (by decide) rfl rfl rfl (Nat.le_of_ble_eq_true rfl) ⟨by decide, by decide⟩ ⟨by decide, by decide⟩ (fun v τ10 hq => ?_)
      obtain ⟨r10, rfl, hr10, hq⟩ := hq
      obtain ⟨e10, hm10, hh10⟩ := i10 _ _ hq
      subst e10
      refine z_icmp_eq (pc := 192) (tgt := 804) C dL_law_192 (by decide) ⟨by omega, by omega⟩ (fun _ => ?_) (fun cne => absurd rfl cne)
      exact J804 τ10 g2 hok2 (hc9.fr (fun o k ho => hh10 o k (by omega))) hm10
    by_cases w32_3 : (xs i).toInt % 32 = 3
    · refine z_tableIn (pc := 32) (off := 165) (tgt := 197) C dL_law_32 (by omega) (by omega) (by omega) (by rw [show ((xs i).toInt % 32 - 0).toNat = 3 by omega]; rfl) (by decide) ?_
      obtain ⟨x, g2, hok2, h9, h10⟩ := k_lane l G (i : Int) (by omega) g hok
      obtain ⟨q9, c9, i9⟩ := h9 σ hc
      refine z_aload_n (pc := 197) C dL_law_197 rfl 1 rfl ?_
      refine z_LV (pc := 198) (o := 0) (As := []) (rest := []) C c9 ml_L_27 yw_X9_lane dL_law_198 (by decide) (by decide) rfl rfl rfl (Nat.le_of_ble_eq_true rfl) ⟨by decide, by decide⟩ ⟨by decide, by decide⟩ (fun v τ9 hq => ?_)
      obtain ⟨r9, rfl, hr9, hq⟩ := hq
      obtain ⟨rfl, hc9, hh9⟩ := i9 _ _ hq
      obtain ⟨q10, c10, i10⟩ := h10 τ9 (hmo.fr hh9)
      refine z_aload_n (pc := 201) C dL_law_201 rfl 2 rfl ?_
      refine z_LV (pc := 202) (o := 108) (As := []) (rest := [.int (zI r9)]) C c10 ml_L_30 yw_X10_lane dL_law_202 (by decide) (by decide) rfl rfl rfl (Nat.le_of_ble_eq_true rfl) ⟨by decide, by decide⟩ ⟨by decide, by decide⟩ (fun v τ10 hq => ?_)
      obtain ⟨r10, rfl, hr10, hq⟩ := hq
      obtain ⟨e10, hm10, hh10⟩ := i10 _ _ hq
      subst e10
      refine z_icmp_eq (pc := 205) (tgt := 804) C dL_law_205 (by decide) ⟨by omega, by omega⟩ (fun _ => ?_) (fun cne => absurd rfl cne)
      exact J804 τ10 g2 hok2 (hc9.fr (fun o k ho => hh10 o k (by omega))) hm10
    by_cases w32_4 : (xs i).toInt % 32 = 4
    · refine z_tableIn (pc := 32) (off := 178) (tgt := 210) C dL_law_32 (by omega) (by omega) (by omega) (by rw [show ((xs i).toInt % 32 - 0).toNat = 4 by omega]; rfl) (by decide) ?_
      obtain ⟨x, g2, hok2, h9, h10⟩ := k_house l G (i : Int) (by omega) g hok (xs (i + 1)).toInt hx1 (xs (i + 2)).toInt hx2
      obtain ⟨q9, c9, i9⟩ := h9 σ hc
      refine z_aload_n (pc := 210) C dL_law_210 rfl 1 rfl ?_
      refine z_aload_n (pc := 211) C dL_law_211 rfl 0 rfl ?_
      refine z_iload_n (pc := 212) C dL_law_212 rfl 3 rfl ?_
      refine z_iconst (pc := 213) C dL_law_213 ?_
      refine z_iadd (pc := 214) C dL_law_214 ?_
      refine z_sld (pc := 215) C hX hbl hbA (i := i + 1) rfl (by omega) hL dL_law_215 ?_
      refine z_aload_n (pc := 216) C dL_law_216 rfl 0 rfl ?_
      refine z_iload_n (pc := 217) C dL_law_217 rfl 3 rfl ?_
      refine z_iconst (pc := 218) C dL_law_218 ?_
      refine z_iadd (pc := 219) C dL_law_219 ?_
      refine z_sld (pc := 220) C hX hbl hbA (i := i + 2) rfl (by omega) hL dL_law_220 ?_
      refine z_LV (pc := 221) (o := 0) (As := [.int (zI (xs (i + 1)).toInt), .int (zI (xs (i + 2)).toInt)]) (rest := []) C c9 ml_L_31 yw_X9_house dL_law_221 (by decide) (by decide) rfl rfl rfl (Nat.le_of_ble_eq_true rfl) ⟨by decide, by decide⟩ ⟨by decide, by decide⟩ (fun v τ9 hq => ?_)
      obtain ⟨r9, rfl, hr9, hq⟩ := hq
      obtain ⟨rfl, hc9, hh9⟩ := i9 _ _ hq
      obtain ⟨q10, c10, i10⟩ := h10 τ9 (hmo.fr hh9)
      refine z_aload_n (pc := 224) C dL_law_224 rfl 2 rfl ?_
      refine z_aload_n (pc := 225) C dL_law_225 rfl 0 rfl ?_
      refine z_iload_n (pc := 226) C dL_law_226 rfl 3 rfl ?_
      refine z_iconst (pc := 227) C dL_law_227 ?_
      refine z_iadd (pc := 228) C dL_law_228 ?_
      refine z_sld (pc := 229) C hX hbl hbA (i := i + 1) rfl (by omega) hL dL_law_229 ?_
      refine z_aload_n (pc := 230) C dL_law_230 rfl 0 rfl ?_
      refine z_iload_n (pc := 231) C dL_law_231 rfl 3 rfl ?_
      refine z_iconst (pc := 232) C dL_law_232 ?_
      refine z_iadd (pc := 233) C dL_law_233 ?_
      refine z_sld (pc := 234) C hX hbl hbA (i := i + 2) rfl (by omega) hL dL_law_234 ?_
      refine z_LV (pc := 235) (o := 108) (As := [.int (zI (xs (i + 1)).toInt), .int (zI (xs (i + 2)).toInt)]) (rest := [.int (zI r9)]) C c10 ml_L_35 yw_X10_house dL_law_235 (by decide) (by decide) rfl rfl rfl (Nat.le_of_ble_eq_true rfl) ⟨by decide, by decide⟩ ⟨by decide, by decide⟩ (fun v τ10 hq => ?_)
      obtain ⟨r10, rfl, hr10, hq⟩ := hq
      obtain ⟨e10, hm10, hh10⟩ := i10 _ _ hq
      subst e10
      refine z_icmp_eq (pc := 238) (tgt := 804) C dL_law_238 (by decide) ⟨by omega, by omega⟩ (fun _ => ?_) (fun cne => absurd rfl cne)
      exact J804 τ10 g2 hok2 (hc9.fr (fun o k ho => hh10 o k (by omega))) hm10
    by_cases w32_5 : (xs i).toInt % 32 = 5
    · refine z_tableIn (pc := 32) (off := 211) (tgt := 243) C dL_law_32 (by omega) (by omega) (by omega) (by rw [show ((xs i).toInt % 32 - 0).toNat = 5 by omega]; rfl) (by decide) ?_
      obtain ⟨x, g2, hok2, h9, h10⟩ := k_as l G (i : Int) (by omega) g hok (xs (i + 1)).toInt hx1 (xs (i + 2)).toInt hx2
      obtain ⟨q9, c9, i9⟩ := h9 σ hc
      refine z_aload_n (pc := 243) C dL_law_243 rfl 1 rfl ?_
      refine z_aload_n (pc := 244) C dL_law_244 rfl 0 rfl ?_
      refine z_iload_n (pc := 245) C dL_law_245 rfl 3 rfl ?_
      refine z_iconst (pc := 246) C dL_law_246 ?_
      refine z_iadd (pc := 247) C dL_law_247 ?_
      refine z_sld (pc := 248) C hX hbl hbA (i := i + 1) rfl (by omega) hL dL_law_248 ?_
      refine z_aload_n (pc := 249) C dL_law_249 rfl 0 rfl ?_
      refine z_iload_n (pc := 250) C dL_law_250 rfl 3 rfl ?_
      refine z_iconst (pc := 251) C dL_law_251 ?_
      refine z_iadd (pc := 252) C dL_law_252 ?_
      refine z_sld (pc := 253) C hX hbl hbA (i := i + 2) rfl (by omega) hL dL_law_253 ?_
      refine z_LV (pc := 254) (o := 0) (As := [.int (zI (xs (i + 1)).toInt), .int (zI (xs (i + 2)).toInt)]) (rest := []) C c9 ml_L_36 yw_X9_as dL_law_254 (by decide) (by decide) rfl rfl rfl (Nat.le_of_ble_eq_true rfl) ⟨by decide, by decide⟩ ⟨by decide, by decide⟩ (fun v τ9 hq => ?_)
      obtain ⟨r9, rfl, hr9, hq⟩ := hq
      obtain ⟨rfl, hc9, hh9⟩ := i9 _ _ hq
      obtain ⟨q10, c10, i10⟩ := h10 τ9 (hmo.fr hh9)
      refine z_aload_n (pc := 257) C dL_law_257 rfl 2 rfl ?_
      refine z_aload_n (pc := 258) C dL_law_258 rfl 0 rfl ?_
      refine z_iload_n (pc := 259) C dL_law_259 rfl 3 rfl ?_
      refine z_iconst (pc := 260) C dL_law_260 ?_
      refine z_iadd (pc := 261) C dL_law_261 ?_
      refine z_sld (pc := 262) C hX hbl hbA (i := i + 1) rfl (by omega) hL dL_law_262 ?_
      refine z_aload_n (pc := 263) C dL_law_263 rfl 0 rfl ?_
      refine z_iload_n (pc := 264) C dL_law_264 rfl 3 rfl ?_
      refine z_iconst (pc := 265) C dL_law_265 ?_
      refine z_iadd (pc := 266) C dL_law_266 ?_
      refine z_sld (pc := 267) C hX hbl hbA (i := i + 2) rfl (by omega) hL dL_law_267 ?_
      refine z_LV (pc := 268) (o := 108) (As := [.int (zI (xs (i + 1)).toInt), .int (zI (xs (i + 2)).toInt)]) (rest := [.int (zI r9)]) C c10 ml_L_39 yw_X10_as dL_law_268 (by decide) (by decide) rfl rfl rfl (Nat.le_of_ble_eq_true rfl) ⟨by decide, by decide⟩ ⟨by decide, by decide⟩ (fun v τ10 hq => ?_)
      obtain ⟨r10, rfl, hr10, hq⟩ := hq
      obtain ⟨e10, hm10, hh10⟩ := i10 _ _ hq
      subst e10
      refine z_icmp_eq (pc := 271) (tgt := 804) C dL_law_271 (by decide) ⟨by omega, by omega⟩ (fun _ => ?_) (fun cne => absurd rfl cne)
      exact J804 τ10 g2 hok2 (hc9.fr (fun o k ho => hh10 o k (by omega))) hm10
    by_cases w32_6 : (xs i).toInt % 32 = 6
    · refine z_tableIn (pc := 32) (off := 244) (tgt := 276) C dL_law_32 (by omega) (by omega) (by omega) (by rw [show ((xs i).toInt % 32 - 0).toNat = 6 by omega]; rfl) (by decide) ?_
      obtain ⟨x, g2, hok2, h9, h10⟩ := k_reaches l G (i : Int) (by omega) g hok (xs (i + 1)).toInt hx1 (xs (i + 2)).toInt hx2
      obtain ⟨q9, c9, i9⟩ := h9 σ hc
      refine z_aload_n (pc := 276) C dL_law_276 rfl 1 rfl ?_
      refine z_aload_n (pc := 277) C dL_law_277 rfl 0 rfl ?_
      refine z_iload_n (pc := 278) C dL_law_278 rfl 3 rfl ?_
      refine z_iconst (pc := 279) C dL_law_279 ?_
      refine z_iadd (pc := 280) C dL_law_280 ?_
      refine z_sld (pc := 281) C hX hbl hbA (i := i + 1) rfl (by omega) hL dL_law_281 ?_
      refine z_aload_n (pc := 282) C dL_law_282 rfl 0 rfl ?_
      refine z_iload_n (pc := 283) C dL_law_283 rfl 3 rfl ?_
      refine z_iconst (pc := 284) C dL_law_284 ?_
      refine z_iadd (pc := 285) C dL_law_285 ?_
      refine z_sld (pc := 286) C hX hbl hbA (i := i + 2) rfl (by omega) hL dL_law_286 ?_
      refine z_LV (pc := 287) (o := 0) (As := [.int (zI (xs (i + 1)).toInt), .int (zI (xs (i + 2)).toInt)]) (rest := []) C c9 ml_L_40 yw_X9_reaches dL_law_287 (by decide) (by decide) rfl rfl rfl (Nat.le_of_ble_eq_true rfl) ⟨by decide, by decide⟩ ⟨by decide, by decide⟩ (fun v τ9 hq => ?_)
      obtain ⟨r9, rfl, hr9, hq⟩ := hq
      obtain ⟨rfl, hc9, hh9⟩ := i9 _ _ hq
      obtain ⟨q10, c10, i10⟩ := h10 τ9 (hmo.fr hh9)
      refine z_aload_n (pc := 290) C dL_law_290 rfl 2 rfl ?_
      refine z_aload_n (pc := 291) C dL_law_291 rfl 0 rfl ?_
      refine z_iload_n (pc := 292) C dL_law_292 rfl 3 rfl ?_
      refine z_iconst (pc := 293) C dL_law_293 ?_
      refine z_iadd (pc := 294) C dL_law_294 ?_
      refine z_sld (pc := 295) C hX hbl hbA (i := i + 1) rfl (by omega) hL dL_law_295 ?_
      refine z_aload_n (pc := 296) C dL_law_296 rfl 0 rfl ?_
      refine z_iload_n (pc := 297) C dL_law_297 rfl 3 rfl ?_
      refine z_iconst (pc := 298) C dL_law_298 ?_
      refine z_iadd (pc := 299) C dL_law_299 ?_
      refine z_sld (pc := 300) C hX hbl hbA (i := i + 2) rfl (by omega) hL dL_law_300 ?_
      refine z_LV (pc := 301) (o := 108) (As := [.int (zI (xs (i + 1)).toInt), .int (zI (xs (i + 2)).toInt)]) (rest := [.int (zI r9)]) C c10 ml_L_43 yw_X10_reaches dL_law_301 (by decide) (by decide) rfl rfl rfl (Nat.le_of_ble_eq_true rfl) ⟨by decide, by decide⟩ ⟨by decide, by decide⟩ (fun v τ10 hq => ?_)
      obtain ⟨r10, rfl, hr10, hq⟩ := hq
      obtain ⟨e10, hm10, hh10⟩ := i10 _ _ hq
      subst e10
      refine z_icmp_eq (pc := 304) (tgt := 804) C dL_law_304 (by decide) ⟨by omega, by omega⟩ (fun _ => ?_) (fun cne => absurd rfl cne)
      exact J804 τ10 g2 hok2 (hc9.fr (fun o k ho => hh10 o k (by omega))) hm10
    by_cases w32_7 : (xs i).toInt % 32 = 7
    · refine z_tableIn (pc := 32) (off := 277) (tgt := 309) C dL_law_32 (by omega) (by omega) (by omega) (by rw [show ((xs i).toInt % 32 - 0).toNat = 7 by omega]; rfl) (by decide) ?_
      obtain ⟨x, g2, hok2, h9, h10⟩ := k_wet l G (i : Int) (by omega) g hok (xs (i + 1)).toInt hx1
      obtain ⟨q9, c9, i9⟩ := h9 σ hc
      refine z_aload_n (pc := 309) C dL_law_309 rfl 1 rfl ?_
      refine z_aload_n (pc := 310) C dL_law_310 rfl 0 rfl ?_
      refine z_iload_n (pc := 311) C dL_law_311 rfl 3 rfl ?_
      refine z_iconst (pc := 312) C dL_law_312 ?_
      refine z_iadd (pc := 313) C dL_law_313 ?_
      refine z_sld (pc := 314) C hX hbl hbA (i := i + 1) rfl (by omega) hL dL_law_314 ?_
      refine z_LV (pc := 315) (o := 0) (As := [.int (zI (xs (i + 1)).toInt)]) (rest := []) C c9 ml_L_44 yw_X9_wet dL_law_315 (by decide) (by decide) rfl rfl rfl (Nat.le_of_ble_eq_true rfl) ⟨by decide, by decide⟩ ⟨by decide, by decide⟩ (fun v τ9 hq => ?_)
      obtain ⟨r9, rfl, hr9, hq⟩ := hq
      obtain ⟨rfl, hc9, hh9⟩ := i9 _ _ hq
      obtain ⟨q10, c10, i10⟩ := h10 τ9 (hmo.fr hh9)
      refine z_aload_n (pc := 318) C dL_law_318 rfl 2 rfl ?_
      refine z_aload_n (pc := 319) C dL_law_319 rfl 0 rfl ?_
      refine z_iload_n (pc := 320) C dL_law_320 rfl 3 rfl ?_
      refine z_iconst (pc := 321) C dL_law_321 ?_
      refine z_iadd (pc := 322) C dL_law_322 ?_
      refine z_sld (pc := 323) C hX hbl hbA (i := i + 1) rfl (by omega) hL dL_law_323 ?_
      refine z_LV (pc := 324) (o := 108) (As := [.int (zI (xs (i + 1)).toInt)]) (rest := [.int (zI r9)]) C c10 ml_L_47 yw_X10_wet dL_law_324 (by decide) (by decide) rfl rfl rfl (Nat.le_of_ble_eq_true rfl) ⟨by decide, by decide⟩ ⟨by decide, by decide⟩ (fun v τ10 hq => ?_)
      obtain ⟨r10, rfl, hr10, hq⟩ := hq
      obtain ⟨e10, hm10, hh10⟩ := i10 _ _ hq
      subst e10
      refine z_icmp_eq (pc := 327) (tgt := 804) C dL_law_327 (by decide) ⟨by omega, by omega⟩ (fun _ => ?_) (fun cne => absurd rfl cne)
      exact J804 τ10 g2 hok2 (hc9.fr (fun o k ho => hh10 o k (by omega))) hm10
    by_cases w32_8 : (xs i).toInt % 32 = 8
    · refine z_tableIn (pc := 32) (off := 300) (tgt := 332) C dL_law_32 (by omega) (by omega) (by omega) (by rw [show ((xs i).toInt % 32 - 0).toNat = 8 by omega]; rfl) (by decide) ?_
      obtain ⟨x, g2, hok2, h9, h10⟩ := k_year l G (i : Int) (by omega) g hok
      obtain ⟨q9, c9, i9⟩ := h9 σ hc
      refine z_aload_n (pc := 332) C dL_law_332 rfl 1 rfl ?_
      refine z_LV (pc := 333) (o := 0) (As := []) (rest := []) C c9 ml_L_48 yw_X9_year dL_law_333 (by decide) (by decide) rfl rfl rfl (Nat.le_of_ble_eq_true rfl) ⟨by decide, by decide⟩ ⟨by decide, by decide⟩ (fun v τ9 hq => ?_)
      obtain ⟨r9, rfl, hr9, hq⟩ := hq
      obtain ⟨rfl, hc9, hh9⟩ := i9 _ _ hq
      obtain ⟨q10, c10, i10⟩ := h10 τ9 (hmo.fr hh9)
      refine z_aload_n (pc := 336) C dL_law_336 rfl 2 rfl ?_
      refine z_LV (pc := 337) (o := 108) (As := []) (rest := [.int (zI r9)]) C c10 ml_L_51 yw_X10_year dL_law_337 (by decide) (by decide) rfl rfl rfl (Nat.le_of_ble_eq_true rfl) ⟨by decide, by decide⟩ ⟨by decide, by decide⟩ (fun v τ10 hq => ?_)
      obtain ⟨r10, rfl, hr10, hq⟩ := hq
      obtain ⟨e10, hm10, hh10⟩ := i10 _ _ hq
      subst e10
      refine z_icmp_eq (pc := 340) (tgt := 804) C dL_law_340 (by decide) ⟨by omega, by omega⟩ (fun _ => ?_) (fun cne => absurd rfl cne)
      exact J804 τ10 g2 hok2 (hc9.fr (fun o k ho => hh10 o k (by omega))) hm10
    by_cases w32_9 : (xs i).toInt % 32 = 9
    · refine z_tableIn (pc := 32) (off := 313) (tgt := 345) C dL_law_32 (by omega) (by omega) (by omega) (by rw [show ((xs i).toInt % 32 - 0).toNat = 9 by omega]; rfl) (by decide) ?_
      obtain ⟨x, g2, hok2, h9, h10⟩ := k_rain l G (i : Int) (by omega) g hok (xs (i + 1)).toInt hx1
      obtain ⟨q9, c9, i9⟩ := h9 σ hc
      refine z_aload_n (pc := 345) C dL_law_345 rfl 1 rfl ?_
      refine z_aload_n (pc := 346) C dL_law_346 rfl 0 rfl ?_
      refine z_iload_n (pc := 347) C dL_law_347 rfl 3 rfl ?_
      refine z_iconst (pc := 348) C dL_law_348 ?_
      refine z_iadd (pc := 349) C dL_law_349 ?_
      refine z_sld (pc := 350) C hX hbl hbA (i := i + 1) rfl (by omega) hL dL_law_350 ?_
      refine z_LV (pc := 351) (o := 0) (As := [.int (zI (xs (i + 1)).toInt)]) (rest := []) C c9 ml_L_52 yw_X9_rain dL_law_351 (by decide) (by decide) rfl rfl rfl (Nat.le_of_ble_eq_true rfl) ⟨by decide, by decide⟩ ⟨by decide, by decide⟩ (fun v τ9 hq => ?_)
      obtain ⟨r9, rfl, hr9, hq⟩ := hq
      obtain ⟨rfl, hc9, hh9⟩ := i9 _ _ hq
      obtain ⟨q10, c10, i10⟩ := h10 τ9 (hmo.fr hh9)
      refine z_aload_n (pc := 354) C dL_law_354 rfl 2 rfl ?_
      refine z_aload_n (pc := 355) C dL_law_355 rfl 0 rfl ?_
      refine z_iload_n (pc := 356) C dL_law_356 rfl 3 rfl ?_
      refine z_iconst (pc := 357) C dL_law_357 ?_
      refine z_iadd (pc := 358) C dL_law_358 ?_
      refine z_sld (pc := 359) C hX hbl hbA (i := i + 1) rfl (by omega) hL dL_law_359 ?_
      refine z_LV (pc := 360) (o := 108) (As := [.int (zI (xs (i + 1)).toInt)]) (rest := [.int (zI r9)]) C c10 ml_L_55 yw_X10_rain dL_law_360 (by decide) (by decide) rfl rfl rfl (Nat.le_of_ble_eq_true rfl) ⟨by decide, by decide⟩ ⟨by decide, by decide⟩ (fun v τ10 hq => ?_)
      obtain ⟨r10, rfl, hr10, hq⟩ := hq
      obtain ⟨e10, hm10, hh10⟩ := i10 _ _ hq
      subst e10
      refine z_icmp_eq (pc := 363) (tgt := 804) C dL_law_363 (by decide) ⟨by omega, by omega⟩ (fun _ => ?_) (fun cne => absurd rfl cne)
      exact J804 τ10 g2 hok2 (hc9.fr (fun o k ho => hh10 o k (by omega))) hm10
    by_cases w32_10 : (xs i).toInt % 32 = 10
    · refine z_tableIn (pc := 32) (off := 336) (tgt := 368) C dL_law_32 (by omega) (by omega) (by omega) (by rw [show ((xs i).toInt % 32 - 0).toNat = 10 by omega]; rfl) (by decide) ?_
      obtain ⟨x, g2, hok2, h9, h10⟩ := k_cheer l G (i : Int) (by omega) g hok (xs (i + 1)).toInt hx1
      obtain ⟨q9, c9, i9⟩ := h9 σ hc
      refine z_aload_n (pc := 368) C dL_law_368 rfl 1 rfl ?_
      refine z_aload_n (pc := 369) C dL_law_369 rfl 0 rfl ?_
      refine z_iload_n (pc := 370) C dL_law_370 rfl 3 rfl ?_
      refine z_iconst (pc := 371) C dL_law_371 ?_
      refine z_iadd (pc := 372) C dL_law_372 ?_
      refine z_sld (pc := 373) C hX hbl hbA (i := i + 1) rfl (by omega) hL dL_law_373 ?_
      refine z_LV (pc := 374) (o := 0) (As := [.int (zI (xs (i + 1)).toInt)]) (rest := []) C c9 ml_L_56 yw_X9_cheer dL_law_374 (by decide) (by decide) rfl rfl rfl (Nat.le_of_ble_eq_true rfl) ⟨by decide, by decide⟩ ⟨by decide, by decide⟩ (fun v τ9 hq => ?_)
      obtain ⟨r9, rfl, hr9, hq⟩ := hq
      obtain ⟨rfl, hc9, hh9⟩ := i9 _ _ hq
      obtain ⟨q10, c10, i10⟩ := h10 τ9 (hmo.fr hh9)
      refine z_aload_n (pc := 377) C dL_law_377 rfl 2 rfl ?_
      refine z_aload_n (pc := 378) C dL_law_378 rfl 0 rfl ?_
      refine z_iload_n (pc := 379) C dL_law_379 rfl 3 rfl ?_
      refine z_iconst (pc := 380) C dL_law_380 ?_
      refine z_iadd (pc := 381) C dL_law_381 ?_
      refine z_sld (pc := 382) C hX hbl hbA (i := i + 1) rfl (by omega) hL dL_law_382 ?_
      refine z_LV (pc := 383) (o := 108) (As := [.int (zI (xs (i + 1)).toInt)]) (rest := [.int (zI r9)]) C c10 ml_L_59 yw_X10_cheer dL_law_383 (by decide) (by decide) rfl rfl rfl (Nat.le_of_ble_eq_true rfl) ⟨by decide, by decide⟩ ⟨by decide, by decide⟩ (fun v τ10 hq => ?_)
      obtain ⟨r10, rfl, hr10, hq⟩ := hq
      obtain ⟨e10, hm10, hh10⟩ := i10 _ _ hq
      subst e10
      refine z_icmp_eq (pc := 386) (tgt := 804) C dL_law_386 (by decide) ⟨by omega, by omega⟩ (fun _ => ?_) (fun cne => absurd rfl cne)
      exact J804 τ10 g2 hok2 (hc9.fr (fun o k ho => hh10 o k (by omega))) hm10
    by_cases w32_11 : (xs i).toInt % 32 = 11
    · refine z_tableIn (pc := 32) (off := 359) (tgt := 391) C dL_law_32 (by omega) (by omega) (by omega) (by rw [show ((xs i).toInt % 32 - 0).toNat = 11 by omega]; rfl) (by decide) ?_
      obtain ⟨x, g2, hok2, h9, h10⟩ := k_comb l G (i : Int) (by omega) g hok (xs (i + 1)).toInt hx1
      obtain ⟨q9, c9, i9⟩ := h9 σ hc
      refine z_aload_n (pc := 391) C dL_law_391 rfl 1 rfl ?_
      refine z_aload_n (pc := 392) C dL_law_392 rfl 0 rfl ?_
      refine z_iload_n (pc := 393) C dL_law_393 rfl 3 rfl ?_
      refine z_iconst (pc := 394) C dL_law_394 ?_
      refine z_iadd (pc := 395) C dL_law_395 ?_
      refine z_sld (pc := 396) C hX hbl hbA (i := i + 1) rfl (by omega) hL dL_law_396 ?_
      refine z_LV (pc := 397) (o := 0) (As := [.int (zI (xs (i + 1)).toInt)]) (rest := []) C c9 ml_L_60 yw_X9_comb dL_law_397 (by decide) (by decide) rfl rfl rfl (Nat.le_of_ble_eq_true rfl) ⟨by decide, by decide⟩ ⟨by decide, by decide⟩ (fun v τ9 hq => ?_)
      obtain ⟨r9, rfl, hr9, hq⟩ := hq
      obtain ⟨rfl, hc9, hh9⟩ := i9 _ _ hq
      obtain ⟨q10, c10, i10⟩ := h10 τ9 (hmo.fr hh9)
      refine z_aload_n (pc := 400) C dL_law_400 rfl 2 rfl ?_
      refine z_aload_n (pc := 401) C dL_law_401 rfl 0 rfl ?_
      refine z_iload_n (pc := 402) C dL_law_402 rfl 3 rfl ?_
      refine z_iconst (pc := 403) C dL_law_403 ?_
      refine z_iadd (pc := 404) C dL_law_404 ?_
      refine z_sld (pc := 405) C hX hbl hbA (i := i + 1) rfl (by omega) hL dL_law_405 ?_
      refine z_LV (pc := 406) (o := 108) (As := [.int (zI (xs (i + 1)).toInt)]) (rest := [.int (zI r9)]) C c10 ml_L_63 yw_X10_comb dL_law_406 (by decide) (by decide) rfl rfl rfl (Nat.le_of_ble_eq_true rfl) ⟨by decide, by decide⟩ ⟨by decide, by decide⟩ (fun v τ10 hq => ?_)
      obtain ⟨r10, rfl, hr10, hq⟩ := hq
      obtain ⟨e10, hm10, hh10⟩ := i10 _ _ hq
      subst e10
      refine z_icmp_eq (pc := 409) (tgt := 804) C dL_law_409 (by decide) ⟨by omega, by omega⟩ (fun _ => ?_) (fun cne => absurd rfl cne)
      exact J804 τ10 g2 hok2 (hc9.fr (fun o k ho => hh10 o k (by omega))) hm10
    by_cases w32_12 : (xs i).toInt % 32 = 12
    · refine z_tableIn (pc := 32) (off := 382) (tgt := 414) C dL_law_32 (by omega) (by omega) (by omega) (by rw [show ((xs i).toInt % 32 - 0).toNat = 12 by omega]; rfl) (by decide) ?_
      obtain ⟨x, g2, hok2, h9, h10⟩ := k_move l G (i : Int) (by omega) g hok (xs (i + 1)).toInt hx1 (xs (i + 2)).toInt hx2 (xs (i + 3)).toInt hx3
      obtain ⟨q9, c9, i9⟩ := h9 σ hc
      refine z_aload_n (pc := 414) C dL_law_414 rfl 1 rfl ?_
      refine z_aload_n (pc := 415) C dL_law_415 rfl 0 rfl ?_
      refine z_iload_n (pc := 416) C dL_law_416 rfl 3 rfl ?_
      refine z_iconst (pc := 417) C dL_law_417 ?_
      refine z_iadd (pc := 418) C dL_law_418 ?_
      refine z_sld (pc := 419) C hX hbl hbA (i := i + 1) rfl (by omega) hL dL_law_419 ?_
      refine z_aload_n (pc := 420) C dL_law_420 rfl 0 rfl ?_
      refine z_iload_n (pc := 421) C dL_law_421 rfl 3 rfl ?_
      refine z_iconst (pc := 422) C dL_law_422 ?_
      refine z_iadd (pc := 423) C dL_law_423 ?_
      refine z_sld (pc := 424) C hX hbl hbA (i := i + 2) rfl (by omega) hL dL_law_424 ?_
      refine z_aload_n (pc := 425) C dL_law_425 rfl 0 rfl ?_
      refine z_iload_n (pc := 426) C dL_law_426 rfl 3 rfl ?_
      refine z_iconst (pc := 427) C dL_law_427 ?_
      refine z_iadd (pc := 428) C dL_law_428 ?_
      refine z_sld (pc := 429) C hX hbl hbA (i := i + 3) rfl (by omega) hL dL_law_429 ?_
      refine z_LV (pc := 430) (o := 0) (As := [.int (zI (xs (i + 1)).toInt), .int (zI (xs (i + 2)).toInt), .int (zI (xs (i + 3)).toInt)]) (rest := []) C c9 ml_L_64 yw_X9_move dL_law_430 (by decide) (by decide) rfl rfl rfl (Nat.le_of_ble_eq_true rfl) ⟨by decide, by decide⟩ ⟨by decide, by decide⟩ (fun v τ9 hq => ?_)
      obtain ⟨r9, rfl, hr9, hq⟩ := hq
      obtain ⟨rfl, hc9, hh9⟩ := i9 _ _ hq
      obtain ⟨q10, c10, i10⟩ := h10 τ9 (hmo.fr hh9)
      refine z_aload_n (pc := 433) C dL_law_433 rfl 2 rfl ?_
      refine z_aload_n (pc := 434) C dL_law_434 rfl 0 rfl ?_
      refine z_iload_n (pc := 435) C dL_law_435 rfl 3 rfl ?_
      refine z_iconst (pc := 436) C dL_law_436 ?_
      refine z_iadd (pc := 437) C dL_law_437 ?_
      refine z_sld (pc := 438) C hX hbl hbA (i := i + 1) rfl (by omega) hL dL_law_438 ?_
      refine z_aload_n (pc := 439) C dL_law_439 rfl 0 rfl ?_
      refine z_iload_n (pc := 440) C dL_law_440 rfl 3 rfl ?_
      refine z_iconst (pc := 441) C dL_law_441 ?_
      refine z_iadd (pc := 442) C dL_law_442 ?_
      refine z_sld (pc := 443) C hX hbl hbA (i := i + 2) rfl (by omega) hL dL_law_443 ?_
      refine z_aload_n (pc := 444) C dL_law_444 rfl 0 rfl ?_
      refine z_iload_n (pc := 445) C dL_law_445 rfl 3 rfl ?_
      refine z_iconst (pc := 446) C dL_law_446 ?_
      refine z_iadd (pc := 447) C dL_law_447 ?_
      refine z_sld (pc := 448) C hX hbl hbA (i := i + 3) rfl (by omega) hL dL_law_448 ?_
      refine z_LV (pc := 449) (o := 108) (As := [.int (zI (xs (i + 1)).toInt), .int (zI (xs (i + 2)).toInt), .int (zI (xs (i + 3)).toInt)]) (rest := [.int (zI r9)]) C c10 ml_L_68 yw_X10_move dL_law_449 (by decide) (by decide) rfl rfl rfl (Nat.le_of_ble_eq_true rfl) ⟨by decide, by decide⟩ ⟨by decide, by decide⟩ (fun v τ10 hq => ?_)
      obtain ⟨r10, rfl, hr10, hq⟩ := hq
      obtain ⟨e10, hm10, hh10⟩ := i10 _ _ hq
      subst e10
      refine z_icmp_eq (pc := 452) (tgt := 804) C dL_law_452 (by decide) ⟨by omega, by omega⟩ (fun _ => ?_) (fun cne => absurd rfl cne)
      exact J804 τ10 g2 hok2 (hc9.fr (fun o k ho => hh10 o k (by omega))) hm10
    by_cases w32_13 : (xs i).toInt % 32 = 13
    · refine z_tableIn (pc := 32) (off := 425) (tgt := 457) C dL_law_32 (by omega) (by omega) (by omega) (by rw [show ((xs i).toInt % 32 - 0).toNat = 13 by omega]; rfl) (by decide) ?_
      obtain ⟨x, g2, hok2, h9, h10⟩ := k_dry l G (i : Int) (by omega) g hok (xs (i + 1)).toInt hx1 (xs (i + 2)).toInt hx2
      obtain ⟨q9, c9, i9⟩ := h9 σ hc
      refine z_aload_n (pc := 457) C dL_law_457 rfl 1 rfl ?_
      refine z_aload_n (pc := 458) C dL_law_458 rfl 0 rfl ?_
      refine z_iload_n (pc := 459) C dL_law_459 rfl 3 rfl ?_
      refine z_iconst (pc := 460) C dL_law_460 ?_
      refine z_iadd (pc := 461) C dL_law_461 ?_
      refine z_sld (pc := 462) C hX hbl hbA (i := i + 1) rfl (by omega) hL dL_law_462 ?_
      refine z_aload_n (pc := 463) C dL_law_463 rfl 0 rfl ?_
      refine z_iload_n (pc := 464) C dL_law_464 rfl 3 rfl ?_
      refine z_iconst (pc := 465) C dL_law_465 ?_
      refine z_iadd (pc := 466) C dL_law_466 ?_
      refine z_sld (pc := 467) C hX hbl hbA (i := i + 2) rfl (by omega) hL dL_law_467 ?_
      refine z_LV (pc := 468) (o := 0) (As := [.int (zI (xs (i + 1)).toInt), .int (zI (xs (i + 2)).toInt)]) (rest := []) C c9 ml_L_69 yw_X9_dry dL_law_468 (by decide) (by decide) rfl rfl rfl (Nat.le_of_ble_eq_true rfl) ⟨by decide, by decide⟩ ⟨by decide, by decide⟩ (fun v τ9 hq => ?_)
      obtain ⟨r9, rfl, hr9, hq⟩ := hq
      obtain ⟨rfl, hc9, hh9⟩ := i9 _ _ hq
      obtain ⟨q10, c10, i10⟩ := h10 τ9 (hmo.fr hh9)
      refine z_aload_n (pc := 471) C dL_law_471 rfl 2 rfl ?_
      refine z_aload_n (pc := 472) C dL_law_472 rfl 0 rfl ?_
      refine z_iload_n (pc := 473) C dL_law_473 rfl 3 rfl ?_
      refine z_iconst (pc := 474) C dL_law_474 ?_
      refine z_iadd (pc := 475) C dL_law_475 ?_
      refine z_sld (pc := 476) C hX hbl hbA (i := i + 1) rfl (by omega) hL dL_law_476 ?_
      refine z_aload_n (pc := 477) C dL_law_477 rfl 0 rfl ?_
      refine z_iload_n (pc := 478) C dL_law_478 rfl 3 rfl ?_
      refine z_iconst (pc := 479) C dL_law_479 ?_
      refine z_iadd (pc := 480) C dL_law_480 ?_
      refine z_sld (pc := 481) C hX hbl hbA (i := i + 2) rfl (by omega) hL dL_law_481 ?_
      refine z_LV (pc := 482) (o := 108) (As := [.int (zI (xs (i + 1)).toInt), .int (zI (xs (i + 2)).toInt)]) (rest := [.int (zI r9)]) C c10 ml_L_72 yw_X10_dry dL_law_482 (by decide) (by decide) rfl rfl rfl (Nat.le_of_ble_eq_true rfl) ⟨by decide, by decide⟩ ⟨by decide, by decide⟩ (fun v τ10 hq => ?_)
      obtain ⟨r10, rfl, hr10, hq⟩ := hq
      obtain ⟨e10, hm10, hh10⟩ := i10 _ _ hq
      subst e10
      refine z_icmp_eq (pc := 485) (tgt := 804) C dL_law_485 (by decide) ⟨by omega, by omega⟩ (fun _ => ?_) (fun cne => absurd rfl cne)
      exact J804 τ10 g2 hok2 (hc9.fr (fun o k ho => hh10 o k (by omega))) hm10
    by_cases w32_14 : (xs i).toInt % 32 = 14
    · refine z_tableIn (pc := 32) (off := 458) (tgt := 490) C dL_law_32 (by omega) (by omega) (by omega) (by rw [show ((xs i).toInt % 32 - 0).toNat = 14 by omega]; rfl) (by decide) ?_
      obtain ⟨x, g2, hok2, h9, h10⟩ := k_plan l G (i : Int) (by omega) g hok (xs (i + 1)).toInt hx1 (xs (i + 2)).toInt hx2 (xs (i + 3)).toInt hx3
      obtain ⟨q9, c9, i9⟩ := h9 σ hc
      refine z_aload_n (pc := 490) C dL_law_490 rfl 1 rfl ?_
      refine z_aload_n (pc := 491) C dL_law_491 rfl 0 rfl ?_
      refine z_iload_n (pc := 492) C dL_law_492 rfl 3 rfl ?_
      refine z_iconst (pc := 493) C dL_law_493 ?_
      refine z_iadd (pc := 494) C dL_law_494 ?_
      refine z_sld (pc := 495) C hX hbl hbA (i := i + 1) rfl (by omega) hL dL_law_495 ?_
      refine z_aload_n (pc := 496) C dL_law_496 rfl 0 rfl ?_
      refine z_iload_n (pc := 497) C dL_law_497 rfl 3 rfl ?_
      refine z_iconst (pc := 498) C dL_law_498 ?_
      refine z_iadd (pc := 499) C dL_law_499 ?_
      refine z_sld (pc := 500) C hX hbl hbA (i := i + 2) rfl (by omega) hL dL_law_500 ?_
      refine z_aload_n (pc := 501) C dL_law_501 rfl 0 rfl ?_
      refine z_iload_n (pc := 502) C dL_law_502 rfl 3 rfl ?_
      refine z_iconst (pc := 503) C dL_law_503 ?_
      refine z_iadd (pc := 504) C dL_law_504 ?_
      refine z_sld (pc := 505) C hX hbl hbA (i := i + 3) rfl (by omega) hL dL_law_505 ?_
      refine z_LV (pc := 506) (o := 0) (As := [.int (zI (xs (i + 1)).toInt), .int (zI (xs (i + 2)).toInt), .int (zI (xs (i + 3)).toInt)]) (rest := []) C c9 ml_L_73 yw_X9_plan dL_law_506 (by decide) (by decide) rfl rfl rfl (Nat.le_of_ble_eq_true rfl) ⟨by decide, by decide⟩ ⟨by decide, by decide⟩ (fun v τ9 hq => ?_)
      obtain ⟨r9, rfl, hr9, hq⟩ := hq
      obtain ⟨rfl, hc9, hh9⟩ := i9 _ _ hq
      obtain ⟨q10, c10, i10⟩ := h10 τ9 (hmo.fr hh9)
      refine z_aload_n (pc := 509) C dL_law_509 rfl 2 rfl ?_
      refine z_aload_n (pc := 510) C dL_law_510 rfl 0 rfl ?_
      refine z_iload_n (pc := 511) C dL_law_511 rfl 3 rfl ?_
      refine z_iconst (pc := 512) C dL_law_512 ?_
      refine z_iadd (pc := 513) C dL_law_513 ?_
      refine z_sld (pc := 514) C hX hbl hbA (i := i + 1) rfl (by omega) hL dL_law_514 ?_
      refine z_aload_n (pc := 515) C dL_law_515 rfl 0 rfl ?_
      refine z_iload_n (pc := 516) C dL_law_516 rfl 3 rfl ?_
      refine z_iconst (pc := 517) C dL_law_517 ?_
      refine z_iadd (pc := 518) C dL_law_518 ?_
      refine z_sld (pc := 519) C hX hbl hbA (i := i + 2) rfl (by omega) hL dL_law_519 ?_
      refine z_aload_n (pc := 520) C dL_law_520 rfl 0 rfl ?_
      refine z_iload_n (pc := 521) C dL_law_521 rfl 3 rfl ?_
      refine z_iconst (pc := 522) C dL_law_522 ?_
      refine z_iadd (pc := 523) C dL_law_523 ?_
      refine z_sld (pc := 524) C hX hbl hbA (i := i + 3) rfl (by omega) hL dL_law_524 ?_
      refine z_LV (pc := 525) (o := 108) (As := [.int (zI (xs (i + 1)).toInt), .int (zI (xs (i + 2)).toInt), .int (zI (xs (i + 3)).toInt)]) (rest := [.int (zI r9)]) C c10 ml_L_76 yw_X10_plan dL_law_525 (by decide) (by decide) rfl rfl rfl (Nat.le_of_ble_eq_true rfl) ⟨by decide, by decide⟩ ⟨by decide, by decide⟩ (fun v τ10 hq => ?_)
      obtain ⟨r10, rfl, hr10, hq⟩ := hq
      obtain ⟨e10, hm10, hh10⟩ := i10 _ _ hq
      subst e10
      refine z_icmp_eq (pc := 528) (tgt := 804) C dL_law_528 (by decide) ⟨by omega, by omega⟩ (fun _ => ?_) (fun cne => absurd rfl cne)
      exact J804 τ10 g2 hok2 (hc9.fr (fun o k ho => hh10 o k (by omega))) hm10
    by_cases w32_15 : (xs i).toInt % 32 = 15
    · refine z_tableIn (pc := 32) (off := 501) (tgt := 533) C dL_law_32 (by omega) (by omega) (by omega) (by rw [show ((xs i).toInt % 32 - 0).toNat = 15 by omega]; rfl) (by decide) ?_
      obtain ⟨x, g2, hok2, h9, h10⟩ := k_twos l G (i : Int) (by omega) g hok (xs (i + 1)).toInt hx1
      obtain ⟨q9, c9, i9⟩ := h9 σ hc
      refine z_aload_n (pc := 533) C dL_law_533 rfl 1 rfl ?_
      refine z_aload_n (pc := 534) C dL_law_534 rfl 0 rfl ?_
      refine z_iload_n (pc := 535) C dL_law_535 rfl 3 rfl ?_
      refine z_iconst (pc := 536) C dL_law_536 ?_
      refine z_iadd (pc := 537) C dL_law_537 ?_
      refine z_sld (pc := 538) C hX hbl hbA (i := i + 1) rfl (by omega) hL dL_law_538 ?_
      refine z_LV (pc := 539) (o := 0) (As := [.int (zI (xs (i + 1)).toInt)]) (rest := []) C c9 ml_L_77 yw_X9_twos dL_law_539 (by decide) (by decide) rfl rfl rfl (Nat.le_of_ble_eq_true rfl) ⟨by decide, by decide⟩ ⟨by decide, by decide⟩ (fun v τ9 hq => ?_)
      obtain ⟨r9, rfl, hr9, hq⟩ := hq
      obtain ⟨rfl, hc9, hh9⟩ := i9 _ _ hq
      obtain ⟨q10, c10, i10⟩ := h10 τ9 (hmo.fr hh9)
      refine z_aload_n (pc := 542) C dL_law_542 rfl 2 rfl ?_
      refine z_aload_n (pc := 543) C dL_law_543 rfl 0 rfl ?_
      refine z_iload_n (pc := 544) C dL_law_544 rfl 3 rfl ?_
      refine z_iconst (pc := 545) C dL_law_545 ?_
      refine z_iadd (pc := 546) C dL_law_546 ?_
      refine z_sld (pc := 547) C hX hbl hbA (i := i + 1) rfl (by omega) hL dL_law_547 ?_
      refine z_LV (pc := 548) (o := 108) (As := [.int (zI (xs (i + 1)).toInt)]) (rest := [.int (zI r9)]) C c10 ml_L_80 yw_X10_twos dL_law_548 (by decide) (by decide) rfl rfl rfl (Nat.le_of_ble_eq_true rfl) ⟨by decide, by decide⟩ ⟨by decide, by decide⟩ (fun v τ10 hq => ?_)
      obtain ⟨r10, rfl, hr10, hq⟩ := hq
      obtain ⟨e10, hm10, hh10⟩ := i10 _ _ hq
      subst e10
      refine z_icmp_eq (pc := 551) (tgt := 804) C dL_law_551 (by decide) ⟨by omega, by omega⟩ (fun _ => ?_) (fun cne => absurd rfl cne)
      exact J804 τ10 g2 hok2 (hc9.fr (fun o k ho => hh10 o k (by omega))) hm10
    by_cases w32_16 : (xs i).toInt % 32 = 16
    · refine z_tableIn (pc := 32) (off := 524) (tgt := 556) C dL_law_32 (by omega) (by omega) (by omega) (by rw [show ((xs i).toInt % 32 - 0).toNat = 16 by omega]; rfl) (by decide) ?_
      obtain ⟨x, g2, hok2, h9, h10⟩ := k_patch l G (i : Int) (by omega) g hok (xs (i + 1)).toInt hx1 (xs (i + 2)).toInt hx2 (xs (i + 3)).toInt hx3
      obtain ⟨q9, c9, i9⟩ := h9 σ hc
      refine z_aload_n (pc := 556) C dL_law_556 rfl 1 rfl ?_
      refine z_aload_n (pc := 557) C dL_law_557 rfl 0 rfl ?_
      refine z_iload_n (pc := 558) C dL_law_558 rfl 3 rfl ?_
      refine z_iconst (pc := 559) C dL_law_559 ?_
      refine z_iadd (pc := 560) C dL_law_560 ?_
      refine z_sld (pc := 561) C hX hbl hbA (i := i + 1) rfl (by omega) hL dL_law_561 ?_
      refine z_aload_n (pc := 562) C dL_law_562 rfl 0 rfl ?_
      refine z_iload_n (pc := 563) C dL_law_563 rfl 3 rfl ?_
      refine z_iconst (pc := 564) C dL_law_564 ?_
      refine z_iadd (pc := 565) C dL_law_565 ?_
      refine z_sld (pc := 566) C hX hbl hbA (i := i + 2) rfl (by omega) hL dL_law_566 ?_
      refine z_aload_n (pc := 567) C dL_law_567 rfl 0 rfl ?_
      refine z_iload_n (pc := 568) C dL_law_568 rfl 3 rfl ?_
      refine z_iconst (pc := 569) C dL_law_569 ?_
      refine z_iadd (pc := 570) C dL_law_570 ?_
      refine z_sld (pc := 571) C hX hbl hbA (i := i + 3) rfl (by omega) hL dL_law_571 ?_
      refine z_LV (pc := 572) (o := 0) (As := [.int (zI (xs (i + 1)).toInt), .int (zI (xs (i + 2)).toInt), .int (zI (xs (i + 3)).toInt)]) (rest := []) C c9 ml_L_81 yw_X9_patch dL_law_572 (by decide) (by decide) rfl rfl rfl (Nat.le_of_ble_eq_true rfl) ⟨by decide, by decide⟩ ⟨by decide, by decide⟩ (fun v τ9 hq => ?_)
      obtain ⟨r9, rfl, hr9, hq⟩ := hq
      obtain ⟨rfl, hc9, hh9⟩ := i9 _ _ hq
      obtain ⟨q10, c10, i10⟩ := h10 τ9 (hmo.fr hh9)
      refine z_aload_n (pc := 575) C dL_law_575 rfl 2 rfl ?_
      refine z_aload_n (pc := 576) C dL_law_576 rfl 0 rfl ?_
      refine z_iload_n (pc := 577) C dL_law_577 rfl 3 rfl ?_
      refine z_iconst (pc := 578) C dL_law_578 ?_
      refine z_iadd (pc := 579) C dL_law_579 ?_
      refine z_sld (pc := 580) C hX hbl hbA (i := i + 1) rfl (by omega) hL dL_law_580 ?_
      refine z_aload_n (pc := 581) C dL_law_581 rfl 0 rfl ?_
      refine z_iload_n (pc := 582) C dL_law_582 rfl 3 rfl ?_
      refine z_iconst (pc := 583) C dL_law_583 ?_
      refine z_iadd (pc := 584) C dL_law_584 ?_
      refine z_sld (pc := 585) C hX hbl hbA (i := i + 2) rfl (by omega) hL dL_law_585 ?_
      refine z_aload_n (pc := 586) C dL_law_586 rfl 0 rfl ?_
      refine z_iload_n (pc := 587) C dL_law_587 rfl 3 rfl ?_
      refine z_iconst (pc := 588) C dL_law_588 ?_
      refine z_iadd (pc := 589) C dL_law_589 ?_
      refine z_sld (pc := 590) C hX hbl hbA (i := i + 3) rfl (by omega) hL dL_law_590 ?_
      refine z_LV (pc := 591) (o := 108) (As := [.int (zI (xs (i + 1)).toInt), .int (zI (xs (i + 2)).toInt), .int (zI (xs (i + 3)).toInt)]) (rest := [.int (zI r9)]) C c10 ml_L_84 yw_X10_patch dL_law_591 (by decide) (by decide) rfl rfl rfl (Nat.le_of_ble_eq_true rfl) ⟨by decide, by decide⟩ ⟨by decide, by decide⟩ (fun v τ10 hq => ?_)
      obtain ⟨r10, rfl, hr10, hq⟩ := hq
      obtain ⟨e10, hm10, hh10⟩ := i10 _ _ hq
      subst e10
      refine z_icmp_eq (pc := 594) (tgt := 804) C dL_law_594 (by decide) ⟨by omega, by omega⟩ (fun _ => ?_) (fun cne => absurd rfl cne)
      exact J804 τ10 g2 hok2 (hc9.fr (fun o k ho => hh10 o k (by omega))) hm10
    by_cases w32_17 : (xs i).toInt % 32 = 17
    · refine z_tableIn (pc := 32) (off := 567) (tgt := 599) C dL_law_32 (by omega) (by omega) (by omega) (by rw [show ((xs i).toInt % 32 - 0).toNat = 17 by omega]; rfl) (by decide) ?_
      obtain ⟨x, g2, hok2, h9, h10⟩ := k_odds l G (i : Int) (by omega) g hok (xs (i + 1)).toInt hx1 (xs (i + 2)).toInt hx2 (xs (i + 3)).toInt hx3
      obtain ⟨q9, c9, i9⟩ := h9 σ hc
      refine z_aload_n (pc := 599) C dL_law_599 rfl 1 rfl ?_
      refine z_aload_n (pc := 600) C dL_law_600 rfl 0 rfl ?_
      refine z_iload_n (pc := 601) C dL_law_601 rfl 3 rfl ?_
      refine z_iconst (pc := 602) C dL_law_602 ?_
      refine z_iadd (pc := 603) C dL_law_603 ?_
      refine z_sld (pc := 604) C hX hbl hbA (i := i + 1) rfl (by omega) hL dL_law_604 ?_
      refine z_aload_n (pc := 605) C dL_law_605 rfl 0 rfl ?_
      refine z_iload_n (pc := 606) C dL_law_606 rfl 3 rfl ?_
      refine z_iconst (pc := 607) C dL_law_607 ?_
      refine z_iadd (pc := 608) C dL_law_608 ?_
      refine z_sld (pc := 609) C hX hbl hbA (i := i + 2) rfl (by omega) hL dL_law_609 ?_
      refine z_aload_n (pc := 610) C dL_law_610 rfl 0 rfl ?_
      refine z_iload_n (pc := 611) C dL_law_611 rfl 3 rfl ?_
      refine z_iconst (pc := 612) C dL_law_612 ?_
      refine z_iadd (pc := 613) C dL_law_613 ?_
      refine z_sld (pc := 614) C hX hbl hbA (i := i + 3) rfl (by omega) hL dL_law_614 ?_
      refine z_LV (pc := 615) (o := 0) (As := [.int (zI (xs (i + 1)).toInt), .int (zI (xs (i + 2)).toInt), .int (zI (xs (i + 3)).toInt)]) (rest := []) C c9 ml_L_85 yw_X9_odds dL_law_615 (by decide) (by decide) rfl rfl rfl (Nat.le_of_ble_eq_true rfl) ⟨by decide, by decide⟩ ⟨by decide, by decide⟩ (fun v τ9 hq => ?_)
      obtain ⟨r9, rfl, hr9, hq⟩ := hq
      obtain ⟨rfl, hc9, hh9⟩ := i9 _ _ hq
      obtain ⟨q10, c10, i10⟩ := h10 τ9 (hmo.fr hh9)
      refine z_aload_n (pc := 618) C dL_law_618 rfl 2 rfl ?_
      refine z_aload_n (pc := 619) C dL_law_619 rfl 0 rfl ?_
      refine z_iload_n (pc := 620) C dL_law_620 rfl 3 rfl ?_
      refine z_iconst (pc := 621) C dL_law_621 ?_
      refine z_iadd (pc := 622) C dL_law_622 ?_
      refine z_sld (pc := 623) C hX hbl hbA (i := i + 1) rfl (by omega) hL dL_law_623 ?_
      refine z_aload_n (pc := 624) C dL_law_624 rfl 0 rfl ?_
      refine z_iload_n (pc := 625) C dL_law_625 rfl 3 rfl ?_
      refine z_iconst (pc := 626) C dL_law_626 ?_
      refine z_iadd (pc := 627) C dL_law_627 ?_
      refine z_sld (pc := 628) C hX hbl hbA (i := i + 2) rfl (by omega) hL dL_law_628 ?_
      refine z_aload_n (pc := 629) C dL_law_629 rfl 0 rfl ?_
      refine z_iload_n (pc := 630) C dL_law_630 rfl 3 rfl ?_
      refine z_iconst (pc := 631) C dL_law_631 ?_
      refine z_iadd (pc := 632) C dL_law_632 ?_
      refine z_sld (pc := 633) C hX hbl hbA (i := i + 3) rfl (by omega) hL dL_law_633 ?_
      refine z_LV (pc := 634) (o := 108) (As := [.int (zI (xs (i + 1)).toInt), .int (zI (xs (i + 2)).toInt), .int (zI (xs (i + 3)).toInt)]) (rest := [.int (zI r9)]) C c10 ml_L_88 yw_X10_odds dL_law_634 (by decide) (by decide) rfl rfl rfl (Nat.le_of_ble_eq_true rfl) ⟨by decide, by decide⟩ ⟨by decide, by decide⟩ (fun v τ10 hq => ?_)
      obtain ⟨r10, rfl, hr10, hq⟩ := hq
      obtain ⟨e10, hm10, hh10⟩ := i10 _ _ hq
      subst e10
      refine z_icmp_eq (pc := 637) (tgt := 804) C dL_law_637 (by decide) ⟨by omega, by omega⟩ (fun _ => ?_) (fun cne => absurd rfl cne)
      exact J804 τ10 g2 hok2 (hc9.fr (fun o k ho => hh10 o k (by omega))) hm10
    by_cases w32_18 : (xs i).toInt % 32 = 18
    · refine z_tableIn (pc := 32) (off := 610) (tgt := 642) C dL_law_32 (by omega) (by omega) (by omega) (by rw [show ((xs i).toInt % 32 - 0).toNat = 18 by omega]; rfl) (by decide) ?_
      obtain ⟨x, g2, hok2, h9, h10⟩ := k_see l G (i : Int) (by omega) g hok (xs (i + 1)).toInt hx1 (xs (i + 2)).toInt hx2 (xs (i + 3)).toInt hx3
      obtain ⟨q9, c9, i9⟩ := h9 σ hc
      refine z_aload_n (pc := 642) C dL_law_642 rfl 1 rfl ?_
      refine z_aload_n (pc := 643) C dL_law_643 rfl 0 rfl ?_
      refine z_iload_n (pc := 644) C dL_law_644 rfl 3 rfl ?_
      refine z_iconst (pc := 645) C dL_law_645 ?_
      refine z_iadd (pc := 646) C dL_law_646 ?_
      refine z_sld (pc := 647) C hX hbl hbA (i := i + 1) rfl (by omega) hL dL_law_647 ?_
      refine z_aload_n (pc := 648) C dL_law_648 rfl 0 rfl ?_
      refine z_iload_n (pc := 649) C dL_law_649 rfl 3 rfl ?_
      refine z_iconst (pc := 650) C dL_law_650 ?_
      refine z_iadd (pc := 651) C dL_law_651 ?_
      refine z_sld (pc := 652) C hX hbl hbA (i := i + 2) rfl (by omega) hL dL_law_652 ?_
      refine z_aload_n (pc := 653) C dL_law_653 rfl 0 rfl ?_
      refine z_iload_n (pc := 654) C dL_law_654 rfl 3 rfl ?_
      refine z_iconst (pc := 655) C dL_law_655 ?_
      refine z_iadd (pc := 656) C dL_law_656 ?_
      refine z_sld (pc := 657) C hX hbl hbA (i := i + 3) rfl (by omega) hL dL_law_657 ?_
      refine z_LV (pc := 658) (o := 0) (As := [.int (zI (xs (i + 1)).toInt), .int (zI (xs (i + 2)).toInt), .int (zI (xs (i + 3)).toInt)]) (rest := []) C c9 ml_L_89 yw_X9_see dL_law_658 (by decide) (by decide) rfl rfl rfl (Nat.le_of_ble_eq_true rfl) ⟨by decide, by decide⟩ ⟨by decide, by decide⟩ (fun v τ9 hq => ?_)
      obtain ⟨r9, rfl, hr9, hq⟩ := hq
      obtain ⟨rfl, hc9, hh9⟩ := i9 _ _ hq
      obtain ⟨q10, c10, i10⟩ := h10 τ9 (hmo.fr hh9)
      refine z_aload_n (pc := 661) C dL_law_661 rfl 2 rfl ?_
      refine z_aload_n (pc := 662) C dL_law_662 rfl 0 rfl ?_
      refine z_iload_n (pc := 663) C dL_law_663 rfl 3 rfl ?_
      refine z_iconst (pc := 664) C dL_law_664 ?_
      refine z_iadd (pc := 665) C dL_law_665 ?_
      refine z_sld (pc := 666) C hX hbl hbA (i := i + 1) rfl (by omega) hL dL_law_666 ?_
      refine z_aload_n (pc := 667) C dL_law_667 rfl 0 rfl ?_
      refine z_iload_n (pc := 668) C dL_law_668 rfl 3 rfl ?_
      refine z_iconst (pc := 669) C dL_law_669 ?_
      refine z_iadd (pc := 670) C dL_law_670 ?_
      refine z_sld (pc := 671) C hX hbl hbA (i := i + 2) rfl (by omega) hL dL_law_671 ?_
      refine z_aload_n (pc := 672) C dL_law_672 rfl 0 rfl ?_
      refine z_iload_n (pc := 673) C dL_law_673 rfl 3 rfl ?_
      refine z_iconst (pc := 674) C dL_law_674 ?_
      refine z_iadd (pc := 675) C dL_law_675 ?_
      refine z_sld (pc := 676) C hX hbl hbA (i := i + 3) rfl (by omega) hL dL_law_676 ?_
      refine z_LV (pc := 677) (o := 108) (As := [.int (zI (xs (i + 1)).toInt), .int (zI (xs (i + 2)).toInt), .int (zI (xs (i + 3)).toInt)]) (rest := [.int (zI r9)]) C c10 ml_L_92 yw_X10_see dL_law_677 (by decide) (by decide) rfl rfl rfl (Nat.le_of_ble_eq_true rfl) ⟨by decide, by decide⟩ ⟨by decide, by decide⟩ (fun v τ10 hq => ?_)
      obtain ⟨r10, rfl, hr10, hq⟩ := hq
      obtain ⟨e10, hm10, hh10⟩ := i10 _ _ hq
      subst e10
      refine z_icmp_eq (pc := 680) (tgt := 804) C dL_law_680 (by decide) ⟨by omega, by omega⟩ (fun _ => ?_) (fun cne => absurd rfl cne)
      exact J804 τ10 g2 hok2 (hc9.fr (fun o k ho => hh10 o k (by omega))) hm10
    by_cases w32_19 : (xs i).toInt % 32 = 19
    · refine z_tableIn (pc := 32) (off := 653) (tgt := 685) C dL_law_32 (by omega) (by omega) (by omega) (by rw [show ((xs i).toInt % 32 - 0).toNat = 19 by omega]; rfl) (by decide) ?_
      obtain ⟨x, g2, hok2, h9, h10⟩ := k_forget l G (i : Int) (by omega) g hok
      obtain ⟨q9, c9, i9⟩ := h9 σ hc
      refine z_aload_n (pc := 685) C dL_law_685 rfl 1 rfl ?_
      refine z_LV (pc := 686) (o := 0) (As := []) (rest := []) C c9 ml_L_93 yw_X9_forget dL_law_686 (by decide) (by decide) rfl rfl rfl (Nat.le_of_ble_eq_true rfl) ⟨by decide, by decide⟩ ⟨by decide, by decide⟩ (fun v τ9 hq => ?_)
      obtain ⟨r9, rfl, hr9, hq⟩ := hq
      obtain ⟨rfl, hc9, hh9⟩ := i9 _ _ hq
      obtain ⟨q10, c10, i10⟩ := h10 τ9 (hmo.fr hh9)
      refine z_aload_n (pc := 689) C dL_law_689 rfl 2 rfl ?_
      refine z_LV (pc := 690) (o := 108) (As := []) (rest := [.int (zI r9)]) C c10 ml_L_96 yw_X10_forget dL_law_690 (by decide) (by decide) rfl rfl rfl (Nat.le_of_ble_eq_true rfl) ⟨by decide, by decide⟩ ⟨by decide, by decide⟩ (fun v τ10 hq => ?_)
      obtain ⟨r10, rfl, hr10, hq⟩ := hq
      obtain ⟨e10, hm10, hh10⟩ := i10 _ _ hq
      subst e10
      refine z_icmp_eq (pc := 693) (tgt := 804) C dL_law_693 (by decide) ⟨by omega, by omega⟩ (fun _ => ?_) (fun cne => absurd rfl cne)
      exact J804 τ10 g2 hok2 (hc9.fr (fun o k ho => hh10 o k (by omega))) hm10
    by_cases w32_20 : (xs i).toInt % 32 = 20
    · refine z_tableIn (pc := 32) (off := 666) (tgt := 698) C dL_law_32 (by omega) (by omega) (by omega) (by rw [show ((xs i).toInt % 32 - 0).toNat = 20 by omega]; rfl) (by decide) ?_
      obtain ⟨x, g2, hok2, h9, h10⟩ := k_ages l G (i : Int) (by omega) g hok (xs (i + 1)).toInt hx1 (xs (i + 2)).toInt hx2 (xs (i + 3)).toInt hx3
      obtain ⟨q9, c9, i9⟩ := h9 σ hc
      refine z_aload_n (pc := 698) C dL_law_698 rfl 1 rfl ?_
      refine z_aload_n (pc := 699) C dL_law_699 rfl 0 rfl ?_
      refine z_iload_n (pc := 700) C dL_law_700 rfl 3 rfl ?_
      refine z_iconst (pc := 701) C dL_law_701 ?_
      refine z_iadd (pc := 702) C dL_law_702 ?_
      refine z_sld (pc := 703) C hX hbl hbA (i := i + 1) rfl (by omega) hL dL_law_703 ?_
      refine z_aload_n (pc := 704) C dL_law_704 rfl 0 rfl ?_
      refine z_iload_n (pc := 705) C dL_law_705 rfl 3 rfl ?_
      refine z_iconst (pc := 706) C dL_law_706 ?_
      refine z_iadd (pc := 707) C dL_law_707 ?_
      refine z_sld (pc := 708) C hX hbl hbA (i := i + 2) rfl (by omega) hL dL_law_708 ?_
      refine z_aload_n (pc := 709) C dL_law_709 rfl 0 rfl ?_
      refine z_iload_n (pc := 710) C dL_law_710 rfl 3 rfl ?_
      refine z_iconst (pc := 711) C dL_law_711 ?_
      refine z_iadd (pc := 712) C dL_law_712 ?_
      refine z_sld (pc := 713) C hX hbl hbA (i := i + 3) rfl (by omega) hL dL_law_713 ?_
      refine z_LV (pc := 714) (o := 0) (As := [.int (zI (xs (i + 1)).toInt), .int (zI (xs (i + 2)).toInt), .int (zI (xs (i + 3)).toInt)]) (rest := []) C c9 ml_L_97 yw_X9_ages dL_law_714 (by decide) (by decide) rfl rfl rfl (Nat.le_of_ble_eq_true rfl) ⟨by decide, by decide⟩ ⟨by decide, by decide⟩ (fun v τ9 hq => ?_)
      obtain ⟨r9, rfl, hr9, hq⟩ := hq
      obtain ⟨rfl, hc9, hh9⟩ := i9 _ _ hq
      obtain ⟨q10, c10, i10⟩ := h10 τ9 (hmo.fr hh9)
      refine z_aload_n (pc := 717) C dL_law_717 rfl 2 rfl ?_
      refine z_aload_n (pc := 718) C dL_law_718 rfl 0 rfl ?_
      refine z_iload_n (pc := 719) C dL_law_719 rfl 3 rfl ?_
      refine z_iconst (pc := 720) C dL_law_720 ?_
      refine z_iadd (pc := 721) C dL_law_721 ?_
      refine z_sld (pc := 722) C hX hbl hbA (i := i + 1) rfl (by omega) hL dL_law_722 ?_
      refine z_aload_n (pc := 723) C dL_law_723 rfl 0 rfl ?_
      refine z_iload_n (pc := 724) C dL_law_724 rfl 3 rfl ?_
      refine z_iconst (pc := 725) C dL_law_725 ?_
      refine z_iadd (pc := 726) C dL_law_726 ?_
      refine z_sld (pc := 727) C hX hbl hbA (i := i + 2) rfl (by omega) hL dL_law_727 ?_
      refine z_aload_n (pc := 728) C dL_law_728 rfl 0 rfl ?_
      refine z_iload_n (pc := 729) C dL_law_729 rfl 3 rfl ?_
      refine z_iconst (pc := 730) C dL_law_730 ?_
      refine z_iadd (pc := 731) C dL_law_731 ?_
      refine z_sld (pc := 732) C hX hbl hbA (i := i + 3) rfl (by omega) hL dL_law_732 ?_
      refine z_LV (pc := 733) (o := 108) (As := [.int (zI (xs (i + 1)).toInt), .int (zI (xs (i + 2)).toInt), .int (zI (xs (i + 3)).toInt)]) (rest := [.int (zI r9)]) C c10 ml_L_100 yw_X10_ages dL_law_733 (by decide) (by decide) rfl rfl rfl (Nat.le_of_ble_eq_true rfl) ⟨by decide, by decide⟩ ⟨by decide, by decide⟩ (fun v τ10 hq => ?_)
      obtain ⟨r10, rfl, hr10, hq⟩ := hq
      obtain ⟨e10, hm10, hh10⟩ := i10 _ _ hq
      subst e10
      refine z_icmp_eq (pc := 736) (tgt := 804) C dL_law_736 (by decide) ⟨by omega, by omega⟩ (fun _ => ?_) (fun cne => absurd rfl cne)
      exact J804 τ10 g2 hok2 (hc9.fr (fun o k ho => hh10 o k (by omega))) hm10
    by_cases w32_21 : (xs i).toInt % 32 = 21
    · refine z_tableIn (pc := 32) (off := 709) (tgt := 741) C dL_law_32 (by omega) (by omega) (by omega) (by rw [show ((xs i).toInt % 32 - 0).toNat = 21 by omega]; rfl) (by decide) ?_
      obtain ⟨x, g2, hok2, h9, h10⟩ := k_image l G (i : Int) (by omega) g hok
      obtain ⟨q9, c9, i9⟩ := h9 σ hc
      refine z_aload_n (pc := 741) C dL_law_741 rfl 1 rfl ?_
      refine z_LV (pc := 742) (o := 0) (As := []) (rest := []) C c9 ml_L_101 yw_X9_image dL_law_742 (by decide) (by decide) rfl rfl rfl (Nat.le_of_ble_eq_true rfl) ⟨by decide, by decide⟩ ⟨by decide, by decide⟩ (fun v τ9 hq => ?_)
      obtain ⟨r9, rfl, hr9, hq⟩ := hq
      obtain ⟨rfl, hc9, hh9⟩ := i9 _ _ hq
      obtain ⟨q10, c10, i10⟩ := h10 τ9 (hmo.fr hh9)
      refine z_aload_n (pc := 745) C dL_law_745 rfl 2 rfl ?_
      refine z_LV (pc := 746) (o := 108) (As := []) (rest := [.int (zI r9)]) C c10 ml_L_104 yw_X10_image dL_law_746 (by decide) (by decide) rfl rfl rfl (Nat.le_of_ble_eq_true rfl) ⟨by decide, by decide⟩ ⟨by decide, by decide⟩ (fun v τ10 hq => ?_)
      obtain ⟨r10, rfl, hr10, hq⟩ := hq
      obtain ⟨e10, hm10, hh10⟩ := i10 _ _ hq
      subst e10
      refine z_icmp_eq (pc := 749) (tgt := 804) C dL_law_749 (by decide) ⟨by omega, by omega⟩ (fun _ => ?_) (fun cne => absurd rfl cne)
      exact J804 τ10 g2 hok2 (hc9.fr (fun o k ho => hh10 o k (by omega))) hm10
    by_cases w32_22 : (xs i).toInt % 32 = 22
    · refine z_tableIn (pc := 32) (off := 722) (tgt := 754) C dL_law_32 (by omega) (by omega) (by omega) (by rw [show ((xs i).toInt % 32 - 0).toNat = 22 by omega]; rfl) (by decide) ?_
      obtain ⟨x, g2, hok2, h9, h10⟩ := k_restore l G (i : Int) (by omega) g hok
      obtain ⟨q9, c9, i9⟩ := h9 σ hc
      refine z_aload_n (pc := 754) C dL_law_754 rfl 1 rfl ?_
      refine z_LV (pc := 755) (o := 0) (As := []) (rest := []) C c9 ml_L_105 yw_X9_restore dL_law_755 (by decide) (by decide) rfl rfl rfl (Nat.le_of_ble_eq_true rfl) ⟨by decide, by decide⟩ ⟨by decide, by decide⟩ (fun v τ9 hq => ?_)
      obtain ⟨r9, rfl, hr9, hq⟩ := hq
      obtain ⟨rfl, hc9, hh9⟩ := i9 _ _ hq
      obtain ⟨q10, c10, i10⟩ := h10 τ9 (hmo.fr hh9)
      refine z_aload_n (pc := 758) C dL_law_758 rfl 2 rfl ?_
      refine z_LV (pc := 759) (o := 108) (As := []) (rest := [.int (zI r9)]) C c10 ml_L_108 yw_X10_restore dL_law_759 (by decide) (by decide) rfl rfl rfl (Nat.le_of_ble_eq_true rfl) ⟨by decide, by decide⟩ ⟨by decide, by decide⟩ (fun v τ10 hq => ?_)
      obtain ⟨r10, rfl, hr10, hq⟩ := hq
      obtain ⟨e10, hm10, hh10⟩ := i10 _ _ hq
      subst e10
      refine z_icmp_eq (pc := 762) (tgt := 804) C dL_law_762 (by decide) ⟨by omega, by omega⟩ (fun _ => ?_) (fun cne => absurd rfl cne)
      exact J804 τ10 g2 hok2 (hc9.fr (fun o k ho => hh10 o k (by omega))) hm10
    by_cases w32_23 : (xs i).toInt % 32 = 23
    · refine z_tableIn (pc := 32) (off := 735) (tgt := 767) C dL_law_32 (by omega) (by omega) (by omega) (by rw [show ((xs i).toInt % 32 - 0).toNat = 23 by omega]; rfl) (by decide) ?_
      obtain ⟨x, g2, hok2, h9, h10⟩ := k_count l G (i : Int) (by omega) g hok (xs (i + 1)).toInt hx1
      obtain ⟨q9, c9, i9⟩ := h9 σ hc
      refine z_aload_n (pc := 767) C dL_law_767 rfl 1 rfl ?_
      refine z_aload_n (pc := 768) C dL_law_768 rfl 0 rfl ?_
      refine z_iload_n (pc := 769) C dL_law_769 rfl 3 rfl ?_
      refine z_iconst (pc := 770) C dL_law_770 ?_
      refine z_iadd (pc := 771) C dL_law_771 ?_
      refine z_sld (pc := 772) C hX hbl hbA (i := i + 1) rfl (by omega) hL dL_law_772 ?_
      refine z_LV (pc := 773) (o := 0) (As := [.int (zI (xs (i + 1)).toInt)]) (rest := []) C c9 ml_L_109 yw_X9_count dL_law_773 (by decide) (by decide) rfl rfl rfl (Nat.le_of_ble_eq_true rfl) ⟨by decide, by decide⟩ ⟨by decide, by decide⟩ (fun v τ9 hq => ?_)
      obtain ⟨r9, rfl, hr9, hq⟩ := hq
      obtain ⟨rfl, hc9, hh9⟩ := i9 _ _ hq
      obtain ⟨q10, c10, i10⟩ := h10 τ9 (hmo.fr hh9)
      refine z_aload_n (pc := 776) C dL_law_776 rfl 2 rfl ?_
      refine z_aload_n (pc := 777) C dL_law_777 rfl 0 rfl ?_
      refine z_iload_n (pc := 778) C dL_law_778 rfl 3 rfl ?_
      refine z_iconst (pc := 779) C dL_law_779 ?_
      refine z_iadd (pc := 780) C dL_law_780 ?_
      refine z_sld (pc := 781) C hX hbl hbA (i := i + 1) rfl (by omega) hL dL_law_781 ?_
      refine z_LV (pc := 782) (o := 108) (As := [.int (zI (xs (i + 1)).toInt)]) (rest := [.int (zI r9)]) C c10 ml_L_112 yw_X10_count dL_law_782 (by decide) (by decide) rfl rfl rfl (Nat.le_of_ble_eq_true rfl) ⟨by decide, by decide⟩ ⟨by decide, by decide⟩ (fun v τ10 hq => ?_)
      obtain ⟨r10, rfl, hr10, hq⟩ := hq
      obtain ⟨e10, hm10, hh10⟩ := i10 _ _ hq
      subst e10
      refine z_icmp_eq (pc := 785) (tgt := 804) C dL_law_785 (by decide) ⟨by omega, by omega⟩ (fun _ => ?_) (fun cne => absurd rfl cne)
      exact J804 τ10 g2 hok2 (hc9.fr (fun o k ho => hh10 o k (by omega))) hm10
    have w32_24 : (xs i).toInt % 32 = 24 := by omega
    refine z_tableIn (pc := 32) (off := 758) (tgt := 790) C dL_law_32 (by omega) (by omega) (by omega) (by rw [show ((xs i).toInt % 32 - 0).toNat = 24 by omega]; rfl) (by decide) ?_
    obtain ⟨x, h9, h10⟩ := k_digest l G (i : Int) (by omega) g hok
    obtain ⟨q9, c9, i9⟩ := h9 σ hc
    refine z_aload_n (pc := 790) C dL_law_790 rfl 1 rfl ?_
    refine z_LV (pc := 791) (o := 0) (As := []) (rest := []) C c9 ml_L_113 yw_X9_digest dL_law_791 (by decide) (by decide) rfl rfl rfl (Nat.le_of_ble_eq_true rfl) ⟨by decide, by decide⟩ ⟨by decide, by decide⟩ (fun v τ9 hq => ?_)
    obtain ⟨r9, rfl, hq⟩ := hq
    obtain ⟨rfl, hc9, hh9⟩ := i9 _ _ hq
    obtain ⟨q10, c10, i10⟩ := h10 τ9 (hmo.fr hh9)
    refine z_aload_n (pc := 794) C dL_law_794 rfl 2 rfl ?_
    refine z_LV (pc := 795) (o := 108) (As := []) (rest := [.long (zJ r9)]) C c10 ml_L_117 yw_X10_digest dL_law_795 (by decide) (by decide) rfl rfl rfl (Nat.le_of_ble_eq_true rfl) ⟨by decide, by decide⟩ ⟨by decide, by decide⟩ (fun v τ10 hq => ?_)
    obtain ⟨r10, rfl, hq⟩ := hq
    obtain ⟨e10, hm10, hh10⟩ := i10 _ _ hq
    subst e10
    refine z_lcmp (pc := 798) C dL_law_798 ?_
    rw [zcmp0]
    refine z_if_eq (pc := 799) (tgt := 804) C dL_law_799 (by decide) (by omega) (fun _ => ?_) (fun cne => absurd rfl cne)
    exact J804 τ10 g (hok.up (by omega)) (hc9.fr (fun o k ho => hh10 o k (by omega))) hm10
set_option maxHeartbeats 4000000 in
theorem whole_start {p : Program} {e : Env} {s : State} {m : MethodId} {below : List Frame} {meth : Method} {c : Code} (l : Launch) (hflags : l.flags = flags0) {b L : Nat} {xs : Nat → Int32} (hL : L ≤ 256) (C0 : lw_At p s m meth c b L xs) : W p l e room_1 s m #[Value.ref b] below meth c s.heap [] 0 0 (lw_Z below #[Value.ref b] s) (entryFrame m ([Value.ref b] : List Value).toArray 4) := by
  obtain ⟨hx, hb, hr, hml, hown, hts, hX, hbl, hlocks, hgv⟩ := id C0
  obtain ⟨G, hG, hZ⟩ := z_start hts hgv
  have hbA : ¬ zA G b := by show ¬ zB G ≤ b; rw [hG]; exact Nat.not_le.mpr hbl
  obtain ⟨X, hXd⟩ : ∃ X : zXt, X = (p, l, e, room_1, s, m, #[Value.ref b], below, meth, c, MQ below (zQ G true 129 zPo) #[Value.ref b] s 666514 7102705 (zA G)) := ⟨_, rfl⟩
  have C : zC G X code 4 RL (some .boolean) true 2048 84000 666514 7102705 129 zPo false l := by
    rw [hXd]
    exact ⟨hx, hb, hml, hown, hZ, Nat.le_of_eq hG, hlocks, hr, rfl, rfl, (fun q => by cases q), rfl⟩
  have D : zC G X code 4 RL (some .boolean) false 2048 84000 666514 7102705 129 zPo false l := by
    rw [hXd]
    exact ⟨hx, hb, hml, hown, hZ, Nat.le_of_eq hG, hlocks, hr, rfl, by rw [zQ_eq], (fun q => by cases q), rfl⟩
  have hX2 : va_X b L xs X.2.2.2.2.1 X.2.2.2.2.1.heap := by rw [hXd]; exact hX
  have hbl2 : b < X.2.2.2.2.1.heap.size := by rw [hXd]; exact hbl
  have core : zg G X false 4 0 0 0 0 [(0, .ref b)] [] zM0 := by
    refine z_new (pc := 0) (ci := 9) (n := 13) D (by decide) (by decide +kernel) nC_L_7 nW_9.1 nW_9.2 dL_law_0 (by decide) (fun k => (zM0_z 0 129).z (c := 9) (by decide) (by decide) (by omega) (by omega) k) ⟨by decide, by decide⟩ ?_
    refine z_dup (pc := 3) D dL_law_3 rfl ?_
    refine z_I (pc := 4) (o := 0) (rest := [.ref (zB G + 0)]) D (c_X9_init l G _ (zM0_z 0 108)) ml_L_9 yi_X9_init dL_law_4 rfl rfl rfl (Nat.le_of_ble_eq_true rfl) ⟨⟨by decide, by decide⟩, by decide, by decide⟩ (by omega) (fun v τ1 hq => ?_)
    obtain ⟨rfl, h1⟩ := hq
    have hz1 : zZ 108 129 τ1 := fun q a1 a2 k => by rw [(h1 q k).2 (by omega)]; exact zM0_z 0 129 q (by omega) a2 k
    refine z_astore_n (pc := 7) (lv' := [(1, _), (0, _)]) D dL_law_7 rfl (by decide) rfl ?_
    refine z_new (pc := 8) (ci := 10) (n := 42) D (by decide) (by decide +kernel) nC_L_10 nW_10.1 nW_10.2 dL_law_8 (by decide) (fun k => hz1.z (c := 10) (by decide) (by decide) (by omega) (by omega) k) ⟨by decide, by decide⟩ ?_
    refine z_dup (pc := 11) D dL_law_11 rfl ?_
    refine z_I (pc := 12) (o := 108) (rest := [.ref (zB G + 108)]) D (c_X10_init l G _ hz1) ml_L_12 yi_X10_init dL_law_12 rfl rfl rfl (Nat.le_of_ble_eq_true rfl) ⟨⟨by decide, by decide⟩, by decide, by decide⟩ (by omega) (fun v τ2 hq => ?_)
    obtain ⟨rfl, h2⟩ := hq
    have hbu := zmade_b h1 h2
    obtain ⟨g, g1, g2, g3⟩ := zmade_r h1 h2
    refine z_full hbu ?_
    refine z_astore_n (pc := 15) (lv' := [(2, _), (1, _), (0, _)]) C dL_law_15 rfl (by decide) rfl ?_
    refine z_iconst (pc := 16) C dL_law_16 ?_
    refine z_istore_n (pc := 17) (lv' := [(3, _), (2, _), (1, _), (0, _)]) C dL_law_17 rfl (by decide) rfl ?_
    refine z_subc [3, 2, 1, 0] rfl ?_
    exact z_loop C hX2 hbl2 hbA hL _ 0 τ2 g (Nat.lt_succ_self _) (by omega) g1 g2 g3 hbu
  have hl := lv_entry ([.ref b]) (n := 4) (Nat.le_of_ble_eq_true rfl)
  rw [lg_entry_eq]
  have hP0 : va_P (zD G) vwCl (zw G 0 zM0) s.heap := fun k q h => by simp [zw] at h
  have hb0 : zBu false zM0 := ⟨(fun q => by cases q), fun q k _ => by unfold zM0; split <;> omega⟩
  have w := core s.heap [] _ hG.symm hP0 (by rw [hXd]; exact va_S.rf) hl hb0
  rw [hXd] at w
  intro T hT S
  obtain ⟨t, a1, b1⟩ := w T hT S
  exact ⟨t, a1, zMQ_end hG t b1⟩
