abbrev zRow (r n : Nat) : Prop := zk r = 6 ∧ zk (r + 1) = 11 ∧ zl (r + 1) = n ∧ r + 1 < 129
abbrev zLane (o : Nat) : Prop := zk o = 1 ∧ zRow (o + 1) 6 ∧ zRow (o + 3) 6 ∧ zRow (o + 5) 6 ∧ zRow (o + 7) 6 ∧ o + 8 < 129
/-- a contract of a method that makes nothing, of rank k, over the complete world -/
abbrev zN (l : Launch) (G : zGt) (y : MethodName) (cc : ByteArray) (nL : Nat) (ret : Option FieldType) (k : Nat) (av : List Value) (σ : zMem) (post : Option Value → zMem → Prop) : Prop := zM l G y cc nL ret true k (64 * k) 0 0 129 129 av σ post
section ZN
variable {G : zGt} {X : zXt} {nL pc k ky : Nat} {lv : List (Nat × Value)} {st : List Value} {σ : zMem} {cc : ByteArray} {own : String} {ret : Option FieldType} {post : Option Value → zMem → Prop} {isI : Bool} {l : Launch}
theorem z_sub (C : zC G X cc nL own ret true k (64 * k) 0 0 129 post isI l) {lv' : List (Nat × Value)} (ks : List Nat) (h : lv_pick lv ks = lv') (kk : zg G X true nL 129 0 0 pc lv' st σ) : zg G X true nL 129 0 0 pc lv st σ := fun H locs ls hz hP hS hl hb => kk H locs ls hz hP hS (lv_sub hl ks h) hb
theorem z_room {nLy : Nat} (h : ky + 1 ≤ k ∧ nLy ≤ 45) : (ky + 1 ≤ k ∧ 8 + (nLy + 11) + 64 * ky ≤ 64 * k) ∧ 0 + 0 ≤ 0 ∧ 0 + 0 ≤ 0 := by omega
theorem z_Vi (C : zC G X cc nL own ret true k (64 * k) 0 0 129 post isI l) {y : MethodName} {ccy : ByteArray} {nLy : Nat} {rety : Option FieldType} {n ci o index : Nat} {av As rest : List Value} {p : Int → zMem → Prop}
    (hM : zN l G y ccy nLy rety ky av σ (zPi p)) (hl : zml own index y) (hy : zcv y ci ccy nLy rety n) (hd : decode cc pc = .ok (.invokevirtual index, 3)) (hk : zk o = ci) (ho : o < 129) (hav : av = .ref (zB G + o) :: As) (hst : st = As.reverse ++ .ref (zB G + o) :: rest) (hn : As.length = n) (hW : (rest.map fun v => v.category).sum ≤ 8) (hR : ky + 1 ≤ k ∧ nLy ≤ 45)
    (kk : ∀ (r : Int) (τ : zMem), zR r → p r τ → zg G X true nL 129 0 0 (pc + 3) lv (.int (zI r) :: rest) τ) : zg G X true nL 129 0 0 pc lv st σ :=
  z_V C hM hl hy hd hk ho hav hst hn hW (z_room hR) (Nat.le_refl _) (fun v τ hq => by obtain ⟨r, rfl, h1, h2⟩ := hq; exact kk r τ h1 h2)
theorem z_Vv (C : zC G X cc nL own ret true k (64 * k) 0 0 129 post isI l) {y : MethodName} {ccy : ByteArray} {nLy : Nat} {rety : Option FieldType} {n ci o index : Nat} {av As rest : List Value} {p : zMem → Prop}
    (hM : zN l G y ccy nLy rety ky av σ (zPv p)) (hl : zml own index y) (hy : zcv y ci ccy nLy rety n) (hd : decode cc pc = .ok (.invokevirtual index, 3)) (hk : zk o = ci) (ho : o < 129) (hav : av = .ref (zB G + o) :: As) (hst : st = As.reverse ++ .ref (zB G + o) :: rest) (hn : As.length = n) (hW : (rest.map fun v => v.category).sum ≤ 8) (hR : ky + 1 ≤ k ∧ nLy ≤ 45)
    (kk : ∀ (τ : zMem), p τ → zg G X true nL 129 0 0 (pc + 3) lv rest τ) : zg G X true nL 129 0 0 pc lv st σ :=
  z_V C hM hl hy hd hk ho hav hst hn hW (z_room hR) (Nat.le_refl _) (fun v τ hq => by obtain ⟨rfl, h2⟩ := hq; exact kk τ h2)
theorem z_Vl (C : zC G X cc nL own ret true k (64 * k) 0 0 129 post isI l) {y : MethodName} {ccy : ByteArray} {nLy : Nat} {rety : Option FieldType} {n ci o index : Nat} {av As rest : List Value} {p : Int → zMem → Prop}
    (hM : zN l G y ccy nLy rety ky av σ (zPl p)) (hl : zml own index y) (hy : zcv y ci ccy nLy rety n) (hd : decode cc pc = .ok (.invokevirtual index, 3)) (hk : zk o = ci) (ho : o < 129) (hav : av = .ref (zB G + o) :: As) (hst : st = As.reverse ++ .ref (zB G + o) :: rest) (hn : As.length = n) (hW : (rest.map fun v => v.category).sum ≤ 8) (hR : ky + 1 ≤ k ∧ nLy ≤ 45)
    (kk : ∀ (r : Int) (τ : zMem), p r τ → zg G X true nL 129 0 0 (pc + 3) lv (.long (zJ r) :: rest) τ) : zg G X true nL 129 0 0 pc lv st σ :=
  z_V C hM hl hy hd hk ho hav hst hn hW (z_room hR) (Nat.le_refl _) (fun v τ hq => by obtain ⟨r, rfl, h2⟩ := hq; exact kk r τ h2)
theorem z_Vr (C : zC G X cc nL own ret true k (64 * k) 0 0 129 post isI l) {y : MethodName} {ccy : ByteArray} {nLy : Nat} {rety : Option FieldType} {n ci o index : Nat} {av As rest : List Value} {p : Nat → zMem → Prop}
    (hM : zN l G y ccy nLy rety ky av σ (zPr G p)) (hl : zml own index y) (hy : zcv y ci ccy nLy rety n) (hd : decode cc pc = .ok (.invokevirtual index, 3)) (hk : zk o = ci) (ho : o < 129) (hav : av = .ref (zB G + o) :: As) (hst : st = As.reverse ++ .ref (zB G + o) :: rest) (hn : As.length = n) (hW : (rest.map fun v => v.category).sum ≤ 8) (hR : ky + 1 ≤ k ∧ nLy ≤ 45)
    (kk : ∀ (r : Nat) (τ : zMem), p r τ → zg G X true nL 129 0 0 (pc + 3) lv (.ref (zB G + r) :: rest) τ) : zg G X true nL 129 0 0 pc lv st σ :=
  z_V C hM hl hy hd hk ho hav hst hn hW (z_room hR) (Nat.le_refl _) (fun v τ hq => by obtain ⟨r, rfl, h2⟩ := hq; exact kk r τ h2)
theorem z_Si (C : zC G X cc nL own ret true k (64 * k) 0 0 129 post isI l) {y : MethodName} {ccy : ByteArray} {nLy : Nat} {rety : Option FieldType} {n index : Nat} {av rest : List Value} {p : Int → zMem → Prop}
    (hM : zN l G y ccy nLy rety ky av σ (zPi p)) (hl : zml own index y) (hy : zcs y ccy nLy rety n) (hd : decode cc pc = .ok (.invokestatic index, 3)) (hst : st = av.reverse ++ rest) (hn : av.length = n) (hW : (rest.map fun v => v.category).sum ≤ 8) (hR : ky + 1 ≤ k ∧ nLy ≤ 45)
    (kk : ∀ (r : Int) (τ : zMem), zR r → p r τ → zg G X true nL 129 0 0 (pc + 3) lv (.int (zI r) :: rest) τ) : zg G X true nL 129 0 0 pc lv st σ :=
  z_S C hM hl hy hd hst hn hW (z_room hR) (Nat.le_refl _) (fun v τ hq => by obtain ⟨r, rfl, h1, h2⟩ := hq; exact kk r τ h1 h2)
theorem z_Sl (C : zC G X cc nL own ret true k (64 * k) 0 0 129 post isI l) {y : MethodName} {ccy : ByteArray} {nLy : Nat} {rety : Option FieldType} {n index : Nat} {av rest : List Value} {p : Int → zMem → Prop}
    (hM : zN l G y ccy nLy rety ky av σ (zPl p)) (hl : zml own index y) (hy : zcs y ccy nLy rety n) (hd : decode cc pc = .ok (.invokestatic index, 3)) (hst : st = av.reverse ++ rest) (hn : av.length = n) (hW : (rest.map fun v => v.category).sum ≤ 8) (hR : ky + 1 ≤ k ∧ nLy ≤ 45)
    (kk : ∀ (r : Int) (τ : zMem), p r τ → zg G X true nL 129 0 0 (pc + 3) lv (.long (zJ r) :: rest) τ) : zg G X true nL 129 0 0 pc lv st σ :=
  z_S C hM hl hy hd hst hn hW (z_room hR) (Nat.le_refl _) (fun v τ hq => by obtain ⟨r, rfl, h2⟩ := hq; exact kk r τ h2)
end ZN
section ZE
variable {G : zGt} {X : zXt} {c : Bool} {nL T ce sl pc fr lo mc ms T1 : Nat} {lv : List (Nat × Value)} {st : List Value} {σ : zMem} {cc : ByteArray} {own : String} {ret : Option FieldType} {post : Option Value → zMem → Prop} {isI : Bool} {l : Launch}
theorem z_putIe (C : zC G X cc nL own ret c fr lo mc ms T1 post isI l) {index ci k o : Nat} {x : Int} (hf : zfl own index ci k 0) (hd : decode cc pc = .ok (.putfield index, 3)) (hk : zk o = ci) (ho : o < T) (hx : zR x)
    (kk : ∀ τ : zMem, τ = zU σ o k x → zg G X c nL T ce sl (pc + 3) lv st τ) : zg G X c nL T ce sl pc lv (.int (zI x) :: .ref (zB G + o) :: st) σ := z_putI C hf hd hk ho hx (kk _ rfl)
theorem z_putZe (C : zC G X cc nL own ret c fr lo mc ms T1 post isI l) {index ci k o : Nat} {x : Int} (hf : zfl own index ci k 2) (hd : decode cc pc = .ok (.putfield index, 3)) (hk : zk o = ci) (ho : o < T) (hx : x = 0 ∨ x = 1)
    (kk : ∀ τ : zMem, τ = zU σ o k x → zg G X c nL T ce sl (pc + 3) lv st τ) : zg G X c nL T ce sl pc lv (.int (zI x) :: .ref (zB G + o) :: st) σ := z_putZ C hf hd hk ho hx (kk _ rfl)
theorem z_putJe (C : zC G X cc nL own ret c fr lo mc ms T1 post isI l) {index ci k o : Nat} {x : Int} (hf : zfl own index ci k 1) (hd : decode cc pc = .ok (.putfield index, 3)) (hk : zk o = ci) (ho : o < T)
    (kk : ∀ τ : zMem, τ = zU σ o k x → zg G X c nL T ce sl (pc + 3) lv st τ) : zg G X c nL T ce sl pc lv (.long (zJ x) :: .ref (zB G + o) :: st) σ := z_putJ C hf hd hk ho (kk _ rfl)
theorem z_iastoree (C : zC G X cc nL own ret c fr lo mc ms T1 post isI l) {o : Nat} {a x : Int} (i : Nat) (hd : decode cc pc = .ok (.iastore, 1)) (hk : zk o = 11) (ho : o < T) (hi : a = i) (hin : i < zl o) (hx : zR x)
    (kk : ∀ τ : zMem, τ = zU σ o i x → zg G X c nL T ce sl (pc + 1) lv st τ) : zg G X c nL T ce sl pc lv (.int (zI x) :: .int (zI a) :: .ref (zB G + o) :: st) σ := z_iastore C i hd hk ho hi hin hx (kk _ rfl)
theorem z_bastoree (C : zC G X cc nL own ret c fr lo mc ms T1 post isI l) {o : Nat} {a x : Int} (i : Nat) (hd : decode cc pc = .ok (.bastore, 1)) (hk : zk o = 12) (ho : o < T) (hi : a = i) (hin : i < zl o) (hx : zR x ∧ narrow .byte (.int (zI x)) = .int (zI x))
    (kk : ∀ τ : zMem, τ = zU σ o i x → zg G X c nL T ce sl (pc + 1) lv st τ) : zg G X c nL T ce sl pc lv (.int (zI x) :: .int (zI a) :: .ref (zB G + o) :: st) σ := z_bastore C i hd hk ho hi hin hx.1 hx.2 (kk _ rfl)
end ZE
/-! pure words -/
theorem zU_at {σ : zMem} {o k : Nat} {v : Int} : zU σ o k v o k = v := by simp [zU]
theorem zU_k {σ : zMem} {o k j : Nat} {v : Int} (h : j ≠ k) : zU σ o k v o j = σ o j := by simp [zU, h]
theorem zU_o {σ : zMem} {o k a b : Nat} {v : Int} (h : a ≠ o) : zU σ o k v a b = σ a b := by simp [zU, h]
/-- a block of objects, and what stays outside it -/
def zFr (a b : Nat) (σ τ : zMem) : Prop := ∀ o k, (o < a ∨ b ≤ o) → τ o k = σ o k
theorem zFr.rf {a b : Nat} {σ : zMem} : zFr a b σ σ := fun _ _ _ => rfl
theorem zFr.put {a b : Nat} {σ τ : zMem} (h : zFr a b σ τ) {o k : Nat} {v : Int} (h1 : a ≤ o) (h2 : o < b) : zFr a b σ (zU τ o k v) := fun q j hq => by
  rw [zU_o (by omega)]; exact h q j hq
theorem zFr.tr {a b : Nat} {σ τ υ : zMem} (h : zFr a b σ τ) (h2 : zFr a b τ υ) : zFr a b σ υ := fun q j hq => (h2 q j hq).trans (h q j hq)
theorem zFr.mono {a b a' b' : Nat} {σ τ : zMem} (h : zFr a' b' σ τ) (h1 : a ≤ a') (h2 : b' ≤ b) : zFr a b σ τ := fun q j hq => h q j (by omega)
/-- the sum of the first n -/
def zsum (f : Nat → Int) : Nat → Int
  | 0 => 0
  | n + 1 => zsum f n + f n
theorem zsum_bd {f : Nat → Int} {c : Int} : ∀ {n : Nat}, (∀ i, i < n → 0 ≤ f i ∧ f i ≤ c) → 0 ≤ zsum f n ∧ zsum f n ≤ c * n := by
  intro n
  induction n with
  | zero => intro _; simp [zsum]
  | succ n ih =>
    intro h
    have h1 := ih (fun i hi => h i (by omega))
    have h2 := h n (by omega)
    simp only [zsum]
    have e : c * ((n + 1 : Nat) : Int) = c * n + c := by rw [Int.natCast_succ, Int.mul_add, Int.mul_one]
    omega
theorem zsum_congr {f g : Nat → Int} : ∀ {n : Nat}, (∀ i, i < n → f i = g i) → zsum f n = zsum g n := by
  intro n
  induction n with
  | zero => intro _; rfl
  | succ n ih => intro h; simp only [zsum]; rw [ih (fun i hi => h i (by omega)), h n (by omega)]
