abbrev zRow (r n : Nat) : Prop := zk r = 6 ∧ zk (r + 1) = 11 ∧ zl (r + 1) = n ∧ r + 1 < 129
abbrev zLane (o : Nat) : Prop := zk o = 1 ∧ zRow (o + 1) 6 ∧ zRow (o + 3) 6 ∧ zRow (o + 5) 6 ∧ zRow (o + 7) 6 ∧ o + 8 < 129
/-- a contract of a method that makes nothing, of rank k, over the complete world -/
abbrev zN (l : Launch) (G : zGt) (y : MethodName) (cc : ByteArray) (nL : Nat) (ret : Option FieldType) (k : Nat) (av : List Value) (σ : zMem) (post : Option Value → zMem → Prop) : Prop := zM l G y cc nL ret true k (64 * k) 0 0 129 129 av σ post
section ZN
variable {G : zGt} {X : zXt} {nL pc k ky : Nat} {lv : List (Nat × Value)} {st : List Value} {σ : zMem} {cc : ByteArray} {own : String} {ret : Option FieldType} {post : Option Value → zMem → Prop} {isI : Bool} {l : Launch}
theorem z_sub (C : zC G X cc nL own ret true k (64 * k) 0 0 129 post isI l) {lv' : List (Nat × Value)} (ks : List Nat) (h : lv_pick lv ks = lv') (kk : zg G X true nL 129 0 0 pc lv' st σ) : zg G X true nL 129 0 0 pc lv st σ := fun H locs ls hz hP hS hl hb => kk H locs ls hz hP hS (lv_sub hl ks h) hb
theorem z_room {nLy : Nat} (h : ky + 1 ≤ k ∧ nLy ≤ 45) : (ky + 1 ≤ k ∧ 8 + (nLy + 11) + 64 * ky ≤ 64 * k) ∧ 0 + 0 ≤ 0 ∧ 0 + 0 ≤ 0 := by omega
theorem z_Vi (C : zC G X cc nL own ret true k (64 * k) 0 0 129 post isI l) {y : MethodName} {ccy : ByteArray} {nLy : Nat} {rety : Option FieldType} {n ci o index : Nat} {av As rest : List Value} {p : Int → zMem → Prop}
    (hM : zN l G y ccy nLy rety ky av σ (zPi p)) (hl : zml own index y) (hy : zcv y ci ccy nLy rety n) (hd : decode cc pc = .ok (.invokevirtual index, 3)) (hk : zk o = ci) (ho : o < 129) (hav : av = .ref (zB G + o) :: As) (hst : st = As.reverse ++ .ref (zB G + o) :: rest) (hn : As.length = n) (hW : (rest.map fun v => v.category).sum ≤ 8) (hR : ky + 1 ≤ k ∧ nLy ≤ 45)
    (kk : ∀ (r : Int) (τ : zMem), zR r → p r τ → zg G X true nL 129 0 0 (pc + 3) lv (.int (zI r) :: rest) τ) : zg G X true nL 129 0 0 pc lv st σ :=
  z_V C hM hl hy hd hk ho hav hst hn hW (z_room hR) (Nat.le_refl _) (fun v τ hq => by obtain ⟨r, rfl, h1, h2⟩ := hq; exact kk r τ h1 h2)
theorem z_Vv (C : zC G X cc nL own ret true k (64 * k) 0 0 129 post isI l) {y : MethodName} {ccy : ByteArray} {nLy : Nat} {rety : Option FieldType} {n ci o index : Nat} {av As rest : List Value} {p : zMem → Prop}
    (hM : zN l G y ccy nLy rety ky av σ (zPv p)) (hl : zml own index y) (hy : zcv y ci ccy nLy rety n) (hd : decode cc pc = .ok (.invokevirtual index, 3)) (hk : zk o = ci) (ho : o < 129) (hav : av = .ref (zB G + o) :: As) (hst : st = As.reverse ++ .ref (zB G + o) :: rest) (hn : As.length = n) (hW : (rest.map fun v => v.category).sum ≤ 8) (hR : ky + 1 ≤ k ∧ nLy ≤ 45)
    (kk : ∀ (τ : zMem), p τ → zg G X true nL 129 0 0 (pc + 3) lv rest τ) : zg G X true nL 129 0 0 pc lv st σ :=
  z_V C hM hl hy hd hk ho hav hst hn hW (z_room hR) (Nat.le_refl _) (fun v τ hq => by obtain ⟨rfl, h2⟩ := hq; exact kk τ h2)
theorem z_Vl (C : zC G X cc nL own ret true k (64 * k) 0 0 129 post isI l) {y : MethodName} {ccy : ByteArray} {nLy : Nat} {rety : Option FieldType} {n ci o index : Nat} {av As rest : List Value} {p : Int → zMem → Prop}
    (hM : zN l G y ccy nLy rety ky av σ (zPl p)) (hl : zml own index y) (hy : zcv y ci ccy nLy rety n) (hd : decode cc pc = .ok (.invokevirtual index, 3)) (hk : zk o = ci) (ho : o < 129) (hav : av = .ref (zB G + o) :: As) (hst : st = As.reverse ++ .ref (zB G + o) :: rest) (hn : As.length = n) (hW : (rest.map fun v => v.category).sum ≤ 8) (hR : ky + 1 ≤ k ∧ nLy ≤ 45)
    (kk : ∀ (r : Int) (τ : zMem), p r τ → zg G X true nL 129 0 0 (pc + 3) lv (.long (zJ r) :: rest) τ) : zg G X true nL 129 0 0 pc lv st σ :=
  z_V C hM hl hy hd hk ho hav hst hn hW (z_room hR) (Nat.le_refl _) (fun v τ hq => by obtain ⟨r, rfl, h2⟩ := hq; exact kk r τ h2)
theorem z_Vr (C : zC G X cc nL own ret true k (64 * k) 0 0 129 post isI l) {y : MethodName} {ccy : ByteArray} {nLy : Nat} {rety : Option FieldType} {n ci o index : Nat} {av As rest : List Value} {p : Nat → zMem → Prop}
    (hM : zN l G y ccy nLy rety ky av σ (zPr G p)) (hl : zml own index y) (hy : zcv y ci ccy nLy rety n) (hd : decode cc pc = .ok (.invokevirtual index, 3)) (hk : zk o = ci) (ho : o < 129) (hav : av = .ref (zB G + o) :: As) (hst : st = As.reverse ++ .ref (zB G + o) :: rest) (hn : As.length = n) (hW : (rest.map fun v => v.category).sum ≤ 8) (hR : ky + 1 ≤ k ∧ nLy ≤ 45)
    (kk : ∀ (r : Nat) (τ : zMem), p r τ → zg G X true nL 129 0 0 (pc + 3) lv (.ref (zB G + r) :: rest) τ) : zg G X true nL 129 0 0 pc lv st σ :=
  z_V C hM hl hy hd hk ho hav hst hn hW (z_room hR) (Nat.le_refl _) (fun v τ hq => by obtain ⟨r, rfl, h2⟩ := hq; exact kk r τ h2)
theorem z_Si (C : zC G X cc nL own ret true k (64 * k) 0 0 129 post isI l) {y : MethodName} {ccy : ByteArray} {nLy : Nat} {rety : Option FieldType} {n index : Nat} {av rest : List Value} {p : Int → zMem → Prop}
    (hM : zN l G y ccy nLy rety ky av σ (zPi p)) (hl : zml own index y) (hy : zcs y ccy nLy rety n) (hd : decode cc pc = .ok (.invokestatic index, 3)) (hst : st = av.reverse ++ rest) (hn : av.length = n) (hW : (rest.map fun v => v.category).sum ≤ 8) (hR : ky + 1 ≤ k ∧ nLy ≤ 45)
    (kk : ∀ (r : Int) (τ : zMem), zR r → p r τ → zg G X true nL 129 0 0 (pc + 3) lv (.int (zI r) :: rest) τ) : zg G X true nL 129 0 0 pc lv st σ :=
  z_S C hM hl hy hd hst hn hW (z_room hR) (Nat.le_refl _) (fun v τ hq => by obtain ⟨r, rfl, h1, h2⟩ := hq; exact kk r τ h1 h2)
theorem z_Sl (C : zC G X cc nL own ret true k (64 * k) 0 0 129 post isI l) {y : MethodName} {ccy : ByteArray} {nLy : Nat} {rety : Option FieldType} {n index : Nat} {av rest : List Value} {p : Int → zMem → Prop}
    (hM : zN l G y ccy nLy rety ky av σ (zPl p)) (hl : zml own index y) (hy : zcs y ccy nLy rety n) (hd : decode cc pc = .ok (.invokestatic index, 3)) (hst : st = av.reverse ++ rest) (hn : av.length = n) (hW : (rest.map fun v => v.category).sum ≤ 8) (hR : ky + 1 ≤ k ∧ nLy ≤ 45)
    (kk : ∀ (r : Int) (τ : zMem), p r τ → zg G X true nL 129 0 0 (pc + 3) lv (.long (zJ r) :: rest) τ) : zg G X true nL 129 0 0 pc lv st σ :=
  z_S C hM hl hy hd hst hn hW (z_room hR) (Nat.le_refl _) (fun v τ hq => by obtain ⟨r, rfl, h2⟩ := hq; exact kk r τ h2)
end ZN
