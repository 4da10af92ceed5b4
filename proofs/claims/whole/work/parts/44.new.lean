/-! making: new objects, arrays, the references of a constructor -/
section ZNEW
variable {G : zGt} {X : zXt} {c : Bool} {nL T ce sl pc fr lo mc ms T1 : Nat} {lv : List (Nat × Value)} {st : List Value} {σ : zMem} {cc : ByteArray} {own : String} {ret : Option FieldType} {post : Option Value → zMem → Prop} {isI : Bool} {l : Launch}
theorem z_widen {ce2 sl2 : Nat} (h1 : ce ≤ ce2) (h2 : sl ≤ sl2) (kk : zg G X c nL T ce2 sl2 pc lv st σ) : zg G X c nL T ce sl pc lv st σ := fun H locs ls hz hP hS hl hb => W.widen h1 h2 (kk H locs ls hz hP hS hl hb)
theorem z_subc (ks : List Nat) {lv' : List (Nat × Value)} (h : lv_pick lv ks = lv') (kk : zg G X c nL T ce sl pc lv' st σ) : zg G X c nL T ce sl pc lv st σ := fun H locs ls hz hP hS hl hb => kk H locs ls hz hP hS (lv_sub hl ks h) hb
theorem z_obj (C : zC G X cc nL own ret c fr lo mc ms T1 post isI l) {index o : Nat} {rest : List Value} (hl : zin (.methodLink own index Lib.objectInit)) (hw : zin (.instanceMethod Lib.objectInit) ∧ zin (.code Lib.objectInit ⟨#[0xb1]⟩ 1 none)) (hd : decode cc pc = .ok (.invokespecial index, 3)) (hR : 1 ≤ fr ∧ (rest.map fun v => v.category).sum + 12 ≤ lo)
    (kk : zg G X c nL T ce sl (pc + 3) lv rest σ) : zg G X c nL T ce sl pc lv (.ref (zB G + o) :: rest) σ := fun H locs ls hz hP hS hl0 hb => by
  have hRR := C.2.2.2.2.2.2.2.2.1
  have hTW := C.2.2.2.2.1.2.2.1
  exact W.objInit C.1 C.2.1 C.2.2.2.1 (hTW.use hl _) (hTW.use hw.1 _) (hTW.use hw.2 _) (g := F0 _ pc ls (.ref (zB G + o) :: rest)) rfl (hl0.1.trans C.2.2.1.symm) rfl hd (by rw [hRR]; exact hR.1) (by rw [hRR]; show 2 * 0 + _ + 12 ≤ lo; omega) (kk H locs ls hz hP hS hl0 hb)
theorem z_lconst0 (C : zC G X cc nL own ret c fr lo mc ms T1 post isI l) {n : Fin 2} (hd : decode cc pc = .ok (.lconst n, 1)) (hn : Int64.ofNat (n : Nat) = zJ 0) (kk : zg G X c nL T ce sl (pc + 1) lv (.long (zJ 0) :: st) σ) : zg G X c nL T ce sl pc lv st σ := fun H locs ls hz hP hS hl hb => lv_lconst C.1 C.2.1 hd hn (kk H locs ls hz hP hS hl hb)
theorem zdef {ci k o B : Nat} {ty : FieldType} {t : Nat} (h : ci < 11) (hk : k < (zq ci).2.2) (ht : (zt ci)[k]? = some t) (hp : parseFieldDescriptor ((zq ci).2.1 k).2.2.1 = some ty) : defaultValue ty = zv B o t 0 := by
  have h2 := (zchk_at h hk).2
  rw [zt_getD ht, hp] at h2
  rcases t with _ | _ | _ | t <;> cases ty <;> first | (exfalso; revert h2; simp; done) | rfl
theorem zw_made {H H1 : Heap} (hz : H.size = zB G + T) (hP : va_P (zD G) vwCl (zw G T σ) H) (o1 : ∀ q, q < zB G + T → H1[q]? = H[q]?) (hn : va_at (zD G) vwCl (zB G + T, zE G σ T) H1) : va_P (zD G) vwCl (zw G (T + 1) σ) H1 := by
  rw [← zw_push]
  refine (hP.kept (fun k x hx => o1 x.1 (by have := (hP k x hx).lt; omega))).app (fun k x hx => ?_)
  have hz1 : k < 1 := (List.getElem?_eq_some_iff.mp hx).1
  rw [show k = 0 by omega] at hx
  cases hx
  exact hn
theorem z_new (C : zC G X cc nL own ret c fr lo mc ms T1 post isI l) {index ci n : Nat} (hci : ci < 11) (hnn : (zq ci).2.2 = n) (hcl : zin (.classLink own index (zq ci).1)) (hinst : zin (.instantiable (zq ci).1 (zq ci).2.2)) (hini : zin (.initialized (zq ci).1)) (hd : decode cc pc = .ok (.new index, 3)) (hk : zk T = ci) (h0 : ∀ k, σ T k = 0) (hR : ce + 1 ≤ mc ∧ sl + n ≤ ms)
    (kk : zg G X c nL (T + 1) (ce + 1) (sl + n) (pc + 3) lv (.ref (zB G + T) :: st) σ) : zg G X c nL T ce sl pc lv st σ := fun H locs ls hz hP hS hl0 hb => by
  subst hnn
  have hRR := C.2.2.2.2.2.2.2.2.1
  have hTW := C.2.2.2.2.1.2.2.1
  have hKn := C.2.2.2.2.1.1.1 ci _ (zq_at hci)
  have hts : ∀ w ∈ u_ws (zq ci).1 (zq ci).2.1 (zq ci).2.2, w.before X.2.2.2.2.2.2.1 X.2.2.2.2.1 = true := fun w hw => hTW.use (zcl_in hci w hw) _
  obtain ⟨ty, hty⟩ := zty_ok hci
  refine W.newcK C.1 C.2.1 C.2.2.2.1 (hTW.use hcl _) (hTW.use hinst _) (hTW.use hini _) (g := F0 _ pc ls st) rfl hd (by rw [hRR]; exact hR.1) (by rw [hRR]; exact hR.2) hKn.2.1 hz fun H1 kC hkC e1 z1 o1 => ?_
  refine kk H1 locs ls z1 (zw_made hz hP o1 ?_) ⟨Nat.le_trans hS.1 (by omega), fun x h1 h2 => (o1 x (by have := hS.1; omega)).trans (hS.2.1 x h1 h2), hS.2.2⟩ hl0 hb
  rw [zE, if_pos (by omega), hk]
  refine ⟨zq ci, zq_at hci, (u_born ty hts (fun w h => h) hKn hkC e1 hty).to (fun j hj => ?_)⟩
  have hlen := zchk_len hci
  obtain ⟨t, ht⟩ : ∃ t, (zt ci)[j]? = some t := ⟨_, List.getElem?_eq_getElem (by omega)⟩
  have hg := zF_get (G := G) (σ := σ) (o := T) (by rw [hk]; exact ht)
  rw [h0] at hg
  show defaultValue (ty j) = (zF G σ T).getD j .null
  rw [List.getD_eq_getElem?_getD, hg]
  exact zdef hci hj ht (hty j hj)
theorem z_newI (C : zC G X cc nL own ret c fr lo mc ms T1 post isI l) {n : Nat} {a : Int} (ha : a = n) (hn : n ≤ 1000) (hw : zin (.arrayClass .int)) (hd : decode cc pc = .ok (.newarray .int, 2)) (hk : zk T = 11) (hln : zl T = n) (h0 : ∀ k, σ T k = 0) (hR : ce + 1 ≤ mc ∧ sl + n ≤ ms)
    (kk : zg G X c nL (T + 1) (ce + 1) (sl + n) (pc + 2) lv (.ref (zB G + T) :: st) σ) : zg G X c nL T ce sl pc lv (.int (zI a) :: st) σ := fun H locs ls hz hP hS hl0 hb => by
  subst ha
  have hRR := C.2.2.2.2.2.2.2.2.1
  have hTW := C.2.2.2.2.1.2.2.1
  refine va_newaK C.1 C.2.1 (atype := .int) (hTW.use hw _) (g := F0 _ pc ls (.int (zI (n : Int)) :: st)) rfl hd rfl (by rw [zI_lt0 (by omega)]; omega) (zI_nat (by omega)) (by show n * 4 ≤ _; omega) (by rw [hRR]; exact hR.1) (by rw [hRR]; exact hR.2) hz fun H1 cA e1 z1 o1 hAr hNm => ?_
  have hc : cA = G.2.2.1.1 := Option.some.inj (hNm.symm.trans (C.2.2.2.2.1.1.2 0 _ rfl).2)
  refine kk H1 locs ls z1 (zw_made hz hP o1 ?_) ⟨Nat.le_trans hS.1 (by omega), fun x h1 h2 => (o1 x (by have := hS.1; omega)).trans (hS.2.1 x h1 h2), hS.2.2⟩ hl0 hb
  rw [zE, if_neg (by omega), if_pos hk, hln]
  show H1[zB G + T]? = some (vp_cell _ _)
  rw [vp_cell_i, e1, hc]
  congr 2
  funext j
  rw [h0]; rfl
theorem z_newB (C : zC G X cc nL own ret c fr lo mc ms T1 post isI l) {n : Nat} {a : Int} (ha : a = n) (hn : n ≤ 1000) (hw : zin (.arrayClass .byte)) (hd : decode cc pc = .ok (.newarray .byte, 2)) (hk : zk T = 12) (hln : zl T = n) (h0 : ∀ k, σ T k = 0) (hR : ce + 1 ≤ mc ∧ sl + n ≤ ms)
    (kk : zg G X c nL (T + 1) (ce + 1) (sl + n) (pc + 2) lv (.ref (zB G + T) :: st) σ) : zg G X c nL T ce sl pc lv (.int (zI a) :: st) σ := fun H locs ls hz hP hS hl0 hb => by
  subst ha
  have hRR := C.2.2.2.2.2.2.2.2.1
  have hTW := C.2.2.2.2.1.2.2.1
  refine va_newaK C.1 C.2.1 (atype := .byte) (hTW.use hw _) (g := F0 _ pc ls (.int (zI (n : Int)) :: st)) rfl hd rfl (by rw [zI_lt0 (by omega)]; omega) (zI_nat (by omega)) (by show n * 1 ≤ _; omega) (by rw [hRR]; exact hR.1) (by rw [hRR]; exact hR.2) hz fun H1 cA e1 z1 o1 hAr hNm => ?_
  have hc : cA = G.2.2.1.2.1 := Option.some.inj (hNm.symm.trans (C.2.2.2.2.1.1.2 1 _ rfl).2)
  refine kk H1 locs ls z1 (zw_made hz hP o1 ?_) ⟨Nat.le_trans hS.1 (by omega), fun x h1 h2 => (o1 x (by have := hS.1; omega)).trans (hS.2.1 x h1 h2), hS.2.2⟩ hl0 hb
  rw [zE, if_neg (by omega), if_neg (by omega), if_pos hk, hln]
  show H1[zB G + T]? = some (vp_cell _ _)
  rw [vp_cell_i, e1, hc]
  congr 2
  funext j
  rw [h0]; rfl
theorem z_newR (C : zC G X cc nL own ret c fr lo mc ms T1 post isI l) {n index : Nat} {a : Int} (ha : a = n) (hn : n ≤ 1000) (hcl : zin (.classLink own index RX1)) (hd : decode cc pc = .ok (.anewarray index, 3)) (hk : zk T = 13) (hln : zl T = n) (h0 : ∀ k, k < n → σ T k = 0) (hR : ce + 1 ≤ mc ∧ sl + n ≤ ms)
    (kk : zg G X c nL (T + 1) (ce + 1) (sl + n) (pc + 3) lv (.ref (zB G + T) :: st) σ) : zg G X c nL T ce sl pc lv (.int (zI a) :: st) σ := fun H locs ls hz hP hS hl0 hb => by
  subst ha
  have hRR := C.2.2.2.2.2.2.2.2.1
  have hTW := C.2.2.2.2.1.2.2.1
  refine W.anew C.1 C.2.1 C.2.2.2.1 (hTW.use hcl _) (va_AO.use C.2.2.2.2.1.2.1) (g := F0 _ pc ls (.int (zI (n : Int)) :: st)) rfl hd rfl (by rw [zI_lt0 (by omega)]; omega) (by rw [zI_nat (by omega)]; omega) (by rw [hRR]; exact hR.1) (by rw [hRR, zI_nat (by omega)]; exact hR.2) fun cA kA comp f1 f2 f3 f4 => ?_
  rw [zI_nat (by omega)]
  generalize hH1 : H.push ({ cls := cA, slots := Array.replicate n .null, vm := .none } : Cell) = H1
  have z1 : H1.size = H.size + 1 := by rw [← hH1, Array.size_push]
  have e1 : H1[H.size]? = some (arrV cA n (fun _ => .null)) := by rw [← hH1, Array.getElem?_push_size, ← arrV_new]
  have o1 : ∀ q : Nat, q < H.size → H1[q]? = H[q]? := fun q hq => by rw [← hH1, Array.getElem?_push, if_neg (Nat.ne_of_lt hq)]
  have hra := (C.2.2.2.2.1.1.2 2 _ rfl).2
  obtain ⟨-, -, -, -, -, hra2⟩ := hra
  have hc : cA = G.2.2.1.2.2 := Option.some.inj (f1.symm.trans hra2)
  rw [hz] at z1 e1 o1 ⊢
  refine kk H1 locs ls z1 (zw_made hz hP o1 ?_) ⟨Nat.le_trans hS.1 (by omega), fun x h1 h2 => (o1 x (by have := hS.1; omega)).trans (hS.2.1 x h1 h2), hS.2.2⟩ hl0 hb
  rw [zE, if_neg (by omega), if_neg (by omega), if_neg (by omega), hln]
  show H1[zB G + T]? = some (vp_cell _ _)
  rw [vp_cell_q, e1, hc]
  refine congrArg some ?_
  unfold arrV
  refine congrArg (fun z => ({ cls := G.2.2.1.2.2, slots := z, vm := .none } : Cell)) ?_
  apply Array.ext
  · simp
  · intro i h1 h2
    have hi : i < n := by simpa using h1
    simp [h0 i hi, va_rf]
/-- a constructor sets a reference of its own -/
theorem z_putR (C : zC G X cc nL own ret false fr lo mc ms T1 post true l) {index ci k o d : Nat} (o' : Nat) (hf : zfl own index ci k (d + 3)) (hl : zin (.fieldLink own index ((zq ci).2.1 k).1 ((zq ci).2.1 k).2.1 ((zq ci).2.1 k).2.2.1)) (hd : decode cc pc = .ok (.putfield index, 3)) (hk : zk o = ci) (ho : o < T) (ho' : o + (d + 1) = o') (hcl : (zq ci).1 = own)
    (kk : ∀ τ : zMem, τ = zU σ o k 1 → zg G X false nL T ce sl (pc + 3) lv st τ) : zg G X false nL T ce sl pc lv (.ref (zB G + o') :: .ref (zB G + o) :: st) σ := fun H locs ls hz hP hS hl0 hb => by
  obtain ⟨h1, h2, h3, -⟩ := hf
  have hTW := C.2.2.2.2.1.2.2.1
  have hts : ∀ w ∈ u_ws (zq ci).1 (zq ci).2.1 (zq ci).2.2, w.before X.2.2.2.2.2.2.1 X.2.2.2.2.1 = true := fun w hw => hTW.use (zcl_in h1 w hw) _
  obtain ⟨ty0, hty0⟩ := zty_ok h1
  have hlen : k < (zF G σ o).length := by simp [zF, hk]; exact (List.getElem?_eq_some_iff.mp h3).1
  have hch := zchk_at h1 h2
  have hv : zv (zB G) o (d + 3) 1 = .ref (zB G + o') := by simp [zv, ← ho']
  have hbu : zBu false (zU σ o k 1) := hb.putI (fun q => by cases q) (fun _ => by omega)
  have h4 := hch.2
  rw [zt_getD h3, hty0 k h2] at h4
  have hfin : ((zq ci).2.1 k).2.2.2 = true := by
    revert h4
    cases ty0 k <;> simp
  have hnf : narrow (ty0 k) (.ref (zB G + o')) = .ref (zB G + o') ∧ fits (ty0 k) (.ref (zB G + o')) = true := by
    revert h4
    cases ty0 k <;> simp [narrow, fits]
  have hap := va_apart (own := own) hts (fun w h => h) ty0 hty0 (znm_ok ci h1) C.2.2.2.2.1.1 (zq_at h1)
  obtain ⟨r, g1, cell, q1, q2, q3, q4⟩ := hP o _ (zw_obj ho hk h1)
  have hr : r = zq ci := Option.some.inj (g1.symm.trans (zq_at h1))
  subst hr
  obtain ⟨hS', hfc, kC, hkC, hkind⟩ := C.2.2.2.2.1.1.1 ci _ (zq_at h1)
  obtain ⟨cf, kf, fi, f, hi, hsl⟩ := hS' k h2
  have hlay := hts _ (u_in_lay h2)
  unfold u_lay at hlay
  rw [if_pos hfin] at hlay
  have hst := (u_facts hfc hkC (u_lays hts (fun w h => h) h2) hi).1
  have hcf : X.2.2.2.2.2.1.cls = cf := by
    obtain ⟨_, _, c', _, _, _, -, -, hf', -, -, -, hown2, -⟩ := Cond.laysFinal_spec hlay
    have e1 : c' = cf := by have := hi.symm.trans hf'; simp at this; exact this.1.symm
    rw [hch.1, hcl] at hown2
    rw [← e1]; exact Option.some.inj (C.2.2.2.1.symm.trans hown2)
  have h6 := u_fits hfc hkC hkind (Or.inr hlay) hi (hty0 k h2) hnf.1 hnf.2
  have he := zw_obj (G := G) (σ := σ) ho hk h1
  refine W.putFinK C.1 C.2.1 C.2.2.2.1 (hTW.use hl _) hi hst hcf (C.2.2.2.2.2.2.2.2.2.2.1 rfl) (by rw [q2]; exact h6) q1 q3 (by rw [hsl]; exact k2_hasslot (q4 k h2)) rfl rfl hd fun H' e1 e2 e3 => ?_
  rw [hsl] at e1 ⊢
  have hP1 : va_P (zD G) vwCl ((zw G T σ).set o (zB G + o, .inr (ci, (zF G σ o).set k (.ref (zB G + o'))))) H' := hP.set zw_D he ⟨_, zq_at h1, t_OB.to (V := updV (vp_V (zF G σ o)) k (.ref (zB G + o'))) ⟨_, e1, q2, q3, t_set q4 hap h2 _⟩ (fun j _ => vp_updV_set hlen _ j)⟩ e3
  rw [← hv, zw_put ho hk h1 h3] at hP1
  exact kk _ rfl H' _ ls (e2.trans hz) hP1 (hS.put e2 e3 (Nat.le_add_right _ _)) hl0 hbu
theorem zw_storeR {i : Nat} {o : Nat} (h : o < T) (hk : zk o = 13) : (zw G T σ).set o (zB G + o, Sum.inl (G.2.2.1.2.2, zl o, .inr (.inr (.inr (.inr (va_up (fun j => if σ o j = 0 then none else some (zB G + (o + (1 + 9 * j)))) i (some (zB G + (o + (1 + 9 * i)))))))))) = zw G T (zU σ o i 1) := by
  have h1 : zE G (zU σ o i 1) o = Sum.inl (G.2.2.1.2.2, zl o, .inr (.inr (.inr (.inr (va_up (fun j => if σ o j = 0 then none else some (zB G + (o + (1 + 9 * j)))) i (some (zB G + (o + (1 + 9 * i))))))))) := by
    rw [zE, if_neg (by omega), if_neg (by omega), if_neg (by omega)]
    have h2 : (fun j => if zU σ o i 1 o j = 0 then none else some (zB G + (o + (1 + 9 * j)))) = va_up (fun j => if σ o j = 0 then none else some (zB G + (o + (1 + 9 * j)))) i (some (zB G + (o + (1 + 9 * i)))) := by
      funext j
      by_cases hj : j = i
      · subst hj; simp [zU, va_up]
      · simp [zU, va_up, hj]
    rw [h2]
  rw [← h1]
  exact zw_set h (fun a ha => zU_ne ha)
theorem z_aastore (C : zC G X cc nL own ret false fr lo mc ms T1 post isI l) {o o' : Nat} {a : Int} (i : Nat) (hd : decode cc pc = .ok (.aastore, 1)) (hk : zk o = 13) (ho : o < T) (hi : a = i) (hin : i < zl o) (ho' : o + (1 + 9 * i) = o') (hk' : zk o' = 1) (hoT : o' < T)
    (kk : ∀ τ : zMem, τ = zU σ o i 1 → zg G X false nL T ce sl (pc + 1) lv st τ) : zg G X false nL T ce sl pc lv (.ref (zB G + o') :: .int (zI a) :: .ref (zB G + o) :: st) σ := fun H locs ls hz hP hS hl0 hb => by
  subst hi
  have hl2 := zl_le o
  have hlt : i < 2147483648 := by omega
  have ha := zw_ref (G := G) (σ := σ) ho hk
  have hv := zw_obj (G := G) (σ := σ) (ci := 1) hoT hk' (by decide)
  obtain ⟨r', hr', cellV, g1, g2, g3, -⟩ := hP o' _ hv
  have hcls := (C.2.2.2.2.1.1.1 1 _ (zq_at (by decide))).2
  obtain ⟨kA, comp, k1, k2, k3, -⟩ := (C.2.2.2.2.1.1.2 2 _ rfl).2
  have hcomp : comp = (zD G).1 1 := Option.some.inj (k3.symm.trans hcls.1)
  subst hcomp
  obtain ⟨kC, hkC, -⟩ := hcls.2
  have hbu : zBu false (zU σ o i 1) := hb.putI (fun q => by cases q) (fun _ => by omega)
  refine W.aast C.1 C.2.1 (hP o _ ha) (fun q h => by cases h) (fun h => by cases h) k1 k2 rfl hkC ⟨by rw [zI_lt0 (by omega)]; omega, by show _ < (arrV _ _ _).slots.size; rw [arrV_size, zI_nat hlt]; exact hin⟩ g1 (fun q h => by rw [g3] at h; cases h) (by rw [g2]; exact hkC) (by rw [g2]; exact va_assign hcls) rfl rfl hd fun H1 e z oq => ?_
  rw [zI_nat hlt] at e ⊢
  have h1 : va_P (zD G) vwCl (zw G T (zU σ o i 1)) H1 := by
    rw [← zw_storeR ho hk]
    refine hP.set zw_D ha ?_ oq
    show H1[_]? = some (vp_cell _ _)
    rw [e]
    rw [vp_cell_q, vp_cell_q, arrV_store]
    congr 2
    funext q
    by_cases hq : q = i
    · subst hq
      simp [updV, va_up, va_rf, ← ho']
    · simp [updV, va_up, hq]
  exact kk _ rfl H1 _ ls (z.trans hz) h1 (hS.put z oq (Nat.le_add_right _ _)) hl0 hbu
end ZNEW
