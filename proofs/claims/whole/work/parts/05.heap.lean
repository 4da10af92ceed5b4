abbrev zin (w : Cond) : Prop := w ∈ lw_tbl ∧ goodWord w = true
/-- the classes by number -/
def zq (c : Nat) : vw_C := vwCl.getD c (RX0, TX0, 1)
theorem zq_at {c : Nat} (h : c < 11) : vwCl[c]? = some (zq c) := by
  have hl : c < vwCl.length := h
  simp [zq, List.getD_eq_getElem?_getD, List.getElem?_eq_getElem hl]
set_option maxRecDepth 100000 in
theorem zcl_w : ∀ q ∈ vwCl, ∀ w ∈ u_ws q.1 q.2.1 q.2.2, w ∈ lw_tbl ∧ goodWord w = true := by decide +kernel
theorem zcl_in {c : Nat} (h : c < 11) : ∀ w ∈ u_ws (zq c).1 (zq c).2.1 (zq c).2.2, zin w := zcl_w _ (List.mem_of_getElem? (zq_at h))
theorem zTW.use {U : State} (h : zTW U) {w : Cond} (hw : zin w) (a : Array Value) : w.before a U = true := h.1 w hw.1 hw.2 a
/-- a field's kind and its class's own row agree -/
def zchk (c : Nat) : Bool := (List.range (zq c).2.2).all (fun k => decide (((zq c).2.1 k).1 = (zq c).1) && (match (zt c).getD k 99, parseFieldDescriptor ((zq c).2.1 k).2.2.1 with
  | 0, some .int => !((zq c).2.1 k).2.2.2
  | 1, some .long => !((zq c).2.1 k).2.2.2
  | 2, some .boolean => !((zq c).2.1 k).2.2.2
  | t + 3, some (.object _) => ((zq c).2.1 k).2.2.2
  | t + 3, some (.array _) => ((zq c).2.1 k).2.2.2
  | _, _ => false)) && decide ((zt c).length = (zq c).2.2)
set_option maxRecDepth 100000 in
theorem zchk_ok : ∀ c, c < 11 → zchk c = true := by decide +kernel
theorem zchk_at {c k : Nat} (h : c < 11) (hk : k < (zq c).2.2) : ((zq c).2.1 k).1 = (zq c).1 ∧ (match (zt c).getD k 99, parseFieldDescriptor ((zq c).2.1 k).2.2.1 with
  | 0, some .int => !((zq c).2.1 k).2.2.2
  | 1, some .long => !((zq c).2.1 k).2.2.2
  | 2, some .boolean => !((zq c).2.1 k).2.2.2
  | t + 3, some (.object _) => ((zq c).2.1 k).2.2.2
  | t + 3, some (.array _) => ((zq c).2.1 k).2.2.2
  | _, _ => false) = true := by
  have h1 := zchk_ok c h
  unfold zchk at h1
  rw [Bool.and_eq_true, List.all_eq_true] at h1
  have h2 := h1.1 k (List.mem_range.mpr hk)
  rw [Bool.and_eq_true, decide_eq_true_eq] at h2
  exact h2
theorem zchk_len {c : Nat} (h : c < 11) : (zt c).length = (zq c).2.2 := by
  have h1 := zchk_ok c h
  unfold zchk at h1
  rw [Bool.and_eq_true, decide_eq_true_eq] at h1
  exact h1.2
theorem zty_ok {c : Nat} (h : c < 11) : ∃ ty : Nat → FieldType, ∀ k, k < (zq c).2.2 → parseFieldDescriptor ((zq c).2.1 k).2.2.1 = some (ty k) := by
  refine ⟨fun k => (parseFieldDescriptor ((zq c).2.1 k).2.2.1).getD .int, fun k hk => ?_⟩
  have h2 := (zchk_at h hk).2
  cases hp : parseFieldDescriptor ((zq c).2.1 k).2.2.1 with
  | none => rw [hp] at h2; simp at h2
  | some t => show some t = some ((parseFieldDescriptor ((zq c).2.1 k).2.2.1).getD .int); rw [hp]; rfl
theorem znm_ok : ∀ c, c < 11 → ∀ a, a < (zq c).2.2 → ∀ b, b < (zq c).2.2 → a ≠ b → ((zq c).2.1 a).2.1 ≠ ((zq c).2.1 b).2.1 := by decide +kernel
/-- a field's place in a pool: class, place, kind -/
def zfl (own : String) (index c k t : Nat) : Prop := c < 11 ∧ k < (zq c).2.2 ∧ (zt c)[k]? = some t ∧ (zin (.fieldLink own index ((zq c).2.1 k).1 ((zq c).2.1 k).2.1 ((zq c).2.1 k).2.2.1) ∨ Cond.fieldLinkNest own index ((zq c).2.1 k).1 ((zq c).2.1 k).2.1 ((zq c).2.1 k).2.2.1 RX9 ∈ lw_tbl)
theorem zw_obj {G : zGt} {T : Nat} {σ : zMem} {o ci : Nat} (h : o < T) (hk : zk o = ci) (hc : ci < 11) : (zw G T σ)[o]? = some (zB G + o, .inr (ci, zF G σ o)) := by
  rw [zw_get h, zE, if_pos (by omega), hk]
theorem zw_arr {G : zGt} {T : Nat} {σ : zMem} {o : Nat} (h : o < T) (hk : zk o = 11) : (zw G T σ)[o]? = some (zB G + o, .inl (G.2.2.1.1, zl o, .inl (fun i => zI (σ o i)))) := by
  rw [zw_get h, zE, if_neg (by omega), if_pos hk]
theorem zw_byt {G : zGt} {T : Nat} {σ : zMem} {o : Nat} (h : o < T) (hk : zk o = 12) : (zw G T σ)[o]? = some (zB G + o, .inl (G.2.2.1.2.1, zl o, .inl (fun i => zI (σ o i)))) := by
  rw [zw_get h, zE, if_neg (by omega), if_neg (by omega), if_pos hk]
theorem zw_ref {G : zGt} {T : Nat} {σ : zMem} {o : Nat} (h : o < T) (hk : zk o = 13) : (zw G T σ)[o]? = some (zB G + o, .inl (G.2.2.1.2.2, zl o, .inr (.inr (.inr (.inr (fun i => if σ o i = 0 then none else some (zB G + (o + (1 + 9 * i))))))))) := by
  rw [zw_get h, zE, if_neg (by omega), if_neg (by omega), if_neg (by omega)]
theorem zU_ne {σ : zMem} {o k a : Nat} {v : Int} (h : a ≠ o) : zU σ o k v a = σ a := by
  funext b
  simp [zU, h]
theorem zF_set {G : zGt} {σ : zMem} {o k t : Nat} {x : Int} (h : (zt (zk o))[k]? = some t) : (zF G σ o).set k (zv (zB G) o t x) = zF G (zU σ o k x) o := by
  have hl := (List.getElem?_eq_some_iff.mp h).1
  have h2 := (List.getElem?_eq_some_iff.mp h).2
  apply List.ext_getElem?
  intro j
  rw [List.getElem?_set]
  by_cases hj : k = j
  · subst hj
    simp [zF, hl, h2, zU]
  · rw [if_neg hj]
    simp only [zF, List.getElem?_map]
    by_cases hjl : j < (zt (zk o)).length
    · simp [hjl, zU, Ne.symm hj]
    · simp [hjl]
theorem zw_put {G : zGt} {T : Nat} {σ : zMem} {o ci k t : Nat} {x : Int} (h : o < T) (hk : zk o = ci) (hc : ci < 11) (ht : (zt ci)[k]? = some t) : (zw G T σ).set o (zB G + o, .inr (ci, (zF G σ o).set k (zv (zB G) o t x))) = zw G T (zU σ o k x) := by
  subst hk
  rw [zF_set ht]
  have h1 : zE G (zU σ o k x) o = .inr (zk o, zF G (zU σ o k x) o) := by rw [zE, if_pos hc]
  rw [← h1]
  exact zw_set h (fun a ha => zU_ne ha)
theorem zBu.putI {c : Bool} {σ : zMem} {o k : Nat} {v : Int} (h : zBu c σ) (h1 : c = true → ¬ (3 ≤ (zt (zk o)).getD k 0 ∨ zk o = 13)) (h2 : ¬ (zt (zk o)).getD k 0 = 1 → zR v) : zBu c (zU σ o k v) := by
  refine ⟨fun hc a b hab => ?_, fun a b hab => ?_⟩
  · unfold zU
    split
    · rename_i h3
      obtain ⟨rfl, rfl⟩ := h3
      exact absurd hab (h1 hc)
    · exact h.1 hc a b hab
  · unfold zU
    split
    · rename_i h3
      obtain ⟨rfl, rfl⟩ := h3
      exact h2 hab
    · exact h.2 a b hab
theorem zl_le (o : Nat) : zl o ≤ 100 := by
  unfold zl
  by_cases h : o < 129
  · have : ∀ o, o < 129 → zlL.getD o 0 ≤ 100 := by decide +kernel
    exact this o h
  · rw [List.getD_eq_getElem?_getD, List.getElem?_eq_none (by rw [zkL_len.2]; omega)]
    decide
theorem zt_getD {c k t : Nat} (h : (zt c)[k]? = some t) (d : Nat) : (zt c).getD k d = t := by rw [List.getD_eq_getElem?_getD, h]; rfl
section ZH
variable {G : zGt} {X : zXt} {c : Bool} {nL T ce sl pc fr lo mc ms T1 : Nat} {lv : List (Nat × Value)} {st : List Value} {σ : zMem} {cc : ByteArray} {own : String} {ret : Option FieldType} {post : Option Value → zMem → Prop} {isI : Bool} {l : Launch}
theorem z_get (C : zC G X cc nL own ret c fr lo mc ms T1 post isI l) {index ci k t o : Nat} (hf : zfl own index ci k t) (hd : decode cc pc = .ok (.getfield index, 3)) (hk : zk o = ci) (ho : o < T)
    (kk : zBu c σ → zg G X c nL T ce sl (pc + 3) lv (zv (zB G) o t (σ o k) :: st) σ) : zg G X c nL T ce sl pc lv (.ref (zB G + o) :: st) σ := fun H locs ls hz hP hS hl hb => by
  obtain ⟨h1, h2, h3, h4⟩ := hf
  have hts : ∀ w ∈ u_ws (zq ci).1 (zq ci).2.1 (zq ci).2.2, w.before X.2.2.2.2.2.2.1 X.2.2.2.2.1 = true := fun w hw => C.2.2.2.2.1.2.2.1.use (zcl_in h1 w hw) _
  have h5 : (zF G σ o)[k]? = some (zv (zB G) o t (σ o k)) := zF_get (by rw [hk]; exact h3)
  rcases h4 with h4 | h4
  · exact va_get C.1 C.2.1 hts (fun w h => h) C.2.2.2.1 C.2.2.2.2.1.1 hP o (zw_obj ho hk h1) (zq_at h1) k h2 (C.2.2.2.2.1.2.2.1.use h4 _) (fun x h => h) h5 hd (kk hb H locs ls hz hP hS hl hb)
  · exact va_getN C.1 C.2.1 hts (fun w h => h) C.2.2.2.1 C.2.2.2.2.1.1 hP o (zw_obj ho hk h1) (zq_at h1) k h2 (va_Nw.use rfl (C.2.2.2.2.1.2.2.1.2.1 _ _ _ _ _ _ h4)) (fun x h => h) h5 hd (kk hb H locs ls hz hP hS hl hb)
theorem z_getI (C : zC G X cc nL own ret c fr lo mc ms T1 post isI l) {index ci k o : Nat} (hf : zfl own index ci k 0) (hd : decode cc pc = .ok (.getfield index, 3)) (hk : zk o = ci) (ho : o < T)
    (kk : zR (σ o k) → zg G X c nL T ce sl (pc + 3) lv (.int (zI (σ o k)) :: st) σ) : zg G X c nL T ce sl pc lv (.ref (zB G + o) :: st) σ :=
  z_get C hf hd hk ho (fun hb => kk (hb.2 o k (by rw [hk, zt_getD hf.2.2.1]; decide)))
theorem z_getZ (C : zC G X cc nL own ret c fr lo mc ms T1 post isI l) {index ci k o : Nat} (hf : zfl own index ci k 2) (hd : decode cc pc = .ok (.getfield index, 3)) (hk : zk o = ci) (ho : o < T)
    (kk : zR (σ o k) → zg G X c nL T ce sl (pc + 3) lv (.int (zI (σ o k)) :: st) σ) : zg G X c nL T ce sl pc lv (.ref (zB G + o) :: st) σ :=
  z_get C hf hd hk ho (fun hb => kk (hb.2 o k (by rw [hk, zt_getD hf.2.2.1]; decide)))
theorem z_getJ (C : zC G X cc nL own ret c fr lo mc ms T1 post isI l) {index ci k o : Nat} (hf : zfl own index ci k 1) (hd : decode cc pc = .ok (.getfield index, 3)) (hk : zk o = ci) (ho : o < T)
    (kk : zg G X c nL T ce sl (pc + 3) lv (.long (zJ (σ o k)) :: st) σ) : zg G X c nL T ce sl pc lv (.ref (zB G + o) :: st) σ :=
  z_get C hf hd hk ho (fun hb => kk)
/-- a reference that is set; d is its kind less 3 -/
theorem z_getR (C : zC G X cc nL own ret c fr lo mc ms T1 post isI l) {index ci k o d : Nat} (o' : Nat) (hf : zfl own index ci k (d + 3)) (hd : decode cc pc = .ok (.getfield index, 3)) (hk : zk o = ci) (ho : o < T) (ho' : o + (d + 1) = o') (hc : c = true ∨ σ o k ≠ 0)
    (kk : zg G X c nL T ce sl (pc + 3) lv (.ref (zB G + o') :: st) σ) : zg G X c nL T ce sl pc lv (.ref (zB G + o) :: st) σ :=
  z_get C hf hd hk ho (fun hb => by
    have hne : σ o k ≠ 0 := by
      rcases hc with hc | hc
      · exact hb.1 hc o k (Or.inl (by rw [hk, zt_getD hf.2.2.1]; omega))
      · exact hc
    rw [show zv (zB G) o (d + 3) (σ o k) = .ref (zB G + o') by simp [zv, hne, ← ho']]
    exact kk)
theorem z_put (C : zC G X cc nL own ret c fr lo mc ms T1 post isI l) {index ci k t o : Nat} {x : Int} (hf : zfl own index ci k t) (ht : t < 3) (hd : decode cc pc = .ok (.putfield index, 3)) (hk : zk o = ci) (ho : o < T) {ty : FieldType} (hty : parseFieldDescriptor ((zq ci).2.1 k).2.2.1 = some ty) (hfin : ((zq ci).2.1 k).2.2.2 = false) (hn : narrow ty (zv (zB G) o t x) = zv (zB G) o t x) (hfit : fits ty (zv (zB G) o t x) = true) (hx : t ≠ 1 → zR x)
    (kk : zg G X c nL T ce sl (pc + 3) lv st (zU σ o k x)) : zg G X c nL T ce sl pc lv (zv (zB G) o t x :: .ref (zB G + o) :: st) σ := fun H locs ls hz hP hS hl hb => by
  obtain ⟨h1, h2, h3, h4⟩ := hf
  have hts : ∀ w ∈ u_ws (zq ci).1 (zq ci).2.1 (zq ci).2.2, w.before X.2.2.2.2.2.2.1 X.2.2.2.2.1 = true := fun w hw => C.2.2.2.2.1.2.2.1.use (zcl_in h1 w hw) _
  obtain ⟨ty0, hty0⟩ := zty_ok h1
  have hlen : k < (zF G σ o).length := by simp [zF, hk]; exact (List.getElem?_eq_some_iff.mp h3).1
  have hbu : zBu c (zU σ o k x) := hb.putI (fun _ => by
    have h6 := zchk_at h1 h2
    have h7 := zt_getD h3 0
    rw [hk, h7]; omega) (fun h => hx (by rw [hk, zt_getD h3] at h; exact h))
  have fin : ∀ (H1 : Heap) (locs1 : List Loc), va_P (zD G) vwCl ((zw G T σ).set o (zB G + o, .inr (ci, (zF G σ o).set k (zv (zB G) o t x)))) H1 → va_D (zA G) ((zw G T σ).set o (zB G + o, .inr (ci, (zF G σ o).set k (zv (zB G) o t x)))) → va_S (zA G) X.2.2.2.2.1.heap H1 locs1 → H1.size = H.size →
      W X.1 X.2.1 X.2.2.1 X.2.2.2.1 X.2.2.2.2.1 X.2.2.2.2.2.1 X.2.2.2.2.2.2.1 X.2.2.2.2.2.2.2.1 X.2.2.2.2.2.2.2.2.1 X.2.2.2.2.2.2.2.2.2.1 H1 locs1 ce sl X.2.2.2.2.2.2.2.2.2.2 (F0 X.2.2.2.2.2.1 (pc + 3) ls st) := by
    intro H1 locs1 hP1 _ hS1 hz1
    rw [zw_put ho hk h1 h3] at hP1
    exact kk H1 locs1 ls (hz1.trans hz) hP1 hS1 hl hbu
  have hap := va_apart (own := own) hts (fun w h => h) ty0 hty0 (znm_ok ci h1) C.2.2.2.2.1.1 (zq_at h1)
  obtain ⟨r, g1, cell, q1, q2, q3, q4⟩ := hP o _ (zw_obj ho hk h1)
  have hr : r = zq ci := Option.some.inj (g1.symm.trans (zq_at h1))
  subst hr
  obtain ⟨hS', hfc, kC, hkC, hkind⟩ := C.2.2.2.2.1.1.1 ci _ (zq_at h1)
  obtain ⟨cf, kf, fi, f, hi, hsl⟩ := hS' k h2
  have hlay := hts _ (u_in_lay h2)
  unfold u_lay at hlay
  rw [if_neg (by rw [hfin]; decide)] at hlay
  have hst := (u_facts hfc hkC (u_lays hts (fun w h => h) h2) hi).1
  have h6 := u_store hfc hkC hkind hlay hi hty hn hfit
  have he := zw_obj (G := G) (σ := σ) ho hk h1
  have fin2 : ∀ H' : Heap, H'[zB G + o]? = some (cell.setSlot f.slot (zv (zB G) o t x)) → H'.size = H.size → (∀ q, q ≠ zB G + o → H'[q]? = H[q]?) →
      W X.1 X.2.1 X.2.2.1 X.2.2.2.1 X.2.2.2.2.1 X.2.2.2.2.2.1 X.2.2.2.2.2.2.1 X.2.2.2.2.2.2.2.1 X.2.2.2.2.2.2.2.2.1 X.2.2.2.2.2.2.2.2.2.1 H' (locs ++ [⟨zB G + o, f.slot⟩]) ce sl X.2.2.2.2.2.2.2.2.2.2 (F0 X.2.2.2.2.2.1 (pc + 3) ls st) := by
    intro H' e1 e2 e3
    rw [hsl] at e1 ⊢
    exact fin H' _ (hP.set zw_D he ⟨_, zq_at h1, t_OB.to (V := updV (vp_V (zF G σ o)) k (zv (zB G) o t x)) ⟨_, e1, q2, q3, t_set q4 hap h2 _⟩ (fun j _ => vp_updV_set hlen _ j)⟩ e3) (zw_D.set he) (hS.put e2 e3 (Nat.le_add_right _ _)) e2
  rcases h4 with h4 | h4
  · exact W.putK C.1 C.2.1 (f := f) ⟨C.2.2.2.1, C.2.2.2.2.1.2.2.1.use h4 _, ⟨_, _, _, hi⟩, hst⟩ (by rw [q2]; exact h6) q1 q3 (by rw [hsl]; exact k2_hasslot (q4 k h2)) rfl rfl hd fin2
  · exact va_WputK C.1 C.2.1 (f := f) C.2.2.2.1 (va_Nw.use rfl (C.2.2.2.2.1.2.2.1.2.1 _ _ _ _ _ _ h4)) hi hst (by rw [q2]; exact h6) q1 q3 (by rw [hsl]; exact k2_hasslot (q4 k h2)) rfl rfl hd fin2
theorem zchk_0 {ci k : Nat} (h : ci < 11) (hk : k < (zq ci).2.2) (ht : (zt ci)[k]? = some 0) : parseFieldDescriptor ((zq ci).2.1 k).2.2.1 = some .int ∧ ((zq ci).2.1 k).2.2.2 = false := by
  have h2 := (zchk_at h hk).2
  rw [zt_getD ht] at h2
  cases hp : parseFieldDescriptor ((zq ci).2.1 k).2.2.1 with
  | none => rw [hp] at h2; simp at h2
  | some t => rw [hp] at h2; cases t <;> simp at h2; exact ⟨rfl, h2⟩
theorem zchk_1 {ci k : Nat} (h : ci < 11) (hk : k < (zq ci).2.2) (ht : (zt ci)[k]? = some 1) : parseFieldDescriptor ((zq ci).2.1 k).2.2.1 = some .long ∧ ((zq ci).2.1 k).2.2.2 = false := by
  have h2 := (zchk_at h hk).2
  rw [zt_getD ht] at h2
  cases hp : parseFieldDescriptor ((zq ci).2.1 k).2.2.1 with
  | none => rw [hp] at h2; simp at h2
  | some t => rw [hp] at h2; cases t <;> simp at h2; exact ⟨rfl, h2⟩
theorem zchk_2 {ci k : Nat} (h : ci < 11) (hk : k < (zq ci).2.2) (ht : (zt ci)[k]? = some 2) : parseFieldDescriptor ((zq ci).2.1 k).2.2.1 = some .boolean ∧ ((zq ci).2.1 k).2.2.2 = false := by
  have h2 := (zchk_at h hk).2
  rw [zt_getD ht] at h2
  cases hp : parseFieldDescriptor ((zq ci).2.1 k).2.2.1 with
  | none => rw [hp] at h2; simp at h2
  | some t => rw [hp] at h2; cases t <;> simp at h2; exact ⟨rfl, h2⟩
theorem z_putI (C : zC G X cc nL own ret c fr lo mc ms T1 post isI l) {index ci k o : Nat} {x : Int} (hf : zfl own index ci k 0) (hd : decode cc pc = .ok (.putfield index, 3)) (hk : zk o = ci) (ho : o < T) (hx : zR x)
    (kk : zg G X c nL T ce sl (pc + 3) lv st (zU σ o k x)) : zg G X c nL T ce sl pc lv (.int (zI x) :: .ref (zB G + o) :: st) σ :=
  z_put C (t := 0) (x := x) hf (by decide) hd hk ho (zchk_0 hf.1 hf.2.1 hf.2.2.1).1 (zchk_0 hf.1 hf.2.1 hf.2.2.1).2 rfl rfl (fun _ => hx) kk
theorem z_putZ (C : zC G X cc nL own ret c fr lo mc ms T1 post isI l) {index ci k o : Nat} {x : Int} (hf : zfl own index ci k 2) (hd : decode cc pc = .ok (.putfield index, 3)) (hk : zk o = ci) (ho : o < T) (hx : x = 0 ∨ x = 1)
    (kk : zg G X c nL T ce sl (pc + 3) lv st (zU σ o k x)) : zg G X c nL T ce sl pc lv (.int (zI x) :: .ref (zB G + o) :: st) σ :=
  z_put C (t := 2) (x := x) hf (by decide) hd hk ho (zchk_2 hf.1 hf.2.1 hf.2.2.1).1 (zchk_2 hf.1 hf.2.1 hf.2.2.1).2 (by show narrow .boolean (.int (zI x)) = .int (zI x); rcases hx with rfl | rfl <;> decide +kernel) (by show fits .boolean (.int (zI x)) = true; rcases hx with rfl | rfl <;> decide +kernel) (fun _ => by omega) kk
theorem z_putJ (C : zC G X cc nL own ret c fr lo mc ms T1 post isI l) {index ci k o : Nat} {x : Int} (hf : zfl own index ci k 1) (hd : decode cc pc = .ok (.putfield index, 3)) (hk : zk o = ci) (ho : o < T)
    (kk : zg G X c nL T ce sl (pc + 3) lv st (zU σ o k x)) : zg G X c nL T ce sl pc lv (.long (zJ x) :: .ref (zB G + o) :: st) σ :=
  z_put C (t := 1) (x := x) hf (by decide) hd hk ho (zchk_1 hf.1 hf.2.1 hf.2.2.1).1 (zchk_1 hf.1 hf.2.1 hf.2.2.1).2 rfl rfl (fun h => absurd rfl h) kk
end ZH
