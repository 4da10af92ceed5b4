/-- where only the lane goes on: reed, worry, combed, years -/
def zKg (σ τ : zMem) : Prop := ∀ o k, (o ≠ 110 ∧ o ≠ 111 ∧ (o ≠ 108 ∨ (k ≠ 5 ∧ k ≠ 6))) → τ o k = σ o k
theorem zKg.rf {σ : zMem} : zKg σ σ := fun _ _ _ => rfl
theorem zKg.tr {σ τ υ : zMem} (h : zKg σ τ) (h2 : zKg τ υ) : zKg σ υ := fun o k hk => (h2 o k hk).trans (h o k hk)
theorem zKg.kp {σ τ : zMem} (h : zKg σ τ) : zKp σ τ := fun o k hk => h o k (by omega)
theorem zKg.put {σ τ : zMem} (h : zKg σ τ) {o k : Nat} {v : Int} (hk : o = 110 ∨ o = 111 ∨ (o = 108 ∧ (k = 5 ∨ k = 6))) : zKg σ (zU τ o k v) := fun a b hab => by
  unfold zU
  rw [if_neg (by omega)]
  exact h a b hab
/-- what is saved -/
def zSv (σ : zMem) (n : Nat) (y : Int) (R V E : Nat → Int) : Prop := σ 108 18 = zbs E n ∧ σ 108 19 = y ∧ ∀ i, i < n → σ 116 i = R i ∧ σ 117 i = V i
theorem zSv.kg {σ τ : zMem} {n : Nat} {y : Int} {R V E : Nat → Int} (h : zSv σ n y R V E) (hf : zKg σ τ) : zSv τ n y R V E :=
  ⟨(hf _ _ (by omega)).trans h.1, (hf _ _ (by omega)).trans h.2.1, fun i hi => by rw [hf 116 i (by omega), hf 117 i (by omega)]; exact h.2.2 i hi⟩
set_option maxHeartbeats 4000000 in
set_option maxRecDepth 100000 in
theorem c_X10_isHouse (l : Launch) (G : zGt) (σ : zMem) (n : Nat) (p : Int) (h1 : σ 108 1 = n) (hp : zR p) (hn : n ≤ 6) : zN l G yX10_isHouse cX10_isHouse 2 (some .boolean) 1 [.ref (zB G + 108), .int (zI p)] σ (zPi (fun x τ => ((x = 1 ∧ 0 ≤ p ∧ p < n) ∨ (x = 0 ∧ (p < 0 ∨ n ≤ p))) ∧ σ = τ)) := by
  refine zM.of (lv0 := [(0, _), (1, _)]) (by decide) (Nat.le_of_ble_eq_true rfl) rfl (fun X C => ?_)
  refine z_iload_n (pc := 0) C dX10_isHouse_0 rfl 1 rfl ?_
  refine z_iconst (pc := 1) C dX10_isHouse_1 ?_
  refine z_aload_n (pc := 2) C dX10_isHouse_2 rfl 0 rfl ?_
  refine z_getI (pc := 3) C fl_X10_101 dX10_isHouse_3 (by first | rfl | assumption) (by omega) (fun g3 => ?_)
  refine z_iconst (pc := 6) C dX10_isHouse_6 ?_
  refine z_isub (pc := 7) C dX10_isHouse_7 ?_
  refine z_Si (pc := 8) C (c_X10_within l G _ _ _ _ (by first | assumption | omega | decide) (by first | assumption | omega | decide) (by first | assumption | omega | decide)) ml_X10_71 ys_X10_within dX10_isHouse_8 rfl rfl (Nat.le_of_ble_eq_true rfl) ⟨by decide, by decide⟩ (fun r8 t8 h8 q8 => ?_)
  obtain ⟨w8, rfl⟩ := q8
  refine z_zret (pc := 11) C dX10_isHouse_11 (by omega) ?_
  exact ⟨_, rfl, by omega, by omega, rfl⟩
set_option maxHeartbeats 4000000 in
set_option maxRecDepth 100000 in
theorem c_X10_grownOf (l : Launch) (G : zGt) (σ : zMem) (n : Nat) (y : Int) (K R V E : Nat → Int) (h : zMl σ n y K R V E) (hr : zLr K R V E) (hn : n ≤ 6) (i : Nat) (p : Int) (hp : p = i) (hi : i < n) (hy : 0 ≤ y ∧ y ≤ 100000) : zN l G yX10_grownOf cX10_grownOf 2 (some .int) 2 [.ref (zB G + 108), .int (zI p)] σ (zPi (fun x τ => x = zgr (K i) (R i) (V i) (E i) (y + 1) ∧ σ = τ)) := by
  obtain ⟨s1, s6, s5, sA⟩ := id h
  have l109 : zl 109 = 6 := by decide
  have l110 : zl 110 = 6 := by decide
  have l111 : zl 111 = 6 := by decide
  have hE : ∀ j, 0 ≤ E j ∧ E j ≤ 1 := fun j => (hr j).2.2.2
  have hb5 := zbs_bd hE n
  have hq6 := zpow6 n hn
  subst hp
  have hri := hr i
  have hA := sA i hi
  refine zM.of (lv0 := [(0, _), (1, _)]) (by decide) (Nat.le_of_ble_eq_true rfl) rfl (fun X C => ?_)
  refine z_aload_n (pc := 0) C dX10_grownOf_0 rfl 0 rfl ?_
  refine z_getR (pc := 1) C (109) fl_X10_7 dX10_grownOf_1 (by first | rfl | assumption) (by omega) rfl (Or.inl rfl) ?_
  refine z_iload_n (pc := 4) C dX10_grownOf_4 rfl 1 rfl ?_
  refine z_iaload (pc := 5) C (i) dX10_grownOf_5 (by first | rfl | assumption) (by omega) rfl (by omega) (fun g5 => ?_)
  rw [hA.1]
  refine z_aload_n (pc := 6) C dX10_grownOf_6 rfl 0 rfl ?_
  refine z_getR (pc := 7) C (110) fl_X10_13 dX10_grownOf_7 (by first | rfl | assumption) (by omega) rfl (Or.inl rfl) ?_
  refine z_iload_n (pc := 10) C dX10_grownOf_10 rfl 1 rfl ?_
  refine z_iaload (pc := 11) C (i) dX10_grownOf_11 (by first | rfl | assumption) (by omega) rfl (by omega) (fun g11 => ?_)
  rw [hA.2.1]
  refine z_aload_n (pc := 12) C dX10_grownOf_12 rfl 0 rfl ?_
  refine z_getR (pc := 13) C (111) fl_X10_16 dX10_grownOf_13 (by first | rfl | assumption) (by omega) rfl (Or.inl rfl) ?_
  refine z_iload_n (pc := 16) C dX10_grownOf_16 rfl 1 rfl ?_
  refine z_iaload (pc := 17) C (i) dX10_grownOf_17 (by first | rfl | assumption) (by omega) rfl (by omega) (fun g17 => ?_)
  rw [hA.2.2]
  refine z_aload_n (pc := 18) C dX10_grownOf_18 rfl 0 rfl ?_
  refine z_getI (pc := 19) C fl_X10_104 dX10_grownOf_19 (by first | rfl | assumption) (by omega) (fun g19 => ?_)
  rw [s5]
  refine z_iload_n (pc := 22) C dX10_grownOf_22 rfl 1 rfl ?_
  refine z_Si (pc := 23) C (c_isInV l G _ _ (E i) i _ rfl (by omega) (by omega) (zbs_bit hE n i hi)) ml_X10_122 ys_X10_isIn dX10_grownOf_23 rfl rfl (Nat.le_of_ble_eq_true rfl) ⟨by decide, by decide⟩ (fun r23 t23 h23 q23 => ?_)
  obtain ⟨rfl, rfl⟩ := q23
  refine z_aload_n (pc := 26) C dX10_grownOf_26 rfl 0 rfl ?_
  refine z_getI (pc := 27) C fl_X10_107 dX10_grownOf_27 (by first | rfl | assumption) (by omega) (fun g27 => ?_)
  rw [s6]
  refine z_iconst (pc := 30) C dX10_grownOf_30 ?_
  refine z_iadd (pc := 31) C dX10_grownOf_31 ?_
  refine z_Si (pc := 32) C (c_X10_grown l G _ _ _ _ _ _ (by first | assumption | omega | decide) (by first | assumption | omega | decide) (by first | assumption | omega | decide) (by first | assumption | omega | decide) (by first | assumption | omega | decide)) ml_X10_126 ys_X10_grown dX10_grownOf_32 rfl rfl (Nat.le_of_ble_eq_true rfl) ⟨by decide, by decide⟩ (fun r32 t32 h32 q32 => ?_)
  obtain ⟨rfl, rfl⟩ := q32
  refine z_iret (pc := 35) C dX10_grownOf_35 ?_
  exact ⟨_, rfl, by assumption, rfl, rfl⟩
set_option maxHeartbeats 4000000 in
set_option maxRecDepth 100000 in
theorem c_X10_goYear (l : Launch) (G : zGt) (σ : zMem) (n : Nat) (y : Int) (K R V E : Nat → Int) (h : zMl σ n y K R V E) (hr : zLr K R V E) (hn : n ≤ 6) (hy : 0 ≤ y ∧ y ≤ 100000) : zN l G yX10_goYear cX10_goYear 2 (none) 3 [.ref (zB G + 108)] σ (zPv (fun τ => zMl τ n (y + 1) K (fun j => zgr (K j) (R j) (V j) (E j) (y + 1)) V (fun _ => 0) ∧ zKg σ τ)) := by
  obtain ⟨s1, s6, s5, sA⟩ := id h
  have l109 : zl 109 = 6 := by decide
  have l110 : zl 110 = 6 := by decide
  have l111 : zl 111 = 6 := by decide
  have hE : ∀ j, 0 ≤ E j ∧ E j ≤ 1 := fun j => (hr j).2.2.2
  have hb5 := zbs_bd hE n
  have hq6 := zpow6 n hn
  refine zM.of (lv0 := [(0, _)]) (by decide) (Nat.le_of_ble_eq_true rfl) rfl (fun X C => ?_)
  have L2 : ∀ (fuel : Nat) (i : Nat) (τ : zMem), n - i < fuel → (i ≤ n ∧ zMl τ n y K (fun j => if j < i then zgr (K j) (R j) (V j) (E j) (y + 1) else R j) V E ∧ zKg σ τ) → zg G X true 2 129 0 0 2 [(0, .ref (zB G + 108)), (1, .int (zI (i : Int)))] [] τ := by
    intro fuel
    induction fuel with
    | zero => intro i τ hm; exact absurd hm (Nat.not_lt_zero _)
    | succ fuel ih =>
      intro i τ hms hinv
      obtain ⟨h1, h2, h3⟩ := hinv
      refine z_iload_n (pc := 2) C dX10_goYear_2 rfl 1 rfl ?_
      refine z_aload_n (pc := 3) C dX10_goYear_3 rfl 0 rfl ?_
      refine z_getI (pc := 4) C fl_X10_101 dX10_goYear_4 (by first | rfl | assumption) (by omega) (fun g4 => ?_)
      obtain ⟨t1, t6, t5, tA⟩ := id h2
      refine z_icmp_ge (pc := 7) (tgt := 27) C dX10_goYear_7 (by decide) ⟨by omega, by omega⟩ (fun c7 => ?_) (fun c7 => ?_)
      · refine z_aload_n (pc := 27) C dX10_goYear_27 rfl 0 rfl ?_
        refine z_iconst (pc := 28) C dX10_goYear_28 ?_
        refine z_putIe (pc := 29) C fl_X10_104 dX10_goYear_29 (by first | rfl | assumption) (by omega) (by omega) (fun m29 em29 => ?_)
        refine z_aload_n (pc := 32) C dX10_goYear_32 rfl 0 rfl ?_
        refine z_dup (pc := 33) C dX10_goYear_33 rfl ?_
        refine z_getI (pc := 34) C fl_X10_107 dX10_goYear_34 (by first | rfl | assumption) (by omega) (fun g34 => ?_)
        rw [show m29 108 6 = y by rw [em29, zU_k (by omega)]; exact t6]
        refine z_iconst (pc := 37) C dX10_goYear_37 ?_
        refine z_iadd (pc := 38) C dX10_goYear_38 ?_
        refine z_putIe (pc := 39) C fl_X10_107 dX10_goYear_39 (by first | rfl | assumption) (by omega) (by omega) (fun m39 em39 => ?_)
        refine z_vret (pc := 42) C dX10_goYear_42 ?_
        exact ⟨rfl, by rw [em39, em29]; exact ((h2.ext (R' := fun j => zgr (K j) (R j) (V j) (E j) (y + 1)) rfl (fun j hj => ⟨rfl, if_pos (by omega), rfl, rfl⟩)).putC (E' := fun _ => 0) (zbs_0 n (fun _ _ => rfl)).symm).putY, by rw [em39, em29]; exact (h3.put (by omega)).put (by omega)⟩
      · refine z_aload_n (pc := 10) C dX10_goYear_10 rfl 0 rfl ?_
        refine z_getR (pc := 11) C (110) fl_X10_13 dX10_goYear_11 (by first | rfl | assumption) (by omega) rfl (Or.inl rfl) ?_
        refine z_iload_n (pc := 14) C dX10_goYear_14 rfl 1 rfl ?_
        refine z_aload_n (pc := 15) C dX10_goYear_15 rfl 0 rfl ?_
        refine z_iload_n (pc := 16) C dX10_goYear_16 rfl 1 rfl ?_
        have hr2 : zLr K (fun j => if j < i then zgr (K j) (R j) (V j) (E j) (y + 1) else R j) V E := fun j => ⟨(hr j).1, by dsimp only; split; exact zgr_bd _ _ _ _ _; exact (hr j).2.1, (hr j).2.2⟩
        have hz := zgr_bd (K i) (R i) (V i) (E i) (y + 1)
        refine z_Vi (pc := 17) C (c_X10_grownOf l G _ n y K _ V E h2 hr2 hn i _ rfl (by omega) hy) ml_X10_130 yw_X10_grownOf dX10_goYear_17 (by first | rfl | assumption) (by omega) rfl rfl rfl (Nat.le_of_ble_eq_true rfl) ⟨by decide, by decide⟩ (fun r17 t17 h17 q17 => ?_)
        obtain ⟨e17, rfl⟩ := q17
        obtain rfl : r17 = zgr (K i) (R i) (V i) (E i) (y + 1) := by rw [e17]; simp
        refine z_iastoree (pc := 20) C (i) dX10_goYear_20 (by first | rfl | assumption) (by omega) rfl (by omega) (by omega) (fun m20 em20 => ?_)
        refine z_iinc (pc := 21) (lv' := [(1, _), (0, _)]) C dX10_goYear_21 1 rfl (by decide) rfl ?_
        refine z_goto (pc := 24) (tgt := 2) C dX10_goYear_24 (by decide) ?_
        refine z_sub C [1, 0] rfl ?_
        exact ih (i + 1) _ (by omega) ⟨by omega, by rw [em20]; exact h2.putR.ext rfl (fun j hj => ⟨rfl, zup_s (a := fun j => zgr (K j) (R j) (V j) (E j) (y + 1)) j, rfl, rfl⟩), by rw [em20]; exact h3.put (by omega)⟩
  refine z_iconst (pc := 0) C dX10_goYear_0 ?_
  refine z_istore_n (pc := 1) (lv' := [(1, _), (0, _)]) C dX10_goYear_1 rfl (by decide) rfl ?_
  refine z_sub C [1, 0] rfl ?_
  exact L2 _ 0 _ (Nat.lt_succ_self _) ⟨by omega, h.ext rfl (fun j hj => ⟨rfl, rfl, rfl, rfl⟩), zKg.rf⟩
set_option maxHeartbeats 4000000 in
set_option maxRecDepth 100000 in
theorem c_X10_reachesTo (l : Launch) (G : zGt) (σ : zMem) (n : Nat) (y : Int) (K R V E : Nat → Int) (h : zMl σ n y K R V E) (hr : zLr K R V E) (hn : n ≤ 6) (i : Nat) (p rain : Int) (hp : p = i) (hi : i ≤ n) (hx : 0 ≤ rain ∧ rain ≤ 1000) : zN l G yX10_reachesTo cX10_reachesTo 5 (some .int) 0 [.ref (zB G + 108), .int (zI p), .int (zI rain)] σ (zPi (fun x τ => x = zrb rain (zsh R i) ∧ σ = τ)) := by
  obtain ⟨s1, s6, s5, sA⟩ := id h
  have l109 : zl 109 = 6 := by decide
  have l110 : zl 110 = 6 := by decide
  have l111 : zl 111 = 6 := by decide
  have hE : ∀ j, 0 ≤ E j ∧ E j ≤ 1 := fun j => (hr j).2.2.2
  have hb5 := zbs_bd hE n
  have hq6 := zpow6 n hn
  subst hp
  refine zM.of (lv0 := [(0, _), (1, _), (2, _)]) (by decide) (Nat.le_of_ble_eq_true rfl) rfl (fun X C => ?_)
  have L5 : ∀ (fuel : Nat) (j : Nat) (lf : Int), i - j < fuel → (j ≤ i ∧ lf = rain - 2 * zsh R j) → zg G X true 5 129 0 0 5 [(0, .ref (zB G + 108)), (1, .int (zI (i : Int))), (3, .int (zI lf)), (4, .int (zI (j : Int)))] [] σ := by
    intro fuel
    induction fuel with
    | zero => intro j lf hm; exact absurd hm (Nat.not_lt_zero _)
    | succ fuel ih =>
      intro j lf hms hinv
      obtain ⟨h1, h2⟩ := hinv
      have hs := zsh_bd R j
      refine z_iload (pc := 5) C dX10_reachesTo_5 3 rfl ?_
      refine z_iload_n (pc := 7) C dX10_reachesTo_7 rfl 1 rfl ?_
      refine z_icmp_ge (pc := 8) (tgt := 37) C dX10_reachesTo_8 (by decide) ⟨by omega, by omega⟩ (fun c8 => ?_) (fun c8 => ?_)
      · refine z_iload_n (pc := 37) C dX10_reachesTo_37 rfl 2 rfl ?_
        refine z_if_ge (pc := 38) (tgt := 45) C dX10_reachesTo_38 (by decide) (by omega) (fun c38 => ?_) (fun c38 => ?_)
        · refine z_iload_n (pc := 45) C dX10_reachesTo_45 rfl 2 rfl ?_
          refine z_iret (pc := 46) C dX10_reachesTo_46 ?_
          obtain rfl : j = i := by omega
          have hb := zrb_bd hx (s := zsh R j) (by omega)
          exact ⟨_, rfl, by omega, by unfold zrb; split <;> omega, rfl⟩
        · refine z_iconst (pc := 41) C dX10_reachesTo_41 ?_
          refine z_goto (pc := 42) (tgt := 46) C dX10_reachesTo_42 (by decide) ?_
          refine z_iret (pc := 46) C dX10_reachesTo_46 ?_
          obtain rfl : j = i := by omega
          have hb := zrb_bd hx (s := zsh R j) (by omega)
          exact ⟨_, rfl, by omega, by unfold zrb; split <;> omega, rfl⟩
      · have hrj := hr j
        have hA := sA j (by omega)
        refine z_iload_n (pc := 11) C dX10_reachesTo_11 rfl 2 rfl ?_
        refine z_aload_n (pc := 12) C dX10_reachesTo_12 rfl 0 rfl ?_
        refine z_getR (pc := 13) C (110) fl_X10_13 dX10_reachesTo_13 (by first | rfl | assumption) (by omega) rfl (Or.inl rfl) ?_
        refine z_iload (pc := 16) C dX10_reachesTo_16 3 rfl ?_
        refine z_iaload (pc := 18) C (j) dX10_reachesTo_18 (by first | rfl | assumption) (by omega) rfl (by omega) (fun g18 => ?_)
        refine z_bipush (pc := 19) C dX10_reachesTo_19 (by decide +kernel) ?_
        refine z_icmp_lt (pc := 21) (tgt := 28) C dX10_reachesTo_21 (by decide) ⟨by omega, by omega⟩ (fun c21 => ?_) (fun c21 => ?_)
        · refine z_iconst (pc := 28) C dX10_reachesTo_28 ?_
          refine z_isub (pc := 29) C dX10_reachesTo_29 ?_
          refine z_istore_n (pc := 30) (lv' := [(3, _), (0, _), (1, _), (4, _)]) C dX10_reachesTo_30 rfl (by decide) rfl ?_
          refine z_iinc (pc := 31) (lv' := [(4, _), (3, _), (0, _), (1, _)]) C dX10_reachesTo_31 3 rfl (by decide) rfl ?_
          refine z_goto (pc := 34) (tgt := 5) C dX10_reachesTo_34 (by decide) ?_
          refine z_sub C [2, 3, 1, 0] rfl ?_
          first
            | exact ih (j + 1) _ (by omega) ⟨by omega, by rw [zsh_s1 (by omega)]; omega⟩
            | exact ih (j + 1) _ (by omega) ⟨by omega, by rw [zsh_s0 (by omega)]; omega⟩
        · refine z_iconst (pc := 24) C dX10_reachesTo_24 ?_
          refine z_goto (pc := 25) (tgt := 29) C dX10_reachesTo_25 (by decide) ?_
          refine z_isub (pc := 29) C dX10_reachesTo_29 ?_
          refine z_istore_n (pc := 30) (lv' := [(3, _), (0, _), (1, _), (4, _)]) C dX10_reachesTo_30 rfl (by decide) rfl ?_
          refine z_iinc (pc := 31) (lv' := [(4, _), (3, _), (0, _), (1, _)]) C dX10_reachesTo_31 3 rfl (by decide) rfl ?_
          refine z_goto (pc := 34) (tgt := 5) C dX10_reachesTo_34 (by decide) ?_
          refine z_sub C [2, 3, 1, 0] rfl ?_
          first
            | exact ih (j + 1) _ (by omega) ⟨by omega, by rw [zsh_s1 (by omega)]; omega⟩
            | exact ih (j + 1) _ (by omega) ⟨by omega, by rw [zsh_s0 (by omega)]; omega⟩
  refine z_iload_n (pc := 0) C dX10_reachesTo_0 rfl 2 rfl ?_
  refine z_istore_n (pc := 1) (lv' := [(3, _), (0, _), (1, _), (2, _)]) C dX10_reachesTo_1 rfl (by decide) rfl ?_
  refine z_iconst (pc := 2) C dX10_reachesTo_2 ?_
  refine z_istore (pc := 3) (lv' := [(4, _), (3, _), (0, _), (1, _), (2, _)]) C dX10_reachesTo_3 (by decide) rfl ?_
  refine z_sub C [2, 3, 1, 0] rfl ?_
  exact L5 _ 0 _ (Nat.lt_succ_self _) ⟨by omega, by simp [zsh]⟩
set_option maxHeartbeats 4000000 in
set_option maxRecDepth 100000 in
theorem c_X10_wetBy (l : Launch) (G : zGt) (σ : zMem) (n : Nat) (y : Int) (K R V E : Nat → Int) (h : zMl σ n y K R V E) (hr : zLr K R V E) (hn : n ≤ 6) (rain : Int) (hx : 0 ≤ rain ∧ rain ≤ 1000) : zN l G yX10_wetBy cX10_wetBy 4 (some .int) 1 [.ref (zB G + 108), .int (zI rain)] σ (zPi (fun x τ => x = zbs (zwp R rain) n ∧ σ = τ)) := by
  obtain ⟨s1, s6, s5, sA⟩ := id h
  have l109 : zl 109 = 6 := by decide
  have l110 : zl 110 = 6 := by decide
  have l111 : zl 111 = 6 := by decide
  have hE : ∀ j, 0 ≤ E j ∧ E j ≤ 1 := fun j => (hr j).2.2.2
  have hb5 := zbs_bd hE n
  have hq6 := zpow6 n hn
  refine zM.of (lv0 := [(0, _), (1, _)]) (by decide) (Nat.le_of_ble_eq_true rfl) rfl (fun X C => ?_)
  have L4 : ∀ (fuel : Nat) (i : Nat) (b : Int), n - i < fuel → (i ≤ n ∧ b = zbs (zwp R rain) i) → zg G X true 4 129 0 0 4 [(0, .ref (zB G + 108)), (1, .int (zI rain)), (2, .int (zI b)), (3, .int (zI (i : Int)))] [] σ := by
    intro fuel
    induction fuel with
    | zero => intro i b hm; exact absurd hm (Nat.not_lt_zero _)
    | succ fuel ih =>
      intro i b hms hinv
      obtain ⟨h1, rfl⟩ := hinv
      have hb := zbs_bd (p := zwp R rain) (zwp_bd R rain) i
      have hq := zpow6 i (by omega)
      refine z_iload_n (pc := 4) C dX10_wetBy_4 rfl 3 rfl ?_
      refine z_aload_n (pc := 5) C dX10_wetBy_5 rfl 0 rfl ?_
      refine z_getI (pc := 6) C fl_X10_101 dX10_wetBy_6 (by first | rfl | assumption) (by omega) (fun g6 => ?_)
      refine z_icmp_ge (pc := 9) (tgt := 43) C dX10_wetBy_9 (by decide) ⟨by omega, by omega⟩ (fun c9 => ?_) (fun c9 => ?_)
      · refine z_iload_n (pc := 43) C dX10_wetBy_43 rfl 2 rfl ?_
        refine z_iret (pc := 44) C dX10_wetBy_44 ?_
        obtain rfl : i = n := by omega
        exact ⟨_, rfl, by omega, rfl, rfl⟩
      · have hri := hr i
        have hA := sA i (by omega)
        refine z_iload_n (pc := 12) C dX10_wetBy_12 rfl 2 rfl ?_
        refine z_aload_n (pc := 13) C dX10_wetBy_13 rfl 0 rfl ?_
        refine z_getR (pc := 14) C (110) fl_X10_13 dX10_wetBy_14 (by first | rfl | assumption) (by omega) rfl (Or.inl rfl) ?_
        refine z_iload_n (pc := 17) C dX10_wetBy_17 rfl 3 rfl ?_
        refine z_iaload (pc := 18) C (i) dX10_wetBy_18 (by first | rfl | assumption) (by omega) rfl (by omega) (fun g18 => ?_)
        refine z_aload_n (pc := 19) C dX10_wetBy_19 rfl 0 rfl ?_
        refine z_iload_n (pc := 20) C dX10_wetBy_20 rfl 3 rfl ?_
        refine z_iload_n (pc := 21) C dX10_wetBy_21 rfl 1 rfl ?_
        refine z_Vi (pc := 22) C (c_X10_reachesTo l G _ n y K R V E h hr hn i _ rain rfl (by omega) hx) ml_X10_133 yw_X10_reachesTo dX10_wetBy_22 (by first | rfl | assumption) (by omega) rfl rfl rfl (Nat.le_of_ble_eq_true rfl) ⟨by decide, by decide⟩ (fun r22 t22 h22 q22 => ?_)
        obtain ⟨rfl, rfl⟩ := q22
        refine z_icmp_ge (pc := 25) (tgt := 34) C dX10_wetBy_25 (by decide) ⟨by omega, by omega⟩ (fun c25 => ?_) (fun c25 => ?_)
        · refine z_iconst (pc := 34) C dX10_wetBy_34 ?_
          refine z_ior (pc := 35) (r := zbs (zwp R rain) (i + 1)) C dX10_wetBy_35 (by first | (rw [zbs_s1 (zwp_1 (by omega))]; exact zor_i (by omega) hb.1 hb.2) | (rw [zbs_s0 (zwp_0 (by omega))]; exact zI_or0)) ?_
          refine z_istore_n (pc := 36) (lv' := [(2, _), (0, _), (1, _), (3, _)]) C dX10_wetBy_36 rfl (by decide) rfl ?_
          refine z_iinc (pc := 37) (lv' := [(3, _), (2, _), (0, _), (1, _)]) C dX10_wetBy_37 3 rfl (by decide) rfl ?_
          refine z_goto (pc := 40) (tgt := 4) C dX10_wetBy_40 (by decide) ?_
          refine z_sub C [2, 3, 1, 0] rfl ?_
          exact ih (i + 1) _ (by omega) ⟨by omega, rfl⟩
        · refine z_iconst (pc := 28) C dX10_wetBy_28 ?_
          refine z_iload_n (pc := 29) C dX10_wetBy_29 rfl 3 rfl ?_
          refine z_ishl (pc := 30) (r := 2 ^ i) C dX10_wetBy_30 (zshl_n i (by omega)) ?_
          refine z_goto (pc := 31) (tgt := 35) C dX10_wetBy_31 (by decide) ?_
          refine z_ior (pc := 35) (r := zbs (zwp R rain) (i + 1)) C dX10_wetBy_35 (by first | (rw [zbs_s1 (zwp_1 (by omega))]; exact zor_i (by omega) hb.1 hb.2) | (rw [zbs_s0 (zwp_0 (by omega))]; exact zI_or0)) ?_
          refine z_istore_n (pc := 36) (lv' := [(2, _), (0, _), (1, _), (3, _)]) C dX10_wetBy_36 rfl (by decide) rfl ?_
          refine z_iinc (pc := 37) (lv' := [(3, _), (2, _), (0, _), (1, _)]) C dX10_wetBy_37 3 rfl (by decide) rfl ?_
          refine z_goto (pc := 40) (tgt := 4) C dX10_wetBy_40 (by decide) ?_
          refine z_sub C [2, 3, 1, 0] rfl ?_
          exact ih (i + 1) _ (by omega) ⟨by omega, rfl⟩
  refine z_iconst (pc := 0) C dX10_wetBy_0 ?_
  refine z_istore_n (pc := 1) (lv' := [(2, _), (0, _), (1, _)]) C dX10_wetBy_1 rfl (by decide) rfl ?_
  refine z_iconst (pc := 2) C dX10_wetBy_2 ?_
  refine z_istore_n (pc := 3) (lv' := [(3, _), (2, _), (0, _), (1, _)]) C dX10_wetBy_3 rfl (by decide) rfl ?_
  refine z_sub C [2, 3, 1, 0] rfl ?_
  exact L4 _ 0 0 (Nat.lt_succ_self _) ⟨by omega, rfl⟩
set_option maxHeartbeats 4000000 in
set_option maxRecDepth 100000 in
theorem c_X10_goRain (l : Launch) (G : zGt) (σ : zMem) (n : Nat) (y : Int) (K R V E : Nat → Int) (h : zMl σ n y K R V E) (hr : zLr K R V E) (hn : n ≤ 6) (rain : Int) (hx : 0 ≤ rain ∧ rain ≤ 1000) : zN l G yX10_goRain cX10_goRain 4 (some .int) 2 [.ref (zB G + 108), .int (zI rain)] σ (zPi (fun x τ => x = zsum (zwp R rain) n ∧ zMl τ n y K R (zrV R V rain) E ∧ zKg σ τ)) := by
  obtain ⟨s1, s6, s5, sA⟩ := id h
  have l109 : zl 109 = 6 := by decide
  have l110 : zl 110 = 6 := by decide
  have l111 : zl 111 = 6 := by decide
  have hE : ∀ j, 0 ≤ E j ∧ E j ≤ 1 := fun j => (hr j).2.2.2
  have hb5 := zbs_bd hE n
  have hq6 := zpow6 n hn
  refine zM.of (lv0 := [(0, _), (1, _)]) (by decide) (Nat.le_of_ble_eq_true rfl) rfl (fun X C => ?_)
  have hb := zbs_bd (p := zwp R rain) (zwp_bd R rain) n
  have L8 : ∀ (fuel : Nat) (i : Nat) (τ : zMem), n - i < fuel → (i ≤ n ∧ zMl τ n y K R (fun j => if j < i then zrV R V rain j else V j) E ∧ zKg σ τ) → zg G X true 4 129 0 0 8 [(0, .ref (zB G + 108)), (2, .int (zI (zbs (zwp R rain) n))), (3, .int (zI (i : Int)))] [] τ := by
    intro fuel
    induction fuel with
    | zero => intro i τ hm; exact absurd hm (Nat.not_lt_zero _)
    | succ fuel ih =>
      intro i τ hms hinv
      obtain ⟨h1, h2, h3⟩ := hinv
      refine z_iload_n (pc := 8) C dX10_goRain_8 rfl 2 rfl ?_
      refine z_aload_n (pc := 9) C dX10_goRain_9 rfl 0 rfl ?_
      refine z_getI (pc := 10) C fl_X10_101 dX10_goRain_10 (by first | rfl | assumption) (by omega) (fun g10 => ?_)
      obtain ⟨t1, t6, t5, tA⟩ := id h2
      refine z_icmp_ge (pc := 13) (tgt := 55) C dX10_goRain_13 (by decide) ⟨by omega, by omega⟩ (fun c13 => ?_) (fun c13 => ?_)
      · refine z_iload_n (pc := 55) C dX10_goRain_55 rfl 1 rfl ?_
        refine z_Si (pc := 56) C (c_sizeV l G _ _ (zsum (zwp R rain) n) (by omega) (zsum_b10 (zwp_bd R rain) (by omega))) ml_X10_140 ys_X10_size dX10_goRain_56 rfl rfl (Nat.le_of_ble_eq_true rfl) ⟨by decide, by decide⟩ (fun r56 t56 h56 q56 => ?_)
        obtain ⟨rfl, rfl⟩ := q56
        refine z_iret (pc := 59) C dX10_goRain_59 ?_
        have hm := zsum_bd (f := zwp R rain) (c := 1) (n := n) (fun j _ => zwp_bd R rain j)
        exact ⟨_, rfl, by omega, rfl, h2.ext rfl (fun j hj => ⟨rfl, rfl, if_pos (by omega), rfl⟩), h3⟩
      · have hri := hr i
        have hA : τ 111 i = V i := by have := (tA i (by omega)).2.2; simpa using this
        have hz := zwp_bd R rain i
        refine z_aload_n (pc := 16) C dX10_goRain_16 rfl 0 rfl ?_
        refine z_getR (pc := 17) C (111) fl_X10_16 dX10_goRain_17 (by first | rfl | assumption) (by omega) rfl (Or.inl rfl) ?_
        refine z_iload_n (pc := 20) C dX10_goRain_20 rfl 2 rfl ?_
        refine z_dup2 (pc := 21) C dX10_goRain_21 rfl rfl ?_
        refine z_iaload (pc := 22) C (i) dX10_goRain_22 (by first | rfl | assumption) (by omega) rfl (by omega) (fun g22 => ?_)
        refine z_iload_n (pc := 23) C dX10_goRain_23 rfl 1 rfl ?_
        refine z_iload_n (pc := 24) C dX10_goRain_24 rfl 2 rfl ?_
        refine z_Si (pc := 25) C (c_isInV l G _ _ (zwp R rain i) i _ rfl (by omega) (by omega) (zbs_bit (zwp_bd R rain) n i (by omega))) ml_X10_122 ys_X10_isIn dX10_goRain_25 rfl rfl (Nat.le_of_ble_eq_true rfl) ⟨by decide, by decide⟩ (fun r25 t25 h25 q25 => ?_)
        obtain ⟨rfl, rfl⟩ := q25
        refine z_if_eq (pc := 28) (tgt := 46) C dX10_goRain_28 (by decide) (by omega) (fun c28 => ?_) (fun c28 => ?_)
        · refine z_iconst (pc := 46) C dX10_goRain_46 ?_
          refine z_iadd (pc := 47) C dX10_goRain_47 ?_
          refine z_iastoree (pc := 48) C (i) dX10_goRain_48 (by first | rfl | assumption) (by omega) rfl (by omega) (by omega) (fun m48 em48 => ?_)
          refine z_iinc (pc := 49) (lv' := [(3, _), (0, _), (2, _)]) C dX10_goRain_49 2 rfl (by decide) rfl ?_
          refine z_goto (pc := 52) (tgt := 8) C dX10_goRain_52 (by decide) ?_
          refine z_sub C [1, 2, 0] rfl ?_
          first
            | exact ih (i + 1) _ (by omega) ⟨by omega, by rw [em48, show τ 111 i + 1 = zrV R V rain i by unfold zrV; (repeat' split) <;> omega]; exact h2.putV.ext rfl (fun j hj => ⟨rfl, rfl, zup_s (a := zrV R V rain) j, rfl⟩), by rw [em48]; exact h3.put (by omega)⟩
            | exact ih (i + 1) _ (by omega) ⟨by omega, by rw [em48, show τ 111 i + 0 = zrV R V rain i by unfold zrV; (repeat' split) <;> omega]; exact h2.putV.ext rfl (fun j hj => ⟨rfl, rfl, zup_s (a := zrV R V rain) j, rfl⟩), by rw [em48]; exact h3.put (by omega)⟩
        · refine z_aload_n (pc := 31) C dX10_goRain_31 rfl 0 rfl ?_
          refine z_getR (pc := 32) C (111) fl_X10_16 dX10_goRain_32 (by first | rfl | assumption) (by omega) rfl (Or.inl rfl) ?_
          refine z_iload_n (pc := 35) C dX10_goRain_35 rfl 2 rfl ?_
          refine z_iaload (pc := 36) C (i) dX10_goRain_36 (by first | rfl | assumption) (by omega) rfl (by omega) (fun g36 => ?_)
          refine z_bipush (pc := 37) C dX10_goRain_37 (by decide +kernel) ?_
          refine z_icmp_ge (pc := 39) (tgt := 46) C dX10_goRain_39 (by decide) ⟨by omega, by omega⟩ (fun c39 => ?_) (fun c39 => ?_)
          · refine z_iconst (pc := 46) C dX10_goRain_46 ?_
            refine z_iadd (pc := 47) C dX10_goRain_47 ?_
            refine z_iastoree (pc := 48) C (i) dX10_goRain_48 (by first | rfl | assumption) (by omega) rfl (by omega) (by omega) (fun m48 em48 => ?_)
            refine z_iinc (pc := 49) (lv' := [(3, _), (0, _), (2, _)]) C dX10_goRain_49 2 rfl (by decide) rfl ?_
            refine z_goto (pc := 52) (tgt := 8) C dX10_goRain_52 (by decide) ?_
            refine z_sub C [1, 2, 0] rfl ?_
            first
              | exact ih (i + 1) _ (by omega) ⟨by omega, by rw [em48, show τ 111 i + 1 = zrV R V rain i by unfold zrV; (repeat' split) <;> omega]; exact h2.putV.ext rfl (fun j hj => ⟨rfl, rfl, zup_s (a := zrV R V rain) j, rfl⟩), by rw [em48]; exact h3.put (by omega)⟩
              | exact ih (i + 1) _ (by omega) ⟨by omega, by rw [em48, show τ 111 i + 0 = zrV R V rain i by unfold zrV; (repeat' split) <;> omega]; exact h2.putV.ext rfl (fun j hj => ⟨rfl, rfl, zup_s (a := zrV R V rain) j, rfl⟩), by rw [em48]; exact h3.put (by omega)⟩
          · refine z_iconst (pc := 42) C dX10_goRain_42 ?_
            refine z_goto (pc := 43) (tgt := 47) C dX10_goRain_43 (by decide) ?_
            refine z_iadd (pc := 47) C dX10_goRain_47 ?_
            refine z_iastoree (pc := 48) C (i) dX10_goRain_48 (by first | rfl | assumption) (by omega) rfl (by omega) (by omega) (fun m48 em48 => ?_)
            refine z_iinc (pc := 49) (lv' := [(3, _), (0, _), (2, _)]) C dX10_goRain_49 2 rfl (by decide) rfl ?_
            refine z_goto (pc := 52) (tgt := 8) C dX10_goRain_52 (by decide) ?_
            refine z_sub C [1, 2, 0] rfl ?_
            first
              | exact ih (i + 1) _ (by omega) ⟨by omega, by rw [em48, show τ 111 i + 1 = zrV R V rain i by unfold zrV; (repeat' split) <;> omega]; exact h2.putV.ext rfl (fun j hj => ⟨rfl, rfl, zup_s (a := zrV R V rain) j, rfl⟩), by rw [em48]; exact h3.put (by omega)⟩
              | exact ih (i + 1) _ (by omega) ⟨by omega, by rw [em48, show τ 111 i + 0 = zrV R V rain i by unfold zrV; (repeat' split) <;> omega]; exact h2.putV.ext rfl (fun j hj => ⟨rfl, rfl, zup_s (a := zrV R V rain) j, rfl⟩), by rw [em48]; exact h3.put (by omega)⟩
  refine z_aload_n (pc := 0) C dX10_goRain_0 rfl 0 rfl ?_
  refine z_iload_n (pc := 1) C dX10_goRain_1 rfl 1 rfl ?_
  refine z_Vi (pc := 2) C (c_X10_wetBy l G _ _ _ _ _ _ _ (by first | assumption | omega | decide) (by first | assumption | omega | decide) (by first | assumption | omega | decide) _ (by first | assumption | omega | decide)) ml_X10_137 yw_X10_wetBy dX10_goRain_2 (by first | rfl | assumption) (by omega) rfl rfl rfl (Nat.le_of_ble_eq_true rfl) ⟨by decide, by decide⟩ (fun r2 t2 h2 q2 => ?_)
  obtain ⟨rfl, rfl⟩ := q2
  refine z_istore_n (pc := 5) (lv' := [(2, _), (0, _), (1, _)]) C dX10_goRain_5 rfl (by decide) rfl ?_
  refine z_iconst (pc := 6) C dX10_goRain_6 ?_
  refine z_istore_n (pc := 7) (lv' := [(3, _), (2, _), (0, _), (1, _)]) C dX10_goRain_7 rfl (by decide) rfl ?_
  refine z_sub C [2, 1, 0] rfl ?_
  exact L8 _ 0 _ (Nat.lt_succ_self _) ⟨by omega, h.ext rfl (fun j hj => ⟨rfl, rfl, rfl, rfl⟩), zKg.rf⟩
set_option maxHeartbeats 4000000 in
set_option maxRecDepth 100000 in
theorem c_X10_goCheer (l : Launch) (G : zGt) (σ : zMem) (n : Nat) (y : Int) (K R V E : Nat → Int) (h : zMl σ n y K R V E) (hr : zLr K R V E) (hn : n ≤ 6) (i : Nat) (p : Int) (hp : p = i) (hi : i < n) : zN l G yX10_goCheer cX10_goCheer 2 (none) 0 [.ref (zB G + 108), .int (zI p)] σ (zPv (fun τ => zMl τ n y K R (zcv1 V i) E ∧ zKg σ τ)) := by
  obtain ⟨s1, s6, s5, sA⟩ := id h
  have l109 : zl 109 = 6 := by decide
  have l110 : zl 110 = 6 := by decide
  have l111 : zl 111 = 6 := by decide
  have hE : ∀ j, 0 ≤ E j ∧ E j ≤ 1 := fun j => (hr j).2.2.2
  have hb5 := zbs_bd hE n
  have hq6 := zpow6 n hn
  subst hp
  have hri := hr i
  have hA := sA i hi
  refine zM.of (lv0 := [(0, _), (1, _)]) (by decide) (Nat.le_of_ble_eq_true rfl) rfl (fun X C => ?_)
  refine z_aload_n (pc := 0) C dX10_goCheer_0 rfl 0 rfl ?_
  refine z_getR (pc := 1) C (111) fl_X10_16 dX10_goCheer_1 (by first | rfl | assumption) (by omega) rfl (Or.inl rfl) ?_
  refine z_iload_n (pc := 4) C dX10_goCheer_4 rfl 1 rfl ?_
  refine z_aload_n (pc := 5) C dX10_goCheer_5 rfl 0 rfl ?_
  refine z_getR (pc := 6) C (111) fl_X10_16 dX10_goCheer_6 (by first | rfl | assumption) (by omega) rfl (Or.inl rfl) ?_
  refine z_iload_n (pc := 9) C dX10_goCheer_9 rfl 1 rfl ?_
  refine z_iaload (pc := 10) C (i) dX10_goCheer_10 (by first | rfl | assumption) (by omega) rfl (by omega) (fun g10 => ?_)
  refine z_iconst (pc := 11) C dX10_goCheer_11 ?_
  refine z_icmp_le (pc := 12) (tgt := 26) C dX10_goCheer_12 (by decide) ⟨by omega, by omega⟩ (fun c12 => ?_) (fun c12 => ?_)
  · refine z_iconst (pc := 26) C dX10_goCheer_26 ?_
    refine z_iastoree (pc := 27) C (i) dX10_goCheer_27 (by first | rfl | assumption) (by omega) rfl (by omega) (by omega) (fun m27 em27 => ?_)
    refine z_vret (pc := 28) C dX10_goCheer_28 ?_
    obtain ⟨v, hv⟩ : ∃ v, v = (if 0 < V i - 2 then V i - 2 else 0) := ⟨_, rfl⟩
    have ev : m27 = zU σ 111 i v := by
      rw [em27]
      congr 1
      split at hv <;> omega
    refine ⟨rfl, by rw [ev, hv]; exact h.putV, by rw [ev]; exact zKg.rf.put (by omega)⟩
  · refine z_aload_n (pc := 15) C dX10_goCheer_15 rfl 0 rfl ?_
    refine z_getR (pc := 16) C (111) fl_X10_16 dX10_goCheer_16 (by first | rfl | assumption) (by omega) rfl (Or.inl rfl) ?_
    refine z_iload_n (pc := 19) C dX10_goCheer_19 rfl 1 rfl ?_
    refine z_iaload (pc := 20) C (i) dX10_goCheer_20 (by first | rfl | assumption) (by omega) rfl (by omega) (fun g20 => ?_)
    refine z_iconst (pc := 21) C dX10_goCheer_21 ?_
    refine z_isub (pc := 22) C dX10_goCheer_22 ?_
    refine z_goto (pc := 23) (tgt := 27) C dX10_goCheer_23 (by decide) ?_
    refine z_iastoree (pc := 27) C (i) dX10_goCheer_27 (by first | rfl | assumption) (by omega) rfl (by omega) (by omega) (fun m27 em27 => ?_)
    refine z_vret (pc := 28) C dX10_goCheer_28 ?_
    obtain ⟨v, hv⟩ : ∃ v, v = (if 0 < V i - 2 then V i - 2 else 0) := ⟨_, rfl⟩
    have ev : m27 = zU σ 111 i v := by
      rw [em27]
      congr 1
      split at hv <;> omega
    refine ⟨rfl, by rw [ev, hv]; exact h.putV, by rw [ev]; exact zKg.rf.put (by omega)⟩
set_option maxHeartbeats 4000000 in
set_option maxRecDepth 100000 in
theorem c_X10_reedAll (l : Launch) (G : zGt) (σ : zMem) (n : Nat) (y : Int) (K R V E : Nat → Int) (h : zMl σ n y K R V E) (hr : zLr K R V E) (hn : n ≤ 6) : zN l G yX10_reedAll cX10_reedAll 3 (some .int) 0 [.ref (zB G + 108)] σ (zPi (fun x τ => x = zsum R n ∧ σ = τ)) := by
  obtain ⟨s1, s6, s5, sA⟩ := id h
  have l109 : zl 109 = 6 := by decide
  have l110 : zl 110 = 6 := by decide
  have l111 : zl 111 = 6 := by decide
  have hE : ∀ j, 0 ≤ E j ∧ E j ≤ 1 := fun j => (hr j).2.2.2
  have hb5 := zbs_bd hE n
  have hq6 := zpow6 n hn
  refine zM.of (lv0 := [(0, _)]) (by decide) (Nat.le_of_ble_eq_true rfl) rfl (fun X C => ?_)
  have L4 : ∀ (fuel : Nat) (i : Nat), n - i < fuel → (i ≤ n) → zg G X true 3 129 0 0 4 [(0, .ref (zB G + 108)), (1, .int (zI (zsum R i))), (2, .int (zI (i : Int)))] [] σ := by
    intro fuel
    induction fuel with
    | zero => intro i hm; exact absurd hm (Nat.not_lt_zero _)
    | succ fuel ih =>
      intro i hms h1
      refine z_iload_n (pc := 4) C dX10_reedAll_4 rfl 2 rfl ?_
      refine z_aload_n (pc := 5) C dX10_reedAll_5 rfl 0 rfl ?_
      refine z_getI (pc := 6) C fl_X10_101 dX10_reedAll_6 (by first | rfl | assumption) (by omega) (fun g6 => ?_)
      refine z_icmp_ge (pc := 9) (tgt := 27) C dX10_reedAll_9 (by decide) ⟨by omega, by omega⟩ (fun c9 => ?_) (fun c9 => ?_)
      · refine z_iload_n (pc := 27) C dX10_reedAll_27 rfl 1 rfl ?_
        refine z_iret (pc := 28) C dX10_reedAll_28 ?_
        obtain rfl : i = n := by omega
        have hm := zsum_bd (f := R) (c := 20) (n := i) (fun j _ => by have := hr j; omega)
        exact ⟨_, rfl, by omega, rfl, rfl⟩
      · have hA := (sA i (by omega)).2.1
        refine z_iload_n (pc := 12) C dX10_reedAll_12 rfl 1 rfl ?_
        refine z_aload_n (pc := 13) C dX10_reedAll_13 rfl 0 rfl ?_
        refine z_getR (pc := 14) C (110) fl_X10_13 dX10_reedAll_14 (by first | rfl | assumption) (by omega) rfl (Or.inl rfl) ?_
        refine z_iload_n (pc := 17) C dX10_reedAll_17 rfl 2 rfl ?_
        refine z_iaload (pc := 18) C (i) dX10_reedAll_18 (by first | rfl | assumption) (by omega) rfl (by omega) (fun g18 => ?_)
        rw [hA]
        refine z_iadd (pc := 19) C dX10_reedAll_19 ?_
        refine z_istore_n (pc := 20) (lv' := [(1, _), (0, _), (2, _)]) C dX10_reedAll_20 rfl (by decide) rfl ?_
        refine z_iinc (pc := 21) (lv' := [(2, _), (1, _), (0, _)]) C dX10_reedAll_21 2 rfl (by decide) rfl ?_
        refine z_goto (pc := 24) (tgt := 4) C dX10_reedAll_24 (by decide) ?_
        refine z_sub C [2, 1, 0] rfl ?_
        exact ih (i + 1) (by omega) (by omega)
  refine z_iconst (pc := 0) C dX10_reedAll_0 ?_
  refine z_istore_n (pc := 1) (lv' := [(1, _), (0, _)]) C dX10_reedAll_1 rfl (by decide) rfl ?_
  refine z_iconst (pc := 2) C dX10_reedAll_2 ?_
  refine z_istore_n (pc := 3) (lv' := [(2, _), (1, _), (0, _)]) C dX10_reedAll_3 rfl (by decide) rfl ?_
  refine z_sub C [2, 1, 0] rfl ?_
  exact L4 _ 0 (Nat.lt_succ_self _) (by omega)
set_option maxHeartbeats 4000000 in
set_option maxRecDepth 100000 in
theorem c_X10_worryAll (l : Launch) (G : zGt) (σ : zMem) (n : Nat) (y : Int) (K R V E : Nat → Int) (h : zMl σ n y K R V E) (hr : zLr K R V E) (hn : n ≤ 6) : zN l G yX10_worryAll cX10_worryAll 3 (some .int) 0 [.ref (zB G + 108)] σ (zPi (fun x τ => x = zsum V n ∧ σ = τ)) := by
  obtain ⟨s1, s6, s5, sA⟩ := id h
  have l109 : zl 109 = 6 := by decide
  have l110 : zl 110 = 6 := by decide
  have l111 : zl 111 = 6 := by decide
  have hE : ∀ j, 0 ≤ E j ∧ E j ≤ 1 := fun j => (hr j).2.2.2
  have hb5 := zbs_bd hE n
  have hq6 := zpow6 n hn
  refine zM.of (lv0 := [(0, _)]) (by decide) (Nat.le_of_ble_eq_true rfl) rfl (fun X C => ?_)
  have L4 : ∀ (fuel : Nat) (i : Nat), n - i < fuel → (i ≤ n) → zg G X true 3 129 0 0 4 [(0, .ref (zB G + 108)), (1, .int (zI (zsum V i))), (2, .int (zI (i : Int)))] [] σ := by
    intro fuel
    induction fuel with
    | zero => intro i hm; exact absurd hm (Nat.not_lt_zero _)
    | succ fuel ih =>
      intro i hms h1
      refine z_iload_n (pc := 4) C dX10_worryAll_4 rfl 2 rfl ?_
      refine z_aload_n (pc := 5) C dX10_worryAll_5 rfl 0 rfl ?_
      refine z_getI (pc := 6) C fl_X10_101 dX10_worryAll_6 (by first | rfl | assumption) (by omega) (fun g6 => ?_)
      refine z_icmp_ge (pc := 9) (tgt := 27) C dX10_worryAll_9 (by decide) ⟨by omega, by omega⟩ (fun c9 => ?_) (fun c9 => ?_)
      · refine z_iload_n (pc := 27) C dX10_worryAll_27 rfl 1 rfl ?_
        refine z_iret (pc := 28) C dX10_worryAll_28 ?_
        obtain rfl : i = n := by omega
        have hm := zsum_bd (f := V) (c := 20) (n := i) (fun j _ => by have := hr j; omega)
        exact ⟨_, rfl, by omega, rfl, rfl⟩
      · have hA := (sA i (by omega)).2.2
        refine z_iload_n (pc := 12) C dX10_worryAll_12 rfl 1 rfl ?_
        refine z_aload_n (pc := 13) C dX10_worryAll_13 rfl 0 rfl ?_
        refine z_getR (pc := 14) C (111) fl_X10_16 dX10_worryAll_14 (by first | rfl | assumption) (by omega) rfl (Or.inl rfl) ?_
        refine z_iload_n (pc := 17) C dX10_worryAll_17 rfl 2 rfl ?_
        refine z_iaload (pc := 18) C (i) dX10_worryAll_18 (by first | rfl | assumption) (by omega) rfl (by omega) (fun g18 => ?_)
        rw [hA]
        refine z_iadd (pc := 19) C dX10_worryAll_19 ?_
        refine z_istore_n (pc := 20) (lv' := [(1, _), (0, _), (2, _)]) C dX10_worryAll_20 rfl (by decide) rfl ?_
        refine z_iinc (pc := 21) (lv' := [(2, _), (1, _), (0, _)]) C dX10_worryAll_21 2 rfl (by decide) rfl ?_
        refine z_goto (pc := 24) (tgt := 4) C dX10_worryAll_24 (by decide) ?_
        refine z_sub C [2, 1, 0] rfl ?_
        exact ih (i + 1) (by omega) (by omega)
  refine z_iconst (pc := 0) C dX10_worryAll_0 ?_
  refine z_istore_n (pc := 1) (lv' := [(1, _), (0, _)]) C dX10_worryAll_1 rfl (by decide) rfl ?_
  refine z_iconst (pc := 2) C dX10_worryAll_2 ?_
  refine z_istore_n (pc := 3) (lv' := [(2, _), (1, _), (0, _)]) C dX10_worryAll_3 rfl (by decide) rfl ?_
  refine z_sub C [2, 1, 0] rfl ?_
  exact L4 _ 0 (Nat.lt_succ_self _) (by omega)
set_option maxHeartbeats 4000000 in
set_option maxRecDepth 100000 in
theorem c_X10_thick (l : Launch) (G : zGt) (σ : zMem) (n : Nat) (y : Int) (K R V E : Nat → Int) (h : zMl σ n y K R V E) (hr : zLr K R V E) (hn : n ≤ 6) : zN l G yX10_thick cX10_thick 3 (some .int) 0 [.ref (zB G + 108)] σ (zPi (fun x τ => x = zsh R n ∧ σ = τ)) := by
  obtain ⟨s1, s6, s5, sA⟩ := id h
  have l109 : zl 109 = 6 := by decide
  have l110 : zl 110 = 6 := by decide
  have l111 : zl 111 = 6 := by decide
  have hE : ∀ j, 0 ≤ E j ∧ E j ≤ 1 := fun j => (hr j).2.2.2
  have hb5 := zbs_bd hE n
  have hq6 := zpow6 n hn
  refine zM.of (lv0 := [(0, _)]) (by decide) (Nat.le_of_ble_eq_true rfl) rfl (fun X C => ?_)
  have L4 : ∀ (fuel : Nat) (i : Nat) (s : Int), n - i < fuel → (i ≤ n ∧ s = zsh R i) → zg G X true 3 129 0 0 4 [(0, .ref (zB G + 108)), (1, .int (zI s)), (2, .int (zI (i : Int)))] [] σ := by
    intro fuel
    induction fuel with
    | zero => intro i s hm; exact absurd hm (Nat.not_lt_zero _)
    | succ fuel ih =>
      intro i s hms hinv
      obtain ⟨h1, rfl⟩ := hinv
      refine z_iload_n (pc := 4) C dX10_thick_4 rfl 2 rfl ?_
      refine z_aload_n (pc := 5) C dX10_thick_5 rfl 0 rfl ?_
      refine z_getI (pc := 6) C fl_X10_101 dX10_thick_6 (by first | rfl | assumption) (by omega) (fun g6 => ?_)
      refine z_icmp_ge (pc := 9) (tgt := 37) C dX10_thick_9 (by decide) ⟨by omega, by omega⟩ (fun c9 => ?_) (fun c9 => ?_)
      · refine z_iload_n (pc := 37) C dX10_thick_37 rfl 1 rfl ?_
        refine z_iret (pc := 38) C dX10_thick_38 ?_
        obtain rfl : i = n := by omega
        have hs := zsh_bd R i
        exact ⟨_, rfl, by omega, rfl, rfl⟩
      · have hA := (sA i (by omega)).2.1
        refine z_iload_n (pc := 12) C dX10_thick_12 rfl 1 rfl ?_
        refine z_aload_n (pc := 13) C dX10_thick_13 rfl 0 rfl ?_
        refine z_getR (pc := 14) C (110) fl_X10_13 dX10_thick_14 (by first | rfl | assumption) (by omega) rfl (Or.inl rfl) ?_
        refine z_iload_n (pc := 17) C dX10_thick_17 rfl 2 rfl ?_
        refine z_iaload (pc := 18) C (i) dX10_thick_18 (by first | rfl | assumption) (by omega) rfl (by omega) (fun g18 => ?_)
        refine z_bipush (pc := 19) C dX10_thick_19 (by decide +kernel) ?_
        refine z_icmp_lt (pc := 21) (tgt := 28) C dX10_thick_21 (by decide) ⟨by omega, by omega⟩ (fun c21 => ?_) (fun c21 => ?_)
        · refine z_iconst (pc := 28) C dX10_thick_28 ?_
          refine z_iadd (pc := 29) C dX10_thick_29 ?_
          refine z_istore_n (pc := 30) (lv' := [(1, _), (0, _), (2, _)]) C dX10_thick_30 rfl (by decide) rfl ?_
          refine z_iinc (pc := 31) (lv' := [(2, _), (1, _), (0, _)]) C dX10_thick_31 2 rfl (by decide) rfl ?_
          refine z_goto (pc := 34) (tgt := 4) C dX10_thick_34 (by decide) ?_
          refine z_sub C [2, 1, 0] rfl ?_
          first
            | exact ih (i + 1) _ (by omega) ⟨by omega, (zsh_s1 (by omega)).symm⟩
            | exact ih (i + 1) _ (by omega) ⟨by omega, by rw [zsh_s0 (by omega)]; omega⟩
        · refine z_iconst (pc := 24) C dX10_thick_24 ?_
          refine z_goto (pc := 25) (tgt := 29) C dX10_thick_25 (by decide) ?_
          refine z_iadd (pc := 29) C dX10_thick_29 ?_
          refine z_istore_n (pc := 30) (lv' := [(1, _), (0, _), (2, _)]) C dX10_thick_30 rfl (by decide) rfl ?_
          refine z_iinc (pc := 31) (lv' := [(2, _), (1, _), (0, _)]) C dX10_thick_31 2 rfl (by decide) rfl ?_
          refine z_goto (pc := 34) (tgt := 4) C dX10_thick_34 (by decide) ?_
          refine z_sub C [2, 1, 0] rfl ?_
          first
            | exact ih (i + 1) _ (by omega) ⟨by omega, (zsh_s1 (by omega)).symm⟩
            | exact ih (i + 1) _ (by omega) ⟨by omega, by rw [zsh_s0 (by omega)]; omega⟩
  refine z_iconst (pc := 0) C dX10_thick_0 ?_
  refine z_istore_n (pc := 1) (lv' := [(1, _), (0, _)]) C dX10_thick_1 rfl (by decide) rfl ?_
  refine z_iconst (pc := 2) C dX10_thick_2 ?_
  refine z_istore_n (pc := 3) (lv' := [(2, _), (1, _), (0, _)]) C dX10_thick_3 rfl (by decide) rfl ?_
  refine z_sub C [2, 1, 0] rfl ?_
  exact L4 _ 0 0 (Nat.lt_succ_self _) ⟨by omega, rfl⟩
set_option maxHeartbeats 4000000 in
set_option maxRecDepth 100000 in
theorem c_X10_mayComb (l : Launch) (G : zGt) (σ : zMem) (n : Nat) (y : Int) (K R V E : Nat → Int) (h : zMl σ n y K R V E) (hr : zLr K R V E) (hn : n ≤ 6) (i : Nat) (p : Int) (hp : p = i) (hi : i < n) : zN l G yX10_mayComb cX10_mayComb 2 (some .boolean) 1 [.ref (zB G + 108), .int (zI p)] σ (zPi (fun x τ => ((x = 1 ∧ E i = 0 ∧ 2 ≤ R i) ∨ (x = 0 ∧ ¬ (E i = 0 ∧ 2 ≤ R i))) ∧ σ = τ)) := by
  obtain ⟨s1, s6, s5, sA⟩ := id h
  have l109 : zl 109 = 6 := by decide
  have l110 : zl 110 = 6 := by decide
  have l111 : zl 111 = 6 := by decide
  have hE : ∀ j, 0 ≤ E j ∧ E j ≤ 1 := fun j => (hr j).2.2.2
  have hb5 := zbs_bd hE n
  have hq6 := zpow6 n hn
  subst hp
  have hri := hr i
  have hA := sA i hi
  refine zM.of (lv0 := [(0, _), (1, _)]) (by decide) (Nat.le_of_ble_eq_true rfl) rfl (fun X C => ?_)
  refine z_aload_n (pc := 0) C dX10_mayComb_0 rfl 0 rfl ?_
  refine z_getI (pc := 1) C fl_X10_104 dX10_mayComb_1 (by first | rfl | assumption) (by omega) (fun g1 => ?_)
  rw [s5]
  refine z_iload_n (pc := 4) C dX10_mayComb_4 rfl 1 rfl ?_
  refine z_Si (pc := 5) C (c_isInV l G _ _ (E i) i _ rfl (by omega) (by omega) (zbs_bit hE n i hi)) ml_X10_122 ys_X10_isIn dX10_mayComb_5 rfl rfl (Nat.le_of_ble_eq_true rfl) ⟨by decide, by decide⟩ (fun r5 t5 h5 q5 => ?_)
  obtain ⟨rfl, rfl⟩ := q5
  refine z_if_ne (pc := 8) (tgt := 25) C dX10_mayComb_8 (by decide) (by omega) (fun c8 => ?_) (fun c8 => ?_)
  · refine z_iconst (pc := 25) C dX10_mayComb_25 ?_
    refine z_zret (pc := 26) C dX10_mayComb_26 (by omega) ?_
    exact ⟨_, rfl, by omega, by omega, rfl⟩
  · refine z_aload_n (pc := 11) C dX10_mayComb_11 rfl 0 rfl ?_
    refine z_getR (pc := 12) C (110) fl_X10_13 dX10_mayComb_12 (by first | rfl | assumption) (by omega) rfl (Or.inl rfl) ?_
    refine z_iload_n (pc := 15) C dX10_mayComb_15 rfl 1 rfl ?_
    refine z_iaload (pc := 16) C (i) dX10_mayComb_16 (by first | rfl | assumption) (by omega) rfl (by omega) (fun g16 => ?_)
    refine z_iconst (pc := 17) C dX10_mayComb_17 ?_
    refine z_icmp_lt (pc := 18) (tgt := 25) C dX10_mayComb_18 (by decide) ⟨by omega, by omega⟩ (fun c18 => ?_) (fun c18 => ?_)
    · refine z_iconst (pc := 25) C dX10_mayComb_25 ?_
      refine z_zret (pc := 26) C dX10_mayComb_26 (by omega) ?_
      exact ⟨_, rfl, by omega, by omega, rfl⟩
    · refine z_iconst (pc := 21) C dX10_mayComb_21 ?_
      refine z_goto (pc := 22) (tgt := 26) C dX10_mayComb_22 (by decide) ?_
      refine z_zret (pc := 26) C dX10_mayComb_26 (by omega) ?_
      exact ⟨_, rfl, by omega, by omega, rfl⟩
set_option maxHeartbeats 4000000 in
set_option maxRecDepth 100000 in
theorem c_X10_goComb (l : Launch) (G : zGt) (σ : zMem) (n : Nat) (y : Int) (K R V E : Nat → Int) (h : zMl σ n y K R V E) (hr : zLr K R V E) (hn : n ≤ 6) (i : Nat) (p : Int) (hp : p = i) (hi : i < n) (hE0 : E i = 0) : zN l G yX10_goComb cX10_goComb 2 (none) 0 [.ref (zB G + 108), .int (zI p)] σ (zPv (fun τ => zMl τ n y K (zup R i (R i - 2)) V (zup E i 1) ∧ zKg σ τ)) := by
  obtain ⟨s1, s6, s5, sA⟩ := id h
  have l109 : zl 109 = 6 := by decide
  have l110 : zl 110 = 6 := by decide
  have l111 : zl 111 = 6 := by decide
  have hE : ∀ j, 0 ≤ E j ∧ E j ≤ 1 := fun j => (hr j).2.2.2
  have hb5 := zbs_bd hE n
  have hq6 := zpow6 n hn
  subst hp
  have hri := hr i
  have hA := sA i hi
  refine zM.of (lv0 := [(0, _), (1, _)]) (by decide) (Nat.le_of_ble_eq_true rfl) rfl (fun X C => ?_)
  refine z_aload_n (pc := 0) C dX10_goComb_0 rfl 0 rfl ?_
  refine z_getR (pc := 1) C (110) fl_X10_13 dX10_goComb_1 (by first | rfl | assumption) (by omega) rfl (Or.inl rfl) ?_
  refine z_iload_n (pc := 4) C dX10_goComb_4 rfl 1 rfl ?_
  refine z_dup2 (pc := 5) C dX10_goComb_5 rfl rfl ?_
  refine z_iaload (pc := 6) C (i) dX10_goComb_6 (by first | rfl | assumption) (by omega) rfl (by omega) (fun g6 => ?_)
  rw [hA.2.1]
  refine z_iconst (pc := 7) C dX10_goComb_7 ?_
  refine z_isub (pc := 8) C dX10_goComb_8 ?_
  refine z_iastoree (pc := 9) C (i) dX10_goComb_9 (by first | rfl | assumption) (by omega) rfl (by omega) (by omega) (fun m9 em9 => ?_)
  refine z_aload_n (pc := 10) C dX10_goComb_10 rfl 0 rfl ?_
  refine z_dup (pc := 11) C dX10_goComb_11 rfl ?_
  refine z_getI (pc := 12) C fl_X10_104 dX10_goComb_12 (by first | rfl | assumption) (by omega) (fun g12 => ?_)
  rw [show m9 108 5 = zbs E n by rw [em9, zU_o (by omega)]; exact s5]
  refine z_iconst (pc := 15) C dX10_goComb_15 ?_
  refine z_iload_n (pc := 16) C dX10_goComb_16 rfl 1 rfl ?_
  refine z_ishl (pc := 17) (r := 2 ^ i) C dX10_goComb_17 (zshl_n i (by omega)) ?_
  refine z_ior (pc := 18) (r := zbs E n + 2 ^ i) C dX10_goComb_18 (zor_d (by omega) hb5.1 (by omega) (by rw [zbs_bit hE n i hi]; exact hE0)) ?_
  refine z_putIe (pc := 19) C fl_X10_104 dX10_goComb_19 (by first | rfl | assumption) (by omega) (by have := zbs_up n hi hE0; have h2 : ∀ j, 0 ≤ zup E i 1 j ∧ zup E i 1 j ≤ 1 := (fun j => by unfold zup; split; omega; exact hE j); have := zbs_bd h2 n; omega) (fun m19 em19 => ?_)
  refine z_vret (pc := 22) C dX10_goComb_22 ?_
  exact ⟨rfl, by rw [em19, em9]; exact h.putR.putC (zbs_up n hi hE0).symm, by rw [em19, em9]; exact (zKg.rf.put (by omega)).put (by omega)⟩
set_option maxHeartbeats 4000000 in
set_option maxRecDepth 100000 in
theorem c_X10_save (l : Launch) (G : zGt) (σ : zMem) (n : Nat) (y : Int) (K R V E : Nat → Int) (h : zMl σ n y K R V E) (hr : zLr K R V E) (hn : n ≤ 6) : zN l G yX10_save cX10_save 2 (none) 0 [.ref (zB G + 108)] σ (zPv (fun τ => zMl τ n y K R V E ∧ zSv τ n y R V E ∧ ∀ o k, o ≠ 116 → o ≠ 117 → (o ≠ 108 ∨ (k ≠ 18 ∧ k ≠ 19)) → τ o k = σ o k)) := by
  obtain ⟨s1, s6, s5, sA⟩ := id h
  have l109 : zl 109 = 6 := by decide
  have l110 : zl 110 = 6 := by decide
  have l111 : zl 111 = 6 := by decide
  have hE : ∀ j, 0 ≤ E j ∧ E j ≤ 1 := fun j => (hr j).2.2.2
  have hb5 := zbs_bd hE n
  have hq6 := zpow6 n hn
  have l116 : zl 116 = 6 := by decide
  have l117 : zl 117 = 6 := by decide
  refine zM.of (lv0 := [(0, _)]) (by decide) (Nat.le_of_ble_eq_true rfl) rfl (fun X C => ?_)
  have L2 : ∀ (fuel : Nat) (i : Nat) (τ : zMem), 6 - i < fuel → (i ≤ 6 ∧ (∀ j, j < i → τ 116 j = σ 110 j ∧ τ 117 j = σ 111 j) ∧ ∀ o k, o ≠ 116 → o ≠ 117 → τ o k = σ o k) → zg G X true 2 129 0 0 2 [(0, .ref (zB G + 108)), (1, .int (zI (i : Int)))] [] τ := by
    intro fuel
    induction fuel with
    | zero => intro i τ hm; exact absurd hm (Nat.not_lt_zero _)
    | succ fuel ih =>
      intro i τ hms hinv
      obtain ⟨h1, h2, h3⟩ := hinv
      refine z_iload_n (pc := 2) C dX10_save_2 rfl 1 rfl ?_
      refine z_bipush (pc := 3) C dX10_save_3 (by decide +kernel) ?_
      refine z_icmp_ge (pc := 5) (tgt := 38) C dX10_save_5 (by decide) ⟨by omega, by omega⟩ (fun c5 => ?_) (fun c5 => ?_)
      · refine z_aload_n (pc := 38) C dX10_save_38 rfl 0 rfl ?_
        refine z_aload_n (pc := 39) C dX10_save_39 rfl 0 rfl ?_
        refine z_getI (pc := 40) C fl_X10_104 dX10_save_40 (by first | rfl | assumption) (by omega) (fun g40 => ?_)
        rw [show τ 108 5 = zbs E n from (h3 _ _ (by omega) (by omega)).trans s5]
        refine z_putIe (pc := 43) C fl_X10_174 dX10_save_43 (by first | rfl | assumption) (by omega) (by omega) (fun m43 em43 => ?_)
        refine z_aload_n (pc := 46) C dX10_save_46 rfl 0 rfl ?_
        refine z_aload_n (pc := 47) C dX10_save_47 rfl 0 rfl ?_
        refine z_getI (pc := 48) C fl_X10_107 dX10_save_48 (by first | rfl | assumption) (by omega) (fun g48 => ?_)
        have hy6 : m43 108 6 = y := by rw [em43, zU_k (by omega)]; exact (h3 _ _ (by omega) (by omega)).trans s6
        rw [hy6]
        refine z_putIe (pc := 51) C fl_X10_177 dX10_save_51 (by first | rfl | assumption) (by omega) (by omega) (fun m51 em51 => ?_)
        refine z_vret (pc := 54) C dX10_save_54 ?_
        have hz : ∀ o k, o ≠ 116 → o ≠ 117 → (o ≠ 108 ∨ (k ≠ 18 ∧ k ≠ 19)) → m51 o k = σ o k := fun o k h4 h5 h6 => by
          rw [em51, em43]; unfold zU; rw [if_neg (by omega), if_neg (by omega)]; exact h3 o k h4 h5
        refine ⟨rfl, h.fr (fun o k ho => hz o k (by omega) (by omega) (by omega)), ⟨by rw [em51, zU_k (by omega), em43, zU_at], by rw [em51, zU_at], fun i hi => ?_⟩, hz⟩
        obtain ⟨a1, a2⟩ := h2 i (by omega)
        rw [em51, em43, zU_o (by omega), zU_o (by omega), zU_o (by omega), zU_o (by omega), a1, a2]
        exact ⟨(sA i hi).2.1, (sA i hi).2.2⟩
      · refine z_aload_n (pc := 8) C dX10_save_8 rfl 0 rfl ?_
        refine z_getR (pc := 9) C (116) fl_X10_32 dX10_save_9 (by first | rfl | assumption) (by omega) rfl (Or.inl rfl) ?_
        refine z_iload_n (pc := 12) C dX10_save_12 rfl 1 rfl ?_
        refine z_aload_n (pc := 13) C dX10_save_13 rfl 0 rfl ?_
        refine z_getR (pc := 14) C (110) fl_X10_13 dX10_save_14 (by first | rfl | assumption) (by omega) rfl (Or.inl rfl) ?_
        refine z_iload_n (pc := 17) C dX10_save_17 rfl 1 rfl ?_
        refine z_iaload (pc := 18) C (i) dX10_save_18 (by first | rfl | assumption) (by omega) rfl (by omega) (fun g18 => ?_)
        refine z_iastoree (pc := 19) C (i) dX10_save_19 (by first | rfl | assumption) (by omega) rfl (by omega) (by omega) (fun m19 em19 => ?_)
        refine z_aload_n (pc := 20) C dX10_save_20 rfl 0 rfl ?_
        refine z_getR (pc := 21) C (117) fl_X10_35 dX10_save_21 (by first | rfl | assumption) (by omega) rfl (Or.inl rfl) ?_
        refine z_iload_n (pc := 24) C dX10_save_24 rfl 1 rfl ?_
        refine z_aload_n (pc := 25) C dX10_save_25 rfl 0 rfl ?_
        refine z_getR (pc := 26) C (111) fl_X10_16 dX10_save_26 (by first | rfl | assumption) (by omega) rfl (Or.inl rfl) ?_
        refine z_iload_n (pc := 29) C dX10_save_29 rfl 1 rfl ?_
        refine z_iaload (pc := 30) C (i) dX10_save_30 (by first | rfl | assumption) (by omega) rfl (by omega) (fun g30 => ?_)
        refine z_iastoree (pc := 31) C (i) dX10_save_31 (by first | rfl | assumption) (by omega) rfl (by omega) (by omega) (fun m31 em31 => ?_)
        refine z_iinc (pc := 32) (lv' := [(1, _), (0, _)]) C dX10_save_32 1 rfl (by decide) rfl ?_
        refine z_goto (pc := 35) (tgt := 2) C dX10_save_35 (by decide) ?_
        refine z_sub C [1, 0] rfl ?_
        have hst : ∀ j, j < i + 1 → m31 116 j = σ 110 j ∧ m31 117 j = σ 111 j := by
          intro j hj
          rw [em31, em19]
          by_cases e : j = i
          · rw [e]
            exact ⟨by rw [zU_o (by omega), zU_at]; exact h3 _ _ (by omega) (by omega), by rw [zU_at, zU_o (by omega)]; exact h3 _ _ (by omega) (by omega)⟩
          · obtain ⟨a1, a2⟩ := h2 j (by omega)
            exact ⟨by rw [zU_o (by omega), zU_k e]; exact a1, by rw [zU_k e, zU_o (by omega)]; exact a2⟩
        exact ih (i + 1) _ (by omega) ⟨by omega, hst, fun o k h4 h5 => by rw [em31, em19, zU_o h5, zU_o h4]; exact h3 o k h4 h5⟩
  refine z_iconst (pc := 0) C dX10_save_0 ?_
  refine z_istore_n (pc := 1) (lv' := [(1, _), (0, _)]) C dX10_save_1 rfl (by decide) rfl ?_
  refine z_sub C [1, 0] rfl ?_
  exact L2 _ 0 _ (Nat.lt_succ_self _) ⟨by omega, fun j hj => by omega, fun _ _ _ _ => rfl⟩
set_option maxHeartbeats 4000000 in
set_option maxRecDepth 100000 in
theorem c_X10_load (l : Launch) (G : zGt) (σ : zMem) (n : Nat) (y y2 : Int) (K R V E R2 V2 E2 : Nat → Int) (h : zMl σ n y2 K R2 V2 E2) (hs : zSv σ n y R V E) (hr : zLr K R V E) (hn : n ≤ 6) (hy : zR y) : zN l G yX10_load cX10_load 2 (none) 0 [.ref (zB G + 108)] σ (zPv (fun τ => zMl τ n y K R V E ∧ zSv τ n y R V E ∧ zKg σ τ)) := by
  obtain ⟨s1, s6, s5, sA⟩ := id h
  obtain ⟨v5, v6, vA⟩ := id hs
  have l109 : zl 109 = 6 := by decide
  have l110 : zl 110 = 6 := by decide
  have l111 : zl 111 = 6 := by decide
  have hE : ∀ j, 0 ≤ E j ∧ E j ≤ 1 := fun j => (hr j).2.2.2
  have hb5 := zbs_bd hE n
  have hq6 := zpow6 n hn
  have l116 : zl 116 = 6 := by decide
  have l117 : zl 117 = 6 := by decide
  refine zM.of (lv0 := [(0, _)]) (by decide) (Nat.le_of_ble_eq_true rfl) rfl (fun X C => ?_)
  have L2 : ∀ (fuel : Nat) (i : Nat) (τ : zMem), 6 - i < fuel → (i ≤ 6 ∧ (∀ j, j < i → τ 110 j = σ 116 j ∧ τ 111 j = σ 117 j) ∧ ∀ o k, o ≠ 110 → o ≠ 111 → τ o k = σ o k) → zg G X true 2 129 0 0 2 [(0, .ref (zB G + 108)), (1, .int (zI (i : Int)))] [] τ := by
    intro fuel
    induction fuel with
    | zero => intro i τ hm; exact absurd hm (Nat.not_lt_zero _)
    | succ fuel ih =>
      intro i τ hms hinv
      obtain ⟨h1, h2, h3⟩ := hinv
      refine z_iload_n (pc := 2) C dX10_load_2 rfl 1 rfl ?_
      refine z_bipush (pc := 3) C dX10_load_3 (by decide +kernel) ?_
      refine z_icmp_ge (pc := 5) (tgt := 38) C dX10_load_5 (by decide) ⟨by omega, by omega⟩ (fun c5 => ?_) (fun c5 => ?_)
      · refine z_aload_n (pc := 38) C dX10_load_38 rfl 0 rfl ?_
        refine z_aload_n (pc := 39) C dX10_load_39 rfl 0 rfl ?_
        refine z_getI (pc := 40) C fl_X10_174 dX10_load_40 (by first | rfl | assumption) (by omega) (fun g40 => ?_)
        rw [show τ 108 18 = zbs E n from (h3 _ _ (by omega) (by omega)).trans v5]
        refine z_putIe (pc := 43) C fl_X10_104 dX10_load_43 (by first | rfl | assumption) (by omega) (by omega) (fun m43 em43 => ?_)
        refine z_aload_n (pc := 46) C dX10_load_46 rfl 0 rfl ?_
        refine z_aload_n (pc := 47) C dX10_load_47 rfl 0 rfl ?_
        refine z_getI (pc := 48) C fl_X10_177 dX10_load_48 (by first | rfl | assumption) (by omega) (fun g48 => ?_)
        rw [show m43 108 19 = y by rw [em43, zU_k (by omega)]; exact (h3 _ _ (by omega) (by omega)).trans v6]
        refine z_putIe (pc := 51) C fl_X10_107 dX10_load_51 (by first | rfl | assumption) (by omega) (by omega) (fun m51 em51 => ?_)
        refine z_vret (pc := 54) C dX10_load_54 ?_
        have hz : zKg σ m51 := fun o k ho => by
          rw [em51, em43]; unfold zU; rw [if_neg (by omega), if_neg (by omega)]; exact h3 o k (by omega) (by omega)
        refine ⟨rfl, ⟨(hz _ _ (by omega)).trans s1, by rw [em51, zU_at], by rw [em51, zU_k (by omega), em43, zU_at], fun i hi => ?_⟩, hs.kg hz, hz⟩
        obtain ⟨a1, a2⟩ := h2 i (by omega)
        rw [em51, em43, zU_o (by omega), zU_o (by omega), zU_o (by omega), zU_o (by omega), zU_o (by omega), zU_o (by omega), a1, a2, h3 109 i (by omega) (by omega)]
        exact ⟨(sA i hi).1, (vA i hi).1, (vA i hi).2⟩
      · refine z_aload_n (pc := 8) C dX10_load_8 rfl 0 rfl ?_
        refine z_getR (pc := 9) C (110) fl_X10_13 dX10_load_9 (by first | rfl | assumption) (by omega) rfl (Or.inl rfl) ?_
        refine z_iload_n (pc := 12) C dX10_load_12 rfl 1 rfl ?_
        refine z_aload_n (pc := 13) C dX10_load_13 rfl 0 rfl ?_
        refine z_getR (pc := 14) C (116) fl_X10_32 dX10_load_14 (by first | rfl | assumption) (by omega) rfl (Or.inl rfl) ?_
        refine z_iload_n (pc := 17) C dX10_load_17 rfl 1 rfl ?_
        refine z_iaload (pc := 18) C (i) dX10_load_18 (by first | rfl | assumption) (by omega) rfl (by omega) (fun g18 => ?_)
        refine z_iastoree (pc := 19) C (i) dX10_load_19 (by first | rfl | assumption) (by omega) rfl (by omega) (by omega) (fun m19 em19 => ?_)
        refine z_aload_n (pc := 20) C dX10_load_20 rfl 0 rfl ?_
        refine z_getR (pc := 21) C (111) fl_X10_16 dX10_load_21 (by first | rfl | assumption) (by omega) rfl (Or.inl rfl) ?_
        refine z_iload_n (pc := 24) C dX10_load_24 rfl 1 rfl ?_
        refine z_aload_n (pc := 25) C dX10_load_25 rfl 0 rfl ?_
        refine z_getR (pc := 26) C (117) fl_X10_35 dX10_load_26 (by first | rfl | assumption) (by omega) rfl (Or.inl rfl) ?_
        refine z_iload_n (pc := 29) C dX10_load_29 rfl 1 rfl ?_
        refine z_iaload (pc := 30) C (i) dX10_load_30 (by first | rfl | assumption) (by omega) rfl (by omega) (fun g30 => ?_)
        refine z_iastoree (pc := 31) C (i) dX10_load_31 (by first | rfl | assumption) (by omega) rfl (by omega) (by omega) (fun m31 em31 => ?_)
        refine z_iinc (pc := 32) (lv' := [(1, _), (0, _)]) C dX10_load_32 1 rfl (by decide) rfl ?_
        refine z_goto (pc := 35) (tgt := 2) C dX10_load_35 (by decide) ?_
        refine z_sub C [1, 0] rfl ?_
        have hst : ∀ j, j < i + 1 → m31 110 j = σ 116 j ∧ m31 111 j = σ 117 j := by
          intro j hj
          rw [em31, em19]
          by_cases e : j = i
          · rw [e]
            exact ⟨by rw [zU_o (by omega), zU_at]; exact h3 _ _ (by omega) (by omega), by rw [zU_at, zU_o (by omega)]; exact h3 _ _ (by omega) (by omega)⟩
          · obtain ⟨a1, a2⟩ := h2 j (by omega)
            exact ⟨by rw [zU_o (by omega), zU_k e]; exact a1, by rw [zU_k e, zU_o (by omega)]; exact a2⟩
        exact ih (i + 1) _ (by omega) ⟨by omega, hst, fun o k h4 h5 => by rw [em31, em19, zU_o h5, zU_o h4]; exact h3 o k h4 h5⟩
  refine z_iconst (pc := 0) C dX10_load_0 ?_
  refine z_istore_n (pc := 1) (lv' := [(1, _), (0, _)]) C dX10_load_1 rfl (by decide) rfl ?_
  refine z_sub C [1, 0] rfl ?_
  exact L2 _ 0 _ (Nat.lt_succ_self _) ⟨by omega, fun j hj => by omega, fun _ _ _ _ => rfl⟩
