set_option maxHeartbeats 4000000 in
set_option maxRecDepth 100000 in
theorem c_X10_worstBy (l : Launch) (G : zGt) (σ : zMem) (n : Nat) (y : Int) (K R V E : Nat → Int) (h : zMl σ n y K R V E) (hr : zLr K R V E) (hn : n ≤ 6) (c : Nat) (A Y Q : Nat → Int) (hs : zMs σ c A Y Q) (hsr : zSr A Y Q) (hc : c ≤ 6) (i t : Nat) (p b q : Int) (hp : p = i) (hb : b = zwr (K i) (R i) (E i) y A Y Q c (i : Int)) (hq : q = t) (hi : i < n) (ht : t ≤ 9) (hy : 0 ≤ y ∧ y ≤ 90000) : zN l G yX10_worstBy cX10_worstBy 7 (some .int) 3 [.ref (zB G + 108), .int (zI p), .int (zI b), .int (zI q)] σ (zPi (fun x τ => x = zwo (K i) (R i) (E i) y A Y Q c (i : Int) t ∧ zKr σ τ)) := by
  obtain ⟨s1, s6, s5, sA⟩ := id h
  have l109 : zl 109 = 6 := by decide
  have l110 : zl 110 = 6 := by decide
  have l111 : zl 111 = 6 := by decide
  have hE : ∀ j, 0 ≤ E j ∧ E j ≤ 1 := fun j => (hr j).2.2.2
  have hb5 := zbs_bd hE n
  have hq6 := zpow6 n hn
  obtain ⟨d8, dA⟩ := id hs
  have l112 : zl 112 = 6 := by decide
  have l113 : zl 113 = 6 := by decide
  have l114 : zl 114 = 6 := by decide
  subst hp
  subst hb
  subst hq
  have l122 : zl 122 = 21 := by decide
  have hri := hr i
  have hwf : ∀ v, 0 ≤ zwf (K i) (R i) (E i) y A Y Q c (i : Int) v ∧ zwf (K i) (R i) (E i) y A Y Q c (i : Int) v ≤ 1 := fun v => zfi_bd _ _ _ _ _ _
  have hbd := zbs_bd hwf 10
  have hb2 : 0 ≤ zwr (K i) (R i) (E i) y A Y Q c (i : Int) ∧ zwr (K i) (R i) (E i) y A Y Q c (i : Int) < 1024 := hbd
  refine zM.of (lv0 := [(0, _), (1, _), (2, _), (3, _)]) (by decide) (Nat.le_of_ble_eq_true rfl) rfl (fun X C => ?_)
  have L30 : ∀ (fuel : Nat) (v : Nat) (w : Int) (τ : zMem), 10 - v < fuel → (v ≤ 10 ∧ w = zmx (zwf (K i) (R i) (E i) y A Y Q c (i : Int)) (fun w : Nat => zbh (K i) (R i) (w : Int) (E i) y t) v ∧ (∀ r : Nat, r < 21 → τ 122 r = zal (zwf (K i) (R i) (E i) y A Y Q c (i : Int)) (fun w : Nat => zbh (K i) (R i) (w : Int) (E i) y t) v (r : Int)) ∧ zKr σ τ) → zg G X true 7 129 0 0 30 [(0, .ref (zB G + 108)), (1, .int (zI (i : Int))), (2, .int (zI (zwr (K i) (R i) (E i) y A Y Q c (i : Int)))), (3, .int (zI (t : Int))), (4, .int (zI w)), (5, .int (zI (v : Int)))] [] τ := by
    intro fuel
    induction fuel with
    | zero => intro v w τ hm; exact absurd hm (Nat.not_lt_zero _)
    | succ fuel ih =>
      intro v w τ hms hinv
      obtain ⟨h1, hw, h3, h5⟩ := hinv
      have hmx := zmx_bd (zwf (K i) (R i) (E i) y A Y Q c (i : Int)) (fun w : Nat => zbh (K i) (R i) (w : Int) (E i) y t) v
      refine z_iload (pc := 30) C dX10_worstBy_30 5 rfl ?_
      refine z_bipush (pc := 32) C dX10_worstBy_32 (by decide +kernel) ?_
      refine z_icmp_gt (pc := 34) (tgt := 99) C dX10_worstBy_34 (by decide) ⟨by omega, by omega⟩ (fun c34 => ?_) (fun c34 => ?_)
      · refine z_iload (pc := 99) C dX10_worstBy_99 4 rfl ?_
        refine z_iret (pc := 101) C dX10_worstBy_101 ?_
        obtain rfl : v = 10 := by omega
        exact ⟨_, rfl, by omega, hw, h5⟩
      · refine z_iload_n (pc := 37) C dX10_worstBy_37 rfl 2 rfl ?_
        refine z_iload (pc := 38) C dX10_worstBy_38 5 rfl ?_
        refine z_Si (pc := 40) C (c_isInV l G _ _ ((zwf (K i) (R i) (E i) y A Y Q c (i : Int) v)) v _ rfl (by omega) (by omega) (zbs_bit hwf 10 v (by omega))) ml_X10_122 ys_X10_isIn dX10_worstBy_40 rfl rfl (Nat.le_of_ble_eq_true rfl) ⟨by decide, by decide⟩ (fun r40 t40 h40 q40 => ?_)
        obtain ⟨rfl, rfl⟩ := q40
        refine z_if_eq (pc := 43) (tgt := 93) C dX10_worstBy_43 (by decide) (by omega) (fun c43 => ?_) (fun c43 => ?_)
        · refine z_iinc (pc := 93) (lv' := [(5, _), (0, _), (1, _), (2, _), (3, _), (4, _)]) C dX10_worstBy_93 5 rfl (by decide) rfl ?_
          refine z_goto (pc := 96) (tgt := 30) C dX10_worstBy_96 (by decide) ?_
          refine z_sub C [1, 2, 3, 4, 5, 0] rfl ?_
          first
            | exact ih (v + 1) _ _ (by omega) ⟨by omega, by rw [hmz, if_neg (by omega)]; exact hw, hst, hkr⟩
            | exact ih (v + 1) _ _ (by omega) ⟨by omega, by rw [hmz, if_pos (by omega)], hst, hkr⟩
            | (have hpv : zwf (K i) (R i) (E i) y A Y Q c (i : Int) v = 0 := by have := hwf v; omega
               exact ih (v + 1) _ _ (by omega) ⟨by omega, by rw [zmx, if_neg (by omega)]; exact hw, fun r hr1 => by rw [h3 r hr1, zal, if_neg (by omega), Int.add_zero], h5⟩)
        · have hpv : zwf (K i) (R i) (E i) y A Y Q c (i : Int) v = 1 := by have := hwf v; omega
          refine z_aload_n (pc := 46) C dX10_worstBy_46 rfl 0 rfl ?_
          refine z_iload_n (pc := 47) C dX10_worstBy_47 rfl 1 rfl ?_
          refine z_iload (pc := 48) C dX10_worstBy_48 5 rfl ?_
          refine z_iload_n (pc := 50) C dX10_worstBy_50 rfl 3 rfl ?_
          refine z_Vi (pc := 51) C (c_X10_reedBehind l G _ n y K R V E (h5.ml h) hr hn i t _ (v : Int) _ rfl rfl hi ht (by omega) hy) ml_X10_237 yw_X10_reedBehind dX10_worstBy_51 (by first | rfl | assumption) (by omega) rfl rfl rfl (Nat.le_of_ble_eq_true rfl) ⟨by decide, by decide⟩ (fun r51 t51 h51 q51 => ?_)
          obtain ⟨rfl, rfl⟩ := q51
          have hzz := zbh_bd (k := K i) (v := (v : Int)) (e := E i) (y := y) hri.2.1 t
          obtain ⟨u, hu⟩ : ∃ u : Nat, zbh (K i) (R i) (v : Int) (E i) y t = (u : Int) := ⟨(zbh (K i) (R i) (v : Int) (E i) y t).toNat, by omega⟩
          have hzu := h3 u (by omega)
          have hza := zal_bd (zwf (K i) (R i) (E i) y A Y Q c (i : Int)) (fun w : Nat => zbh (K i) (R i) (w : Int) (E i) y t) v (u : Int)
          refine z_istore (pc := 54) (lv' := [(6, _), (0, _), (1, _), (2, _), (3, _), (4, _), (5, _)]) C dX10_worstBy_54 (by decide) rfl ?_
          refine z_aload_n (pc := 56) C dX10_worstBy_56 rfl 1 rfl ?_
          refine z_getR (pc := 57) C (122) fl_X10_50 dX10_worstBy_57 (by first | rfl | assumption) (by omega) rfl (Or.inl rfl) ?_
          refine z_iload (pc := 60) C dX10_worstBy_60 0 rfl ?_
          refine z_dup2 (pc := 62) C dX10_worstBy_62 rfl rfl ?_
          refine z_iaload (pc := 63) C (u) dX10_worstBy_63 (by first | rfl | assumption) (by omega) hu (by omega) (fun g63 => ?_)
          refine z_iconst (pc := 64) C dX10_worstBy_64 ?_
          refine z_iadd (pc := 65) C dX10_worstBy_65 ?_
          refine z_iastoree (pc := 66) C (u) dX10_worstBy_66 (by first | rfl | assumption) (by omega) hu (by omega) (by omega) (fun m66 em66 => ?_)
          have e67 : m66 122 u = zal (zwf (K i) (R i) (E i) y A Y Q c (i : Int)) (fun w : Nat => zbh (K i) (R i) (w : Int) (E i) y t) (v + 1) (u : Int) := by rw [em66, zU_at, hzu, zal, if_pos ⟨hpv, hu⟩]
          have hza2 := zal_bd (zwf (K i) (R i) (E i) y A Y Q c (i : Int)) (fun w : Nat => zbh (K i) (R i) (w : Int) (E i) y t) (v + 1) (u : Int)
          have hst : ∀ r : Nat, r < 21 → m66 122 r = zal (zwf (K i) (R i) (E i) y A Y Q c (i : Int)) (fun w : Nat => zbh (K i) (R i) (w : Int) (E i) y t) (v + 1) (r : Int) := by
            intro r hr1
            by_cases e : r = u
            · rw [e]; exact e67
            · rw [em66, zU_k e, h3 r hr1, zal, if_neg (fun q => e (by have := q.2; omega)), Int.add_zero]
          have hkr : zKr σ m66 := fun o k a => by rw [em66, zU_o a]; exact h5 o k a
          have hmz : zmx (zwf (K i) (R i) (E i) y A Y Q c (i : Int)) (fun w : Nat => zbh (K i) (R i) (w : Int) (E i) y t) (v + 1) = if zmx (zwf (K i) (R i) (E i) y A Y Q c (i : Int)) (fun w : Nat => zbh (K i) (R i) (w : Int) (E i) y t) v < m66 122 u then m66 122 u else zmx (zwf (K i) (R i) (E i) y A Y Q c (i : Int)) (fun w : Nat => zbh (K i) (R i) (w : Int) (E i) y t) v := by rw [zmx, if_pos hpv, e67]; exact (congrArg (fun z : Int => if zmx (zwf (K i) (R i) (E i) y A Y Q c (i : Int)) (fun w : Nat => zbh (K i) (R i) (w : Int) (E i) y t) v < zal (zwf (K i) (R i) (E i) y A Y Q c (i : Int)) (fun w : Nat => zbh (K i) (R i) (w : Int) (E i) y t) (v + 1) z then zal (zwf (K i) (R i) (E i) y A Y Q c (i : Int)) (fun w : Nat => zbh (K i) (R i) (w : Int) (E i) y t) (v + 1) z else zmx (zwf (K i) (R i) (E i) y A Y Q c (i : Int)) (fun w : Nat => zbh (K i) (R i) (w : Int) (E i) y t) v) hu)
          refine z_aload_n (pc := 67) C dX10_worstBy_67 rfl 1 rfl ?_
          refine z_getR (pc := 68) C (122) fl_X10_50 dX10_worstBy_68 (by first | rfl | assumption) (by omega) rfl (Or.inl rfl) ?_
          refine z_iload (pc := 71) C dX10_worstBy_71 0 rfl ?_
          refine z_iaload (pc := 73) C (u) dX10_worstBy_73 (by first | rfl | assumption) (by omega) hu (by omega) (fun g73 => ?_)
          refine z_iload (pc := 74) C dX10_worstBy_74 5 rfl ?_
          refine z_icmp_le (pc := 76) (tgt := 89) C dX10_worstBy_76 (by decide) ⟨by omega, by omega⟩ (fun c76 => ?_) (fun c76 => ?_)
          · refine z_iload (pc := 89) C dX10_worstBy_89 5 rfl ?_
            refine z_istore (pc := 91) (lv' := [(4, _), (6, _), (0, _), (1, _), (2, _), (3, _), (5, _)]) C dX10_worstBy_91 (by decide) rfl ?_
            refine z_iinc (pc := 93) (lv' := [(5, _), (4, _), (6, _), (0, _), (1, _), (2, _), (3, _)]) C dX10_worstBy_93 6 rfl (by decide) rfl ?_
            refine z_goto (pc := 96) (tgt := 30) C dX10_worstBy_96 (by decide) ?_
            refine z_sub C [3, 4, 5, 6, 1, 0] rfl ?_
            first
              | exact ih (v + 1) _ _ (by omega) ⟨by omega, by rw [hmz, if_neg (by omega)]; exact hw, hst, hkr⟩
              | exact ih (v + 1) _ _ (by omega) ⟨by omega, by rw [hmz, if_pos (by omega)], hst, hkr⟩
              | (have hpv : zwf (K i) (R i) (E i) y A Y Q c (i : Int) v = 0 := by have := hwf v; omega
                 exact ih (v + 1) _ _ (by omega) ⟨by omega, by rw [zmx, if_neg (by omega)]; exact hw, fun r hr1 => by rw [h3 r hr1, zal, if_neg (by omega), Int.add_zero], h5⟩)
          · refine z_aload_n (pc := 79) C dX10_worstBy_79 rfl 1 rfl ?_
            refine z_getR (pc := 80) C (122) fl_X10_50 dX10_worstBy_80 (by first | rfl | assumption) (by omega) rfl (Or.inl rfl) ?_
            refine z_iload (pc := 83) C dX10_worstBy_83 0 rfl ?_
            refine z_iaload (pc := 85) C (u) dX10_worstBy_85 (by first | rfl | assumption) (by omega) hu (by omega) (fun g85 => ?_)
            refine z_goto (pc := 86) (tgt := 91) C dX10_worstBy_86 (by decide) ?_
            refine z_istore (pc := 91) (lv' := [(4, _), (6, _), (0, _), (1, _), (2, _), (3, _), (5, _)]) C dX10_worstBy_91 (by decide) rfl ?_
            refine z_iinc (pc := 93) (lv' := [(5, _), (4, _), (6, _), (0, _), (1, _), (2, _), (3, _)]) C dX10_worstBy_93 6 rfl (by decide) rfl ?_
            refine z_goto (pc := 96) (tgt := 30) C dX10_worstBy_96 (by decide) ?_
            refine z_sub C [3, 4, 5, 6, 1, 0] rfl ?_
            first
              | exact ih (v + 1) _ _ (by omega) ⟨by omega, by rw [hmz, if_neg (by omega)]; exact hw, hst, hkr⟩
              | exact ih (v + 1) _ _ (by omega) ⟨by omega, by rw [hmz, if_pos (by omega)], hst, hkr⟩
              | (have hpv : zwf (K i) (R i) (E i) y A Y Q c (i : Int) v = 0 := by have := hwf v; omega
                 exact ih (v + 1) _ _ (by omega) ⟨by omega, by rw [zmx, if_neg (by omega)]; exact hw, fun r hr1 => by rw [h3 r hr1, zal, if_neg (by omega), Int.add_zero], h5⟩)
  have L3 : ∀ (fuel : Nat) (r : Nat) (τ : zMem), 21 - r < fuel → (r ≤ 21 ∧ (∀ s, s < r → τ 122 s = 0) ∧ zKr σ τ) → zg G X true 7 129 0 0 3 [(0, .ref (zB G + 108)), (1, .int (zI (i : Int))), (2, .int (zI (zwr (K i) (R i) (E i) y A Y Q c (i : Int)))), (3, .int (zI (t : Int))), (4, .int (zI (r : Int)))] [] τ := by
    intro fuel
    induction fuel with
    | zero => intro r τ hm; exact absurd hm (Nat.not_lt_zero _)
    | succ fuel ih =>
      intro r τ hms hinv
      obtain ⟨h1, h3, h5⟩ := hinv
      refine z_iload (pc := 3) C dX10_worstBy_3 4 rfl ?_
      refine z_bipush (pc := 5) C dX10_worstBy_5 (by decide +kernel) ?_
      refine z_icmp_gt (pc := 7) (tgt := 24) C dX10_worstBy_7 (by decide) ⟨by omega, by omega⟩ (fun c7 => ?_) (fun c7 => ?_)
      · refine z_iconst (pc := 24) C dX10_worstBy_24 ?_
        refine z_istore (pc := 25) (lv' := [(4, _), (0, _), (1, _), (2, _), (3, _)]) C dX10_worstBy_25 (by decide) rfl ?_
        refine z_iconst (pc := 27) C dX10_worstBy_27 ?_
        refine z_istore (pc := 28) (lv' := [(5, _), (4, _), (0, _), (1, _), (2, _), (3, _)]) C dX10_worstBy_28 (by decide) rfl ?_
        refine z_sub C [2, 3, 4, 5, 1, 0] rfl ?_
        exact L30 _ 0 _ _ (Nat.lt_succ_self _) ⟨by omega, rfl, fun r hr1 => h3 r (by omega), h5⟩
      · refine z_aload_n (pc := 10) C dX10_worstBy_10 rfl 0 rfl ?_
        refine z_getR (pc := 11) C (122) fl_X10_50 dX10_worstBy_11 (by first | rfl | assumption) (by omega) rfl (Or.inl rfl) ?_
        refine z_iload (pc := 14) C dX10_worstBy_14 4 rfl ?_
        refine z_iconst (pc := 16) C dX10_worstBy_16 ?_
        refine z_iastoree (pc := 17) C (r) dX10_worstBy_17 (by first | rfl | assumption) (by omega) rfl (by omega) (by omega) (fun m17 em17 => ?_)
        refine z_iinc (pc := 18) (lv' := [(4, _), (0, _), (1, _), (2, _), (3, _)]) C dX10_worstBy_18 4 rfl (by decide) rfl ?_
        refine z_goto (pc := 21) (tgt := 3) C dX10_worstBy_21 (by decide) ?_
        refine z_sub C [1, 2, 3, 4, 0] rfl ?_
        exact ih (r + 1) _ (by omega) ⟨by omega, fun s hs => (show s < r ∨ s = r by omega).elim (fun q => by rw [em17, zU_k (by omega)]; exact h3 s q) (fun q => by rw [em17, q, zU_at]), fun o k a => by rw [em17, zU_o a]; exact h5 o k a⟩
  refine z_iconst (pc := 0) C dX10_worstBy_0 ?_
  refine z_istore (pc := 1) (lv' := [(4, _), (0, _), (1, _), (2, _), (3, _)]) C dX10_worstBy_1 (by decide) rfl ?_
  refine z_sub C [1, 2, 3, 4, 0] rfl ?_
  exact L3 _ 0 _ (Nat.lt_succ_self _) ⟨by omega, fun s hs => by omega, zKr.rf⟩
set_option maxHeartbeats 4000000 in
set_option maxRecDepth 100000 in
theorem c_X10_lookFor (l : Launch) (G : zGt) (σ : zMem) (n : Nat) (y : Int) (K R V E : Nat → Int) (h : zMl σ n y K R V E) (hr : zLr K R V E) (hn : n ≤ 6) (c : Nat) (A Y Q : Nat → Int) (hs : zMs σ c A Y Q) (hsr : zSr A Y Q) (hc : c ≤ 6) (i : Nat) (p : Int) (hp : p = i) (hi : i < n) (hy : 0 ≤ y ∧ y ≤ 90000) : zN l G yX10_lookFor cX10_lookFor 7 (some .int) 4 [.ref (zB G + 108), .int (zI p)] σ (zPi (fun x τ => x = zlo (K i) (R i) (E i) y A Y Q c (i : Int) ∧ zKr σ τ)) := by
  obtain ⟨s1, s6, s5, sA⟩ := id h
  have l109 : zl 109 = 6 := by decide
  have l110 : zl 110 = 6 := by decide
  have l111 : zl 111 = 6 := by decide
  have hE : ∀ j, 0 ≤ E j ∧ E j ≤ 1 := fun j => (hr j).2.2.2
  have hb5 := zbs_bd hE n
  have hq6 := zpow6 n hn
  obtain ⟨d8, dA⟩ := id hs
  have l112 : zl 112 = 6 := by decide
  have l113 : zl 113 = 6 := by decide
  have l114 : zl 114 = 6 := by decide
  subst hp
  have hwf : ∀ v, 0 ≤ zwf (K i) (R i) (E i) y A Y Q c (i : Int) v ∧ zwf (K i) (R i) (E i) y A Y Q c (i : Int) v ≤ 1 := fun v => zfi_bd _ _ _ _ _ _
  have hbd := zbs_bd hwf 10
  have hb2 : 0 ≤ zwr (K i) (R i) (E i) y A Y Q c (i : Int) ∧ zwr (K i) (R i) (E i) y A Y Q c (i : Int) < 1024 := hbd
  have hob := zwo_bd (K i) (R i) (E i) y A Y Q c (i : Int)
  refine zM.of (lv0 := [(0, _), (1, _)]) (by decide) (Nat.le_of_ble_eq_true rfl) rfl (fun X C => ?_)
  have L15 : ∀ (fuel : Nat) (u : Nat) (best least : Int) (τ : zMem), 9 - u < fuel → ((u ≤ 9 ∧ (u = 0 ∨ zwr (K i) (R i) (E i) y A Y Q c (i : Int) ≠ 0)) ∧ best = zlw (zwo (K i) (R i) (E i) y A Y Q c (i : Int)) u ∧ (least = (if u = 0 then 268435456 else zll (zwo (K i) (R i) (E i) y A Y Q c (i : Int)) u)) ∧ zKr σ τ) → zg G X true 7 129 0 0 15 [(0, .ref (zB G + 108)), (1, .int (zI (i : Int))), (2, .int (zI (zwr (K i) (R i) (E i) y A Y Q c (i : Int)))), (3, .int (zI best)), (4, .int (zI least)), (5, .int (zI ((u : Int) + 1)))] [] τ := by
    intro fuel
    induction fuel with
    | zero => intro u best least τ hm; exact absurd hm (Nat.not_lt_zero _)
    | succ fuel ih =>
      intro u best least τ hms hinv
      obtain ⟨h1, hbe, hle, h5⟩ := hinv
      have hlc : (u = 0 ∧ least = 268435456 ∧ zll (zwo (K i) (R i) (E i) y A Y Q c (i : Int)) u = 11) ∨ (u ≠ 0 ∧ least = zll (zwo (K i) (R i) (E i) y A Y Q c (i : Int)) u) := by
        by_cases e : u = 0
        · left; rw [if_pos e] at hle; exact ⟨e, hle, by rw [e]; rfl⟩
        · right; rw [if_neg e] at hle; exact ⟨e, hle⟩
      have hlb := zll_bd hob u
      have hlw := zlw_bd (zwo (K i) (R i) (E i) y A Y Q c (i : Int)) u
      refine z_iload (pc := 15) C dX10_lookFor_15 5 rfl ?_
      refine z_bipush (pc := 17) C dX10_lookFor_17 (by decide +kernel) ?_
      refine z_icmp_gt (pc := 19) (tgt := 72) C dX10_lookFor_19 (by decide) ⟨by omega, by omega⟩ (fun c19 => ?_) (fun c19 => ?_)
      · refine z_iload_n (pc := 72) C dX10_lookFor_72 rfl 3 rfl ?_
        refine z_iret (pc := 73) C dX10_lookFor_73 ?_
        have hlr : -1 ≤ best ∧ best ≤ 9 := by omega
        by_cases hz0 : zwr (K i) (R i) (E i) y A Y Q c (i : Int) = 0
        · obtain rfl : u = 0 := by omega
          exact ⟨_, rfl, by omega, by rw [hbe, zlo, if_pos hz0]; rfl, h5⟩
        · obtain rfl : u = 9 := by omega
          exact ⟨_, rfl, by omega, by rw [hbe, zlo, if_neg hz0], h5⟩
      · refine z_iload_n (pc := 22) C dX10_lookFor_22 rfl 2 rfl ?_
        refine z_if_eq (pc := 23) (tgt := 72) C dX10_lookFor_23 (by decide) (by omega) (fun c23 => ?_) (fun c23 => ?_)
        · refine z_iload_n (pc := 72) C dX10_lookFor_72 rfl 3 rfl ?_
          refine z_iret (pc := 73) C dX10_lookFor_73 ?_
          have hlr : -1 ≤ best ∧ best ≤ 9 := by omega
          by_cases hz0 : zwr (K i) (R i) (E i) y A Y Q c (i : Int) = 0
          · obtain rfl : u = 0 := by omega
            exact ⟨_, rfl, by omega, by rw [hbe, zlo, if_pos hz0]; rfl, h5⟩
          · obtain rfl : u = 9 := by omega
            exact ⟨_, rfl, by omega, by rw [hbe, zlo, if_neg hz0], h5⟩
        · refine z_aload_n (pc := 26) C dX10_lookFor_26 rfl 0 rfl ?_
          refine z_iload_n (pc := 27) C dX10_lookFor_27 rfl 1 rfl ?_
          refine z_iload_n (pc := 28) C dX10_lookFor_28 rfl 2 rfl ?_
          refine z_iload (pc := 29) C dX10_lookFor_29 5 rfl ?_
          refine z_Vi (pc := 31) C (c_X10_worstBy l G _ n y K R V E (h5.ml h) hr hn c A Y Q (h5.ms hs) hsr hc i (u + 1) _ _ _ rfl rfl (by omega) hi (by omega) hy) ml_X10_240 yw_X10_worstBy dX10_lookFor_31 (by first | rfl | assumption) (by omega) rfl rfl rfl (Nat.le_of_ble_eq_true rfl) ⟨by decide, by decide⟩ (fun r31 t31 h31 q31 => ?_)
          obtain ⟨rfl, f31⟩ := q31
          have hou := hob (u + 1)
          refine z_istore (pc := 34) (lv' := [(6, _), (0, _), (1, _), (2, _), (3, _), (4, _), (5, _)]) C dX10_lookFor_34 (by decide) rfl ?_
          refine z_iload (pc := 36) C dX10_lookFor_36 0 rfl ?_
          refine z_iload (pc := 38) C dX10_lookFor_38 5 rfl ?_
          refine z_icmp_ge (pc := 40) (tgt := 48) C dX10_lookFor_40 (by decide) ⟨by omega, by omega⟩ (fun c40 => ?_) (fun c40 => ?_)
          · refine z_iload_n (pc := 48) C dX10_lookFor_48 rfl 4 rfl ?_
            refine z_istore_n (pc := 49) (lv' := [(3, _), (6, _), (0, _), (1, _), (2, _), (4, _), (5, _)]) C dX10_lookFor_49 rfl (by decide) rfl ?_
            refine z_iload (pc := 50) C dX10_lookFor_50 1 rfl ?_
            refine z_iload (pc := 52) C dX10_lookFor_52 5 rfl ?_
            refine z_icmp_ge (pc := 54) (tgt := 62) C dX10_lookFor_54 (by decide) ⟨by omega, by omega⟩ (fun c54 => ?_) (fun c54 => ?_)
            · refine z_iload (pc := 62) C dX10_lookFor_62 5 rfl ?_
              refine z_istore (pc := 64) (lv' := [(4, _), (3, _), (6, _), (0, _), (1, _), (2, _), (5, _)]) C dX10_lookFor_64 (by decide) rfl ?_
              refine z_iinc (pc := 66) (lv' := [(5, _), (4, _), (3, _), (6, _), (0, _), (1, _), (2, _)]) C dX10_lookFor_66 6 rfl (by decide) rfl ?_
              refine z_goto (pc := 69) (tgt := 15) C dX10_lookFor_69 (by decide) ?_
              refine z_sub C [4, 5, 6, 2, 1, 0] rfl ?_
              rw [show ((u : Int) + 1) + 1 = ((u + 1 : Nat) : Int) + 1 by omega]
              first
                | (exfalso; omega)
                | exact ih (u + 1) _ _ _ (by omega) ⟨by omega, by rw [zlw, if_pos (by omega)], by rw [if_neg (by omega), zll, if_pos (by omega)], h5.tr f31⟩
                | exact ih (u + 1) _ _ _ (by omega) ⟨by omega, by rw [zlw, if_neg (by omega)]; exact hbe, by rw [if_neg (by omega), zll, if_neg (by omega)]; omega, h5.tr f31⟩
            · refine z_iload (pc := 57) C dX10_lookFor_57 1 rfl ?_
              refine z_goto (pc := 59) (tgt := 64) C dX10_lookFor_59 (by decide) ?_
              refine z_istore (pc := 64) (lv' := [(4, _), (3, _), (6, _), (0, _), (1, _), (2, _), (5, _)]) C dX10_lookFor_64 (by decide) rfl ?_
              refine z_iinc (pc := 66) (lv' := [(5, _), (4, _), (3, _), (6, _), (0, _), (1, _), (2, _)]) C dX10_lookFor_66 6 rfl (by decide) rfl ?_
              refine z_goto (pc := 69) (tgt := 15) C dX10_lookFor_69 (by decide) ?_
              refine z_sub C [4, 5, 6, 2, 1, 0] rfl ?_
              rw [show ((u : Int) + 1) + 1 = ((u + 1 : Nat) : Int) + 1 by omega]
              first
                | (exfalso; omega)
                | exact ih (u + 1) _ _ _ (by omega) ⟨by omega, by rw [zlw, if_pos (by omega)], by rw [if_neg (by omega), zll, if_pos (by omega)], h5.tr f31⟩
                | exact ih (u + 1) _ _ _ (by omega) ⟨by omega, by rw [zlw, if_neg (by omega)]; exact hbe, by rw [if_neg (by omega), zll, if_neg (by omega)]; omega, h5.tr f31⟩
          · refine z_iload (pc := 43) C dX10_lookFor_43 6 rfl ?_
            refine z_goto (pc := 45) (tgt := 49) C dX10_lookFor_45 (by decide) ?_
            refine z_istore_n (pc := 49) (lv' := [(3, _), (6, _), (0, _), (1, _), (2, _), (4, _), (5, _)]) C dX10_lookFor_49 rfl (by decide) rfl ?_
            refine z_iload (pc := 50) C dX10_lookFor_50 1 rfl ?_
            refine z_iload (pc := 52) C dX10_lookFor_52 5 rfl ?_
            refine z_icmp_ge (pc := 54) (tgt := 62) C dX10_lookFor_54 (by decide) ⟨by omega, by omega⟩ (fun c54 => ?_) (fun c54 => ?_)
            · refine z_iload (pc := 62) C dX10_lookFor_62 5 rfl ?_
              refine z_istore (pc := 64) (lv' := [(4, _), (3, _), (6, _), (0, _), (1, _), (2, _), (5, _)]) C dX10_lookFor_64 (by decide) rfl ?_
              refine z_iinc (pc := 66) (lv' := [(5, _), (4, _), (3, _), (6, _), (0, _), (1, _), (2, _)]) C dX10_lookFor_66 6 rfl (by decide) rfl ?_
              refine z_goto (pc := 69) (tgt := 15) C dX10_lookFor_69 (by decide) ?_
              refine z_sub C [4, 5, 6, 2, 1, 0] rfl ?_
              rw [show ((u : Int) + 1) + 1 = ((u + 1 : Nat) : Int) + 1 by omega]
              first
                | (exfalso; omega)
                | exact ih (u + 1) _ _ _ (by omega) ⟨by omega, by rw [zlw, if_pos (by omega)], by rw [if_neg (by omega), zll, if_pos (by omega)], h5.tr f31⟩
                | exact ih (u + 1) _ _ _ (by omega) ⟨by omega, by rw [zlw, if_neg (by omega)]; exact hbe, by rw [if_neg (by omega), zll, if_neg (by omega)]; omega, h5.tr f31⟩
            · refine z_iload (pc := 57) C dX10_lookFor_57 1 rfl ?_
              refine z_goto (pc := 59) (tgt := 64) C dX10_lookFor_59 (by decide) ?_
              refine z_istore (pc := 64) (lv' := [(4, _), (3, _), (6, _), (0, _), (1, _), (2, _), (5, _)]) C dX10_lookFor_64 (by decide) rfl ?_
              refine z_iinc (pc := 66) (lv' := [(5, _), (4, _), (3, _), (6, _), (0, _), (1, _), (2, _)]) C dX10_lookFor_66 6 rfl (by decide) rfl ?_
              refine z_goto (pc := 69) (tgt := 15) C dX10_lookFor_69 (by decide) ?_
              refine z_sub C [4, 5, 6, 2, 1, 0] rfl ?_
              rw [show ((u : Int) + 1) + 1 = ((u + 1 : Nat) : Int) + 1 by omega]
              first
                | (exfalso; omega)
                | exact ih (u + 1) _ _ _ (by omega) ⟨by omega, by rw [zlw, if_pos (by omega)], by rw [if_neg (by omega), zll, if_pos (by omega)], h5.tr f31⟩
                | exact ih (u + 1) _ _ _ (by omega) ⟨by omega, by rw [zlw, if_neg (by omega)]; exact hbe, by rw [if_neg (by omega), zll, if_neg (by omega)]; omega, h5.tr f31⟩
  refine z_aload_n (pc := 0) C dX10_lookFor_0 rfl 0 rfl ?_
  refine z_iload_n (pc := 1) C dX10_lookFor_1 rfl 1 rfl ?_
  refine z_Vi (pc := 2) C (c_X10_worriesOf l G _ n y K R V E h hr hn c A Y Q hs hsr hc i _ rfl hi hy) ml_X10_143 yw_X10_worriesOf dX10_lookFor_2 (by first | rfl | assumption) (by omega) rfl rfl rfl (Nat.le_of_ble_eq_true rfl) ⟨by decide, by decide⟩ (fun r2 t2 h2 q2 => ?_)
  obtain ⟨rfl, rfl⟩ := q2
  refine z_istore_n (pc := 5) (lv' := [(2, _), (0, _), (1, _)]) C dX10_lookFor_5 rfl (by decide) rfl ?_
  refine z_iconst (pc := 6) C dX10_lookFor_6 ?_
  refine z_istore_n (pc := 7) (lv' := [(3, _), (2, _), (0, _), (1, _)]) C dX10_lookFor_7 rfl (by decide) rfl ?_
  refine z_ldc (pc := 8) (n := 268435456) C dX10_lookFor_8 cw_X10_189 rfl ?_
  refine z_istore (pc := 10) (lv' := [(4, _), (3, _), (2, _), (0, _), (1, _)]) C dX10_lookFor_10 (by decide) rfl ?_
  refine z_iconst (pc := 12) C dX10_lookFor_12 ?_
  refine z_istore (pc := 13) (lv' := [(5, _), (4, _), (3, _), (2, _), (0, _), (1, _)]) C dX10_lookFor_13 (by decide) rfl ?_
  refine z_sub C [4, 5, 3, 2, 1, 0] rfl ?_
  exact L15 _ 0 _ _ _ (Nat.lt_succ_self _) ⟨by omega, rfl, rfl, zKr.rf⟩
set_option maxHeartbeats 4000000 in
set_option maxRecDepth 100000 in
theorem c_X10_houseNow (l : Launch) (G : zGt) (σ : zMem) (n : Nat) (y : Int) (K R V E : Nat → Int) (h : zMl σ n y K R V E) (hr : zLr K R V E) (hn : n ≤ 6) (c : Nat) (A Y Q : Nat → Int) (hs : zMs σ c A Y Q) (hsr : zSr A Y Q) (hc : c ≤ 6) (i : Nat) (p what : Int) (hp : p = i) (hi : i < n) (hw : 0 ≤ what ∧ what ≤ 6) (hy : 0 ≤ y ∧ y ≤ 90000) : zN l G yX10_houseNow cX10_houseNow 3 (some .int) 5 [.ref (zB G + 108), .int (zI p), .int (zI what)] σ (zPi (fun x τ => x = zaHouse n y K R V E c A Y Q (i : Int) what ∧ zKr σ τ)) := by
  obtain ⟨s1, s6, s5, sA⟩ := id h
  have l109 : zl 109 = 6 := by decide
  have l110 : zl 110 = 6 := by decide
  have l111 : zl 111 = 6 := by decide
  have hE : ∀ j, 0 ≤ E j ∧ E j ≤ 1 := fun j => (hr j).2.2.2
  have hb5 := zbs_bd hE n
  have hq6 := zpow6 n hn
  subst hp
  have hri := hr i
  have hA := sA i hi
  have hEi := hE i
  refine zM.of (lv0 := [(0, _), (1, _), (2, _)]) (by decide) (Nat.le_of_ble_eq_true rfl) rfl (fun X C => ?_)
  have hz : zaHouse n y K R V E c A Y Q (i : Int) what = (if what = 0 then K i else if what = 1 then R i else if what = 2 then V i else if what = 3 then E i else if what = 4 then zgr (K i) (R i) (V i) (E i) (y + 1) else if what = 5 then zwr (K i) (R i) (E i) y A Y Q c (i : Int) else if what = 6 then zlo (K i) (R i) (E i) y A Y Q c (i : Int) else -102) := by rw [zaHouse, if_pos (by omega)]; rfl
  refine z_iload_n (pc := 0) C dX10_houseNow_0 rfl 2 rfl ?_
  by_cases w1 : (what) < 0 ∨ 5 < (what)
  · refine z_tableOut (pc := 1) (tgt := 90) C dX10_houseNow_1 (by omega) (by omega) (by decide) ?_
    refine z_aload_n (pc := 90) C dX10_houseNow_90 rfl 0 rfl ?_
    refine z_iload_n (pc := 91) C dX10_houseNow_91 rfl 1 rfl ?_
    refine z_Vi (pc := 92) C (c_X10_lookFor l G _ n y K R V E h hr hn c A Y Q hs hsr hc i _ rfl hi hy) ml_X10_146 yw_X10_lookFor dX10_houseNow_92 (by first | rfl | assumption) (by omega) rfl rfl rfl (Nat.le_of_ble_eq_true rfl) ⟨by decide, by decide⟩ (fun r92 t92 h92 q92 => ?_)
    obtain ⟨rfl, f92⟩ := q92
    refine z_iret (pc := 95) C dX10_houseNow_95 ?_
    exact ⟨_, rfl, by assumption, by rw [hz, if_neg (by omega), if_neg (by omega), if_neg (by omega), if_neg (by omega), if_neg (by omega), if_neg (by omega), if_pos (by omega)], f92⟩
  by_cases w1_0 : (what) = 0
  · refine z_tableIn (pc := 1) (off := 39) (tgt := 40) C dX10_houseNow_1 (by omega) (by omega) (by omega) (by rw [show ((what) - (0)).toNat = 0 by omega]; rfl) (by decide) ?_
    refine z_aload_n (pc := 40) C dX10_houseNow_40 rfl 0 rfl ?_
    refine z_getR (pc := 41) C (109) fl_X10_7 dX10_houseNow_41 (by first | rfl | assumption) (by omega) rfl (Or.inl rfl) ?_
    refine z_iload_n (pc := 44) C dX10_houseNow_44 rfl 1 rfl ?_
    refine z_iaload (pc := 45) C (i) dX10_houseNow_45 (by first | rfl | assumption) (by omega) rfl (by omega) (fun g45 => ?_)
    refine z_iret (pc := 46) C dX10_houseNow_46 ?_
    exact ⟨_, rfl, by omega, by rw [hz, if_pos (by omega)]; exact hA.1, zKr.rf⟩
  by_cases w1_1 : (what) = 1
  · refine z_tableIn (pc := 1) (off := 46) (tgt := 47) C dX10_houseNow_1 (by omega) (by omega) (by omega) (by rw [show ((what) - (0)).toNat = 1 by omega]; rfl) (by decide) ?_
    refine z_aload_n (pc := 47) C dX10_houseNow_47 rfl 0 rfl ?_
    refine z_getR (pc := 48) C (110) fl_X10_13 dX10_houseNow_48 (by first | rfl | assumption) (by omega) rfl (Or.inl rfl) ?_
    refine z_iload_n (pc := 51) C dX10_houseNow_51 rfl 1 rfl ?_
    refine z_iaload (pc := 52) C (i) dX10_houseNow_52 (by first | rfl | assumption) (by omega) rfl (by omega) (fun g52 => ?_)
    refine z_iret (pc := 53) C dX10_houseNow_53 ?_
    exact ⟨_, rfl, by omega, by rw [hz, if_neg (by omega), if_pos (by omega)]; exact hA.2.1, zKr.rf⟩
  by_cases w1_2 : (what) = 2
  · refine z_tableIn (pc := 1) (off := 53) (tgt := 54) C dX10_houseNow_1 (by omega) (by omega) (by omega) (by rw [show ((what) - (0)).toNat = 2 by omega]; rfl) (by decide) ?_
    refine z_aload_n (pc := 54) C dX10_houseNow_54 rfl 0 rfl ?_
    refine z_getR (pc := 55) C (111) fl_X10_16 dX10_houseNow_55 (by first | rfl | assumption) (by omega) rfl (Or.inl rfl) ?_
    refine z_iload_n (pc := 58) C dX10_houseNow_58 rfl 1 rfl ?_
    refine z_iaload (pc := 59) C (i) dX10_houseNow_59 (by first | rfl | assumption) (by omega) rfl (by omega) (fun g59 => ?_)
    refine z_iret (pc := 60) C dX10_houseNow_60 ?_
    exact ⟨_, rfl, by omega, by rw [hz, if_neg (by omega), if_neg (by omega), if_pos (by omega)]; exact hA.2.2, zKr.rf⟩
  by_cases w1_3 : (what) = 3
  · refine z_tableIn (pc := 1) (off := 60) (tgt := 61) C dX10_houseNow_1 (by omega) (by omega) (by omega) (by rw [show ((what) - (0)).toNat = 3 by omega]; rfl) (by decide) ?_
    refine z_aload_n (pc := 61) C dX10_houseNow_61 rfl 0 rfl ?_
    refine z_getI (pc := 62) C fl_X10_104 dX10_houseNow_62 (by first | rfl | assumption) (by omega) (fun g62 => ?_)
    rw [s5]
    refine z_iload_n (pc := 65) C dX10_houseNow_65 rfl 1 rfl ?_
    refine z_Si (pc := 66) C (c_isInV l G _ _ (E i) i _ rfl (by omega) (by omega) (zbs_bit hE n i hi)) ml_X10_122 ys_X10_isIn dX10_houseNow_66 rfl rfl (Nat.le_of_ble_eq_true rfl) ⟨by decide, by decide⟩ (fun r66 t66 h66 q66 => ?_)
    obtain ⟨rfl, rfl⟩ := q66
    refine z_if_eq (pc := 69) (tgt := 76) C dX10_houseNow_69 (by decide) (by omega) (fun c69 => ?_) (fun c69 => ?_)
    · refine z_iconst (pc := 76) C dX10_houseNow_76 ?_
      refine z_iret (pc := 77) C dX10_houseNow_77 ?_
      first
        | exact ⟨_, rfl, by omega, by rw [hz, if_neg (by omega), if_neg (by omega), if_neg (by omega), if_pos (by omega)]; omega, zKr.rf⟩
    · refine z_iconst (pc := 72) C dX10_houseNow_72 ?_
      refine z_goto (pc := 73) (tgt := 77) C dX10_houseNow_73 (by decide) ?_
      refine z_iret (pc := 77) C dX10_houseNow_77 ?_
      first
        | exact ⟨_, rfl, by omega, by rw [hz, if_neg (by omega), if_neg (by omega), if_neg (by omega), if_pos (by omega)]; omega, zKr.rf⟩
  by_cases w1_4 : (what) = 4
  · refine z_tableIn (pc := 1) (off := 77) (tgt := 78) C dX10_houseNow_1 (by omega) (by omega) (by omega) (by rw [show ((what) - (0)).toNat = 4 by omega]; rfl) (by decide) ?_
    refine z_aload_n (pc := 78) C dX10_houseNow_78 rfl 0 rfl ?_
    refine z_iload_n (pc := 79) C dX10_houseNow_79 rfl 1 rfl ?_
    refine z_Vi (pc := 80) C (c_X10_grownOf l G _ n y K R V E h hr hn i _ rfl hi (by omega)) ml_X10_130 yw_X10_grownOf dX10_houseNow_80 (by first | rfl | assumption) (by omega) rfl rfl rfl (Nat.le_of_ble_eq_true rfl) ⟨by decide, by decide⟩ (fun r80 t80 h80 q80 => ?_)
    obtain ⟨rfl, rfl⟩ := q80
    refine z_iret (pc := 83) C dX10_houseNow_83 ?_
    exact ⟨_, rfl, by assumption, by rw [hz, if_neg (by omega), if_neg (by omega), if_neg (by omega), if_neg (by omega), if_pos (by omega)], zKr.rf⟩
  have w1_5 : (what) = 5 := by omega
  refine z_tableIn (pc := 1) (off := 83) (tgt := 84) C dX10_houseNow_1 (by omega) (by omega) (by omega) (by rw [show ((what) - (0)).toNat = 5 by omega]; rfl) (by decide) ?_
  refine z_aload_n (pc := 84) C dX10_houseNow_84 rfl 0 rfl ?_
  refine z_iload_n (pc := 85) C dX10_houseNow_85 rfl 1 rfl ?_
  refine z_Vi (pc := 86) C (c_X10_worriesOf l G _ n y K R V E h hr hn c A Y Q hs hsr hc i _ rfl hi hy) ml_X10_143 yw_X10_worriesOf dX10_houseNow_86 (by first | rfl | assumption) (by omega) rfl rfl rfl (Nat.le_of_ble_eq_true rfl) ⟨by decide, by decide⟩ (fun r86 t86 h86 q86 => ?_)
  obtain ⟨rfl, rfl⟩ := q86
  refine z_iret (pc := 89) C dX10_houseNow_89 ?_
  exact ⟨_, rfl, by assumption, by rw [hz, if_neg (by omega), if_neg (by omega), if_neg (by omega), if_neg (by omega), if_neg (by omega), if_pos (by omega)], zKr.rf⟩
set_option maxHeartbeats 4000000 in
set_option maxRecDepth 100000 in
theorem c_X10_house (l : Launch) (G : zGt) (σ : zMem) (n : Nat) (y : Int) (K R V E : Nat → Int) (h : zMl σ n y K R V E) (hr : zLr K R V E) (hn : n ≤ 6) (c : Nat) (A Y Q : Nat → Int) (hs : zMs σ c A Y Q) (hsr : zSr A Y Q) (hc : c ≤ 6) (p what : Int) (hp : zR p) (hw : zR what) (hy : 0 ≤ y ∧ y ≤ 90000) : zN l G yX10_house cX10_house 3 (some .int) 6 [.ref (zB G + 108), .int (zI p), .int (zI what)] σ (zPi (fun x τ => x = zaHouse n y K R V E c A Y Q p what ∧ zKr σ τ)) := by
  obtain ⟨s1, s6, s5, sA⟩ := id h
  have l109 : zl 109 = 6 := by decide
  have l110 : zl 110 = 6 := by decide
  have l111 : zl 111 = 6 := by decide
  have hE : ∀ j, 0 ≤ E j ∧ E j ≤ 1 := fun j => (hr j).2.2.2
  have hb5 := zbs_bd hE n
  have hq6 := zpow6 n hn
  refine zM.of (lv0 := [(0, _), (1, _), (2, _)]) (by decide) (Nat.le_of_ble_eq_true rfl) rfl (fun X C => ?_)
  refine z_aload_n (pc := 0) C dX10_house_0 rfl 0 rfl ?_
  refine z_iload_n (pc := 1) C dX10_house_1 rfl 1 rfl ?_
  refine z_Vi (pc := 2) C (c_X10_isHouse l G _ n _ s1 (by omega) hn) ml_X10_149 yw_X10_isHouse dX10_house_2 (by first | rfl | assumption) (by omega) rfl rfl rfl (Nat.le_of_ble_eq_true rfl) ⟨by decide, by decide⟩ (fun r2 t2 h2 q2 => ?_)
  obtain ⟨w2, rfl⟩ := q2
  refine z_if_ne (pc := 5) (tgt := 13) C dX10_house_5 (by decide) (by omega) (fun c5 => ?_) (fun c5 => ?_)
  · obtain ⟨i, rfl⟩ : ∃ i : Nat, p = i := ⟨p.toNat, by omega⟩
    have hi : i < n := by omega
    have hri := hr i
    have hA := sA i hi
    refine z_iload_n (pc := 13) C dX10_house_13 rfl 2 rfl ?_
    refine z_iconst (pc := 14) C dX10_house_14 ?_
    refine z_bipush (pc := 15) C dX10_house_15 (by decide +kernel) ?_
    refine z_Si (pc := 17) C (c_X10_within l G _ _ _ _ (by first | assumption | omega | decide) (by first | assumption | omega | decide) (by first | assumption | omega | decide)) ml_X10_71 ys_X10_within dX10_house_17 rfl rfl (Nat.le_of_ble_eq_true rfl) ⟨by decide, by decide⟩ (fun r17 t17 h17 q17 => ?_)
    obtain ⟨w17, rfl⟩ := q17
    refine z_if_eq (pc := 20) (tgt := 32) C dX10_house_20 (by decide) (by omega) (fun c20 => ?_) (fun c20 => ?_)
    · refine z_bipush (pc := 32) C dX10_house_32 (by decide +kernel) ?_
      refine z_iret (pc := 34) C dX10_house_34 ?_
      first
        | exact ⟨_, rfl, by assumption, e26, f26⟩
        | exact ⟨_, rfl, by omega, by rw [zaHouse, if_neg (by omega)], zKr.rf⟩
        | exact ⟨_, rfl, by omega, by rw [zaHouse, if_pos (by omega), if_neg (by omega), if_neg (by omega), if_neg (by omega), if_neg (by omega), if_neg (by omega), if_neg (by omega), if_neg (by omega)], zKr.rf⟩
    · refine z_aload_n (pc := 23) C dX10_house_23 rfl 0 rfl ?_
      refine z_iload_n (pc := 24) C dX10_house_24 rfl 1 rfl ?_
      refine z_iload_n (pc := 25) C dX10_house_25 rfl 2 rfl ?_
      refine z_Vi (pc := 26) C (c_X10_houseNow l G _ n y K R V E h hr hn c A Y Q hs hsr hc i _ what rfl hi (by omega) hy) ml_X10_152 yw_X10_houseNow dX10_house_26 (by first | rfl | assumption) (by omega) rfl rfl rfl (Nat.le_of_ble_eq_true rfl) ⟨by decide, by decide⟩ (fun r26 t26 h26 q26 => ?_)
      obtain ⟨e26, f26⟩ := q26
      refine z_goto (pc := 29) (tgt := 34) C dX10_house_29 (by decide) ?_
      refine z_iret (pc := 34) C dX10_house_34 ?_
      first
        | exact ⟨_, rfl, by assumption, e26, f26⟩
        | exact ⟨_, rfl, by omega, by rw [zaHouse, if_neg (by omega)], zKr.rf⟩
        | exact ⟨_, rfl, by omega, by rw [zaHouse, if_pos (by omega), if_neg (by omega), if_neg (by omega), if_neg (by omega), if_neg (by omega), if_neg (by omega), if_neg (by omega), if_neg (by omega)], zKr.rf⟩
  · refine z_bipush (pc := 8) C dX10_house_8 (by decide +kernel) ?_
    refine z_goto (pc := 10) (tgt := 34) C dX10_house_10 (by decide) ?_
    refine z_iret (pc := 34) C dX10_house_34 ?_
    first
      | exact ⟨_, rfl, by assumption, e26, f26⟩
      | exact ⟨_, rfl, by omega, by rw [zaHouse, if_neg (by omega)], zKr.rf⟩
      | exact ⟨_, rfl, by omega, by rw [zaHouse, if_pos (by omega), if_neg (by omega), if_neg (by omega), if_neg (by omega), if_neg (by omega), if_neg (by omega), if_neg (by omega), if_neg (by omega)], zKr.rf⟩
