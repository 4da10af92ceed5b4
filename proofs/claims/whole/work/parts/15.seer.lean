set_option maxHeartbeats 4000000 in
set_option maxRecDepth 100000 in
theorem c_X7_foresee (l : Launch) (G : zGt) (σ : zMem) (o n : Nat) (y w : Int) (K R V E : Nat → Int) (hL : zLane o) (h : zLa σ o n y w K R V E) (hr : zLr K R V E) (hn : n ≤ 6) (i : Nat) (p : Int) (hp : p = i) (hi : i < n) (hy : 0 ≤ y ∧ y ≤ 100000) (hd : o + 9 ≤ 45) : zN l G yX7_foresee cX7_foresee 8 (none) 1 [.ref (zB G + 45), .ref (zB G + o), .int (zI p)] σ (zPv (fun τ => (∀ v t : Nat, v < 10 → 1 ≤ t → t ≤ 9 → τ 47 (10 * t + v) = zbh (K i) (R i) (v : Int) (E i) y t) ∧ zFr 47 48 σ τ)) := by
  obtain ⟨k0, b1, b3, b5, b7, k8⟩ := id hL
  have kk1 := b1.1
  have kk3 := b3.1
  have kk5 := b5.1
  have kk7 := b7.1
  obtain ⟨s4, s5, s6, sA⟩ := id h
  have hri := hr i
  have hA := sA i (by omega)
  have b46 : zRow 46 100 := by decide
  have b48 : zRow 48 21 := by decide
  have hri := hr i
  refine zM.of (lv0 := [(0, _), (1, _), (2, _)]) (by decide) (Nat.le_of_ble_eq_true rfl) rfl (fun X C => ?_)
  have L42 : ∀ (fuel : Nat) (v : Nat) (_ : v < 10) (_ : ∀ (τ : zMem), ((∀ v2 t : Nat, v2 < v → 1 ≤ t → t ≤ 9 → τ 47 (10 * t + v2) = zbh (K i) (R i) (v2 : Int) (E i) y t) ∧ (∀ t : Nat, 1 ≤ t → t ≤ 9 → τ 47 (10 * t + v) = zbh (K i) (R i) (v : Int) (E i) y t) ∧ zFr 47 48 σ τ) → zg G X true 8 129 0 0 94 [(0, .ref (zB G + 45)), (1, .ref (zB G + o)), (2, .int (zI p)), (3, .int (zI (K i))), (4, .int (zI (v : Int)))] [] τ) (u : Nat) (τ : zMem), 9 - u < fuel → (u ≤ 9 ∧ (∀ v2 t : Nat, v2 < v → 1 ≤ t → t ≤ 9 → τ 47 (10 * t + v2) = zbh (K i) (R i) (v2 : Int) (E i) y t) ∧ (∀ t : Nat, 1 ≤ t → t ≤ u → τ 47 (10 * t + v) = zbh (K i) (R i) (v : Int) (E i) y t) ∧ zFr 47 48 σ τ) → zg G X true 8 129 0 0 42 [(0, .ref (zB G + 45)), (1, .ref (zB G + o)), (2, .int (zI p)), (3, .int (zI (K i))), (4, .int (zI (v : Int))), (5, .int (zI (zbh (K i) (R i) (v : Int) (E i) y u))), (6, .int (zI (if u = 0 then E i else 0))), (7, .int (zI ((u : Int) + 1)))] [] τ := by
    intro fuel
    induction fuel with
    | zero => intro v hv kk42 u τ hm; exact absurd hm (Nat.not_lt_zero _)
    | succ fuel ih =>
      intro v hv kk42 u τ hms hinv
      obtain ⟨h1, h2, h4, h3⟩ := hinv
      obtain ⟨s4, s5, s6, sA⟩ := h.fr h3 (by omega)
      have hz := zbh_bd (k := K i) (v := (v : Int)) (e := E i) (y := y) hri.2.1 u
      refine z_iload (pc := 42) C dX7_foresee_42 7 rfl ?_
      refine z_bipush (pc := 44) C dX7_foresee_44 (by decide +kernel) ?_
      refine z_icmp_gt (pc := 46) (tgt := 94) C dX7_foresee_46 (by decide) ⟨by omega, by omega⟩ (fun c46 => ?_) (fun c46 => ?_)
      · refine z_sub C [0, 1, 2, 3, 4] rfl ?_
        exact kk42 τ ⟨h2, fun t a b => h4 t a (by omega), h3⟩
      · refine z_iload_n (pc := 49) C dX7_foresee_49 rfl 3 rfl ?_
        refine z_iload (pc := 50) C dX7_foresee_50 5 rfl ?_
        refine z_iload (pc := 52) C dX7_foresee_52 4 rfl ?_
        refine z_iload (pc := 54) C dX7_foresee_54 6 rfl ?_
        refine z_aload_n (pc := 56) C dX7_foresee_56 rfl 1 rfl ?_
        refine z_getI (pc := 57) C fl_X7_54 dX7_foresee_57 (by first | rfl | assumption) (by omega) (fun g57 => ?_)
        rw [s5]
        refine z_iload (pc := 60) C dX7_foresee_60 7 rfl ?_
        refine z_iadd (pc := 62) C dX7_foresee_62 ?_
        refine z_Si (pc := 63) C (c_X9_grown l G _ _ _ _ _ _ (by first | assumption | omega | decide) (by first | assumption | omega | decide) (by first | assumption | omega | decide) (by split <;> omega) (by first | assumption | omega | decide)) ml_X7_58 ys_X9_grown dX7_foresee_63 rfl rfl (Nat.le_of_ble_eq_true rfl) ⟨by decide, by decide⟩ (fun r63 t63 h63 q63 => ?_)
        obtain ⟨rfl, rfl⟩ := q63
        rw [show zgr (K i) (zbh (K i) (R i) (v : Int) (E i) y u) (v : Int) (if u = 0 then E i else 0) (y + ((u : Int) + 1)) = zbh (K i) (R i) (v : Int) (E i) y (u + 1) from rfl]
        have hz2 := zbh_bd (k := K i) (v := (v : Int)) (e := E i) (y := y) hri.2.1 (u + 1)
        refine z_istore (pc := 66) (lv' := [(5, _), (0, _), (1, _), (2, _), (3, _), (4, _), (6, _), (7, _)]) C dX7_foresee_66 (by decide) rfl ?_
        refine z_iconst (pc := 68) C dX7_foresee_68 ?_
        refine z_istore (pc := 69) (lv' := [(6, _), (5, _), (0, _), (1, _), (2, _), (3, _), (4, _), (7, _)]) C dX7_foresee_69 (by decide) rfl ?_
        refine z_aload_n (pc := 71) C dX7_foresee_71 rfl 2 rfl ?_
        refine z_getR (pc := 72) C (46) fl_X7_16 dX7_foresee_72 (by first | rfl | assumption) (by omega) rfl (Or.inl rfl) ?_
        refine z_bipush (pc := 75) C dX7_foresee_75 (by decide +kernel) ?_
        refine z_iload (pc := 77) C dX7_foresee_77 7 rfl ?_
        refine z_imul (pc := 79) C dX7_foresee_79 ?_
        refine z_iload (pc := 80) C dX7_foresee_80 6 rfl ?_
        refine z_iadd (pc := 82) C dX7_foresee_82 ?_
        refine z_iload (pc := 83) C dX7_foresee_83 1 rfl ?_
        refine z_Vv (pc := 85) C (c_X6_put l G _ _ _ (10 * (u + 1) + v) _ _ (by first | assumption | omega | decide) (by omega) (by first | assumption | omega | decide) (by first | assumption | omega | decide)) ml_X7_62 yw_X6_put dX7_foresee_85 (by first | rfl | assumption) (by omega) rfl rfl rfl (Nat.le_of_ble_eq_true rfl) ⟨by decide, by decide⟩ (fun t85 q85 => ?_)
        obtain rfl := q85
        refine z_iinc (pc := 88) (lv' := [(7, _), (6, _), (5, _), (0, _), (1, _), (2, _), (3, _), (4, _)]) C dX7_foresee_88 7 rfl (by decide) rfl ?_
        refine z_goto (pc := 91) (tgt := 42) C dX7_foresee_91 (by decide) ?_
        refine z_sub C [3, 4, 5, 6, 7, 2, 1, 0] rfl ?_
        exact ih v hv kk42 (u + 1) _ (by omega) ⟨by omega, fun v2 t a b c => by rw [zU_k (by omega)]; exact h2 v2 t a b c, fun t a b => (show t ≤ u ∨ t = u + 1 by omega).elim (fun q => by rw [zU_k (by omega)]; exact h4 t a q) (fun q => by rw [q]; exact zU_at), h3.put (by omega) (by omega)⟩
  have L12 : ∀ (fuel : Nat) (v : Nat) (τ : zMem), 10 - v < fuel → (v ≤ 10 ∧ (∀ v2 t : Nat, v2 < v → 1 ≤ t → t ≤ 9 → τ 47 (10 * t + v2) = zbh (K i) (R i) (v2 : Int) (E i) y t) ∧ zFr 47 48 σ τ) → zg G X true 8 129 0 0 12 [(0, .ref (zB G + 45)), (1, .ref (zB G + o)), (2, .int (zI p)), (3, .int (zI (K i))), (4, .int (zI (v : Int)))] [] τ := by
    intro fuel
    induction fuel with
    | zero => intro v τ hm; exact absurd hm (Nat.not_lt_zero _)
    | succ fuel ih =>
      intro v τ hms hinv
      obtain ⟨h1, h2, h3⟩ := hinv
      refine z_iload (pc := 12) C dX7_foresee_12 4 rfl ?_
      refine z_bipush (pc := 14) C dX7_foresee_14 (by decide +kernel) ?_
      refine z_icmp_ge (pc := 16) (tgt := 100) C dX7_foresee_16 (by decide) ⟨by omega, by omega⟩ (fun c16 => ?_) (fun c16 => ?_)
      · refine z_vret (pc := 100) C dX7_foresee_100 ?_
        exact ⟨rfl, fun v t a b c => h2 v t (by omega) b c, h3⟩
      · obtain ⟨s4, s5, s6, sA⟩ := h.fr h3 (by omega)
        have hA := sA i (by omega)
        refine z_aload_n (pc := 19) C dX7_foresee_19 rfl 1 rfl ?_
        refine z_getR (pc := 20) C (o + 3) fl_X7_48 dX7_foresee_20 (by first | rfl | assumption) (by omega) rfl (Or.inl rfl) ?_
        refine z_iload_n (pc := 23) C dX7_foresee_23 rfl 2 rfl ?_
        refine z_Vi (pc := 24) C (c_X6_atv l G _ _ _ (i) _ (R i) (by first | assumption | omega | decide) (hp) (by first | assumption | omega | decide) (hA.2.1)) ml_X7_44 yw_X6_at dX7_foresee_24 (by first | rfl | assumption) (by omega) rfl rfl rfl (Nat.le_of_ble_eq_true rfl) ⟨by decide, by decide⟩ (fun r24 t24 h24 q24 => ?_)
        obtain ⟨rfl, rfl⟩ := q24
        refine z_istore (pc := 27) (lv' := [(5, _), (0, _), (1, _), (2, _), (3, _), (4, _)]) C dX7_foresee_27 (by decide) rfl ?_
        refine z_aload_n (pc := 29) C dX7_foresee_29 rfl 2 rfl ?_
        refine z_getR (pc := 30) C (o + 7) fl_X7_51 dX7_foresee_30 (by first | rfl | assumption) (by omega) rfl (Or.inl rfl) ?_
        refine z_iload_n (pc := 33) C dX7_foresee_33 rfl 3 rfl ?_
        refine z_Vi (pc := 34) C (c_X6_atv l G _ _ _ (i) _ (E i) (by first | assumption | omega | decide) (hp) (by first | assumption | omega | decide) (hA.2.2.2)) ml_X7_44 yw_X6_at dX7_foresee_34 (by first | rfl | assumption) (by omega) rfl rfl rfl (Nat.le_of_ble_eq_true rfl) ⟨by decide, by decide⟩ (fun r34 t34 h34 q34 => ?_)
        obtain ⟨rfl, rfl⟩ := q34
        refine z_istore (pc := 37) (lv' := [(6, _), (5, _), (0, _), (1, _), (2, _), (3, _), (4, _)]) C dX7_foresee_37 (by decide) rfl ?_
        refine z_iconst (pc := 39) C dX7_foresee_39 ?_
        refine z_istore (pc := 40) (lv' := [(7, _), (6, _), (5, _), (0, _), (1, _), (2, _), (3, _), (4, _)]) C dX7_foresee_40 (by decide) rfl ?_
        refine z_sub C [3, 4, 5, 6, 7, 2, 1, 0] rfl ?_
        refine L42 _ v (by omega) ?_ 0 τ (Nat.lt_succ_self _) ⟨by omega, h2, fun t a b => by omega, h3⟩
        intro τ2 hexit
        obtain ⟨x1, x2, x3⟩ := hexit
        refine z_iinc (pc := 94) (lv' := [(4, _), (0, _), (1, _), (2, _), (3, _)]) C dX7_foresee_94 4 rfl (by decide) rfl ?_
        refine z_goto (pc := 97) (tgt := 12) C dX7_foresee_97 (by decide) ?_
        refine z_sub C [1, 2, 3, 4, 0] rfl ?_
        exact ih (v + 1) _ (by omega) ⟨by omega, fun v2 t hv ht1 ht2 => (show v2 < v ∨ v2 = v by omega).elim (fun q => x1 v2 t q ht1 ht2) (fun q => by rw [q]; exact x2 t ht1 (by omega)), x3⟩
  refine z_aload_n (pc := 0) C dX7_foresee_0 rfl 1 rfl ?_
  refine z_getR (pc := 1) C (o + 1) fl_X7_39 dX7_foresee_1 (by first | rfl | assumption) (by omega) rfl (Or.inl rfl) ?_
  refine z_iload_n (pc := 4) C dX7_foresee_4 rfl 2 rfl ?_
  refine z_Vi (pc := 5) C (c_X6_atv l G _ _ _ (i) _ (K i) (by first | assumption | omega | decide) (hp) (by first | assumption | omega | decide) (hA.1)) ml_X7_44 yw_X6_at dX7_foresee_5 (by first | rfl | assumption) (by omega) rfl rfl rfl (Nat.le_of_ble_eq_true rfl) ⟨by decide, by decide⟩ (fun r5 t5 h5 q5 => ?_)
  obtain ⟨rfl, rfl⟩ := q5
  refine z_istore_n (pc := 8) (lv' := [(3, _), (0, _), (1, _), (2, _)]) C dX7_foresee_8 rfl (by decide) rfl ?_
  refine z_iconst (pc := 9) C dX7_foresee_9 ?_
  refine z_istore (pc := 10) (lv' := [(4, _), (3, _), (0, _), (1, _), (2, _)]) C dX7_foresee_10 (by decide) rfl ?_
  refine z_sub C [2, 3, 4, 1, 0] rfl ?_
  exact L12 _ 0 σ (Nat.lt_succ_self _) ⟨by omega, fun v2 t hv => by omega, zFr.rf⟩
set_option maxHeartbeats 4000000 in
set_option maxRecDepth 100000 in
theorem c_X7_fits (l : Launch) (G : zGt) (σ : zMem) (m : Nat) (A Y Q : Nat → Int) (o2 : Nat) (hS : zSits o2) (hs : zSgt σ o2 m A Y Q) (hsr : zSr A Y Q) (hm : m ≤ 6) (p q : Int) (v : Nat) (f : Nat → Int) (hq : q = v) (hv : v < 10) (hp : 0 ≤ p ∧ p ≤ 5) (hf : ∀ t : Nat, 1 ≤ t → t ≤ 9 → σ 47 (10 * t + v) = f t) : zN l G yX7_fits cX7_fits 6 (some .boolean) 1 [.ref (zB G + 45), .ref (zB G + o2), .int (zI p), .int (zI q)] σ (zPi (fun x τ => x = zfi A Y Q p f m ∧ σ = τ)) := by
  obtain ⟨j0, d1, d3, d5, j6⟩ := id hS
  have jj1 := d1.1
  have jj3 := d3.1
  have jj5 := d5.1
  obtain ⟨s3, sS⟩ := id hs
  have b46 : zRow 46 100 := by decide
  have b48 : zRow 48 21 := by decide
  refine zM.of (lv0 := [(0, _), (1, _), (2, _), (3, _)]) (by decide) (Nat.le_of_ble_eq_true rfl) rfl (fun X C => ?_)
  have L3 : ∀ (fuel : Nat) (s : Nat), m - s < fuel → (s ≤ m ∧ zfi A Y Q p f s = 1) → zg G X true 6 129 0 0 3 [(0, .ref (zB G + 45)), (1, .ref (zB G + o2)), (2, .int (zI p)), (3, .int (zI q)), (4, .int (zI (s : Int)))] [] σ := by
    intro fuel
    induction fuel with
    | zero => intro s hm; exact absurd hm (Nat.not_lt_zero _)
    | succ fuel ih =>
      intro s hms hinv
      obtain ⟨h1, h2⟩ := hinv
      refine z_iload (pc := 3) C dX7_fits_3 4 rfl ?_
      refine z_aload_n (pc := 5) C dX7_fits_5 rfl 1 rfl ?_
      refine z_getI (pc := 6) C fl_X7_66 dX7_fits_6 (by first | rfl | assumption) (by omega) (fun g6 => ?_)
      refine z_icmp_ge (pc := 9) (tgt := 70) C dX7_fits_9 (by decide) ⟨by omega, by omega⟩ (fun c9 => ?_) (fun c9 => ?_)
      · refine z_iconst (pc := 70) C dX7_fits_70 ?_
        refine z_zret (pc := 71) C dX7_fits_71 (by omega) ?_
        exact ⟨_, rfl, by omega, by rw [show m = s by omega]; exact h2.symm, rfl⟩
      · have hS2 := sS s (by omega)
        have hqs := hsr s
        have hff := hf (Y s).toNat (by omega) (by omega)
        refine z_aload_n (pc := 12) C dX7_fits_12 rfl 0 rfl ?_
        refine z_getR (pc := 13) C (46) fl_X7_16 dX7_fits_13 (by first | rfl | assumption) (by omega) rfl (Or.inl rfl) ?_
        refine z_bipush (pc := 16) C dX7_fits_16 (by decide +kernel) ?_
        refine z_aload_n (pc := 18) C dX7_fits_18 rfl 1 rfl ?_
        refine z_getR (pc := 19) C (o2 + 3) fl_X7_71 dX7_fits_19 (by first | rfl | assumption) (by omega) rfl (Or.inl rfl) ?_
        refine z_iload (pc := 22) C dX7_fits_22 4 rfl ?_
        refine z_Vi (pc := 24) C (c_X6_atv l G _ _ _ (s) _ (Y s) (by first | assumption | omega | decide) rfl (by first | assumption | omega | decide) (hS2.2.1)) ml_X7_44 yw_X6_at dX7_fits_24 (by first | rfl | assumption) (by omega) rfl rfl rfl (Nat.le_of_ble_eq_true rfl) ⟨by decide, by decide⟩ (fun r24 t24 h24 q24 => ?_)
        obtain ⟨rfl, rfl⟩ := q24
        refine z_imul (pc := 27) C dX7_fits_27 ?_
        refine z_iload_n (pc := 28) C dX7_fits_28 rfl 3 rfl ?_
        refine z_iadd (pc := 29) C dX7_fits_29 ?_
        refine z_Vi (pc := 30) C (c_X6_atv l G _ _ _ (10 * (Y s).toNat + v) _ (f (Y s).toNat) (by first | assumption | omega | decide) (by omega) (by first | assumption | omega | decide) (hff)) ml_X7_44 yw_X6_at dX7_fits_30 (by first | rfl | assumption) (by omega) rfl rfl rfl (Nat.le_of_ble_eq_true rfl) ⟨by decide, by decide⟩ (fun r30 t30 h30 q30 => ?_)
        obtain ⟨rfl, rfl⟩ := q30
        refine z_istore (pc := 33) (lv' := [(5, _), (0, _), (1, _), (2, _), (3, _), (4, _)]) C dX7_fits_33 (by decide) rfl ?_
        refine z_aload_n (pc := 35) C dX7_fits_35 rfl 2 rfl ?_
        refine z_getR (pc := 36) C (o2 + 1) fl_X7_74 dX7_fits_36 (by first | rfl | assumption) (by omega) rfl (Or.inl rfl) ?_
        refine z_iload (pc := 39) C dX7_fits_39 5 rfl ?_
        refine z_Vi (pc := 41) C (c_X6_atv l G _ _ _ (s) _ (A s) (by first | assumption | omega | decide) rfl (by first | assumption | omega | decide) (hS2.1)) ml_X7_44 yw_X6_at dX7_fits_41 (by first | rfl | assumption) (by omega) rfl rfl rfl (Nat.le_of_ble_eq_true rfl) ⟨by decide, by decide⟩ (fun r41 t41 h41 q41 => ?_)
        obtain ⟨rfl, rfl⟩ := q41
        refine z_iload_n (pc := 44) C dX7_fits_44 rfl 3 rfl ?_
        refine z_icmp_ne (pc := 45) (tgt := 64) C dX7_fits_45 (by decide) ⟨by omega, by omega⟩ (fun c45 => ?_) (fun c45 => ?_)
        · refine z_iinc (pc := 64) (lv' := [(4, _), (5, _), (0, _), (1, _), (2, _), (3, _)]) C dX7_fits_64 5 rfl (by decide) rfl ?_
          refine z_goto (pc := 67) (tgt := 3) C dX7_fits_67 (by decide) ?_
          refine z_sub C [2, 3, 4, 5, 0] rfl ?_
          exact ih (s + 1) (by omega) ⟨by omega, zfi_s1 h2 (fun a => by omega)⟩
        · refine z_aload_n (pc := 48) C dX7_fits_48 rfl 2 rfl ?_
          refine z_getR (pc := 49) C (o2 + 5) fl_X7_77 dX7_fits_49 (by first | rfl | assumption) (by omega) rfl (Or.inl rfl) ?_
          refine z_iload (pc := 52) C dX7_fits_52 5 rfl ?_
          refine z_Vi (pc := 54) C (c_X6_atv l G _ _ _ (s) _ (Q s) (by first | assumption | omega | decide) rfl (by first | assumption | omega | decide) (hS2.2.2)) ml_X7_44 yw_X6_at dX7_fits_54 (by first | rfl | assumption) (by omega) rfl rfl rfl (Nat.le_of_ble_eq_true rfl) ⟨by decide, by decide⟩ (fun r54 t54 h54 q54 => ?_)
          obtain ⟨rfl, rfl⟩ := q54
          refine z_iload (pc := 57) C dX7_fits_57 0 rfl ?_
          refine z_icmp_eq (pc := 59) (tgt := 64) C dX7_fits_59 (by decide) ⟨by omega, by omega⟩ (fun c59 => ?_) (fun c59 => ?_)
          · refine z_iinc (pc := 64) (lv' := [(4, _), (5, _), (0, _), (1, _), (2, _), (3, _)]) C dX7_fits_64 5 rfl (by decide) rfl ?_
            refine z_goto (pc := 67) (tgt := 3) C dX7_fits_67 (by decide) ?_
            refine z_sub C [2, 3, 4, 5, 0] rfl ?_
            exact ih (s + 1) (by omega) ⟨by omega, zfi_s1 h2 (fun a => by omega)⟩
          · refine z_iconst (pc := 62) C dX7_fits_62 ?_
            refine z_zret (pc := 63) C dX7_fits_63 (by omega) ?_
            exact ⟨_, rfl, by omega, (zfi_0 (by omega : s + 1 ≤ m) (zfi_s0 (by omega) (by omega))).symm, rfl⟩
  refine z_iconst (pc := 0) C dX7_fits_0 ?_
  refine z_istore (pc := 1) (lv' := [(4, _), (0, _), (1, _), (2, _), (3, _)]) C dX7_fits_1 (by decide) rfl ?_
  refine z_sub C [1, 2, 3, 4, 0] rfl ?_
  exact L3 _ 0 (Nat.lt_succ_self _) ⟨by omega, rfl⟩
set_option maxHeartbeats 4000000 in
set_option maxRecDepth 100000 in
theorem c_X7_worriesLeft (l : Launch) (G : zGt) (σ : zMem) (o n : Nat) (y w : Int) (K R V E : Nat → Int) (hL : zLane o) (h : zLa σ o n y w K R V E) (hr : zLr K R V E) (hn : n ≤ 6) (i : Nat) (p : Int) (hp : p = i) (hi : i < n) (m : Nat) (A Y Q : Nat → Int) (o2 : Nat) (hS : zSits o2) (hs : zSgt σ o2 m A Y Q) (hsr : zSr A Y Q) (hm : m ≤ 6) (hy : 0 ≤ y ∧ y ≤ 100000) (hd : o + 9 ≤ 45) (hd2 : o2 + 7 ≤ 45) : zN l G yX7_worriesLeft cX7_worriesLeft 6 (some .int) 2 [.ref (zB G + 45), .ref (zB G + o), .ref (zB G + o2), .int (zI p)] σ (zPi (fun x τ => x = zwr (K i) (R i) (E i) y A Y Q m (i : Int) ∧ (∀ v t : Nat, v < 10 → 1 ≤ t → t ≤ 9 → τ 47 (10 * t + v) = zbh (K i) (R i) (v : Int) (E i) y t) ∧ zFr 47 48 σ τ)) := by
  subst hp
  have hri := hr i
  have hw := zfi_bd A Y Q (i : Int)
  refine zM.of (lv0 := [(0, _), (1, _), (2, _), (3, _)]) (by decide) (Nat.le_of_ble_eq_true rfl) rfl (fun X C => ?_)
  have L12 : ∀ (fuel : Nat) (v : Nat) (b : Int) (τ : zMem), 10 - v < fuel → (v ≤ 10 ∧ b = zbs (zwf (K i) (R i) (E i) y A Y Q m (i : Int)) v ∧ (∀ v t : Nat, v < 10 → 1 ≤ t → t ≤ 9 → τ 47 (10 * t + v) = zbh (K i) (R i) (v : Int) (E i) y t) ∧ zFr 47 48 σ τ) → zg G X true 6 129 0 0 12 [(0, .ref (zB G + 45)), (1, .ref (zB G + o)), (2, .ref (zB G + o2)), (3, .int (zI (i : Int))), (4, .int (zI b)), (5, .int (zI (v : Int)))] [] τ := by
    intro fuel
    induction fuel with
    | zero => intro v b τ hm; exact absurd hm (Nat.not_lt_zero _)
    | succ fuel ih =>
      intro v b τ hms hinv
      obtain ⟨h1, rfl, h2, h3⟩ := hinv
      have hz := zbs_bd (p := zwf (K i) (R i) (E i) y A Y Q m (i : Int)) (fun v => hw _ _) v
      have hq := zpow10 v (by omega)
      have hz2 := hw (zbh (K i) (R i) (v : Int) (E i) y) m
      have hs2 := hs.fr h3 (by omega)
      refine z_iload (pc := 12) C dX7_worriesLeft_12 5 rfl ?_
      refine z_bipush (pc := 14) C dX7_worriesLeft_14 (by decide +kernel) ?_
      refine z_icmp_ge (pc := 16) (tgt := 45) C dX7_worriesLeft_16 (by decide) ⟨by omega, by omega⟩ (fun c16 => ?_) (fun c16 => ?_)
      · refine z_iload (pc := 45) C dX7_worriesLeft_45 4 rfl ?_
        refine z_iret (pc := 47) C dX7_worriesLeft_47 ?_
        obtain rfl : v = 10 := by omega
        exact ⟨_, rfl, by omega, rfl, h2, h3⟩
      · refine z_aload_n (pc := 19) C dX7_worriesLeft_19 rfl 0 rfl ?_
        refine z_aload_n (pc := 20) C dX7_worriesLeft_20 rfl 2 rfl ?_
        refine z_iload_n (pc := 21) C dX7_worriesLeft_21 rfl 3 rfl ?_
        refine z_iload (pc := 22) C dX7_worriesLeft_22 5 rfl ?_
        refine z_Vi (pc := 24) C (c_X7_fits l G _ _ _ _ _ _ (by first | assumption | omega | decide) (by first | assumption | omega | decide) (by first | assumption | omega | decide) (by first | assumption | omega | decide) _ _ (v) (zbh (K i) (R i) (v : Int) (E i) y) rfl (by first | assumption | omega | decide) (by first | assumption | omega | decide) (fun t a b => h2 v t (by omega) a b)) ml_X7_27 yw_X7_fits dX7_worriesLeft_24 (by first | rfl | assumption) (by omega) rfl rfl rfl (Nat.le_of_ble_eq_true rfl) ⟨by decide, by decide⟩ (fun r24 t24 h24 q24 => ?_)
        obtain ⟨rfl, rfl⟩ := q24
        refine z_if_eq (pc := 27) (tgt := 39) C dX7_worriesLeft_27 (by decide) (by omega) (fun c27 => ?_) (fun c27 => ?_)
        · refine z_iinc (pc := 39) (lv' := [(5, _), (0, _), (1, _), (2, _), (3, _), (4, _)]) C dX7_worriesLeft_39 5 rfl (by decide) rfl ?_
          refine z_goto (pc := 42) (tgt := 12) C dX7_worriesLeft_42 (by decide) ?_
          refine z_sub C [1, 2, 3, 4, 5, 0] rfl ?_
          exact ih (v + 1) _ _ (by omega) ⟨by omega, (by first | exact (zbs_s1 (show zwf (K i) (R i) (E i) y A Y Q m (i : Int) v = 1 by have := hz2; unfold zwf; omega)).symm | exact (zbs_s0 (show zwf (K i) (R i) (E i) y A Y Q m (i : Int) v = 0 by have := hz2; unfold zwf; omega)).symm), h2, h3⟩
        · refine z_iload (pc := 30) C dX7_worriesLeft_30 4 rfl ?_
          refine z_iconst (pc := 32) C dX7_worriesLeft_32 ?_
          refine z_iload (pc := 33) C dX7_worriesLeft_33 5 rfl ?_
          refine z_ishl (pc := 35) (r := 2 ^ v) C dX7_worriesLeft_35 (zshl_n v (by omega)) ?_
          refine z_ior (pc := 36) (r := zbs (zwf (K i) (R i) (E i) y A Y Q m (i : Int)) v + 2 ^ v) C dX7_worriesLeft_36 (zor_i (by omega) hz.1 hz.2) ?_
          refine z_istore (pc := 37) (lv' := [(4, _), (0, _), (1, _), (2, _), (3, _), (5, _)]) C dX7_worriesLeft_37 (by decide) rfl ?_
          refine z_iinc (pc := 39) (lv' := [(5, _), (4, _), (0, _), (1, _), (2, _), (3, _)]) C dX7_worriesLeft_39 5 rfl (by decide) rfl ?_
          refine z_goto (pc := 42) (tgt := 12) C dX7_worriesLeft_42 (by decide) ?_
          refine z_sub C [2, 3, 4, 5, 1, 0] rfl ?_
          exact ih (v + 1) _ _ (by omega) ⟨by omega, (by first | exact (zbs_s1 (show zwf (K i) (R i) (E i) y A Y Q m (i : Int) v = 1 by have := hz2; unfold zwf; omega)).symm | exact (zbs_s0 (show zwf (K i) (R i) (E i) y A Y Q m (i : Int) v = 0 by have := hz2; unfold zwf; omega)).symm), h2, h3⟩
  refine z_aload_n (pc := 0) C dX7_worriesLeft_0 rfl 0 rfl ?_
  refine z_aload_n (pc := 1) C dX7_worriesLeft_1 rfl 1 rfl ?_
  refine z_iload_n (pc := 2) C dX7_worriesLeft_2 rfl 3 rfl ?_
  refine z_Vv (pc := 3) C (c_X7_foresee l G _ _ _ _ _ _ _ _ _ (by first | assumption | omega | decide) (by first | assumption | omega | decide) (by first | assumption | omega | decide) (by first | assumption | omega | decide) (i) _ rfl (by first | assumption | omega | decide) (by first | assumption | omega | decide) (by first | assumption | omega | decide)) ml_X7_23 yw_X7_foresee dX7_worriesLeft_3 (by first | rfl | assumption) (by omega) rfl rfl rfl (Nat.le_of_ble_eq_true rfl) ⟨by decide, by decide⟩ (fun t3 q3 => ?_)
  obtain ⟨w3, f3⟩ := q3
  refine z_iconst (pc := 6) C dX7_worriesLeft_6 ?_
  refine z_istore (pc := 7) (lv' := [(4, _), (0, _), (1, _), (2, _), (3, _)]) C dX7_worriesLeft_7 (by decide) rfl ?_
  refine z_iconst (pc := 9) C dX7_worriesLeft_9 ?_
  refine z_istore (pc := 10) (lv' := [(5, _), (4, _), (0, _), (1, _), (2, _), (3, _)]) C dX7_worriesLeft_10 (by decide) rfl ?_
  refine z_sub C [2, 3, 4, 5, 1, 0] rfl ?_
  exact L12 _ 0 0 _ (Nat.lt_succ_self _) ⟨by omega, rfl, w3, f3⟩
set_option maxHeartbeats 4000000 in
set_option maxRecDepth 100000 in
theorem c_X7_mostLeft (l : Launch) (G : zGt) (σ : zMem) (b q : Int) (t : Nat) (pp f : Nat → Int) (hpp : ∀ v, 0 ≤ pp v ∧ pp v ≤ 1) (hb : b = zbs pp 10) (hq : q = t) (ht : 1 ≤ t ∧ t ≤ 9) (hf : ∀ v, v < 10 → σ 47 (10 * t + v) = f v) (hfb : ∀ v, 0 ≤ f v ∧ f v ≤ 20) : zN l G yX7_mostLeft cX7_mostLeft 6 (some .int) 1 [.ref (zB G + 45), .int (zI b), .int (zI q)] σ (zPi (fun x τ => x = zmx pp f 10 ∧ zFr 49 50 σ τ)) := by
  subst hb
  have b46 : zRow 46 100 := by decide
  have b48 : zRow 48 21 := by decide
  have hz := zbs_bd hpp 10
  have e10 : (2 : Int) ^ 10 = 1024 := by decide
  refine zM.of (lv0 := [(0, _), (1, _), (2, _)]) (by decide) (Nat.le_of_ble_eq_true rfl) rfl (fun X C => ?_)
  have L13 : ∀ (fuel : Nat) (j : Nat) (mx : Int) (τ : zMem), 10 - j < fuel → (j ≤ 10 ∧ mx = zmx pp f j ∧ (∀ r : Nat, r < 21 → τ 49 r = zal pp f j r) ∧ zFr 49 50 σ τ) → zg G X true 6 129 0 0 13 [(0, .ref (zB G + 45)), (1, .int (zI (zbs pp 10))), (2, .int (zI q)), (3, .int (zI mx)), (4, .int (zI (j : Int)))] [] τ := by
    intro fuel
    induction fuel with
    | zero => intro j mx τ hm; exact absurd hm (Nat.not_lt_zero _)
    | succ fuel ih =>
      intro j mx τ hms hinv
      obtain ⟨h1, rfl, h2, h3⟩ := hinv
      have hfj := hfb j
      have hpj := hpp j
      have hm := zmx_bd pp f j
      have ha := zal_bd pp f j (f j)
      have ha1 := zal_bd pp f (j + 1) (f j)
      refine z_iload (pc := 13) C dX7_mostLeft_13 4 rfl ?_
      refine z_bipush (pc := 15) C dX7_mostLeft_15 (by decide +kernel) ?_
      refine z_icmp_ge (pc := 17) (tgt := 86) C dX7_mostLeft_17 (by decide) ⟨by omega, by omega⟩ (fun c17 => ?_) (fun c17 => ?_)
      · refine z_iload_n (pc := 86) C dX7_mostLeft_86 rfl 3 rfl ?_
        refine z_iret (pc := 87) C dX7_mostLeft_87 ?_
        obtain rfl : j = 10 := by omega
        exact ⟨_, rfl, by omega, rfl, h3⟩
      · refine z_iload_n (pc := 20) C dX7_mostLeft_20 rfl 1 rfl ?_
        refine z_iload (pc := 21) C dX7_mostLeft_21 4 rfl ?_
        refine z_ishr (pc := 23) (r := zbs pp 10 / 2 ^ j) C dX7_mostLeft_23 (zshr_i (by omega) hz.1 (by omega)) ?_
        refine z_iconst (pc := 24) C dX7_mostLeft_24 ?_
        refine z_iand (pc := 25) (r := zbs pp 10 / 2 ^ j % 2) C dX7_mostLeft_25 (zand1_i (zdiv_bd j hz.1 (by omega)).1 (zdiv_bd j hz.1 (by omega)).2) ?_
        rw [zbs_bit hpp 10 j (by omega)]
        refine z_iconst (pc := 26) C dX7_mostLeft_26 ?_
        refine z_icmp_ne (pc := 27) (tgt := 80) C dX7_mostLeft_27 (by decide) ⟨by omega, by omega⟩ (fun c27 => ?_) (fun c27 => ?_)
        · refine z_iinc (pc := 80) (lv' := [(4, _), (0, _), (1, _), (2, _), (3, _)]) C dX7_mostLeft_80 4 rfl (by decide) rfl ?_
          refine z_goto (pc := 83) (tgt := 13) C dX7_mostLeft_83 (by decide) ?_
          refine z_sub C [1, 2, 3, 4, 0] rfl ?_
          exact ih (j + 1) _ _ (by omega) (by first | exact ⟨by omega, by rw [zmx, if_pos c27], hal, h3.put (by omega) (by omega)⟩ | exact ⟨by omega, by rw [zmx, if_neg c27], fun r hr => by rw [zal, if_neg (fun q => c27 q.1)]; have := h2 r hr; omega, h3⟩)
        · have hal : ∀ r : Nat, r < 21 → zU τ 49 (f j).toNat (zal pp f j (f j) + 1) 49 r = zal pp f (j + 1) r := by
            intro r hr
            by_cases e : r = (f j).toNat
            · rw [e, zU_at, zal, if_pos ⟨c27, by omega⟩, show (((f j).toNat : Nat) : Int) = f j by omega]
            · rw [zU_k e, zal, if_neg (fun q => e (by omega)), h2 r hr, Int.add_zero]
          refine z_aload_n (pc := 30) C dX7_mostLeft_30 rfl 0 rfl ?_
          refine z_getR (pc := 31) C (46) fl_X7_16 dX7_mostLeft_31 (by first | rfl | assumption) (by omega) rfl (Or.inl rfl) ?_
          refine z_bipush (pc := 34) C dX7_mostLeft_34 (by decide +kernel) ?_
          refine z_iload_n (pc := 36) C dX7_mostLeft_36 rfl 2 rfl ?_
          refine z_imul (pc := 37) C dX7_mostLeft_37 ?_
          refine z_iload (pc := 38) C dX7_mostLeft_38 4 rfl ?_
          refine z_iadd (pc := 40) C dX7_mostLeft_40 ?_
          refine z_Vi (pc := 41) C (c_X6_atv l G _ _ _ (10 * t + j) _ (f j) (by first | assumption | omega | decide) (by omega) (by first | assumption | omega | decide) (by have := h3 47 (10 * t + j) (by omega); rw [show τ (46 + 1) (10 * t + j) = σ 47 (10 * t + j) from this]; exact hf j (by omega))) ml_X7_44 yw_X6_at dX7_mostLeft_41 (by first | rfl | assumption) (by omega) rfl rfl rfl (Nat.le_of_ble_eq_true rfl) ⟨by decide, by decide⟩ (fun r41 t41 h41 q41 => ?_)
          obtain ⟨rfl, rfl⟩ := q41
          refine z_istore (pc := 44) (lv' := [(5, _), (0, _), (1, _), (2, _), (3, _), (4, _)]) C dX7_mostLeft_44 (by decide) rfl ?_
          refine z_aload_n (pc := 46) C dX7_mostLeft_46 rfl 1 rfl ?_
          refine z_getR (pc := 47) C (48) fl_X7_20 dX7_mostLeft_47 (by first | rfl | assumption) (by omega) rfl (Or.inl rfl) ?_
          refine z_iload (pc := 50) C dX7_mostLeft_50 0 rfl ?_
          refine z_aload_n (pc := 52) C dX7_mostLeft_52 rfl 1 rfl ?_
          refine z_getR (pc := 53) C (48) fl_X7_20 dX7_mostLeft_53 (by first | rfl | assumption) (by omega) rfl (Or.inl rfl) ?_
          refine z_iload (pc := 56) C dX7_mostLeft_56 0 rfl ?_
          refine z_Vi (pc := 58) C (c_X6_atv l G _ _ _ ((f j).toNat) _ (zal pp f j (f j)) (by first | assumption | omega | decide) (by omega) (by first | assumption | omega | decide) (by have := h2 (f j).toNat (by omega); rw [show (((f j).toNat : Nat) : Int) = f j by omega] at this; exact this)) ml_X7_44 yw_X6_at dX7_mostLeft_58 (by first | rfl | assumption) (by omega) rfl rfl rfl (Nat.le_of_ble_eq_true rfl) ⟨by decide, by decide⟩ (fun r58 t58 h58 q58 => ?_)
          obtain ⟨rfl, rfl⟩ := q58
          refine z_iconst (pc := 61) C dX7_mostLeft_61 ?_
          refine z_iadd (pc := 62) C dX7_mostLeft_62 ?_
          refine z_Vv (pc := 63) C (c_X6_put l G _ _ _ ((f j).toNat) _ _ (by first | assumption | omega | decide) (by omega) (by first | assumption | omega | decide) (by first | assumption | omega | decide)) ml_X7_62 yw_X6_put dX7_mostLeft_63 (by first | rfl | assumption) (by omega) rfl rfl rfl (Nat.le_of_ble_eq_true rfl) ⟨by decide, by decide⟩ (fun t63 q63 => ?_)
          obtain rfl := q63
          refine z_iload_n (pc := 66) C dX7_mostLeft_66 rfl 4 rfl ?_
          refine z_aload_n (pc := 67) C dX7_mostLeft_67 rfl 1 rfl ?_
          refine z_getR (pc := 68) C (48) fl_X7_20 dX7_mostLeft_68 (by first | rfl | assumption) (by omega) rfl (Or.inl rfl) ?_
          refine z_iload (pc := 71) C dX7_mostLeft_71 0 rfl ?_
          refine z_Vi (pc := 73) C (c_X6_atv l G _ _ _ ((f j).toNat) _ (zal pp f (j + 1) (f j)) (by first | assumption | omega | decide) (by omega) (by first | assumption | omega | decide) (by have := hal (f j).toNat (by omega); rw [show (((f j).toNat : Nat) : Int) = f j by omega] at this; exact this)) ml_X7_44 yw_X6_at dX7_mostLeft_73 (by first | rfl | assumption) (by omega) rfl rfl rfl (Nat.le_of_ble_eq_true rfl) ⟨by decide, by decide⟩ (fun r73 t73 h73 q73 => ?_)
          obtain ⟨rfl, rfl⟩ := q73
          refine z_max (pc := 76) C ml_X7_81 jw_max dX7_mostLeft_76 ⟨⟨by decide, Nat.le_of_ble_eq_true rfl⟩, by decide, by decide⟩ ⟨by omega, by omega⟩ ?_
          refine z_istore_n (pc := 79) (lv' := [(3, _), (5, _), (0, _), (1, _), (2, _), (4, _)]) C dX7_mostLeft_79 rfl (by decide) rfl ?_
          refine z_iinc (pc := 80) (lv' := [(4, _), (3, _), (5, _), (0, _), (1, _), (2, _)]) C dX7_mostLeft_80 5 rfl (by decide) rfl ?_
          refine z_goto (pc := 83) (tgt := 13) C dX7_mostLeft_83 (by decide) ?_
          refine z_sub C [3, 4, 5, 1, 0] rfl ?_
          exact ih (j + 1) _ _ (by omega) (by first | exact ⟨by omega, by rw [zmx, if_pos c27], hal, h3.put (by omega) (by omega)⟩ | exact ⟨by omega, by rw [zmx, if_neg c27], fun r hr => by rw [zal, if_neg (fun q => c27 q.1)]; have := h2 r hr; omega, h3⟩)
  refine z_aload_n (pc := 0) C dX7_mostLeft_0 rfl 0 rfl ?_
  refine z_getR (pc := 1) C (48) fl_X7_20 dX7_mostLeft_1 (by first | rfl | assumption) (by omega) rfl (Or.inl rfl) ?_
  refine z_iconst (pc := 4) C dX7_mostLeft_4 ?_
  refine z_Vv (pc := 5) C (c_X6_fill l G _ _ _ _ (by first | assumption | omega | decide) (by first | assumption | omega | decide)) ml_X7_78 yw_X6_fill dX7_mostLeft_5 (by first | rfl | assumption) (by omega) rfl rfl rfl (Nat.le_of_ble_eq_true rfl) ⟨by decide, by decide⟩ (fun t5 q5 => ?_)
  refine z_iconst (pc := 8) C dX7_mostLeft_8 ?_
  refine z_istore_n (pc := 9) (lv' := [(3, _), (0, _), (1, _), (2, _)]) C dX7_mostLeft_9 rfl (by decide) rfl ?_
  refine z_iconst (pc := 10) C dX7_mostLeft_10 ?_
  refine z_istore (pc := 11) (lv' := [(4, _), (3, _), (0, _), (1, _), (2, _)]) C dX7_mostLeft_11 (by decide) rfl ?_
  refine z_sub C [2, 3, 4, 1, 0] rfl ?_
  exact L13 _ 0 0 t5 (Nat.lt_succ_self _) ⟨by omega, rfl, fun r hr => by rw [q5, if_pos ⟨rfl, hr⟩]; rfl, fun a k ha => by rw [q5, if_neg (by omega)]⟩
set_option maxHeartbeats 4000000 in
set_option maxRecDepth 100000 in
theorem c_X7_whenToLook (l : Launch) (G : zGt) (σ : zMem) (o n : Nat) (y w : Int) (K R V E : Nat → Int) (hL : zLane o) (h : zLa σ o n y w K R V E) (hr : zLr K R V E) (hn : n ≤ 6) (i : Nat) (p : Int) (hp : p = i) (hi : i < n) (m : Nat) (A Y Q : Nat → Int) (o2 : Nat) (hS : zSits o2) (hs : zSgt σ o2 m A Y Q) (hsr : zSr A Y Q) (hm : m ≤ 6) (hy : 0 ≤ y ∧ y ≤ 100000) (hd : o + 9 ≤ 45) (hd2 : o2 + 7 ≤ 45) : zN l G yX7_whenToLook cX7_whenToLook 9 (some .int) 3 [.ref (zB G + 45), .ref (zB G + o), .ref (zB G + o2), .int (zI p)] σ (zPi (fun x τ => x = zlo (K i) (R i) (E i) y A Y Q m (i : Int) ∧ zFr 47 50 σ τ)) := by
  subst hp
  have hri := hr i
  have hw := zfi_bd A Y Q (i : Int)
  have hwb : 0 ≤ zwr (K i) (R i) (E i) y A Y Q m (i : Int) ∧ zwr (K i) (R i) (E i) y A Y Q m (i : Int) < 1024 := zbs_bd (fun v => hw _ _) 10
  refine zM.of (lv0 := [(0, _), (1, _), (2, _), (3, _)]) (by decide) (Nat.le_of_ble_eq_true rfl) rfl (fun X C => ?_)
  have L19 : ∀ (fuel : Nat) (u : Nat) (ls wn : Int) (τ : zMem), 9 - u < fuel → (u ≤ 9 ∧ ls = zll (zwo (K i) (R i) (E i) y A Y Q m (i : Int)) u ∧ wn = zlw (zwo (K i) (R i) (E i) y A Y Q m (i : Int)) u ∧ (u = 0 ∨ zwr (K i) (R i) (E i) y A Y Q m (i : Int) ≠ 0) ∧ (∀ v t : Nat, v < 10 → 1 ≤ t → t ≤ 9 → τ 47 (10 * t + v) = zbh (K i) (R i) (v : Int) (E i) y t) ∧ zFr 47 50 σ τ) → zg G X true 9 129 0 0 19 [(0, .ref (zB G + 45)), (4, .int (zI (zwr (K i) (R i) (E i) y A Y Q m (i : Int)))), (5, .int (zI ls)), (6, .int (zI wn)), (7, .int (zI ((u : Int) + 1)))] [] τ := by
    intro fuel
    induction fuel with
    | zero => intro u ls wn τ hm; exact absurd hm (Nat.not_lt_zero _)
    | succ fuel ih =>
      intro u ls wn τ hms hinv
      obtain ⟨h1, rfl, rfl, h4, h2, h3⟩ := hinv
      have hl := zll_bd (fun t => zwo_bd (K i) (R i) (E i) y A Y Q m (i : Int) t) u
      have hx := zlw_bd (zwo (K i) (R i) (E i) y A Y Q m (i : Int)) u
      have hwo := zwo_bd (K i) (R i) (E i) y A Y Q m (i : Int) (u + 1)
      refine z_iload (pc := 19) C dX7_whenToLook_19 4 rfl ?_
      refine z_bipush (pc := 21) C dX7_whenToLook_21 (by decide +kernel) ?_
      refine z_icmp_gt (pc := 23) (tgt := 62) C dX7_whenToLook_23 (by decide) ⟨by omega, by omega⟩ (fun c23 => ?_) (fun c23 => ?_)
      · refine z_iload (pc := 62) C dX7_whenToLook_62 3 rfl ?_
        refine z_iret (pc := 64) C dX7_whenToLook_64 ?_
        have hf2 : zlo (K i) (R i) (E i) y A Y Q m (i : Int) = zlw (zwo (K i) (R i) (E i) y A Y Q m (i : Int)) u := by
          unfold zlo
          first | (rw [if_neg (by omega), show u = 9 by omega]) | (rw [if_pos (by omega), show u = 0 by omega]; rfl)
        exact ⟨_, rfl, by omega, hf2.symm, h3⟩
      · refine z_iload (pc := 26) C dX7_whenToLook_26 1 rfl ?_
        refine z_if_eq (pc := 28) (tgt := 62) C dX7_whenToLook_28 (by decide) (by omega) (fun c28 => ?_) (fun c28 => ?_)
        · refine z_iload (pc := 62) C dX7_whenToLook_62 3 rfl ?_
          refine z_iret (pc := 64) C dX7_whenToLook_64 ?_
          have hf2 : zlo (K i) (R i) (E i) y A Y Q m (i : Int) = zlw (zwo (K i) (R i) (E i) y A Y Q m (i : Int)) u := by
            unfold zlo
            first | (rw [if_neg (by omega), show u = 9 by omega]) | (rw [if_pos (by omega), show u = 0 by omega]; rfl)
          exact ⟨_, rfl, by omega, hf2.symm, h3⟩
        · refine z_aload_n (pc := 31) C dX7_whenToLook_31 rfl 0 rfl ?_
          refine z_iload (pc := 32) C dX7_whenToLook_32 1 rfl ?_
          refine z_iload (pc := 34) C dX7_whenToLook_34 4 rfl ?_
          refine z_Vi (pc := 36) C (c_X7_mostLeft l G _ _ _ (u + 1) (zwf (K i) (R i) (E i) y A Y Q m (i : Int)) (fun v => zbh (K i) (R i) (v : Int) (E i) y (u + 1)) (fun v => hw _ _) (rfl) (by omega) (by first | assumption | omega | decide) (fun v a => h2 v (u + 1) a (by omega) (by omega)) (fun v => zbh_bd hri.2.1 _)) ml_X7_35 yw_X7_mostLeft dX7_whenToLook_36 (by first | rfl | assumption) (by omega) rfl rfl rfl (Nat.le_of_ble_eq_true rfl) ⟨by decide, by decide⟩ (fun r36 t36 h36 q36 => ?_)
          obtain ⟨rfl, f36⟩ := q36
          rw [show zmx (zwf (K i) (R i) (E i) y A Y Q m (i : Int)) (fun v => zbh (K i) (R i) (v : Int) (E i) y (u + 1)) 10 = zwo (K i) (R i) (E i) y A Y Q m (i : Int) (u + 1) from rfl]
          refine z_istore (pc := 39) (lv' := [(8, _), (0, _), (4, _), (5, _), (6, _), (7, _)]) C dX7_whenToLook_39 (by decide) rfl ?_
          refine z_iload (pc := 41) C dX7_whenToLook_41 0 rfl ?_
          refine z_iload (pc := 43) C dX7_whenToLook_43 3 rfl ?_
          refine z_icmp_ge (pc := 45) (tgt := 56) C dX7_whenToLook_45 (by decide) ⟨by omega, by omega⟩ (fun c45 => ?_) (fun c45 => ?_)
          · refine z_iinc (pc := 56) (lv' := [(7, _), (8, _), (0, _), (4, _), (5, _), (6, _)]) C dX7_whenToLook_56 5 rfl (by decide) rfl ?_
            refine z_goto (pc := 59) (tgt := 19) C dX7_whenToLook_59 (by decide) ?_
            refine z_sub C [2, 3, 4, 5, 0] rfl ?_
            exact ih (u + 1) _ _ _ (by omega) ⟨by omega, (by rw [zll]; first | exact (if_neg (by omega)).symm | exact (if_pos (by omega)).symm), (by rw [zlw]; first | exact (if_neg (by omega)).symm | exact (if_pos (by omega)).symm), Or.inr c28, fun v t a b c => by rw [f36 47 _ (by omega)]; exact h2 v t a b c, h3.tr (f36.mono (by omega) (by omega))⟩
          · refine z_iload (pc := 48) C dX7_whenToLook_48 0 rfl ?_
            refine z_istore (pc := 50) (lv' := [(5, _), (8, _), (0, _), (4, _), (6, _), (7, _)]) C dX7_whenToLook_50 (by decide) rfl ?_
            refine z_iload (pc := 52) C dX7_whenToLook_52 5 rfl ?_
            refine z_istore (pc := 54) (lv' := [(6, _), (5, _), (8, _), (0, _), (4, _), (7, _)]) C dX7_whenToLook_54 (by decide) rfl ?_
            refine z_iinc (pc := 56) (lv' := [(7, _), (6, _), (5, _), (8, _), (0, _), (4, _)]) C dX7_whenToLook_56 5 rfl (by decide) rfl ?_
            refine z_goto (pc := 59) (tgt := 19) C dX7_whenToLook_59 (by decide) ?_
            refine z_sub C [4, 5, 2, 1, 0] rfl ?_
            exact ih (u + 1) _ _ _ (by omega) ⟨by omega, (by rw [zll]; first | exact (if_neg (by omega)).symm | exact (if_pos (by omega)).symm), (by rw [zlw]; first | exact (if_neg (by omega)).symm | exact (if_pos (by omega)).symm), Or.inr c28, fun v t a b c => by rw [f36 47 _ (by omega)]; exact h2 v t a b c, h3.tr (f36.mono (by omega) (by omega))⟩
  refine z_aload_n (pc := 0) C dX7_whenToLook_0 rfl 0 rfl ?_
  refine z_aload_n (pc := 1) C dX7_whenToLook_1 rfl 1 rfl ?_
  refine z_aload_n (pc := 2) C dX7_whenToLook_2 rfl 2 rfl ?_
  refine z_iload_n (pc := 3) C dX7_whenToLook_3 rfl 3 rfl ?_
  refine z_Vi (pc := 4) C (c_X7_worriesLeft l G _ _ _ _ _ _ _ _ _ (by first | assumption | omega | decide) (by first | assumption | omega | decide) (by first | assumption | omega | decide) (by first | assumption | omega | decide) (i) _ rfl (by first | assumption | omega | decide) _ _ _ _ _ (by first | assumption | omega | decide) (by first | assumption | omega | decide) (by first | assumption | omega | decide) (by first | assumption | omega | decide) (by first | assumption | omega | decide) (by first | assumption | omega | decide) (by first | assumption | omega | decide)) ml_X7_31 yw_X7_worriesLeft dX7_whenToLook_4 (by first | rfl | assumption) (by omega) rfl rfl rfl (Nat.le_of_ble_eq_true rfl) ⟨by decide, by decide⟩ (fun r4 t4 h4 q4 => ?_)
  obtain ⟨rfl, w4, f4⟩ := q4
  refine z_istore (pc := 7) (lv' := [(4, _), (0, _), (1, _), (2, _), (3, _)]) C dX7_whenToLook_7 (by decide) rfl ?_
  refine z_bipush (pc := 9) C dX7_whenToLook_9 (by decide +kernel) ?_
  refine z_istore (pc := 11) (lv' := [(5, _), (4, _), (0, _), (1, _), (2, _), (3, _)]) C dX7_whenToLook_11 (by decide) rfl ?_
  refine z_iconst (pc := 13) C dX7_whenToLook_13 ?_
  refine z_istore (pc := 14) (lv' := [(6, _), (5, _), (4, _), (0, _), (1, _), (2, _), (3, _)]) C dX7_whenToLook_14 (by decide) rfl ?_
  refine z_iconst (pc := 16) C dX7_whenToLook_16 ?_
  refine z_istore (pc := 17) (lv' := [(7, _), (6, _), (5, _), (4, _), (0, _), (1, _), (2, _), (3, _)]) C dX7_whenToLook_17 (by decide) rfl ?_
  refine z_sub C [4, 3, 2, 1, 0] rfl ?_
  exact L19 _ 0 _ _ _ (Nat.lt_succ_self _) ⟨by omega, rfl, rfl, Or.inl rfl, w4, f4.mono (by omega) (by omega)⟩
