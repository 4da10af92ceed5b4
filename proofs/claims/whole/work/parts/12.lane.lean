set_option maxHeartbeats 4000000 in
set_option maxRecDepth 100000 in
theorem c_X1_begin (l : Launch) (G : zGt) (σ : zMem) (o : Nat) (p : Int) (hL : zLane o) (hp : 0 ≤ p ∧ p ≤ 6) : zN l G yX1_begin cX1_begin 2 (none) 1 [.ref (zB G + o), .int (zI p)] σ (zPv (fun τ => τ = zU (zU (zU σ o 4 p) o 5 0) o 6 0)) := by
  obtain ⟨k0, b1, b3, b5, b7, k8⟩ := id hL
  have kk1 := b1.1
  have kk3 := b3.1
  have kk5 := b5.1
  have kk7 := b7.1
  refine zM.of (lv0 := [(0, _), (1, _)]) (by decide) (Nat.le_of_ble_eq_true rfl) rfl (fun X C => ?_)
  refine z_aload_n (pc := 0) C dX1_begin_0 rfl 0 rfl ?_
  refine z_iconst (pc := 1) C dX1_begin_1 ?_
  refine z_iload_n (pc := 2) C dX1_begin_2 rfl 1 rfl ?_
  refine z_bipush (pc := 3) C dX1_begin_3 (by decide +kernel) ?_
  refine z_min (pc := 5) C ml_X1_39 jw_min dX1_begin_5 ⟨⟨by decide, Nat.le_of_ble_eq_true rfl⟩, by decide, by decide⟩ ⟨by omega, by omega⟩ ?_
  rw [if_neg (by omega : ¬ (6 : Int) < p)]
  refine z_max (pc := 8) C ml_X1_45 jw_max dX1_begin_8 ⟨⟨by decide, Nat.le_of_ble_eq_true rfl⟩, by decide, by decide⟩ ⟨by omega, by omega⟩ ?_
  rw [show (if (0 : Int) < p then p else 0) = p by split <;> omega]
  refine z_putIe (pc := 11) C fl_X1_29 dX1_begin_11 (by first | rfl | assumption) (by omega) (by omega) (fun m11 em11 => ?_)
  refine z_aload_n (pc := 14) C dX1_begin_14 rfl 0 rfl ?_
  refine z_iconst (pc := 15) C dX1_begin_15 ?_
  refine z_putIe (pc := 16) C fl_X1_33 dX1_begin_16 (by first | rfl | assumption) (by omega) (by omega) (fun m16 em16 => ?_)
  refine z_aload_n (pc := 19) C dX1_begin_19 rfl 0 rfl ?_
  refine z_iconst (pc := 20) C dX1_begin_20 ?_
  refine z_putIe (pc := 21) C fl_X1_36 dX1_begin_21 (by first | rfl | assumption) (by omega) (by omega) (fun m21 em21 => ?_)
  refine z_vret (pc := 24) C dX1_begin_24 ?_
  exact ⟨rfl, by rw [em21, em16, em11]⟩
set_option maxHeartbeats 4000000 in
set_option maxRecDepth 100000 in
theorem c_X1_settle (l : Launch) (G : zGt) (σ : zMem) (o i : Nat) (p k r v : Int) (hL : zLane o) (hp : p = i) (hi : i < 6) (hk : zR k) (hr : zR r) (hv : zR v) : zN l G yX1_settle cX1_settle 5 (none) 1 [.ref (zB G + o), .int (zI p), .int (zI k), .int (zI r), .int (zI v)] σ (zPv (fun τ => τ = zU (zU (zU (zU σ (o + 2) i k) (o + 4) i r) (o + 6) i v) (o + 8) i 0)) := by
  obtain ⟨k0, b1, b3, b5, b7, k8⟩ := id hL
  have kk1 := b1.1
  have kk3 := b3.1
  have kk5 := b5.1
  have kk7 := b7.1
  refine zM.of (lv0 := [(0, _), (1, _), (2, _), (3, _), (4, _)]) (by decide) (Nat.le_of_ble_eq_true rfl) rfl (fun X C => ?_)
  refine z_aload_n (pc := 0) C dX1_settle_0 rfl 0 rfl ?_
  refine z_getR (pc := 1) C (o + 1) fl_X1_14 dX1_settle_1 (by first | rfl | assumption) (by omega) rfl (Or.inl rfl) ?_
  refine z_iload_n (pc := 4) C dX1_settle_4 rfl 1 rfl ?_
  refine z_iload_n (pc := 5) C dX1_settle_5 rfl 2 rfl ?_
  refine z_Vv (pc := 6) C (c_X6_put l G _ _ _ (i) _ _ (by first | assumption | omega | decide) (hp) (by first | assumption | omega | decide) (by first | assumption | omega | decide)) ml_X1_48 yw_X6_put dX1_settle_6 (by first | rfl | assumption) (by omega) rfl rfl rfl (Nat.le_of_ble_eq_true rfl) ⟨by decide, by decide⟩ (fun t6 q6 => ?_)
  obtain rfl := q6
  refine z_aload_n (pc := 9) C dX1_settle_9 rfl 0 rfl ?_
  refine z_getR (pc := 10) C (o + 3) fl_X1_20 dX1_settle_10 (by first | rfl | assumption) (by omega) rfl (Or.inl rfl) ?_
  refine z_iload_n (pc := 13) C dX1_settle_13 rfl 1 rfl ?_
  refine z_iload_n (pc := 14) C dX1_settle_14 rfl 3 rfl ?_
  refine z_Vv (pc := 15) C (c_X6_put l G _ _ _ (i) _ _ (by first | assumption | omega | decide) (hp) (by first | assumption | omega | decide) (by first | assumption | omega | decide)) ml_X1_48 yw_X6_put dX1_settle_15 (by first | rfl | assumption) (by omega) rfl rfl rfl (Nat.le_of_ble_eq_true rfl) ⟨by decide, by decide⟩ (fun t15 q15 => ?_)
  obtain rfl := q15
  refine z_aload_n (pc := 18) C dX1_settle_18 rfl 0 rfl ?_
  refine z_getR (pc := 19) C (o + 5) fl_X1_23 dX1_settle_19 (by first | rfl | assumption) (by omega) rfl (Or.inl rfl) ?_
  refine z_iload_n (pc := 22) C dX1_settle_22 rfl 1 rfl ?_
  refine z_iload (pc := 23) C dX1_settle_23 4 rfl ?_
  refine z_Vv (pc := 25) C (c_X6_put l G _ _ _ (i) _ _ (by first | assumption | omega | decide) (hp) (by first | assumption | omega | decide) (by first | assumption | omega | decide)) ml_X1_48 yw_X6_put dX1_settle_25 (by first | rfl | assumption) (by omega) rfl rfl rfl (Nat.le_of_ble_eq_true rfl) ⟨by decide, by decide⟩ (fun t25 q25 => ?_)
  obtain rfl := q25
  refine z_aload_n (pc := 28) C dX1_settle_28 rfl 0 rfl ?_
  refine z_getR (pc := 29) C (o + 7) fl_X1_26 dX1_settle_29 (by first | rfl | assumption) (by omega) rfl (Or.inl rfl) ?_
  refine z_iload_n (pc := 32) C dX1_settle_32 rfl 1 rfl ?_
  refine z_iconst (pc := 33) C dX1_settle_33 ?_
  refine z_Vv (pc := 34) C (c_X6_put l G _ _ _ (i) _ _ (by first | assumption | omega | decide) (hp) (by first | assumption | omega | decide) (by first | assumption | omega | decide)) ml_X1_48 yw_X6_put dX1_settle_34 (by first | rfl | assumption) (by omega) rfl rfl rfl (Nat.le_of_ble_eq_true rfl) ⟨by decide, by decide⟩ (fun t34 q34 => ?_)
  obtain rfl := q34
  refine z_vret (pc := 37) C dX1_settle_37 ?_
  exact ⟨rfl, rfl⟩
set_option maxHeartbeats 4000000 in
set_option maxRecDepth 100000 in
theorem c_X1_take (l : Launch) (G : zGt) (σ : zMem) (o o2 : Nat) (hL : zLane o) (hL2 : zLane o2) (hd : o + 9 ≤ o2 ∨ o2 + 9 ≤ o) : zN l G yX1_take cX1_take 2 (none) 1 [.ref (zB G + o), .ref (zB G + o2)] σ (zPv (fun τ => zFr o (o + 9) σ τ ∧ τ o 4 = σ o2 4 ∧ τ o 5 = σ o2 5 ∧ τ o 6 = σ o2 6 ∧ ∀ k, k < 6 → τ (o + 2) k = σ (o2 + 2) k ∧ τ (o + 4) k = σ (o2 + 4) k ∧ τ (o + 6) k = σ (o2 + 6) k ∧ τ (o + 8) k = σ (o2 + 8) k)) := by
  obtain ⟨k0, b1, b3, b5, b7, k8⟩ := id hL
  have kk1 := b1.1
  have kk3 := b3.1
  have kk5 := b5.1
  have kk7 := b7.1
  obtain ⟨j0, d1, d3, d5, d7, j8⟩ := id hL2
  have jj1 := d1.1
  have jj3 := d3.1
  have jj5 := d5.1
  have jj7 := d7.1
  refine zM.of (lv0 := [(0, _), (1, _)]) (by decide) (Nat.le_of_ble_eq_true rfl) rfl (fun X C => ?_)
  refine z_aload_n (pc := 0) C dX1_take_0 rfl 0 rfl ?_
  refine z_getR (pc := 1) C (o + 1) fl_X1_14 dX1_take_1 (by first | rfl | assumption) (by omega) rfl (Or.inl rfl) ?_
  refine z_aload_n (pc := 4) C dX1_take_4 rfl 1 rfl ?_
  refine z_getR (pc := 5) C (o2 + 1) fl_X1_14 dX1_take_5 (by first | rfl | assumption) (by omega) rfl (Or.inl rfl) ?_
  refine z_Vv (pc := 8) C (c_X6_take l G _ _ _ _ (by first | assumption | omega | decide) (by first | assumption | omega | decide) (by first | assumption | omega | decide)) ml_X1_52 yw_X6_take dX1_take_8 (by first | rfl | assumption) (by omega) rfl rfl rfl (Nat.le_of_ble_eq_true rfl) ⟨by decide, by decide⟩ (fun t8 q8 => ?_)
  refine z_aload_n (pc := 11) C dX1_take_11 rfl 0 rfl ?_
  refine z_getR (pc := 12) C (o + 3) fl_X1_20 dX1_take_12 (by first | rfl | assumption) (by omega) rfl (Or.inl rfl) ?_
  refine z_aload_n (pc := 15) C dX1_take_15 rfl 1 rfl ?_
  refine z_getR (pc := 16) C (o2 + 3) fl_X1_20 dX1_take_16 (by first | rfl | assumption) (by omega) rfl (Or.inl rfl) ?_
  refine z_Vv (pc := 19) C (c_X6_take l G _ _ _ _ (by first | assumption | omega | decide) (by first | assumption | omega | decide) (by first | assumption | omega | decide)) ml_X1_52 yw_X6_take dX1_take_19 (by first | rfl | assumption) (by omega) rfl rfl rfl (Nat.le_of_ble_eq_true rfl) ⟨by decide, by decide⟩ (fun t19 q19 => ?_)
  refine z_aload_n (pc := 22) C dX1_take_22 rfl 0 rfl ?_
  refine z_getR (pc := 23) C (o + 5) fl_X1_23 dX1_take_23 (by first | rfl | assumption) (by omega) rfl (Or.inl rfl) ?_
  refine z_aload_n (pc := 26) C dX1_take_26 rfl 1 rfl ?_
  refine z_getR (pc := 27) C (o2 + 5) fl_X1_23 dX1_take_27 (by first | rfl | assumption) (by omega) rfl (Or.inl rfl) ?_
  refine z_Vv (pc := 30) C (c_X6_take l G _ _ _ _ (by first | assumption | omega | decide) (by first | assumption | omega | decide) (by first | assumption | omega | decide)) ml_X1_52 yw_X6_take dX1_take_30 (by first | rfl | assumption) (by omega) rfl rfl rfl (Nat.le_of_ble_eq_true rfl) ⟨by decide, by decide⟩ (fun t30 q30 => ?_)
  refine z_aload_n (pc := 33) C dX1_take_33 rfl 0 rfl ?_
  refine z_getR (pc := 34) C (o + 7) fl_X1_26 dX1_take_34 (by first | rfl | assumption) (by omega) rfl (Or.inl rfl) ?_
  refine z_aload_n (pc := 37) C dX1_take_37 rfl 1 rfl ?_
  refine z_getR (pc := 38) C (o2 + 7) fl_X1_26 dX1_take_38 (by first | rfl | assumption) (by omega) rfl (Or.inl rfl) ?_
  refine z_Vv (pc := 41) C (c_X6_take l G _ _ _ _ (by first | assumption | omega | decide) (by first | assumption | omega | decide) (by first | assumption | omega | decide)) ml_X1_52 yw_X6_take dX1_take_41 (by first | rfl | assumption) (by omega) rfl rfl rfl (Nat.le_of_ble_eq_true rfl) ⟨by decide, by decide⟩ (fun t41 q41 => ?_)
  refine z_aload_n (pc := 44) C dX1_take_44 rfl 0 rfl ?_
  refine z_aload_n (pc := 45) C dX1_take_45 rfl 1 rfl ?_
  refine z_getI (pc := 46) C fl_X1_29 dX1_take_46 (by first | rfl | assumption) (by omega) (fun g46 => ?_)
  refine z_putIe (pc := 49) C fl_X1_29 dX1_take_49 (by first | rfl | assumption) (by omega) (by omega) (fun m49 em49 => ?_)
  refine z_aload_n (pc := 52) C dX1_take_52 rfl 0 rfl ?_
  refine z_aload_n (pc := 53) C dX1_take_53 rfl 1 rfl ?_
  refine z_getI (pc := 54) C fl_X1_33 dX1_take_54 (by first | rfl | assumption) (by omega) (fun g54 => ?_)
  refine z_putIe (pc := 57) C fl_X1_33 dX1_take_57 (by first | rfl | assumption) (by omega) (by omega) (fun m57 em57 => ?_)
  refine z_aload_n (pc := 60) C dX1_take_60 rfl 0 rfl ?_
  refine z_aload_n (pc := 61) C dX1_take_61 rfl 1 rfl ?_
  refine z_getI (pc := 62) C fl_X1_36 dX1_take_62 (by first | rfl | assumption) (by omega) (fun g62 => ?_)
  refine z_putIe (pc := 65) C fl_X1_36 dX1_take_65 (by first | rfl | assumption) (by omega) (by omega) (fun m65 em65 => ?_)
  refine z_vret (pc := 68) C dX1_take_68 ?_
  have a8 : ∀ a k, t8 a k = if a = o + 2 ∧ k < 6 then σ (o2 + 2) k else σ a k := q8
  have a19 : ∀ a k, t19 a k = if a = o + 4 ∧ k < 6 then t8 (o2 + 4) k else t8 a k := q19
  have a30 : ∀ a k, t30 a k = if a = o + 6 ∧ k < 6 then t19 (o2 + 6) k else t19 a k := q30
  have a41 : ∀ a k, t41 a k = if a = o + 8 ∧ k < 6 then t30 (o2 + 8) k else t30 a k := q41
  refine ⟨rfl, fun a k ha => ?_, ?_, ?_, ?_, fun k hk => ⟨?_, ?_, ?_, ?_⟩⟩
  · rw [em65, zU_o (by omega), em57, zU_o (by omega), em49, zU_o (by omega), a41, if_neg (by omega), a30, if_neg (by omega), a19, if_neg (by omega), a8, if_neg (by omega)]
  · rw [em65, zU_k (by omega), em57, zU_k (by omega), em49, zU_at, a41, if_neg (by omega), a30, if_neg (by omega), a19, if_neg (by omega), a8, if_neg (by omega)]
  · rw [em65, zU_k (by omega), em57, zU_at, em49, zU_o (by omega), a41, if_neg (by omega), a30, if_neg (by omega), a19, if_neg (by omega), a8, if_neg (by omega)]
  · rw [em65, zU_at, em57, zU_o (by omega), em49, zU_o (by omega), a41, if_neg (by omega), a30, if_neg (by omega), a19, if_neg (by omega), a8, if_neg (by omega)]
  · rw [em65, zU_o (by omega), em57, zU_o (by omega), em49, zU_o (by omega), a41, if_neg (by omega), a30, if_neg (by omega), a19, if_neg (by omega), a8, if_pos ⟨rfl, hk⟩]
  · rw [em65, zU_o (by omega), em57, zU_o (by omega), em49, zU_o (by omega), a41, if_neg (by omega), a30, if_neg (by omega), a19, if_pos ⟨rfl, hk⟩, a8, if_neg (by omega)]
  · rw [em65, zU_o (by omega), em57, zU_o (by omega), em49, zU_o (by omega), a41, if_neg (by omega), a30, if_pos ⟨rfl, hk⟩, a19, if_neg (by omega), a8, if_neg (by omega)]
  · rw [em65, zU_o (by omega), em57, zU_o (by omega), em49, zU_o (by omega), a41, if_pos ⟨rfl, hk⟩, a30, if_neg (by omega), a19, if_neg (by omega), a8, if_neg (by omega)]
set_option maxHeartbeats 4000000 in
set_option maxRecDepth 100000 in
theorem c_X1_has (l : Launch) (G : zGt) (σ : zMem) (o n : Nat) (p : Int) (hL : zLane o) (h : σ o 4 = n) (hp : zR p) (hn : n ≤ 6) : zN l G yX1_has cX1_has 2 (some .boolean) 0 [.ref (zB G + o), .int (zI p)] σ (zPi (fun x τ => x = (if 0 ≤ p ∧ p < n then 1 else 0) ∧ σ = τ)) := by
  obtain ⟨k0, b1, b3, b5, b7, k8⟩ := id hL
  have kk1 := b1.1
  have kk3 := b3.1
  have kk5 := b5.1
  have kk7 := b7.1
  refine zM.of (lv0 := [(0, _), (1, _)]) (by decide) (Nat.le_of_ble_eq_true rfl) rfl (fun X C => ?_)
  refine z_iload_n (pc := 0) C dX1_has_0 rfl 1 rfl ?_
  refine z_if_lt (pc := 1) (tgt := 16) C dX1_has_1 (by decide) (by omega) (fun c1 => ?_) (fun c1 => ?_)
  · refine z_iconst (pc := 16) C dX1_has_16 ?_
    refine z_zret (pc := 17) C dX1_has_17 (by omega) ?_
    exact ⟨_, rfl, by omega, by split <;> omega, rfl⟩
  · refine z_iload_n (pc := 4) C dX1_has_4 rfl 1 rfl ?_
    refine z_aload_n (pc := 5) C dX1_has_5 rfl 0 rfl ?_
    refine z_getI (pc := 6) C fl_X1_29 dX1_has_6 (by first | rfl | assumption) (by omega) (fun g6 => ?_)
    refine z_icmp_ge (pc := 9) (tgt := 16) C dX1_has_9 (by decide) ⟨by omega, by omega⟩ (fun c9 => ?_) (fun c9 => ?_)
    · refine z_iconst (pc := 16) C dX1_has_16 ?_
      refine z_zret (pc := 17) C dX1_has_17 (by omega) ?_
      exact ⟨_, rfl, by omega, by split <;> omega, rfl⟩
    · refine z_iconst (pc := 12) C dX1_has_12 ?_
      refine z_goto (pc := 13) (tgt := 17) C dX1_has_13 (by decide) ?_
      refine z_zret (pc := 17) C dX1_has_17 (by omega) ?_
      exact ⟨_, rfl, by omega, by split <;> omega, rfl⟩
set_option maxHeartbeats 4000000 in
set_option maxRecDepth 100000 in
theorem c_X1_passYear (l : Launch) (G : zGt) (σ : zMem) (o n : Nat) (y w : Int) (K R V E : Nat → Int) (hL : zLane o) (h : zLa σ o n y w K R V E) (hr : zLr K R V E) (hn : n ≤ 6) (hy : 0 ≤ y ∧ y ≤ 100000) : zN l G yX1_passYear cX1_passYear 2 (none) 1 [.ref (zB G + o)] σ (zPv (fun τ => zLa τ o n (y + 1) w K (fun j => zgr (K j) (R j) (V j) (E j) (y + 1)) V (fun _ => 0) ∧ zFr o (o + 9) σ τ)) := by
  obtain ⟨k0, b1, b3, b5, b7, k8⟩ := id hL
  have kk1 := b1.1
  have kk3 := b3.1
  have kk5 := b5.1
  have kk7 := b7.1
  obtain ⟨s4, s5, s6, sA⟩ := id h
  refine zM.of (lv0 := [(0, _)]) (by decide) (Nat.le_of_ble_eq_true rfl) rfl (fun X C => ?_)
  have L12 : ∀ (fuel : Nat) (i : Nat) (τ : zMem), n - i < fuel → (i ≤ n ∧ zLa τ o n (y + 1) w K (fun j => if j < i then zgr (K j) (R j) (V j) (E j) (y + 1) else R j) V (fun j => if j < i then 0 else E j) ∧ zFr o (o + 9) σ τ) → zg G X true 2 129 0 0 12 [(0, .ref (zB G + o)), (1, .int (zI (i : Int)))] [] τ := by
    intro fuel
    induction fuel with
    | zero => intro i τ hm; exact absurd hm (Nat.not_lt_zero _)
    | succ fuel ih =>
      intro i τ hms hinv
      obtain ⟨h1, h2, h3⟩ := hinv
      obtain ⟨s4, s5, s6, sA⟩ := id h2
      refine z_iload_n (pc := 12) C dX1_passYear_12 rfl 1 rfl ?_
      refine z_aload_n (pc := 13) C dX1_passYear_13 rfl 0 rfl ?_
      refine z_getI (pc := 14) C fl_X1_29 dX1_passYear_14 (by first | rfl | assumption) (by omega) (fun g14 => ?_)
      refine z_icmp_ge (pc := 17) (tgt := 82) C dX1_passYear_17 (by decide) ⟨by omega, by omega⟩ (fun c17 => ?_) (fun c17 => ?_)
      · refine z_vret (pc := 82) C dX1_passYear_82 ?_
        exact ⟨rfl, h2.ext rfl rfl (fun j hj => ⟨rfl, if_pos (by omega), rfl, if_pos (by omega)⟩), h3⟩
      · have hri := hr i
        have hA : τ (o + 2) i = K i ∧ τ (o + 4) i = R i ∧ τ (o + 6) i = V i ∧ τ (o + 8) i = E i := by have := sA i (by omega); simpa using this
        have hg := zgr_bd (K i) (R i) (V i) (E i) (y + 1)
        refine z_aload_n (pc := 20) C dX1_passYear_20 rfl 0 rfl ?_
        refine z_getR (pc := 21) C (o + 3) fl_X1_20 dX1_passYear_21 (by first | rfl | assumption) (by omega) rfl (Or.inl rfl) ?_
        refine z_iload_n (pc := 24) C dX1_passYear_24 rfl 1 rfl ?_
        refine z_aload_n (pc := 25) C dX1_passYear_25 rfl 0 rfl ?_
        refine z_getR (pc := 26) C (o + 1) fl_X1_14 dX1_passYear_26 (by first | rfl | assumption) (by omega) rfl (Or.inl rfl) ?_
        refine z_iload_n (pc := 29) C dX1_passYear_29 rfl 1 rfl ?_
        refine z_Vi (pc := 30) C (c_X6_atv l G _ _ _ (i) _ (K i) (by first | assumption | omega | decide) rfl (by first | assumption | omega | decide) (hA.1)) ml_X1_56 yw_X6_at dX1_passYear_30 (by first | rfl | assumption) (by omega) rfl rfl rfl (Nat.le_of_ble_eq_true rfl) ⟨by decide, by decide⟩ (fun r30 t30 h30 q30 => ?_)
        obtain ⟨rfl, rfl⟩ := q30
        refine z_aload_n (pc := 33) C dX1_passYear_33 rfl 0 rfl ?_
        refine z_getR (pc := 34) C (o + 3) fl_X1_20 dX1_passYear_34 (by first | rfl | assumption) (by omega) rfl (Or.inl rfl) ?_
        refine z_iload_n (pc := 37) C dX1_passYear_37 rfl 1 rfl ?_
        refine z_Vi (pc := 38) C (c_X6_atv l G _ _ _ (i) _ (R i) (by first | assumption | omega | decide) rfl (by first | assumption | omega | decide) (hA.2.1)) ml_X1_56 yw_X6_at dX1_passYear_38 (by first | rfl | assumption) (by omega) rfl rfl rfl (Nat.le_of_ble_eq_true rfl) ⟨by decide, by decide⟩ (fun r38 t38 h38 q38 => ?_)
        obtain ⟨rfl, rfl⟩ := q38
        refine z_aload_n (pc := 41) C dX1_passYear_41 rfl 0 rfl ?_
        refine z_getR (pc := 42) C (o + 5) fl_X1_23 dX1_passYear_42 (by first | rfl | assumption) (by omega) rfl (Or.inl rfl) ?_
        refine z_iload_n (pc := 45) C dX1_passYear_45 rfl 1 rfl ?_
        refine z_Vi (pc := 46) C (c_X6_atv l G _ _ _ (i) _ (V i) (by first | assumption | omega | decide) rfl (by first | assumption | omega | decide) (hA.2.2.1)) ml_X1_56 yw_X6_at dX1_passYear_46 (by first | rfl | assumption) (by omega) rfl rfl rfl (Nat.le_of_ble_eq_true rfl) ⟨by decide, by decide⟩ (fun r46 t46 h46 q46 => ?_)
        obtain ⟨rfl, rfl⟩ := q46
        refine z_aload_n (pc := 49) C dX1_passYear_49 rfl 0 rfl ?_
        refine z_getR (pc := 50) C (o + 7) fl_X1_26 dX1_passYear_50 (by first | rfl | assumption) (by omega) rfl (Or.inl rfl) ?_
        refine z_iload_n (pc := 53) C dX1_passYear_53 rfl 1 rfl ?_
        refine z_Vi (pc := 54) C (c_X6_atv l G _ _ _ (i) _ (E i) (by first | assumption | omega | decide) rfl (by first | assumption | omega | decide) (hA.2.2.2)) ml_X1_56 yw_X6_at dX1_passYear_54 (by first | rfl | assumption) (by omega) rfl rfl rfl (Nat.le_of_ble_eq_true rfl) ⟨by decide, by decide⟩ (fun r54 t54 h54 q54 => ?_)
        obtain ⟨rfl, rfl⟩ := q54
        refine z_aload_n (pc := 57) C dX1_passYear_57 rfl 0 rfl ?_
        refine z_getI (pc := 58) C fl_X1_33 dX1_passYear_58 (by first | rfl | assumption) (by omega) (fun g58 => ?_)
        refine z_Si (pc := 61) C (c_X9_grown l G _ _ _ _ _ _ (by first | assumption | omega | decide) (by first | assumption | omega | decide) (by first | assumption | omega | decide) (by first | assumption | omega | decide) (by first | assumption | omega | decide)) ml_X1_60 ys_X9_grown dX1_passYear_61 rfl rfl (Nat.le_of_ble_eq_true rfl) ⟨by decide, by decide⟩ (fun r61 t61 h61 q61 => ?_)
        obtain ⟨rfl, rfl⟩ := q61
        rw [s5]
        refine z_Vv (pc := 64) C (c_X6_put l G _ _ _ (i) _ _ (by first | assumption | omega | decide) rfl (by first | assumption | omega | decide) (by first | assumption | omega | decide)) ml_X1_48 yw_X6_put dX1_passYear_64 (by first | rfl | assumption) (by omega) rfl rfl rfl (Nat.le_of_ble_eq_true rfl) ⟨by decide, by decide⟩ (fun t64 q64 => ?_)
        obtain rfl := q64
        refine z_aload_n (pc := 67) C dX1_passYear_67 rfl 0 rfl ?_
        refine z_getR (pc := 68) C (o + 7) fl_X1_26 dX1_passYear_68 (by first | rfl | assumption) (by omega) rfl (Or.inl rfl) ?_
        refine z_iload_n (pc := 71) C dX1_passYear_71 rfl 1 rfl ?_
        refine z_iconst (pc := 72) C dX1_passYear_72 ?_
        refine z_Vv (pc := 73) C (c_X6_put l G _ _ _ (i) _ _ (by first | assumption | omega | decide) rfl (by first | assumption | omega | decide) (by first | assumption | omega | decide)) ml_X1_48 yw_X6_put dX1_passYear_73 (by first | rfl | assumption) (by omega) rfl rfl rfl (Nat.le_of_ble_eq_true rfl) ⟨by decide, by decide⟩ (fun t73 q73 => ?_)
        obtain rfl := q73
        refine z_iinc (pc := 76) (lv' := [(1, _), (0, _)]) C dX1_passYear_76 1 rfl (by decide) rfl ?_
        refine z_goto (pc := 79) (tgt := 12) C dX1_passYear_79 (by decide) ?_
        refine z_sub C [1, 0] rfl ?_
        exact ih (i + 1) _ (by omega) ⟨by omega, h2.putR.putE.ext rfl rfl (fun j hj => ⟨rfl, zup_s (a := fun j => zgr (K j) (R j) (V j) (E j) (y + 1)) j, rfl, zup_s (a := fun _ => 0) j⟩), (h3.put (by omega) (by omega)).put (by omega) (by omega)⟩
  refine z_aload_n (pc := 0) C dX1_passYear_0 rfl 0 rfl ?_
  refine z_dup (pc := 1) C dX1_passYear_1 rfl ?_
  refine z_getI (pc := 2) C fl_X1_33 dX1_passYear_2 (by first | rfl | assumption) (by omega) (fun g2 => ?_)
  refine z_iconst (pc := 5) C dX1_passYear_5 ?_
  refine z_iadd (pc := 6) C dX1_passYear_6 ?_
  refine z_putIe (pc := 7) C fl_X1_33 dX1_passYear_7 (by first | rfl | assumption) (by omega) (by omega) (fun m7 em7 => ?_)
  refine z_iconst (pc := 10) C dX1_passYear_10 ?_
  refine z_istore_n (pc := 11) (lv' := [(1, _), (0, _)]) C dX1_passYear_11 rfl (by decide) rfl ?_
  refine z_sub C [1, 0] rfl ?_
  exact L12 _ 0 m7 (Nat.lt_succ_self _) ⟨by omega, by rw [em7, s5]; exact h.putY.ext rfl rfl (fun j hj => ⟨rfl, rfl, rfl, rfl⟩), by rw [em7]; exact zFr.rf.put (by omega) (by omega)⟩
set_option maxHeartbeats 4000000 in
set_option maxRecDepth 100000 in
theorem c_X1_reedBehindYear (l : Launch) (G : zGt) (σ : zMem) (o n : Nat) (y w : Int) (K R V E : Nat → Int) (hL : zLane o) (h : zLa σ o n y w K R V E) (hr : zLr K R V E) (hn : n ≤ 6) (i : Nat) (p : Int) (hp : p = i) (hi : i < n) (hy : 0 ≤ y ∧ y ≤ 100000) : zN l G yX1_reedBehindYear cX1_reedBehindYear 2 (some .int) 1 [.ref (zB G + o), .int (zI p)] σ (zPi (fun x τ => x = zgr (K i) (R i) (V i) (E i) (y + 1) ∧ σ = τ)) := by
  obtain ⟨k0, b1, b3, b5, b7, k8⟩ := id hL
  have kk1 := b1.1
  have kk3 := b3.1
  have kk5 := b5.1
  have kk7 := b7.1
  obtain ⟨s4, s5, s6, sA⟩ := id h
  have hri := hr i
  have hA := sA i (by omega)
  refine zM.of (lv0 := [(0, _), (1, _)]) (by decide) (Nat.le_of_ble_eq_true rfl) rfl (fun X C => ?_)
  refine z_aload_n (pc := 0) C dX1_reedBehindYear_0 rfl 0 rfl ?_
  refine z_getR (pc := 1) C (o + 1) fl_X1_14 dX1_reedBehindYear_1 (by first | rfl | assumption) (by omega) rfl (Or.inl rfl) ?_
  refine z_iload_n (pc := 4) C dX1_reedBehindYear_4 rfl 1 rfl ?_
  refine z_Vi (pc := 5) C (c_X6_atv l G _ _ _ (i) _ (K i) (by first | assumption | omega | decide) (hp) (by first | assumption | omega | decide) (hA.1)) ml_X1_56 yw_X6_at dX1_reedBehindYear_5 (by first | rfl | assumption) (by omega) rfl rfl rfl (Nat.le_of_ble_eq_true rfl) ⟨by decide, by decide⟩ (fun r5 t5 h5 q5 => ?_)
  obtain ⟨rfl, rfl⟩ := q5
  refine z_aload_n (pc := 8) C dX1_reedBehindYear_8 rfl 0 rfl ?_
  refine z_getR (pc := 9) C (o + 3) fl_X1_20 dX1_reedBehindYear_9 (by first | rfl | assumption) (by omega) rfl (Or.inl rfl) ?_
  refine z_iload_n (pc := 12) C dX1_reedBehindYear_12 rfl 1 rfl ?_
  refine z_Vi (pc := 13) C (c_X6_atv l G _ _ _ (i) _ (R i) (by first | assumption | omega | decide) (hp) (by first | assumption | omega | decide) (hA.2.1)) ml_X1_56 yw_X6_at dX1_reedBehindYear_13 (by first | rfl | assumption) (by omega) rfl rfl rfl (Nat.le_of_ble_eq_true rfl) ⟨by decide, by decide⟩ (fun r13 t13 h13 q13 => ?_)
  obtain ⟨rfl, rfl⟩ := q13
  refine z_aload_n (pc := 16) C dX1_reedBehindYear_16 rfl 0 rfl ?_
  refine z_getR (pc := 17) C (o + 5) fl_X1_23 dX1_reedBehindYear_17 (by first | rfl | assumption) (by omega) rfl (Or.inl rfl) ?_
  refine z_iload_n (pc := 20) C dX1_reedBehindYear_20 rfl 1 rfl ?_
  refine z_Vi (pc := 21) C (c_X6_atv l G _ _ _ (i) _ (V i) (by first | assumption | omega | decide) (hp) (by first | assumption | omega | decide) (hA.2.2.1)) ml_X1_56 yw_X6_at dX1_reedBehindYear_21 (by first | rfl | assumption) (by omega) rfl rfl rfl (Nat.le_of_ble_eq_true rfl) ⟨by decide, by decide⟩ (fun r21 t21 h21 q21 => ?_)
  obtain ⟨rfl, rfl⟩ := q21
  refine z_aload_n (pc := 24) C dX1_reedBehindYear_24 rfl 0 rfl ?_
  refine z_getR (pc := 25) C (o + 7) fl_X1_26 dX1_reedBehindYear_25 (by first | rfl | assumption) (by omega) rfl (Or.inl rfl) ?_
  refine z_iload_n (pc := 28) C dX1_reedBehindYear_28 rfl 1 rfl ?_
  refine z_Vi (pc := 29) C (c_X6_atv l G _ _ _ (i) _ (E i) (by first | assumption | omega | decide) (hp) (by first | assumption | omega | decide) (hA.2.2.2)) ml_X1_56 yw_X6_at dX1_reedBehindYear_29 (by first | rfl | assumption) (by omega) rfl rfl rfl (Nat.le_of_ble_eq_true rfl) ⟨by decide, by decide⟩ (fun r29 t29 h29 q29 => ?_)
  obtain ⟨rfl, rfl⟩ := q29
  refine z_aload_n (pc := 32) C dX1_reedBehindYear_32 rfl 0 rfl ?_
  refine z_getI (pc := 33) C fl_X1_33 dX1_reedBehindYear_33 (by first | rfl | assumption) (by omega) (fun g33 => ?_)
  refine z_iconst (pc := 36) C dX1_reedBehindYear_36 ?_
  refine z_iadd (pc := 37) C dX1_reedBehindYear_37 ?_
  refine z_Si (pc := 38) C (c_X9_grown l G _ _ _ _ _ _ (by first | assumption | omega | decide) (by first | assumption | omega | decide) (by first | assumption | omega | decide) (by first | assumption | omega | decide) (by first | assumption | omega | decide)) ml_X1_60 ys_X9_grown dX1_reedBehindYear_38 rfl rfl (Nat.le_of_ble_eq_true rfl) ⟨by decide, by decide⟩ (fun r38 t38 h38 q38 => ?_)
  obtain ⟨rfl, rfl⟩ := q38
  rw [s5]
  refine z_iret (pc := 41) C dX1_reedBehindYear_41 ?_
  have hg := zgr_bd (K i) (R i) (V i) (E i) (y + 1)
  exact ⟨_, rfl, by omega, rfl, rfl⟩
set_option maxHeartbeats 4000000 in
set_option maxRecDepth 100000 in
theorem c_X1_reachOf (l : Launch) (G : zGt) (σ : zMem) (o n : Nat) (y w : Int) (K R V E : Nat → Int) (hL : zLane o) (h : zLa σ o n y w K R V E) (hr : zLr K R V E) (hn : n ≤ 6) (i : Nat) (p rain : Int) (hp : p = i) (hi : i ≤ n) (hx : 0 ≤ rain ∧ rain ≤ 1000) : zN l G yX1_reachOf cX1_reachOf 5 (some .int) 1 [.ref (zB G + o), .int (zI p), .int (zI rain)] σ (zPi (fun x τ => x = zrb rain (zsh R i) ∧ σ = τ)) := by
  obtain ⟨k0, b1, b3, b5, b7, k8⟩ := id hL
  have kk1 := b1.1
  have kk3 := b3.1
  have kk5 := b5.1
  have kk7 := b7.1
  obtain ⟨s4, s5, s6, sA⟩ := id h
  refine zM.of (lv0 := [(0, _), (1, _), (2, _)]) (by decide) (Nat.le_of_ble_eq_true rfl) rfl (fun X C => ?_)
  have L5 : ∀ (fuel : Nat) (j : Nat) (s : Int), i - j < fuel → (j ≤ i ∧ s = zsh R j) → zg G X true 5 129 0 0 5 [(0, .ref (zB G + o)), (1, .int (zI p)), (2, .int (zI rain)), (3, .int (zI s)), (4, .int (zI (j : Int)))] [] σ := by
    intro fuel
    induction fuel with
    | zero => intro j s hm; exact absurd hm (Nat.not_lt_zero _)
    | succ fuel ih =>
      intro j s hms hinv
      obtain ⟨h1, rfl⟩ := hinv
      have hs := zsh_bd R j
      refine z_iload (pc := 5) C dX1_reachOf_5 4 rfl ?_
      refine z_iload_n (pc := 7) C dX1_reachOf_7 rfl 1 rfl ?_
      refine z_icmp_ge (pc := 8) (tgt := 34) C dX1_reachOf_8 (by decide) ⟨by omega, by omega⟩ (fun c8 => ?_) (fun c8 => ?_)
      · refine z_iload_n (pc := 34) C dX1_reachOf_34 rfl 2 rfl ?_
        refine z_iload_n (pc := 35) C dX1_reachOf_35 rfl 3 rfl ?_
        obtain rfl : j = i := by omega
        refine z_Si (pc := 36) C (c_X9_rainBehind l G _ _ _ (by first | assumption | omega | decide) (by first | assumption | omega | decide)) ml_X1_64 ys_X9_rainBehind dX1_reachOf_36 rfl rfl (Nat.le_of_ble_eq_true rfl) ⟨by decide, by decide⟩ (fun r36 t36 h36 q36 => ?_)
        obtain ⟨rfl, rfl⟩ := q36
        refine z_iret (pc := 39) C dX1_reachOf_39 ?_
        have hb := zrb_bd hx (s := zsh R j) (by omega)
        exact ⟨_, rfl, by omega, rfl, rfl⟩
      · have hrj := hr j
        have hA := sA j (by omega)
        refine z_aload_n (pc := 11) C dX1_reachOf_11 rfl 0 rfl ?_
        refine z_getR (pc := 12) C (o + 3) fl_X1_20 dX1_reachOf_12 (by first | rfl | assumption) (by omega) rfl (Or.inl rfl) ?_
        refine z_iload (pc := 15) C dX1_reachOf_15 4 rfl ?_
        refine z_Vi (pc := 17) C (c_X6_atv l G _ _ _ (j) _ (R j) (by first | assumption | omega | decide) rfl (by first | assumption | omega | decide) (hA.2.1)) ml_X1_56 yw_X6_at dX1_reachOf_17 (by first | rfl | assumption) (by omega) rfl rfl rfl (Nat.le_of_ble_eq_true rfl) ⟨by decide, by decide⟩ (fun r17 t17 h17 q17 => ?_)
        obtain ⟨rfl, rfl⟩ := q17
        refine z_bipush (pc := 20) C dX1_reachOf_20 (by decide +kernel) ?_
        refine z_icmp_lt (pc := 22) (tgt := 28) C dX1_reachOf_22 (by decide) ⟨by omega, by omega⟩ (fun c22 => ?_) (fun c22 => ?_)
        · refine z_iinc (pc := 28) (lv' := [(4, _), (0, _), (1, _), (2, _), (3, _)]) C dX1_reachOf_28 4 rfl (by decide) rfl ?_
          refine z_goto (pc := 31) (tgt := 5) C dX1_reachOf_31 (by decide) ?_
          refine z_sub C [1, 2, 3, 4, 0] rfl ?_
          exact ih (j + 1) _ (by omega) ⟨by omega, (by first | exact (zsh_s1 (by omega)).symm | exact (zsh_s0 (by omega)).symm)⟩
        · refine z_iinc (pc := 25) (lv' := [(3, _), (0, _), (1, _), (2, _), (4, _)]) C dX1_reachOf_25 3 rfl (by decide) rfl ?_
          refine z_iinc (pc := 28) (lv' := [(4, _), (3, _), (0, _), (1, _), (2, _)]) C dX1_reachOf_28 4 rfl (by decide) rfl ?_
          refine z_goto (pc := 31) (tgt := 5) C dX1_reachOf_31 (by decide) ?_
          refine z_sub C [2, 3, 4, 1, 0] rfl ?_
          exact ih (j + 1) _ (by omega) ⟨by omega, (by first | exact (zsh_s1 (by omega)).symm | exact (zsh_s0 (by omega)).symm)⟩
  refine z_iconst (pc := 0) C dX1_reachOf_0 ?_
  refine z_istore_n (pc := 1) (lv' := [(3, _), (0, _), (1, _), (2, _)]) C dX1_reachOf_1 rfl (by decide) rfl ?_
  refine z_iconst (pc := 2) C dX1_reachOf_2 ?_
  refine z_istore (pc := 3) (lv' := [(4, _), (3, _), (0, _), (1, _), (2, _)]) C dX1_reachOf_3 (by decide) rfl ?_
  refine z_sub C [2, 3, 4, 1, 0] rfl ?_
  exact L5 _ 0 0 (Nat.lt_succ_self _) ⟨by omega, rfl⟩
set_option maxHeartbeats 4000000 in
set_option maxRecDepth 100000 in
theorem c_X1_isWet (l : Launch) (G : zGt) (σ : zMem) (o n : Nat) (y w : Int) (K R V E : Nat → Int) (hL : zLane o) (h : zLa σ o n y w K R V E) (hr : zLr K R V E) (hn : n ≤ 6) (i : Nat) (p : Int) (hp : p = i) (hi : i < n) (rain : Int) (hx : 0 ≤ rain ∧ rain ≤ 1000) : zN l G yX1_isWet cX1_isWet 3 (some .boolean) 2 [.ref (zB G + o), .int (zI p), .int (zI rain)] σ (zPi (fun x τ => x = zwp R rain i ∧ σ = τ)) := by
  obtain ⟨k0, b1, b3, b5, b7, k8⟩ := id hL
  have kk1 := b1.1
  have kk3 := b3.1
  have kk5 := b5.1
  have kk7 := b7.1
  obtain ⟨s4, s5, s6, sA⟩ := id h
  have hri := hr i
  have hA := sA i (by omega)
  refine zM.of (lv0 := [(0, _), (1, _), (2, _)]) (by decide) (Nat.le_of_ble_eq_true rfl) rfl (fun X C => ?_)
  refine z_aload_n (pc := 0) C dX1_isWet_0 rfl 0 rfl ?_
  refine z_getR (pc := 1) C (o + 3) fl_X1_20 dX1_isWet_1 (by first | rfl | assumption) (by omega) rfl (Or.inl rfl) ?_
  refine z_iload_n (pc := 4) C dX1_isWet_4 rfl 1 rfl ?_
  refine z_Vi (pc := 5) C (c_X6_atv l G _ _ _ (i) _ (R i) (by first | assumption | omega | decide) (hp) (by first | assumption | omega | decide) (hA.2.1)) ml_X1_56 yw_X6_at dX1_isWet_5 (by first | rfl | assumption) (by omega) rfl rfl rfl (Nat.le_of_ble_eq_true rfl) ⟨by decide, by decide⟩ (fun r5 t5 h5 q5 => ?_)
  obtain ⟨rfl, rfl⟩ := q5
  refine z_aload_n (pc := 8) C dX1_isWet_8 rfl 0 rfl ?_
  refine z_iload_n (pc := 9) C dX1_isWet_9 rfl 1 rfl ?_
  refine z_iload_n (pc := 10) C dX1_isWet_10 rfl 2 rfl ?_
  refine z_Vi (pc := 11) C (c_X1_reachOf l G _ _ _ _ _ _ _ _ _ (by first | assumption | omega | decide) (by first | assumption | omega | decide) (by first | assumption | omega | decide) (by first | assumption | omega | decide) (i) _ _ (hp) (by first | assumption | omega | decide) (by first | assumption | omega | decide)) ml_X1_67 yw_X1_reachOf dX1_isWet_11 (by first | rfl | assumption) (by omega) rfl rfl rfl (Nat.le_of_ble_eq_true rfl) ⟨by decide, by decide⟩ (fun r11 t11 h11 q11 => ?_)
  obtain ⟨rfl, rfl⟩ := q11
  refine z_icmp_ge (pc := 14) (tgt := 21) C dX1_isWet_14 (by decide) ⟨by omega, by omega⟩ (fun c14 => ?_) (fun c14 => ?_)
  · refine z_iconst (pc := 21) C dX1_isWet_21 ?_
    refine z_zret (pc := 22) C dX1_isWet_22 (by omega) ?_
    exact ⟨_, rfl, by omega, (by first | exact (zwp_1 (by omega)).symm | exact (zwp_0 (by omega)).symm), rfl⟩
  · refine z_iconst (pc := 17) C dX1_isWet_17 ?_
    refine z_goto (pc := 18) (tgt := 22) C dX1_isWet_18 (by decide) ?_
    refine z_zret (pc := 22) C dX1_isWet_22 (by omega) ?_
    exact ⟨_, rfl, by omega, (by first | exact (zwp_1 (by omega)).symm | exact (zwp_0 (by omega)).symm), rfl⟩
set_option maxHeartbeats 4000000 in
set_option maxRecDepth 100000 in
theorem c_X1_wetBits (l : Launch) (G : zGt) (σ : zMem) (o n : Nat) (y w : Int) (K R V E : Nat → Int) (hL : zLane o) (h : zLa σ o n y w K R V E) (hr : zLr K R V E) (hn : n ≤ 6) (rain : Int) (hx : 0 ≤ rain ∧ rain ≤ 1000) : zN l G yX1_wetBits cX1_wetBits 6 (some .int) 1 [.ref (zB G + o), .int (zI rain)] σ (zPi (fun x τ => x = zbs (zwp R rain) n ∧ σ = τ)) := by
  obtain ⟨k0, b1, b3, b5, b7, k8⟩ := id hL
  have kk1 := b1.1
  have kk3 := b3.1
  have kk5 := b5.1
  have kk7 := b7.1
  obtain ⟨s4, s5, s6, sA⟩ := id h
  refine zM.of (lv0 := [(0, _), (1, _)]) (by decide) (Nat.le_of_ble_eq_true rfl) rfl (fun X C => ?_)
  have L7 : ∀ (fuel : Nat) (i : Nat) (b s : Int), n - i < fuel → (i ≤ n ∧ b = zbs (zwp R rain) i ∧ s = zsh R i) → zg G X true 6 129 0 0 7 [(0, .ref (zB G + o)), (1, .int (zI rain)), (2, .int (zI b)), (3, .int (zI s)), (4, .int (zI (i : Int)))] [] σ := by
    intro fuel
    induction fuel with
    | zero => intro i b s hm; exact absurd hm (Nat.not_lt_zero _)
    | succ fuel ih =>
      intro i b s hms hinv
      obtain ⟨h1, rfl, rfl⟩ := hinv
      have hb := zbs_bd (p := zwp R rain) (zwp_bd R rain) i
      have hs := zsh_bd R i
      have hq := zpow6 i (by omega)
      refine z_iload (pc := 7) C dX1_wetBits_7 4 rfl ?_
      refine z_aload_n (pc := 9) C dX1_wetBits_9 rfl 0 rfl ?_
      refine z_getI (pc := 10) C fl_X1_29 dX1_wetBits_10 (by first | rfl | assumption) (by omega) (fun g10 => ?_)
      refine z_icmp_ge (pc := 13) (tgt := 60) C dX1_wetBits_13 (by decide) ⟨by omega, by omega⟩ (fun c13 => ?_) (fun c13 => ?_)
      · refine z_iload_n (pc := 60) C dX1_wetBits_60 rfl 2 rfl ?_
        refine z_iret (pc := 61) C dX1_wetBits_61 ?_
        obtain rfl : i = n := by omega
        exact ⟨_, rfl, by omega, rfl, rfl⟩
      · have hri := hr i
        have hA := sA i (by omega)
        refine z_aload_n (pc := 16) C dX1_wetBits_16 rfl 0 rfl ?_
        refine z_getR (pc := 17) C (o + 3) fl_X1_20 dX1_wetBits_17 (by first | rfl | assumption) (by omega) rfl (Or.inl rfl) ?_
        refine z_iload (pc := 20) C dX1_wetBits_20 4 rfl ?_
        refine z_Vi (pc := 22) C (c_X6_atv l G _ _ _ (i) _ (R i) (by first | assumption | omega | decide) rfl (by first | assumption | omega | decide) (hA.2.1)) ml_X1_56 yw_X6_at dX1_wetBits_22 (by first | rfl | assumption) (by omega) rfl rfl rfl (Nat.le_of_ble_eq_true rfl) ⟨by decide, by decide⟩ (fun r22 t22 h22 q22 => ?_)
        obtain ⟨rfl, rfl⟩ := q22
        refine z_istore (pc := 25) (lv' := [(5, _), (0, _), (1, _), (2, _), (3, _), (4, _)]) C dX1_wetBits_25 (by decide) rfl ?_
        refine z_iload (pc := 27) C dX1_wetBits_27 0 rfl ?_
        refine z_iload_n (pc := 29) C dX1_wetBits_29 rfl 2 rfl ?_
        refine z_iload_n (pc := 30) C dX1_wetBits_30 rfl 4 rfl ?_
        refine z_Si (pc := 31) C (c_X9_rainBehind l G _ _ _ (by first | assumption | omega | decide) (by first | assumption | omega | decide)) ml_X1_64 ys_X9_rainBehind dX1_wetBits_31 rfl rfl (Nat.le_of_ble_eq_true rfl) ⟨by decide, by decide⟩ (fun r31 t31 h31 q31 => ?_)
        obtain ⟨rfl, rfl⟩ := q31
        refine z_icmp_ge (pc := 34) (tgt := 44) C dX1_wetBits_34 (by decide) ⟨by omega, by omega⟩ (fun c34 => ?_) (fun c34 => ?_)
        · refine z_iload (pc := 44) C dX1_wetBits_44 0 rfl ?_
          refine z_bipush (pc := 46) C dX1_wetBits_46 (by decide +kernel) ?_
          refine z_icmp_lt (pc := 48) (tgt := 54) C dX1_wetBits_48 (by decide) ⟨by omega, by omega⟩ (fun c48 => ?_) (fun c48 => ?_)
          · refine z_iinc (pc := 54) (lv' := [(4, _), (5, _), (0, _), (1, _), (2, _), (3, _)]) C dX1_wetBits_54 5 rfl (by decide) rfl ?_
            refine z_goto (pc := 57) (tgt := 7) C dX1_wetBits_57 (by decide) ?_
            refine z_sub C [2, 3, 4, 5, 0] rfl ?_
            exact ih (i + 1) _ _ (by omega) ⟨by omega, (by first | exact (zbs_s1 (zwp_1 (by omega))).symm | exact (zbs_s0 (zwp_0 (by omega))).symm), (by first | exact (zsh_s1 (by omega)).symm | exact (zsh_s0 (by omega)).symm)⟩
          · refine z_iinc (pc := 51) (lv' := [(3, _), (5, _), (0, _), (1, _), (2, _), (4, _)]) C dX1_wetBits_51 4 rfl (by decide) rfl ?_
            refine z_iinc (pc := 54) (lv' := [(4, _), (3, _), (5, _), (0, _), (1, _), (2, _)]) C dX1_wetBits_54 5 rfl (by decide) rfl ?_
            refine z_goto (pc := 57) (tgt := 7) C dX1_wetBits_57 (by decide) ?_
            refine z_sub C [3, 4, 5, 1, 0] rfl ?_
            exact ih (i + 1) _ _ (by omega) ⟨by omega, (by first | exact (zbs_s1 (zwp_1 (by omega))).symm | exact (zbs_s0 (zwp_0 (by omega))).symm), (by first | exact (zsh_s1 (by omega)).symm | exact (zsh_s0 (by omega)).symm)⟩
        · refine z_iload_n (pc := 37) C dX1_wetBits_37 rfl 3 rfl ?_
          refine z_iconst (pc := 38) C dX1_wetBits_38 ?_
          refine z_iload (pc := 39) C dX1_wetBits_39 5 rfl ?_
          refine z_ishl (pc := 41) (r := 2 ^ i) C dX1_wetBits_41 (zshl_n i (by omega)) ?_
          refine z_ior (pc := 42) (r := zbs (zwp R rain) i + 2 ^ i) C dX1_wetBits_42 (zor_i (by omega) hb.1 hb.2) ?_
          refine z_istore_n (pc := 43) (lv' := [(2, _), (5, _), (0, _), (1, _), (3, _), (4, _)]) C dX1_wetBits_43 rfl (by decide) rfl ?_
          refine z_iload (pc := 44) C dX1_wetBits_44 1 rfl ?_
          refine z_bipush (pc := 46) C dX1_wetBits_46 (by decide +kernel) ?_
          refine z_icmp_lt (pc := 48) (tgt := 54) C dX1_wetBits_48 (by decide) ⟨by omega, by omega⟩ (fun c48 => ?_) (fun c48 => ?_)
          · refine z_iinc (pc := 54) (lv' := [(4, _), (2, _), (5, _), (0, _), (1, _), (3, _)]) C dX1_wetBits_54 5 rfl (by decide) rfl ?_
            refine z_goto (pc := 57) (tgt := 7) C dX1_wetBits_57 (by decide) ?_
            refine z_sub C [3, 4, 1, 5, 0] rfl ?_
            exact ih (i + 1) _ _ (by omega) ⟨by omega, (by first | exact (zbs_s1 (zwp_1 (by omega))).symm | exact (zbs_s0 (zwp_0 (by omega))).symm), (by first | exact (zsh_s1 (by omega)).symm | exact (zsh_s0 (by omega)).symm)⟩
          · refine z_iinc (pc := 51) (lv' := [(3, _), (2, _), (5, _), (0, _), (1, _), (4, _)]) C dX1_wetBits_51 4 rfl (by decide) rfl ?_
            refine z_iinc (pc := 54) (lv' := [(4, _), (3, _), (2, _), (5, _), (0, _), (1, _)]) C dX1_wetBits_54 5 rfl (by decide) rfl ?_
            refine z_goto (pc := 57) (tgt := 7) C dX1_wetBits_57 (by decide) ?_
            refine z_sub C [4, 5, 2, 1, 0] rfl ?_
            exact ih (i + 1) _ _ (by omega) ⟨by omega, (by first | exact (zbs_s1 (zwp_1 (by omega))).symm | exact (zbs_s0 (zwp_0 (by omega))).symm), (by first | exact (zsh_s1 (by omega)).symm | exact (zsh_s0 (by omega)).symm)⟩
  refine z_iconst (pc := 0) C dX1_wetBits_0 ?_
  refine z_istore_n (pc := 1) (lv' := [(2, _), (0, _), (1, _)]) C dX1_wetBits_1 rfl (by decide) rfl ?_
  refine z_iconst (pc := 2) C dX1_wetBits_2 ?_
  refine z_istore_n (pc := 3) (lv' := [(3, _), (2, _), (0, _), (1, _)]) C dX1_wetBits_3 rfl (by decide) rfl ?_
  refine z_iconst (pc := 4) C dX1_wetBits_4 ?_
  refine z_istore (pc := 5) (lv' := [(4, _), (3, _), (2, _), (0, _), (1, _)]) C dX1_wetBits_5 (by decide) rfl ?_
  refine z_sub C [3, 4, 2, 1, 0] rfl ?_
  exact L7 _ 0 0 0 (Nat.lt_succ_self _) ⟨by omega, rfl, rfl⟩
set_option maxHeartbeats 4000000 in
set_option maxRecDepth 100000 in
theorem c_X1_rainOn (l : Launch) (G : zGt) (σ : zMem) (o n : Nat) (y w : Int) (K R V E : Nat → Int) (hL : zLane o) (h : zLa σ o n y w K R V E) (hr : zLr K R V E) (hn : n ≤ 6) (rain : Int) (hx : 0 ≤ rain ∧ rain ≤ 1000) (hw : 0 ≤ w ∧ w ≤ 1000000) : zN l G yX1_rainOn cX1_rainOn 5 (some .int) 2 [.ref (zB G + o), .int (zI rain)] σ (zPi (fun x τ => x = zsum (zwp R rain) n ∧ zLa τ o n y (w + zsum (zwp R rain) n) K R (zrV R V rain) E ∧ zFr o (o + 9) σ τ)) := by
  obtain ⟨k0, b1, b3, b5, b7, k8⟩ := id hL
  have kk1 := b1.1
  have kk3 := b3.1
  have kk5 := b5.1
  have kk7 := b7.1
  obtain ⟨s4, s5, s6, sA⟩ := id h
  refine zM.of (lv0 := [(0, _), (1, _)]) (by decide) (Nat.le_of_ble_eq_true rfl) rfl (fun X C => ?_)
  have hb := zbs_bd (p := zwp R rain) (zwp_bd R rain) n
  have hq := zpow6 n (by omega)
  have L11 : ∀ (fuel : Nat) (i : Nat) (m : Int) (τ : zMem), n - i < fuel → (i ≤ n ∧ m = zsum (zwp R rain) i ∧ zLa τ o n y w K R (fun j => if j < i then zrV R V rain j else V j) E ∧ zFr o (o + 9) σ τ) → zg G X true 5 129 0 0 11 [(0, .ref (zB G + o)), (1, .int (zI rain)), (2, .int (zI (zbs (zwp R rain) n))), (3, .int (zI m)), (4, .int (zI (i : Int)))] [] τ := by
    intro fuel
    induction fuel with
    | zero => intro i m τ hm; exact absurd hm (Nat.not_lt_zero _)
    | succ fuel ih =>
      intro i m τ hms hinv
      obtain ⟨h1, rfl, h2, h3⟩ := hinv
      obtain ⟨s4, s5, s6, sA⟩ := id h2
      have hm := zsum_bd (f := zwp R rain) (c := 1) (n := i) (fun j _ => zwp_bd R rain j)
      refine z_iload (pc := 11) C dX1_rainOn_11 4 rfl ?_
      refine z_aload_n (pc := 13) C dX1_rainOn_13 rfl 0 rfl ?_
      refine z_getI (pc := 14) C fl_X1_29 dX1_rainOn_14 (by first | rfl | assumption) (by omega) (fun g14 => ?_)
      refine z_icmp_ge (pc := 17) (tgt := 64) C dX1_rainOn_17 (by decide) ⟨by omega, by omega⟩ (fun c17 => ?_) (fun c17 => ?_)
      · refine z_aload_n (pc := 64) C dX1_rainOn_64 rfl 0 rfl ?_
        refine z_dup (pc := 65) C dX1_rainOn_65 rfl ?_
        refine z_getI (pc := 66) C fl_X1_36 dX1_rainOn_66 (by first | rfl | assumption) (by omega) (fun g66 => ?_)
        refine z_iload_n (pc := 69) C dX1_rainOn_69 rfl 3 rfl ?_
        refine z_iadd (pc := 70) C dX1_rainOn_70 ?_
        refine z_putIe (pc := 71) C fl_X1_36 dX1_rainOn_71 (by first | rfl | assumption) (by omega) (by omega) (fun m71 em71 => ?_)
        refine z_iload_n (pc := 74) C dX1_rainOn_74 rfl 3 rfl ?_
        refine z_iret (pc := 75) C dX1_rainOn_75 ?_
        obtain rfl : i = n := by omega
        refine ⟨_, rfl, by omega, rfl, by rw [em71, s6]; exact h2.putW.ext rfl rfl (fun j hj => ⟨rfl, rfl, if_pos hj, rfl⟩), by rw [em71]; exact h3.put (by omega) (by omega)⟩
      · have hri := hr i
        have hA : τ (o + 6) i = V i := by have := (sA i (by omega)).2.2.1; simpa using this
        have hz := zwp_bd R rain i
        refine z_iload_n (pc := 20) C dX1_rainOn_20 rfl 2 rfl ?_
        refine z_iload (pc := 21) C dX1_rainOn_21 4 rfl ?_
        refine z_ishr (pc := 23) (r := zbs (zwp R rain) n / 2 ^ i) C dX1_rainOn_23 (zshr_i (by omega) hb.1 (by omega)) ?_
        refine z_iconst (pc := 24) C dX1_rainOn_24 ?_
        refine z_iand (pc := 25) (r := zbs (zwp R rain) n / 2 ^ i % 2) C dX1_rainOn_25 (zand1_i (zdiv_bd i hb.1 (by omega)).1 (zdiv_bd i hb.1 (by omega)).2) ?_
        rw [zbs_bit (zwp_bd R rain) n i (by omega)]
        refine z_iconst (pc := 26) C dX1_rainOn_26 ?_
        refine z_icmp_ne (pc := 27) (tgt := 58) C dX1_rainOn_27 (by decide) ⟨by omega, by omega⟩ (fun c27 => ?_) (fun c27 => ?_)
        · refine z_iinc (pc := 58) (lv' := [(4, _), (0, _), (1, _), (2, _), (3, _)]) C dX1_rainOn_58 4 rfl (by decide) rfl ?_
          refine z_goto (pc := 61) (tgt := 11) C dX1_rainOn_61 (by decide) ?_
          refine z_sub C [1, 2, 3, 4, 0] rfl ?_
          exact ih (i + 1) _ _ (by omega) ⟨by omega, (by first | exact (zsum_s c27).symm | (rw [zsum_s (show zwp R rain i = 0 by omega)]; omega)), (by first | exact h2.putV.ext rfl rfl (fun j hj => ⟨rfl, rfl, by have := zup_s (a := zrV R V rain) (b := V) (i := i) j; rw [← this]; unfold zrV; rw [if_pos c27], rfl⟩) | exact h2.ext rfl rfl (fun j hj => ⟨rfl, rfl, zif_n (by unfold zrV; rw [if_neg c27]) j, rfl⟩)), (by first | exact h3.put (by omega) (by omega) | exact h3)⟩
        · refine z_iinc (pc := 30) (lv' := [(3, _), (0, _), (1, _), (2, _), (4, _)]) C dX1_rainOn_30 3 rfl (by decide) rfl ?_
          refine z_aload_n (pc := 33) C dX1_rainOn_33 rfl 1 rfl ?_
          refine z_getR (pc := 34) C (o + 5) fl_X1_23 dX1_rainOn_34 (by first | rfl | assumption) (by omega) rfl (Or.inl rfl) ?_
          refine z_iload (pc := 37) C dX1_rainOn_37 4 rfl ?_
          refine z_aload_n (pc := 39) C dX1_rainOn_39 rfl 1 rfl ?_
          refine z_getR (pc := 40) C (o + 5) fl_X1_23 dX1_rainOn_40 (by first | rfl | assumption) (by omega) rfl (Or.inl rfl) ?_
          refine z_iload (pc := 43) C dX1_rainOn_43 4 rfl ?_
          refine z_Vi (pc := 45) C (c_X6_atv l G _ _ _ (i) _ (V i) (by first | assumption | omega | decide) rfl (by first | assumption | omega | decide) (hA)) ml_X1_56 yw_X6_at dX1_rainOn_45 (by first | rfl | assumption) (by omega) rfl rfl rfl (Nat.le_of_ble_eq_true rfl) ⟨by decide, by decide⟩ (fun r45 t45 h45 q45 => ?_)
          obtain ⟨rfl, rfl⟩ := q45
          refine z_iconst (pc := 48) C dX1_rainOn_48 ?_
          refine z_iadd (pc := 49) C dX1_rainOn_49 ?_
          refine z_bipush (pc := 50) C dX1_rainOn_50 (by decide +kernel) ?_
          refine z_min (pc := 52) C ml_X1_39 jw_min dX1_rainOn_52 ⟨⟨by decide, Nat.le_of_ble_eq_true rfl⟩, by decide, by decide⟩ ⟨by omega, by omega⟩ ?_
          refine z_Vv (pc := 55) C (c_X6_put l G _ _ _ (i) _ _ (by first | assumption | omega | decide) rfl (by first | assumption | omega | decide) (by split <;> omega)) ml_X1_48 yw_X6_put dX1_rainOn_55 (by first | rfl | assumption) (by omega) rfl rfl rfl (Nat.le_of_ble_eq_true rfl) ⟨by decide, by decide⟩ (fun t55 q55 => ?_)
          obtain rfl := q55
          refine z_iinc (pc := 58) (lv' := [(4, _), (3, _), (0, _), (1, _), (2, _)]) C dX1_rainOn_58 4 rfl (by decide) rfl ?_
          refine z_goto (pc := 61) (tgt := 11) C dX1_rainOn_61 (by decide) ?_
          refine z_sub C [2, 3, 4, 1, 0] rfl ?_
          exact ih (i + 1) _ _ (by omega) ⟨by omega, (by first | exact (zsum_s c27).symm | (rw [zsum_s (show zwp R rain i = 0 by omega)]; omega)), (by first | exact h2.putV.ext rfl rfl (fun j hj => ⟨rfl, rfl, by have := zup_s (a := zrV R V rain) (b := V) (i := i) j; rw [← this]; unfold zrV; rw [if_pos c27], rfl⟩) | exact h2.ext rfl rfl (fun j hj => ⟨rfl, rfl, zif_n (by unfold zrV; rw [if_neg c27]) j, rfl⟩)), (by first | exact h3.put (by omega) (by omega) | exact h3)⟩
  refine z_aload_n (pc := 0) C dX1_rainOn_0 rfl 0 rfl ?_
  refine z_iload_n (pc := 1) C dX1_rainOn_1 rfl 1 rfl ?_
  refine z_Vi (pc := 2) C (c_X1_wetBits l G _ _ _ _ _ _ _ _ _ (by first | assumption | omega | decide) (by first | assumption | omega | decide) (by first | assumption | omega | decide) (by first | assumption | omega | decide) _ (by first | assumption | omega | decide)) ml_X1_70 yw_X1_wetBits dX1_rainOn_2 (by first | rfl | assumption) (by omega) rfl rfl rfl (Nat.le_of_ble_eq_true rfl) ⟨by decide, by decide⟩ (fun r2 t2 h2 q2 => ?_)
  obtain ⟨rfl, rfl⟩ := q2
  refine z_istore_n (pc := 5) (lv' := [(2, _), (0, _), (1, _)]) C dX1_rainOn_5 rfl (by decide) rfl ?_
  refine z_iconst (pc := 6) C dX1_rainOn_6 ?_
  refine z_istore_n (pc := 7) (lv' := [(3, _), (2, _), (0, _), (1, _)]) C dX1_rainOn_7 rfl (by decide) rfl ?_
  refine z_iconst (pc := 8) C dX1_rainOn_8 ?_
  refine z_istore (pc := 9) (lv' := [(4, _), (3, _), (2, _), (0, _), (1, _)]) C dX1_rainOn_9 (by decide) rfl ?_
  refine z_sub C [3, 4, 2, 1, 0] rfl ?_
  exact L11 _ 0 0 σ (Nat.lt_succ_self _) ⟨by omega, rfl, h.ext rfl rfl (fun j hj => ⟨rfl, rfl, rfl, rfl⟩), zFr.rf⟩
set_option maxHeartbeats 4000000 in
set_option maxRecDepth 100000 in
theorem c_X1_rainsBorne (l : Launch) (G : zGt) (σ : zMem) (o n : Nat) (y w : Int) (K R V E : Nat → Int) (hL : zLane o) (h : zLa σ o n y w K R V E) (hr : zLr K R V E) (hn : n ≤ 6) (i : Nat) (p : Int) (hp : p = i) (hi : i < n) : zN l G yX1_rainsBorne cX1_rainsBorne 4 (some .int) 3 [.ref (zB G + o), .int (zI p)] σ (zPi (fun x τ => x = zdr R i 10 ∧ σ = τ)) := by
  obtain ⟨k0, b1, b3, b5, b7, k8⟩ := id hL
  have kk1 := b1.1
  have kk3 := b3.1
  have kk5 := b5.1
  have kk7 := b7.1
  obtain ⟨s4, s5, s6, sA⟩ := id h
  refine zM.of (lv0 := [(0, _), (1, _)]) (by decide) (Nat.le_of_ble_eq_true rfl) rfl (fun X C => ?_)
  have L4 : ∀ (fuel : Nat) (j : Nat) (m : Int), 10 - j < fuel → (j ≤ 10 ∧ m = zdr R i j) → zg G X true 4 129 0 0 4 [(0, .ref (zB G + o)), (1, .int (zI p)), (2, .int (zI m)), (3, .int (zI (j : Int)))] [] σ := by
    intro fuel
    induction fuel with
    | zero => intro j m hm; exact absurd hm (Nat.not_lt_zero _)
    | succ fuel ih =>
      intro j m hms hinv
      obtain ⟨h1, rfl⟩ := hinv
      have hd := zdr_bd R i j
      have hz := zwp_bd R (j : Int) i
      refine z_iload_n (pc := 4) C dX1_rainsBorne_4 rfl 3 rfl ?_
      refine z_bipush (pc := 5) C dX1_rainsBorne_5 (by decide +kernel) ?_
      refine z_icmp_gt (pc := 7) (tgt := 28) C dX1_rainsBorne_7 (by decide) ⟨by omega, by omega⟩ (fun c7 => ?_) (fun c7 => ?_)
      · refine z_iload_n (pc := 28) C dX1_rainsBorne_28 rfl 2 rfl ?_
        refine z_iret (pc := 29) C dX1_rainsBorne_29 ?_
        obtain rfl : j = 10 := by omega
        exact ⟨_, rfl, by omega, rfl, rfl⟩
      · refine z_aload_n (pc := 10) C dX1_rainsBorne_10 rfl 0 rfl ?_
        refine z_iload_n (pc := 11) C dX1_rainsBorne_11 rfl 1 rfl ?_
        refine z_iload_n (pc := 12) C dX1_rainsBorne_12 rfl 3 rfl ?_
        refine z_Vi (pc := 13) C (c_X1_isWet l G _ _ _ _ _ _ _ _ _ (by first | assumption | omega | decide) (by first | assumption | omega | decide) (by first | assumption | omega | decide) (by first | assumption | omega | decide) (i) _ (hp) (by first | assumption | omega | decide) _ (by first | assumption | omega | decide)) ml_X1_73 yw_X1_isWet dX1_rainsBorne_13 (by first | rfl | assumption) (by omega) rfl rfl rfl (Nat.le_of_ble_eq_true rfl) ⟨by decide, by decide⟩ (fun r13 t13 h13 q13 => ?_)
        obtain ⟨rfl, rfl⟩ := q13
        refine z_if_ne (pc := 16) (tgt := 22) C dX1_rainsBorne_16 (by decide) (by omega) (fun c16 => ?_) (fun c16 => ?_)
        · refine z_iinc (pc := 22) (lv' := [(3, _), (0, _), (1, _), (2, _)]) C dX1_rainsBorne_22 3 rfl (by decide) rfl ?_
          refine z_goto (pc := 25) (tgt := 4) C dX1_rainsBorne_25 (by decide) ?_
          refine z_sub C [1, 2, 3, 0] rfl ?_
          exact ih (j + 1) _ (by omega) ⟨by omega, by unfold zdr; rw [zsum]; omega⟩
        · refine z_iinc (pc := 19) (lv' := [(2, _), (0, _), (1, _), (3, _)]) C dX1_rainsBorne_19 2 rfl (by decide) rfl ?_
          refine z_iinc (pc := 22) (lv' := [(3, _), (2, _), (0, _), (1, _)]) C dX1_rainsBorne_22 3 rfl (by decide) rfl ?_
          refine z_goto (pc := 25) (tgt := 4) C dX1_rainsBorne_25 (by decide) ?_
          refine z_sub C [2, 3, 1, 0] rfl ?_
          exact ih (j + 1) _ (by omega) ⟨by omega, by unfold zdr; rw [zsum]; omega⟩
  refine z_iconst (pc := 0) C dX1_rainsBorne_0 ?_
  refine z_istore_n (pc := 1) (lv' := [(2, _), (0, _), (1, _)]) C dX1_rainsBorne_1 rfl (by decide) rfl ?_
  refine z_iconst (pc := 2) C dX1_rainsBorne_2 ?_
  refine z_istore_n (pc := 3) (lv' := [(3, _), (2, _), (0, _), (1, _)]) C dX1_rainsBorne_3 rfl (by decide) rfl ?_
  refine z_sub C [2, 3, 1, 0] rfl ?_
  exact L4 _ 0 0 (Nat.lt_succ_self _) ⟨by omega, rfl⟩
set_option maxHeartbeats 4000000 in
set_option maxRecDepth 100000 in
theorem c_X1_cheerUp (l : Launch) (G : zGt) (σ : zMem) (o n : Nat) (y w : Int) (K R V E : Nat → Int) (hL : zLane o) (h : zLa σ o n y w K R V E) (hr : zLr K R V E) (hn : n ≤ 6) (i : Nat) (p : Int) (hp : p = i) (hi : i < n) : zN l G yX1_cheerUp cX1_cheerUp 2 (none) 1 [.ref (zB G + o), .int (zI p)] σ (zPv (fun τ => zLa τ o n y w K R (zup V i (if 0 < V i - 2 then V i - 2 else 0)) E ∧ zFr o (o + 9) σ τ)) := by
  obtain ⟨k0, b1, b3, b5, b7, k8⟩ := id hL
  have kk1 := b1.1
  have kk3 := b3.1
  have kk5 := b5.1
  have kk7 := b7.1
  obtain ⟨s4, s5, s6, sA⟩ := id h
  have hri := hr i
  have hA := sA i (by omega)
  refine zM.of (lv0 := [(0, _), (1, _)]) (by decide) (Nat.le_of_ble_eq_true rfl) rfl (fun X C => ?_)
  refine z_aload_n (pc := 0) C dX1_cheerUp_0 rfl 0 rfl ?_
  refine z_getR (pc := 1) C (o + 5) fl_X1_23 dX1_cheerUp_1 (by first | rfl | assumption) (by omega) rfl (Or.inl rfl) ?_
  refine z_iload_n (pc := 4) C dX1_cheerUp_4 rfl 1 rfl ?_
  refine z_aload_n (pc := 5) C dX1_cheerUp_5 rfl 0 rfl ?_
  refine z_getR (pc := 6) C (o + 5) fl_X1_23 dX1_cheerUp_6 (by first | rfl | assumption) (by omega) rfl (Or.inl rfl) ?_
  refine z_iload_n (pc := 9) C dX1_cheerUp_9 rfl 1 rfl ?_
  refine z_Vi (pc := 10) C (c_X6_atv l G _ _ _ (i) _ (V i) (by first | assumption | omega | decide) (hp) (by first | assumption | omega | decide) (hA.2.2.1)) ml_X1_56 yw_X6_at dX1_cheerUp_10 (by first | rfl | assumption) (by omega) rfl rfl rfl (Nat.le_of_ble_eq_true rfl) ⟨by decide, by decide⟩ (fun r10 t10 h10 q10 => ?_)
  obtain ⟨rfl, rfl⟩ := q10
  refine z_iconst (pc := 13) C dX1_cheerUp_13 ?_
  refine z_isub (pc := 14) C dX1_cheerUp_14 ?_
  refine z_iconst (pc := 15) C dX1_cheerUp_15 ?_
  refine z_max (pc := 16) C ml_X1_45 jw_max dX1_cheerUp_16 ⟨⟨by decide, Nat.le_of_ble_eq_true rfl⟩, by decide, by decide⟩ ⟨by omega, by omega⟩ ?_
  rw [show (if V i - 2 < 0 then (0 : Int) else V i - 2) = if 0 < V i - 2 then V i - 2 else 0 by split <;> split <;> omega]
  refine z_Vv (pc := 19) C (c_X6_put l G _ _ _ (i) _ _ (by first | assumption | omega | decide) (hp) (by first | assumption | omega | decide) (by split <;> omega)) ml_X1_48 yw_X6_put dX1_cheerUp_19 (by first | rfl | assumption) (by omega) rfl rfl rfl (Nat.le_of_ble_eq_true rfl) ⟨by decide, by decide⟩ (fun t19 q19 => ?_)
  obtain rfl := q19
  refine z_vret (pc := 22) C dX1_cheerUp_22 ?_
  exact ⟨rfl, h.putV, zFr.rf.put (by omega) (by omega)⟩
set_option maxHeartbeats 4000000 in
set_option maxRecDepth 100000 in
theorem c_X1_canBeCombed (l : Launch) (G : zGt) (σ : zMem) (o n : Nat) (y w : Int) (K R V E : Nat → Int) (hL : zLane o) (h : zLa σ o n y w K R V E) (hr : zLr K R V E) (hn : n ≤ 6) (i : Nat) (p : Int) (hp : p = i) (hi : i < n) : zN l G yX1_canBeCombed cX1_canBeCombed 2 (some .boolean) 1 [.ref (zB G + o), .int (zI p)] σ (zPi (fun x τ => x = (if E i = 0 ∧ 2 ≤ R i then 1 else 0) ∧ σ = τ)) := by
  obtain ⟨k0, b1, b3, b5, b7, k8⟩ := id hL
  have kk1 := b1.1
  have kk3 := b3.1
  have kk5 := b5.1
  have kk7 := b7.1
  obtain ⟨s4, s5, s6, sA⟩ := id h
  have hri := hr i
  have hA := sA i (by omega)
  refine zM.of (lv0 := [(0, _), (1, _)]) (by decide) (Nat.le_of_ble_eq_true rfl) rfl (fun X C => ?_)
  refine z_aload_n (pc := 0) C dX1_canBeCombed_0 rfl 0 rfl ?_
  refine z_getR (pc := 1) C (o + 7) fl_X1_26 dX1_canBeCombed_1 (by first | rfl | assumption) (by omega) rfl (Or.inl rfl) ?_
  refine z_iload_n (pc := 4) C dX1_canBeCombed_4 rfl 1 rfl ?_
  refine z_Vi (pc := 5) C (c_X6_atv l G _ _ _ (i) _ (E i) (by first | assumption | omega | decide) (hp) (by first | assumption | omega | decide) (hA.2.2.2)) ml_X1_56 yw_X6_at dX1_canBeCombed_5 (by first | rfl | assumption) (by omega) rfl rfl rfl (Nat.le_of_ble_eq_true rfl) ⟨by decide, by decide⟩ (fun r5 t5 h5 q5 => ?_)
  obtain ⟨rfl, rfl⟩ := q5
  refine z_if_ne (pc := 8) (tgt := 27) C dX1_canBeCombed_8 (by decide) (by omega) (fun c8 => ?_) (fun c8 => ?_)
  · refine z_iconst (pc := 27) C dX1_canBeCombed_27 ?_
    refine z_zret (pc := 28) C dX1_canBeCombed_28 (by omega) ?_
    exact ⟨_, rfl, by omega, by split <;> omega, rfl⟩
  · refine z_aload_n (pc := 11) C dX1_canBeCombed_11 rfl 0 rfl ?_
    refine z_getR (pc := 12) C (o + 3) fl_X1_20 dX1_canBeCombed_12 (by first | rfl | assumption) (by omega) rfl (Or.inl rfl) ?_
    refine z_iload_n (pc := 15) C dX1_canBeCombed_15 rfl 1 rfl ?_
    refine z_Vi (pc := 16) C (c_X6_atv l G _ _ _ (i) _ (R i) (by first | assumption | omega | decide) (hp) (by first | assumption | omega | decide) (hA.2.1)) ml_X1_56 yw_X6_at dX1_canBeCombed_16 (by first | rfl | assumption) (by omega) rfl rfl rfl (Nat.le_of_ble_eq_true rfl) ⟨by decide, by decide⟩ (fun r16 t16 h16 q16 => ?_)
    obtain ⟨rfl, rfl⟩ := q16
    refine z_iconst (pc := 19) C dX1_canBeCombed_19 ?_
    refine z_icmp_lt (pc := 20) (tgt := 27) C dX1_canBeCombed_20 (by decide) ⟨by omega, by omega⟩ (fun c20 => ?_) (fun c20 => ?_)
    · refine z_iconst (pc := 27) C dX1_canBeCombed_27 ?_
      refine z_zret (pc := 28) C dX1_canBeCombed_28 (by omega) ?_
      exact ⟨_, rfl, by omega, by split <;> omega, rfl⟩
    · refine z_iconst (pc := 23) C dX1_canBeCombed_23 ?_
      refine z_goto (pc := 24) (tgt := 28) C dX1_canBeCombed_24 (by decide) ?_
      refine z_zret (pc := 28) C dX1_canBeCombed_28 (by omega) ?_
      exact ⟨_, rfl, by omega, by split <;> omega, rfl⟩
set_option maxHeartbeats 4000000 in
set_option maxRecDepth 100000 in
theorem c_X1_combOut (l : Launch) (G : zGt) (σ : zMem) (o n : Nat) (y w : Int) (K R V E : Nat → Int) (hL : zLane o) (h : zLa σ o n y w K R V E) (hr : zLr K R V E) (hn : n ≤ 6) (i : Nat) (p : Int) (hp : p = i) (hi : i < n) : zN l G yX1_combOut cX1_combOut 2 (none) 1 [.ref (zB G + o), .int (zI p)] σ (zPv (fun τ => zLa τ o n y w K (zup R i (R i - 2)) V (zup E i 1) ∧ zFr o (o + 9) σ τ)) := by
  obtain ⟨k0, b1, b3, b5, b7, k8⟩ := id hL
  have kk1 := b1.1
  have kk3 := b3.1
  have kk5 := b5.1
  have kk7 := b7.1
  obtain ⟨s4, s5, s6, sA⟩ := id h
  have hri := hr i
  have hA := sA i (by omega)
  refine zM.of (lv0 := [(0, _), (1, _)]) (by decide) (Nat.le_of_ble_eq_true rfl) rfl (fun X C => ?_)
  refine z_aload_n (pc := 0) C dX1_combOut_0 rfl 0 rfl ?_
  refine z_getR (pc := 1) C (o + 3) fl_X1_20 dX1_combOut_1 (by first | rfl | assumption) (by omega) rfl (Or.inl rfl) ?_
  refine z_iload_n (pc := 4) C dX1_combOut_4 rfl 1 rfl ?_
  refine z_aload_n (pc := 5) C dX1_combOut_5 rfl 0 rfl ?_
  refine z_getR (pc := 6) C (o + 3) fl_X1_20 dX1_combOut_6 (by first | rfl | assumption) (by omega) rfl (Or.inl rfl) ?_
  refine z_iload_n (pc := 9) C dX1_combOut_9 rfl 1 rfl ?_
  refine z_Vi (pc := 10) C (c_X6_atv l G _ _ _ (i) _ (R i) (by first | assumption | omega | decide) (hp) (by first | assumption | omega | decide) (hA.2.1)) ml_X1_56 yw_X6_at dX1_combOut_10 (by first | rfl | assumption) (by omega) rfl rfl rfl (Nat.le_of_ble_eq_true rfl) ⟨by decide, by decide⟩ (fun r10 t10 h10 q10 => ?_)
  obtain ⟨rfl, rfl⟩ := q10
  refine z_iconst (pc := 13) C dX1_combOut_13 ?_
  refine z_isub (pc := 14) C dX1_combOut_14 ?_
  refine z_Vv (pc := 15) C (c_X6_put l G _ _ _ (i) _ _ (by first | assumption | omega | decide) (hp) (by first | assumption | omega | decide) (by first | assumption | omega | decide)) ml_X1_48 yw_X6_put dX1_combOut_15 (by first | rfl | assumption) (by omega) rfl rfl rfl (Nat.le_of_ble_eq_true rfl) ⟨by decide, by decide⟩ (fun t15 q15 => ?_)
  obtain rfl := q15
  refine z_aload_n (pc := 18) C dX1_combOut_18 rfl 0 rfl ?_
  refine z_getR (pc := 19) C (o + 7) fl_X1_26 dX1_combOut_19 (by first | rfl | assumption) (by omega) rfl (Or.inl rfl) ?_
  refine z_iload_n (pc := 22) C dX1_combOut_22 rfl 1 rfl ?_
  refine z_iconst (pc := 23) C dX1_combOut_23 ?_
  refine z_Vv (pc := 24) C (c_X6_put l G _ _ _ (i) _ _ (by first | assumption | omega | decide) (hp) (by first | assumption | omega | decide) (by first | assumption | omega | decide)) ml_X1_48 yw_X6_put dX1_combOut_24 (by first | rfl | assumption) (by omega) rfl rfl rfl (Nat.le_of_ble_eq_true rfl) ⟨by decide, by decide⟩ (fun t24 q24 => ?_)
  obtain rfl := q24
  refine z_vret (pc := 27) C dX1_combOut_27 ?_
  exact ⟨rfl, h.putR.putE, (zFr.rf.put (by omega) (by omega)).put (by omega) (by omega)⟩
set_option maxHeartbeats 4000000 in
set_option maxRecDepth 100000 in
theorem c_X1_reedOfAll (l : Launch) (G : zGt) (σ : zMem) (o n : Nat) (y w : Int) (K R V E : Nat → Int) (hL : zLane o) (h : zLa σ o n y w K R V E) (hr : zLr K R V E) (hn : n ≤ 6) : zN l G yX1_reedOfAll cX1_reedOfAll 1 (some .int) 1 [.ref (zB G + o)] σ (zPi (fun x τ => x = zsum R n ∧ σ = τ)) := by
  obtain ⟨k0, b1, b3, b5, b7, k8⟩ := id hL
  have kk1 := b1.1
  have kk3 := b3.1
  have kk5 := b5.1
  have kk7 := b7.1
  obtain ⟨s4, s5, s6, sA⟩ := id h
  refine zM.of (lv0 := [(0, _)]) (by decide) (Nat.le_of_ble_eq_true rfl) rfl (fun X C => ?_)
  refine z_aload_n (pc := 0) C dX1_reedOfAll_0 rfl 0 rfl ?_
  refine z_getR (pc := 1) C (o + 3) fl_X1_20 dX1_reedOfAll_1 (by first | rfl | assumption) (by omega) rfl (Or.inl rfl) ?_
  refine z_aload_n (pc := 4) C dX1_reedOfAll_4 rfl 0 rfl ?_
  refine z_getI (pc := 5) C fl_X1_29 dX1_reedOfAll_5 (by first | rfl | assumption) (by omega) (fun g5 => ?_)
  refine z_Vi (pc := 8) C (c_X6_sumOfFirst l G _ _ _ (n) _ (by first | assumption | omega | decide) (s4) (by first | assumption | omega | decide) (fun i hi => by have h1 := (sA i hi).2.1; have h2 := hr i; rw [show σ (o + 3 + 1) i = R i from h1]; omega)) ml_X1_77 yw_X6_sumOfFirst dX1_reedOfAll_8 (by first | rfl | assumption) (by omega) rfl rfl rfl (Nat.le_of_ble_eq_true rfl) ⟨by decide, by decide⟩ (fun r8 t8 h8 q8 => ?_)
  obtain ⟨rfl, rfl⟩ := q8
  refine z_iret (pc := 11) C dX1_reedOfAll_11 ?_
  have he : ∀ i, i < n → _ = R i := fun i hi => (sA i hi).2.1
  exact ⟨_, rfl, by assumption, zsum_congr he, rfl⟩
set_option maxHeartbeats 4000000 in
set_option maxRecDepth 100000 in
theorem c_X1_worryOfAll (l : Launch) (G : zGt) (σ : zMem) (o n : Nat) (y w : Int) (K R V E : Nat → Int) (hL : zLane o) (h : zLa σ o n y w K R V E) (hr : zLr K R V E) (hn : n ≤ 6) : zN l G yX1_worryOfAll cX1_worryOfAll 1 (some .int) 1 [.ref (zB G + o)] σ (zPi (fun x τ => x = zsum V n ∧ σ = τ)) := by
  obtain ⟨k0, b1, b3, b5, b7, k8⟩ := id hL
  have kk1 := b1.1
  have kk3 := b3.1
  have kk5 := b5.1
  have kk7 := b7.1
  obtain ⟨s4, s5, s6, sA⟩ := id h
  refine zM.of (lv0 := [(0, _)]) (by decide) (Nat.le_of_ble_eq_true rfl) rfl (fun X C => ?_)
  refine z_aload_n (pc := 0) C dX1_worryOfAll_0 rfl 0 rfl ?_
  refine z_getR (pc := 1) C (o + 5) fl_X1_23 dX1_worryOfAll_1 (by first | rfl | assumption) (by omega) rfl (Or.inl rfl) ?_
  refine z_aload_n (pc := 4) C dX1_worryOfAll_4 rfl 0 rfl ?_
  refine z_getI (pc := 5) C fl_X1_29 dX1_worryOfAll_5 (by first | rfl | assumption) (by omega) (fun g5 => ?_)
  refine z_Vi (pc := 8) C (c_X6_sumOfFirst l G _ _ _ (n) _ (by first | assumption | omega | decide) (s4) (by first | assumption | omega | decide) (fun i hi => by have h1 := (sA i hi).2.2.1; have h2 := hr i; rw [show σ (o + 5 + 1) i = V i from h1]; omega)) ml_X1_77 yw_X6_sumOfFirst dX1_worryOfAll_8 (by first | rfl | assumption) (by omega) rfl rfl rfl (Nat.le_of_ble_eq_true rfl) ⟨by decide, by decide⟩ (fun r8 t8 h8 q8 => ?_)
  obtain ⟨rfl, rfl⟩ := q8
  refine z_iret (pc := 11) C dX1_worryOfAll_11 ?_
  have he : ∀ i, i < n → _ = V i := fun i hi => (sA i hi).2.2.1
  exact ⟨_, rfl, by assumption, zsum_congr he, rfl⟩
set_option maxHeartbeats 4000000 in
set_option maxRecDepth 100000 in
theorem c_X1_howManyCombed (l : Launch) (G : zGt) (σ : zMem) (o n : Nat) (y w : Int) (K R V E : Nat → Int) (hL : zLane o) (h : zLa σ o n y w K R V E) (hr : zLr K R V E) (hn : n ≤ 6) : zN l G yX1_howManyCombed cX1_howManyCombed 1 (some .int) 1 [.ref (zB G + o)] σ (zPi (fun x τ => x = zsum E n ∧ σ = τ)) := by
  obtain ⟨k0, b1, b3, b5, b7, k8⟩ := id hL
  have kk1 := b1.1
  have kk3 := b3.1
  have kk5 := b5.1
  have kk7 := b7.1
  obtain ⟨s4, s5, s6, sA⟩ := id h
  refine zM.of (lv0 := [(0, _)]) (by decide) (Nat.le_of_ble_eq_true rfl) rfl (fun X C => ?_)
  refine z_aload_n (pc := 0) C dX1_howManyCombed_0 rfl 0 rfl ?_
  refine z_getR (pc := 1) C (o + 7) fl_X1_26 dX1_howManyCombed_1 (by first | rfl | assumption) (by omega) rfl (Or.inl rfl) ?_
  refine z_aload_n (pc := 4) C dX1_howManyCombed_4 rfl 0 rfl ?_
  refine z_getI (pc := 5) C fl_X1_29 dX1_howManyCombed_5 (by first | rfl | assumption) (by omega) (fun g5 => ?_)
  refine z_Vi (pc := 8) C (c_X6_sumOfFirst l G _ _ _ (n) _ (by first | assumption | omega | decide) (s4) (by first | assumption | omega | decide) (fun i hi => by have h1 := (sA i hi).2.2.2; have h2 := hr i; rw [show σ (o + 7 + 1) i = E i from h1]; omega)) ml_X1_77 yw_X6_sumOfFirst dX1_howManyCombed_8 (by first | rfl | assumption) (by omega) rfl rfl rfl (Nat.le_of_ble_eq_true rfl) ⟨by decide, by decide⟩ (fun r8 t8 h8 q8 => ?_)
  obtain ⟨rfl, rfl⟩ := q8
  refine z_iret (pc := 11) C dX1_howManyCombed_11 ?_
  have he : ∀ i, i < n → _ = E i := fun i hi => (sA i hi).2.2.2
  exact ⟨_, rfl, by assumption, zsum_congr he, rfl⟩
set_option maxHeartbeats 4000000 in
set_option maxRecDepth 100000 in
theorem c_X1_howManyShelter (l : Launch) (G : zGt) (σ : zMem) (o n : Nat) (y w : Int) (K R V E : Nat → Int) (hL : zLane o) (h : zLa σ o n y w K R V E) (hr : zLr K R V E) (hn : n ≤ 6) : zN l G yX1_howManyShelter cX1_howManyShelter 3 (some .int) 1 [.ref (zB G + o)] σ (zPi (fun x τ => x = zsh R n ∧ σ = τ)) := by
  obtain ⟨k0, b1, b3, b5, b7, k8⟩ := id hL
  have kk1 := b1.1
  have kk3 := b3.1
  have kk5 := b5.1
  have kk7 := b7.1
  obtain ⟨s4, s5, s6, sA⟩ := id h
  refine zM.of (lv0 := [(0, _)]) (by decide) (Nat.le_of_ble_eq_true rfl) rfl (fun X C => ?_)
  have L4 : ∀ (fuel : Nat) (i : Nat) (s : Int), n - i < fuel → (i ≤ n ∧ s = zsh R i) → zg G X true 3 129 0 0 4 [(0, .ref (zB G + o)), (1, .int (zI s)), (2, .int (zI (i : Int)))] [] σ := by
    intro fuel
    induction fuel with
    | zero => intro i s hm; exact absurd hm (Nat.not_lt_zero _)
    | succ fuel ih =>
      intro i s hms hinv
      obtain ⟨h1, rfl⟩ := hinv
      have hs := zsh_bd R i
      refine z_iload_n (pc := 4) C dX1_howManyShelter_4 rfl 2 rfl ?_
      refine z_aload_n (pc := 5) C dX1_howManyShelter_5 rfl 0 rfl ?_
      refine z_getI (pc := 6) C fl_X1_29 dX1_howManyShelter_6 (by first | rfl | assumption) (by omega) (fun g6 => ?_)
      refine z_icmp_ge (pc := 9) (tgt := 34) C dX1_howManyShelter_9 (by decide) ⟨by omega, by omega⟩ (fun c9 => ?_) (fun c9 => ?_)
      · refine z_iload_n (pc := 34) C dX1_howManyShelter_34 rfl 1 rfl ?_
        refine z_iret (pc := 35) C dX1_howManyShelter_35 ?_
        obtain rfl : i = n := by omega
        exact ⟨_, rfl, by omega, rfl, rfl⟩
      · have hri := hr i
        have hA := sA i (by omega)
        refine z_aload_n (pc := 12) C dX1_howManyShelter_12 rfl 0 rfl ?_
        refine z_getR (pc := 13) C (o + 3) fl_X1_20 dX1_howManyShelter_13 (by first | rfl | assumption) (by omega) rfl (Or.inl rfl) ?_
        refine z_iload_n (pc := 16) C dX1_howManyShelter_16 rfl 2 rfl ?_
        refine z_Vi (pc := 17) C (c_X6_atv l G _ _ _ (i) _ (R i) (by first | assumption | omega | decide) rfl (by first | assumption | omega | decide) (hA.2.1)) ml_X1_56 yw_X6_at dX1_howManyShelter_17 (by first | rfl | assumption) (by omega) rfl rfl rfl (Nat.le_of_ble_eq_true rfl) ⟨by decide, by decide⟩ (fun r17 t17 h17 q17 => ?_)
        obtain ⟨rfl, rfl⟩ := q17
        refine z_bipush (pc := 20) C dX1_howManyShelter_20 (by decide +kernel) ?_
        refine z_icmp_lt (pc := 22) (tgt := 28) C dX1_howManyShelter_22 (by decide) ⟨by omega, by omega⟩ (fun c22 => ?_) (fun c22 => ?_)
        · refine z_iinc (pc := 28) (lv' := [(2, _), (0, _), (1, _)]) C dX1_howManyShelter_28 2 rfl (by decide) rfl ?_
          refine z_goto (pc := 31) (tgt := 4) C dX1_howManyShelter_31 (by decide) ?_
          refine z_sub C [1, 2, 0] rfl ?_
          exact ih (i + 1) _ (by omega) ⟨by omega, (by first | exact (zsh_s1 (by omega)).symm | exact (zsh_s0 (by omega)).symm)⟩
        · refine z_iinc (pc := 25) (lv' := [(1, _), (0, _), (2, _)]) C dX1_howManyShelter_25 1 rfl (by decide) rfl ?_
          refine z_iinc (pc := 28) (lv' := [(2, _), (1, _), (0, _)]) C dX1_howManyShelter_28 2 rfl (by decide) rfl ?_
          refine z_goto (pc := 31) (tgt := 4) C dX1_howManyShelter_31 (by decide) ?_
          refine z_sub C [2, 1, 0] rfl ?_
          exact ih (i + 1) _ (by omega) ⟨by omega, (by first | exact (zsh_s1 (by omega)).symm | exact (zsh_s0 (by omega)).symm)⟩
  refine z_iconst (pc := 0) C dX1_howManyShelter_0 ?_
  refine z_istore_n (pc := 1) (lv' := [(1, _), (0, _)]) C dX1_howManyShelter_1 rfl (by decide) rfl ?_
  refine z_iconst (pc := 2) C dX1_howManyShelter_2 ?_
  refine z_istore_n (pc := 3) (lv' := [(2, _), (1, _), (0, _)]) C dX1_howManyShelter_3 rfl (by decide) rfl ?_
  refine z_sub C [2, 1, 0] rfl ?_
  exact L4 _ 0 0 (Nat.lt_succ_self _) ⟨by omega, rfl⟩
