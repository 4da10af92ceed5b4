theorem zkd_ch : ∀ k, k < 5 → zkd (zch k) = k := by decide +kernel
theorem zkd_no {p : Int} (h : ∀ j, j < 5 → zch j ≠ p) : zkd p = -1 := by
  have h0 : (104 : Int) ≠ p := h 0 (by decide)
  have h1 : (119 : Int) ≠ p := h 1 (by decide)
  have h2 : (111 : Int) ≠ p := h 2 (by decide)
  have h3 : (121 : Int) ≠ p := h 3 (by decide)
  have h4 : (116 : Int) ≠ p := h 4 (by decide)
  unfold zkd
  (repeat' split) <;> omega
set_option maxHeartbeats 4000000 in
theorem c_X2_kindOf (l : Launch) (G : zGt) (σ : zMem) (p : Int) (hp : 0 ≤ p ∧ p ≤ 1000) : zN l G yX2_kindOf cX2_kindOf 2 (some .int) 8 [.int (zI p)] σ (zPi (fun x τ => x = zkd p ∧ σ = τ)) := by
  refine zM.of (lv0 := [(0, _)]) (by decide) (Nat.le_of_ble_eq_true rfl) rfl (fun X C => ?_)
  have hS := C.2.2.2.2.1.2.2.2
  have L2 : ∀ (fuel k : Nat), 5 - k < fuel → (k ≤ 5 ∧ ∀ j, j < k → zch j ≠ p) → zg G X true 2 129 0 0 2 [(0, .int (zI p)), (1, .int (zI (k : Int)))] [] σ := by
    intro fuel
    induction fuel with
    | zero => intro k hm; exact absurd hm (Nat.not_lt_zero _)
    | succ fuel ih =>
      intro k hms hinv
      obtain ⟨h1, h2⟩ := hinv
      refine z_iload_n (pc := 2) C dX2_kindOf_2 rfl 1 rfl ?_
      refine z_ldcS (pc := 3) C hS.1 dX2_kindOf_3 ?_
      refine z_VS (pc := 5) (rest := [_]) C (c_J0_length l G σ) mS_RX2_45 yS_J0_length_8abf5 dX2_kindOf_5 rfl rfl rfl (Nat.le_of_ble_eq_true rfl) (z_room ⟨by decide, by decide⟩) (Nat.le_refl _) (fun v τ hq => ?_)
      obtain ⟨r, rfl, -, rfl, rfl⟩ := hq
      refine z_icmp_ge (pc := 8) (tgt := 29) C dX2_kindOf_8 (by decide) ⟨by omega, by omega⟩ (fun c8 => ?_) (fun c8 => ?_)
      · refine z_iconst (pc := 29) C dX2_kindOf_29 ?_
        refine z_iret (pc := 30) C dX2_kindOf_30 ?_
        exact ⟨-1, rfl, by omega, (zkd_no (fun j hj => h2 j (by omega))).symm, rfl⟩
      · refine z_ldcS (pc := 11) C hS.1 dX2_kindOf_11 ?_
        refine z_iload_n (pc := 13) C dX2_kindOf_13 rfl 1 rfl ?_
        refine z_VS (pc := 14) (rest := []) C (c_J0_charAt l G σ k _ rfl (by omega)) mS_RX2_50 yS_J0_charAt_5068e dX2_kindOf_14 rfl rfl rfl (Nat.le_of_ble_eq_true rfl) (z_room ⟨by decide, by decide⟩) (Nat.le_refl _) (fun v τ hq => ?_)
        obtain ⟨r, rfl, hr, rfl, rfl⟩ := hq
        refine z_iload_n (pc := 17) C dX2_kindOf_17 rfl 0 rfl ?_
        refine z_icmp_ne (pc := 18) (tgt := 23) C dX2_kindOf_18 (by decide) ⟨hr, by omega⟩ (fun c18 => ?_) (fun c18 => ?_)
        · refine z_iinc (pc := 23) (lv' := [(1, _), (0, _)]) C dX2_kindOf_23 1 rfl (by decide) rfl ?_
          refine z_goto (pc := 26) (tgt := 2) C dX2_kindOf_26 (by decide) ?_
          refine z_sub C [1, 0] rfl ?_
          exact ih (k + 1) (by omega) ⟨by omega, fun j hj => by
            by_cases e : j = k
            · rw [e]; exact c18
            · exact h2 j (by omega)⟩
        · refine z_iload_n (pc := 21) C dX2_kindOf_21 rfl 1 rfl ?_
          refine z_iret (pc := 22) C dX2_kindOf_22 ?_
          have e : zch k = p := by omega
          exact ⟨(k : Int), rfl, by omega, by rw [← e, zkd_ch k (by omega)], rfl⟩
  refine z_iconst (pc := 0) C dX2_kindOf_0 ?_
  refine z_istore_n (pc := 1) (lv' := [(1, _), (0, _)]) C dX2_kindOf_1 rfl (by decide) rfl ?_
  refine z_sub C [1, 0] rfl ?_
  exact L2 _ 0 (Nat.lt_succ_self _) ⟨by omega, fun j hj => absurd hj (Nat.not_lt_zero _)⟩
set_option maxHeartbeats 4000000 in
set_option maxRecDepth 100000 in
theorem c_X0_next (l : Launch) (G : zGt) (σ : zMem) (p : Int) (hs : 0 ≤ σ 107 0 ∧ σ 107 0 < 2147483648) (hp : 1 ≤ p ∧ p ≤ 1000) : zN l G yX0_next cX0_next 2 (some .int) 0 [.ref (zB G + 107), .int (zI p)] σ (zPi (fun x τ => x = zds (σ 107 0) / 65536 % p ∧ τ = zU σ 107 0 (zds (σ 107 0)))) := by
  refine zM.of (lv0 := [(0, _), (1, _)]) (by decide) (Nat.le_of_ble_eq_true rfl) rfl (fun X C => ?_)
  refine z_aload_n (pc := 0) C dX0_next_0 rfl 0 rfl ?_
  refine z_ldc2 (pc := 1) (n := 1103515245) C dX0_next_1 cw_X0_13 rfl ?_
  refine z_aload_n (pc := 4) C dX0_next_4 rfl 0 rfl ?_
  refine z_getJ (pc := 5) C fl_X0_7 dX0_next_5 (by first | rfl | assumption) (by omega) ?_
  refine z_lmul (pc := 8) C dX0_next_8 ?_
  refine z_ldc2 (pc := 9) (n := 12345) C dX0_next_9 cw_X0_15 rfl ?_
  refine z_ladd (pc := 12) C dX0_next_12 ?_
  refine z_ldc2 (pc := 13) (n := 2147483648) C dX0_next_13 cw_X0_17 rfl ?_
  refine z_lrem (pc := 16) C dX0_next_16 ⟨⟨by omega, by omega⟩, by omega, by omega⟩ ?_
  rw [show (1103515245 * σ 107 0 + 12345) % 2147483648 = zds (σ 107 0) from rfl]
  have hz := zds_bd (σ 107 0)
  refine z_putJe (pc := 17) C fl_X0_7 dX0_next_17 (by first | rfl | assumption) (by omega) (fun m17 em17 => ?_)
  refine z_iload_n (pc := 20) C dX0_next_20 rfl 1 rfl ?_
  refine z_iconst (pc := 21) C dX0_next_21 ?_
  refine z_icmp_ge (pc := 22) (tgt := 29) C dX0_next_22 (by decide) ⟨by omega, by omega⟩ (fun c22 => ?_) (fun c22 => by exfalso; omega)
  refine z_aload_n (pc := 29) C dX0_next_29 rfl 0 rfl ?_
  refine z_getJ (pc := 30) C fl_X0_7 dX0_next_30 (by first | rfl | assumption) (by omega) ?_
  rw [show m17 107 0 = zds (σ 107 0) by rw [em17, zU_at]]
  refine z_ldc2 (pc := 33) (n := 65536) C dX0_next_33 cw_X0_19 rfl ?_
  refine z_ldiv (pc := 36) C dX0_next_36 ⟨⟨by omega, by omega⟩, by omega, by omega⟩ ?_
  refine z_iload_n (pc := 37) C dX0_next_37 rfl 1 rfl ?_
  refine z_i2l (pc := 38) C dX0_next_38 (by omega) ?_
  refine z_lrem (pc := 39) C dX0_next_39 ⟨⟨by omega, by omega⟩, by omega, by omega⟩ ?_
  have hm := Int.emod_nonneg (zds (σ 107 0) / 65536) (show p ≠ 0 by omega)
  have hm2 := Int.emod_lt_of_pos (zds (σ 107 0) / 65536) (show 0 < p by omega)
  refine z_l2i (pc := 40) C dX0_next_40 (by omega) ?_
  refine z_iret (pc := 41) C dX0_next_41 ?_
  exact ⟨_, rfl, by omega, rfl, em17⟩
set_option maxHeartbeats 4000000 in
set_option maxRecDepth 100000 in
theorem c_X2_add (l : Launch) (G : zGt) (σ : zMem) (m : Nat) (P : Nat → Int) (h : zPg σ m P) (hr : zPr0 P) (hm : m ≤ 26) (p : Int) (h2 : m < 26) (hp : 32 ≤ p ∧ p ≤ 126) : zN l G yX2_add cX2_add 2 (none) 1 [.ref (zB G + 1), .int (zI p)] σ (zPv (fun τ => zPg τ (m + 1) (zup P m p) ∧ zFr 1 4 σ τ)) := by
  obtain ⟨s1, sP⟩ := id h
  have b2 : zRow 2 26 := by decide
  refine zM.of (lv0 := [(0, _), (1, _)]) (by decide) (Nat.le_of_ble_eq_true rfl) rfl (fun X C => ?_)
  refine z_aload_n (pc := 0) C dX2_add_0 rfl 0 rfl ?_
  refine z_getR (pc := 1) C (2) fl_X2_16 dX2_add_1 (by first | rfl | assumption) (by omega) rfl (Or.inl rfl) ?_
  refine z_aload_n (pc := 4) C dX2_add_4 rfl 0 rfl ?_
  refine z_getI (pc := 5) C fl_X2_20 dX2_add_5 (by first | rfl | assumption) (by omega) (fun g5 => ?_)
  refine z_iload_n (pc := 8) C dX2_add_8 rfl 1 rfl ?_
  refine z_Vv (pc := 9) C (c_X6_put l G _ _ _ (m) _ _ (by first | assumption | omega | decide) (s1) (by first | assumption | omega | decide) (by first | assumption | omega | decide)) ml_X2_24 yw_X6_put dX2_add_9 (by first | rfl | assumption) (by omega) rfl rfl rfl (Nat.le_of_ble_eq_true rfl) ⟨by decide, by decide⟩ (fun t9 q9 => ?_)
  obtain rfl := q9
  refine z_aload_n (pc := 12) C dX2_add_12 rfl 0 rfl ?_
  refine z_dup (pc := 13) C dX2_add_13 rfl ?_
  refine z_getI (pc := 14) C fl_X2_20 dX2_add_14 (by first | rfl | assumption) (by omega) (fun g14 => ?_)
  refine z_iconst (pc := 17) C dX2_add_17 ?_
  refine z_iadd (pc := 18) C dX2_add_18 ?_
  rw [show zU σ (2 + 1) m p 1 1 = (m : Int) by rw [zU_o (by omega)]; exact s1]
  refine z_putIe (pc := 19) C fl_X2_20 dX2_add_19 (by first | rfl | assumption) (by omega) (by omega) (fun m19 em19 => ?_)
  refine z_vret (pc := 22) C dX2_add_22 ?_
  refine ⟨rfl, ⟨by rw [em19, zU_at]; omega, fun i hi => ?_⟩, by rw [em19]; exact (zFr.rf.put (by omega) (by omega)).put (by omega) (by omega)⟩
  rw [em19, zU_o (by omega)]
  unfold zup
  by_cases e : i = m
  · rw [e, zU_at, if_pos rfl]
  · rw [zU_k e, if_neg e]; exact sP i (by omega)
set_option maxHeartbeats 4000000 in
set_option maxRecDepth 100000 in
theorem c_X2_mayStand (l : Launch) (G : zGt) (σ : zMem) (i : Nat) (p c : Int) (hp : p = i) (hi : i < 1000) (hc : 0 ≤ c ∧ c ≤ 1000) : zN l G yX2_mayStand cX2_mayStand 2 (some .boolean) 9 [.int (zI p), .int (zI c)] σ (zPi (fun x τ => x = zms i c ∧ σ = τ)) := by
  refine zM.of (lv0 := [(0, _), (1, _)]) (by decide) (Nat.le_of_ble_eq_true rfl) rfl (fun X C => ?_)
  have hk := zkd_bd c
  refine z_iload_n (pc := 0) C dX2_mayStand_0 rfl 0 rfl ?_
  refine z_bipush (pc := 1) C dX2_mayStand_1 (by decide +kernel) ?_
  refine z_icmp_lt (pc := 3) (tgt := 8) C dX2_mayStand_3 (by decide) ⟨by omega, by omega⟩ (fun c3 => ?_) (fun c3 => ?_)
  · refine z_iload_n (pc := 8) C dX2_mayStand_8 rfl 0 rfl ?_
    refine z_iconst (pc := 9) C dX2_mayStand_9 ?_
    refine z_irem (pc := 10) C dX2_mayStand_10 ⟨⟨by omega, by omega⟩, by omega, by omega⟩ ?_
    by_cases w11_0 : (p % 4) = 0
    · refine z_lookup (pc := 11) (off := 25) (tgt := 36) C dX2_mayStand_11 (by omega) (by decide +kernel) (by rw [w11_0]; decide +kernel) (by decide) ?_
      refine z_iload_n (pc := 36) C dX2_mayStand_36 rfl 1 rfl ?_
      refine z_Si (pc := 37) C (c_X2_kindOf l G _ _ (by first | assumption | omega | decide)) ml_X2_40 ys_X2_kindOf dX2_mayStand_37 rfl rfl (Nat.le_of_ble_eq_true rfl) ⟨by decide, by decide⟩ (fun r37 t37 h37 q37 => ?_)
      obtain ⟨rfl, rfl⟩ := q37
      refine z_iconst (pc := 40) C dX2_mayStand_40 ?_
      refine z_icmp_eq (pc := 41) (tgt := 48) C dX2_mayStand_41 (by decide) ⟨by omega, by omega⟩ (fun c41 => ?_) (fun c41 => ?_)
      · refine z_iconst (pc := 48) C dX2_mayStand_48 ?_
        refine z_zret (pc := 49) C dX2_mayStand_49 (by omega) ?_
        exact ⟨_, rfl, by omega, by unfold zms; rw [if_neg (by omega), if_pos (by omega)]; first | rw [if_pos (by omega)] | rw [if_neg (by omega)], rfl⟩
      · refine z_iconst (pc := 44) C dX2_mayStand_44 ?_
        refine z_goto (pc := 45) (tgt := 49) C dX2_mayStand_45 (by decide) ?_
        refine z_zret (pc := 49) C dX2_mayStand_49 (by omega) ?_
        exact ⟨_, rfl, by omega, by unfold zms; rw [if_neg (by omega), if_pos (by omega)]; first | rw [if_pos (by omega)] | rw [if_neg (by omega)], rfl⟩
    by_cases w11_3 : (p % 4) = 3
    · refine z_lookup (pc := 11) (off := 39) (tgt := 50) C dX2_mayStand_11 (by omega) (by decide +kernel) (by rw [w11_3]; decide +kernel) (by decide) ?_
      refine z_iload_n (pc := 50) C dX2_mayStand_50 rfl 1 rfl ?_
      refine z_bipush (pc := 51) C dX2_mayStand_51 (by decide +kernel) ?_
      refine z_icmp_ne (pc := 53) (tgt := 60) C dX2_mayStand_53 (by decide) ⟨by omega, by omega⟩ (fun c53 => ?_) (fun c53 => ?_)
      · refine z_iconst (pc := 60) C dX2_mayStand_60 ?_
        refine z_zret (pc := 61) C dX2_mayStand_61 (by omega) ?_
        exact ⟨_, rfl, by omega, by unfold zms; rw [if_neg (by omega), if_neg (by omega), if_pos (by omega)]; first | rw [if_pos (by omega)] | rw [if_neg (by omega)], rfl⟩
      · refine z_iconst (pc := 56) C dX2_mayStand_56 ?_
        refine z_goto (pc := 57) (tgt := 61) C dX2_mayStand_57 (by decide) ?_
        refine z_zret (pc := 61) C dX2_mayStand_61 (by omega) ?_
        exact ⟨_, rfl, by omega, by unfold zms; rw [if_neg (by omega), if_neg (by omega), if_pos (by omega)]; first | rw [if_pos (by omega)] | rw [if_neg (by omega)], rfl⟩
    refine z_lookup (pc := 11) (off := 51) (tgt := 62) C dX2_mayStand_11 (by omega) (by decide +kernel) (by simp [Op.lookupswitch.offset, w11_0, Ne.symm w11_0, w11_3, Ne.symm w11_3]) (by decide) ?_
    refine z_iload_n (pc := 62) C dX2_mayStand_62 rfl 1 rfl ?_
    refine z_bipush (pc := 63) C dX2_mayStand_63 (by decide +kernel) ?_
    refine z_icmp_lt (pc := 65) (tgt := 78) C dX2_mayStand_65 (by decide) ⟨by omega, by omega⟩ (fun c65 => ?_) (fun c65 => ?_)
    · refine z_iconst (pc := 78) C dX2_mayStand_78 ?_
      refine z_zret (pc := 79) C dX2_mayStand_79 (by omega) ?_
      exact ⟨_, rfl, by omega, by unfold zms; rw [if_neg (by omega), if_neg (by omega), if_neg (by omega)]; first | rw [if_pos (by omega)] | rw [if_neg (by omega)], rfl⟩
    · refine z_iload_n (pc := 68) C dX2_mayStand_68 rfl 1 rfl ?_
      refine z_bipush (pc := 69) C dX2_mayStand_69 (by decide +kernel) ?_
      refine z_icmp_gt (pc := 71) (tgt := 78) C dX2_mayStand_71 (by decide) ⟨by omega, by omega⟩ (fun c71 => ?_) (fun c71 => ?_)
      · refine z_iconst (pc := 78) C dX2_mayStand_78 ?_
        refine z_zret (pc := 79) C dX2_mayStand_79 (by omega) ?_
        exact ⟨_, rfl, by omega, by unfold zms; rw [if_neg (by omega), if_neg (by omega), if_neg (by omega)]; first | rw [if_pos (by omega)] | rw [if_neg (by omega)], rfl⟩
      · refine z_iconst (pc := 74) C dX2_mayStand_74 ?_
        refine z_goto (pc := 75) (tgt := 79) C dX2_mayStand_75 (by decide) ?_
        refine z_zret (pc := 79) C dX2_mayStand_79 (by omega) ?_
        exact ⟨_, rfl, by omega, by unfold zms; rw [if_neg (by omega), if_neg (by omega), if_neg (by omega)]; first | rw [if_pos (by omega)] | rw [if_neg (by omega)], rfl⟩
  · refine z_iconst (pc := 6) C dX2_mayStand_6 ?_
    refine z_zret (pc := 7) C dX2_mayStand_7 (by omega) ?_
    exact ⟨_, rfl, by omega, by unfold zms; rw [if_pos (by omega)], rfl⟩
set_option maxHeartbeats 4000000 in
set_option maxRecDepth 100000 in
theorem c_X2_firstFault (l : Launch) (G : zGt) (σ : zMem) (m : Nat) (P : Nat → Int) (h : zPg σ m P) (hr : zPr0 P) (hm : m ≤ 26) : zN l G yX2_firstFault cX2_firstFault 2 (some .int) 10 [.ref (zB G + 1)] σ (zPi (fun x τ => x = zff P m ∧ σ = τ)) := by
  obtain ⟨s1, sP⟩ := id h
  have b2 : zRow 2 26 := by decide
  refine zM.of (lv0 := [(0, _)]) (by decide) (Nat.le_of_ble_eq_true rfl) rfl (fun X C => ?_)
  have L2 : ∀ (fuel : Nat) (i : Nat), m - i < fuel → (i ≤ m ∧ zfx P (m - i) i = zff P m) → zg G X true 2 129 0 0 2 [(0, .ref (zB G + 1)), (1, .int (zI (i : Int)))] [] σ := by
    intro fuel
    induction fuel with
    | zero => intro i hm; exact absurd hm (Nat.not_lt_zero _)
    | succ fuel ih =>
      intro i hms hinv
      obtain ⟨h1, h2⟩ := hinv
      refine z_iload_n (pc := 2) C dX2_firstFault_2 rfl 1 rfl ?_
      refine z_aload_n (pc := 3) C dX2_firstFault_3 rfl 0 rfl ?_
      refine z_getI (pc := 4) C fl_X2_20 dX2_firstFault_4 (by first | rfl | assumption) (by omega) (fun g4 => ?_)
      refine z_icmp_ge (pc := 7) (tgt := 33) C dX2_firstFault_7 (by decide) ⟨by omega, by omega⟩ (fun c7 => ?_) (fun c7 => ?_)
      · refine z_aload_n (pc := 33) C dX2_firstFault_33 rfl 0 rfl ?_
        refine z_getI (pc := 34) C fl_X2_20 dX2_firstFault_34 (by first | rfl | assumption) (by omega) (fun g34 => ?_)
        refine z_iret (pc := 37) C dX2_firstFault_37 ?_
        exact ⟨_, rfl, by omega, by rw [← h2, show i = m by omega, Nat.sub_self]; exact s1, rfl⟩
      · have hri := hr i
        refine z_iload_n (pc := 10) C dX2_firstFault_10 rfl 1 rfl ?_
        refine z_aload_n (pc := 11) C dX2_firstFault_11 rfl 0 rfl ?_
        refine z_getR (pc := 12) C (2) fl_X2_16 dX2_firstFault_12 (by first | rfl | assumption) (by omega) rfl (Or.inl rfl) ?_
        refine z_iload_n (pc := 15) C dX2_firstFault_15 rfl 1 rfl ?_
        refine z_Vi (pc := 16) C (c_X6_atv l G _ _ _ (i) _ (P (i)) (by first | assumption | omega | decide) rfl (by first | assumption | omega | decide) (sP (i) (by omega))) ml_X2_28 yw_X6_at dX2_firstFault_16 (by first | rfl | assumption) (by omega) rfl rfl rfl (Nat.le_of_ble_eq_true rfl) ⟨by decide, by decide⟩ (fun r16 t16 h16 q16 => ?_)
        obtain ⟨rfl, rfl⟩ := q16
        refine z_Si (pc := 19) C (c_X2_mayStand l G _ (i) _ _ rfl (by first | assumption | omega | decide) (by first | assumption | omega | decide)) ml_X2_32 ys_X2_mayStand dX2_firstFault_19 rfl rfl (Nat.le_of_ble_eq_true rfl) ⟨by decide, by decide⟩ (fun r19 t19 h19 q19 => ?_)
        obtain ⟨rfl, rfl⟩ := q19
        refine z_if_ne (pc := 22) (tgt := 27) C dX2_firstFault_22 (by decide) (by omega) (fun c22 => ?_) (fun c22 => ?_)
        · refine z_iinc (pc := 27) (lv' := [(1, _), (0, _)]) C dX2_firstFault_27 1 rfl (by decide) rfl ?_
          refine z_goto (pc := 30) (tgt := 2) C dX2_firstFault_30 (by decide) ?_
          refine z_sub C [1, 0] rfl ?_
          exact ih (i + 1) (by omega) ⟨by omega, by rw [zfx_1 (by omega) (by have := zms_bd i (P i); omega)]; exact h2⟩
        · refine z_iload_n (pc := 25) C dX2_firstFault_25 rfl 1 rfl ?_
          refine z_iret (pc := 26) C dX2_firstFault_26 ?_
          exact ⟨_, rfl, by omega, by rw [← h2, zfx_0 (by omega) (by omega)], rfl⟩
  refine z_iconst (pc := 0) C dX2_firstFault_0 ?_
  refine z_istore_n (pc := 1) (lv' := [(1, _), (0, _)]) C dX2_firstFault_1 rfl (by decide) rfl ?_
  refine z_sub C [1, 0] rfl ?_
  exact L2 _ 0 (Nat.lt_succ_self _) ⟨by omega, rfl⟩
set_option maxHeartbeats 4000000 in
set_option maxRecDepth 100000 in
theorem c_X2_isLane (l : Launch) (G : zGt) (σ : zMem) (m : Nat) (P : Nat → Int) (h : zPg σ m P) (hr : zPr0 P) (hm : m ≤ 26) : zN l G yX2_isLane cX2_isLane 1 (some .boolean) 11 [.ref (zB G + 1)] σ (zPi (fun x τ => x = (if m % 4 = 3 ∧ zff P m = m then 1 else 0) ∧ σ = τ)) := by
  obtain ⟨s1, sP⟩ := id h
  have b2 : zRow 2 26 := by decide
  refine zM.of (lv0 := [(0, _)]) (by decide) (Nat.le_of_ble_eq_true rfl) rfl (fun X C => ?_)
  have hf := zff_le P m
  refine z_aload_n (pc := 0) C dX2_isLane_0 rfl 0 rfl ?_
  refine z_getI (pc := 1) C fl_X2_20 dX2_isLane_1 (by first | rfl | assumption) (by omega) (fun g1 => ?_)
  refine z_iconst (pc := 4) C dX2_isLane_4 ?_
  refine z_irem (pc := 5) C dX2_isLane_5 ⟨⟨by omega, by omega⟩, by omega, by omega⟩ ?_
  refine z_iconst (pc := 6) C dX2_isLane_6 ?_
  refine z_icmp_ne (pc := 7) (tgt := 25) C dX2_isLane_7 (by decide) ⟨by omega, by omega⟩ (fun c7 => ?_) (fun c7 => ?_)
  · refine z_iconst (pc := 25) C dX2_isLane_25 ?_
    refine z_zret (pc := 26) C dX2_isLane_26 (by omega) ?_
    exact ⟨_, rfl, by omega, by first | rw [if_pos (by omega)] | rw [if_neg (by omega)], rfl⟩
  · refine z_aload_n (pc := 10) C dX2_isLane_10 rfl 0 rfl ?_
    refine z_Vi (pc := 11) C (c_X2_firstFault l G _ _ _ (by first | assumption | omega | decide) (by first | assumption | omega | decide) (by first | assumption | omega | decide)) ml_X2_36 yw_X2_firstFault dX2_isLane_11 (by first | rfl | assumption) (by omega) rfl rfl rfl (Nat.le_of_ble_eq_true rfl) ⟨by decide, by decide⟩ (fun r11 t11 h11 q11 => ?_)
    obtain ⟨rfl, rfl⟩ := q11
    refine z_aload_n (pc := 14) C dX2_isLane_14 rfl 0 rfl ?_
    refine z_getI (pc := 15) C fl_X2_20 dX2_isLane_15 (by first | rfl | assumption) (by omega) (fun g15 => ?_)
    refine z_icmp_ne (pc := 18) (tgt := 25) C dX2_isLane_18 (by decide) ⟨by omega, by omega⟩ (fun c18 => ?_) (fun c18 => ?_)
    · refine z_iconst (pc := 25) C dX2_isLane_25 ?_
      refine z_zret (pc := 26) C dX2_isLane_26 (by omega) ?_
      exact ⟨_, rfl, by omega, by first | rw [if_pos (by omega)] | rw [if_neg (by omega)], rfl⟩
    · refine z_iconst (pc := 21) C dX2_isLane_21 ?_
      refine z_goto (pc := 22) (tgt := 26) C dX2_isLane_22 (by decide) ?_
      refine z_zret (pc := 26) C dX2_isLane_26 (by omega) ?_
      exact ⟨_, rfl, by omega, by first | rw [if_pos (by omega)] | rw [if_neg (by omega)], rfl⟩
set_option maxHeartbeats 4000000 in
set_option maxRecDepth 100000 in
theorem c_X2_housesTold (l : Launch) (G : zGt) (σ : zMem) (m : Nat) (P : Nat → Int) (h : zPg σ m P) (hr : zPr0 P) (hm : m ≤ 26) : zN l G yX2_housesTold cX2_housesTold 1 (some .int) 0 [.ref (zB G + 1)] σ (zPi (fun x τ => x = ((m : Int) + 1) / 4 ∧ σ = τ)) := by
  obtain ⟨s1, sP⟩ := id h
  have b2 : zRow 2 26 := by decide
  refine zM.of (lv0 := [(0, _)]) (by decide) (Nat.le_of_ble_eq_true rfl) rfl (fun X C => ?_)
  refine z_aload_n (pc := 0) C dX2_housesTold_0 rfl 0 rfl ?_
  refine z_getI (pc := 1) C fl_X2_20 dX2_housesTold_1 (by first | rfl | assumption) (by omega) (fun g1 => ?_)
  refine z_iconst (pc := 4) C dX2_housesTold_4 ?_
  refine z_iadd (pc := 5) C dX2_housesTold_5 ?_
  refine z_iconst (pc := 6) C dX2_housesTold_6 ?_
  refine z_idiv (pc := 7) C dX2_housesTold_7 ⟨⟨by omega, by omega⟩, by omega, by omega⟩ ?_
  refine z_iret (pc := 8) C dX2_housesTold_8 ?_
  exact ⟨_, rfl, by omega, by rw [s1], rfl⟩
set_option maxHeartbeats 4000000 in
set_option maxRecDepth 100000 in
theorem c_X2_kindTold (l : Launch) (G : zGt) (σ : zMem) (m : Nat) (P : Nat → Int) (h : zPg σ m P) (hr : zPr0 P) (hm : m ≤ 26) (i : Nat) (p : Int) (hp : p = i) (hi : 4 * i + 2 < m) : zN l G yX2_kindTold cX2_kindTold 2 (some .int) 9 [.ref (zB G + 1), .int (zI p)] σ (zPi (fun x τ => x = zkd (P (4 * i)) ∧ σ = τ)) := by
  obtain ⟨s1, sP⟩ := id h
  have b2 : zRow 2 26 := by decide
  have hri := hr (4 * i)
  refine zM.of (lv0 := [(0, _), (1, _)]) (by decide) (Nat.le_of_ble_eq_true rfl) rfl (fun X C => ?_)
  refine z_aload_n (pc := 0) C dX2_kindTold_0 rfl 0 rfl ?_
  refine z_getR (pc := 1) C (2) fl_X2_16 dX2_kindTold_1 (by first | rfl | assumption) (by omega) rfl (Or.inl rfl) ?_
  refine z_iconst (pc := 4) C dX2_kindTold_4 ?_
  refine z_iload_n (pc := 5) C dX2_kindTold_5 rfl 1 rfl ?_
  refine z_imul (pc := 6) C dX2_kindTold_6 ?_
  refine z_Vi (pc := 7) C (c_X6_atv l G _ _ _ (4 * i) _ (P (4 * i)) (by first | assumption | omega | decide) (by omega) (by first | assumption | omega | decide) (sP (4 * i) (by omega))) ml_X2_28 yw_X6_at dX2_kindTold_7 (by first | rfl | assumption) (by omega) rfl rfl rfl (Nat.le_of_ble_eq_true rfl) ⟨by decide, by decide⟩ (fun r7 t7 h7 q7 => ?_)
  obtain ⟨rfl, rfl⟩ := q7
  refine z_Si (pc := 10) C (c_X2_kindOf l G _ _ (by first | assumption | omega | decide)) ml_X2_40 ys_X2_kindOf dX2_kindTold_10 rfl rfl (Nat.le_of_ble_eq_true rfl) ⟨by decide, by decide⟩ (fun r10 t10 h10 q10 => ?_)
  obtain ⟨rfl, rfl⟩ := q10
  refine z_iret (pc := 13) C dX2_kindTold_13 ?_
  have hk := zkd_bd (P (4 * i))
  exact ⟨_, rfl, by omega, rfl, rfl⟩
set_option maxHeartbeats 4000000 in
set_option maxRecDepth 100000 in
theorem c_X2_reedTold (l : Launch) (G : zGt) (σ : zMem) (m : Nat) (P : Nat → Int) (h : zPg σ m P) (hr : zPr0 P) (hm : m ≤ 26) (i : Nat) (p : Int) (hp : p = i) (hi : 4 * i + 2 < m) : zN l G yX2_reedTold cX2_reedTold 2 (some .int) 1 [.ref (zB G + 1), .int (zI p)] σ (zPi (fun x τ => x = P (4 * i + 1) - 48 ∧ σ = τ)) := by
  obtain ⟨s1, sP⟩ := id h
  have b2 : zRow 2 26 := by decide
  have hri := hr (4 * i + 1)
  refine zM.of (lv0 := [(0, _), (1, _)]) (by decide) (Nat.le_of_ble_eq_true rfl) rfl (fun X C => ?_)
  refine z_aload_n (pc := 0) C dX2_reedTold_0 rfl 0 rfl ?_
  refine z_getR (pc := 1) C (2) fl_X2_16 dX2_reedTold_1 (by first | rfl | assumption) (by omega) rfl (Or.inl rfl) ?_
  refine z_iconst (pc := 4) C dX2_reedTold_4 ?_
  refine z_iload_n (pc := 5) C dX2_reedTold_5 rfl 1 rfl ?_
  refine z_imul (pc := 6) C dX2_reedTold_6 ?_
  refine z_iconst (pc := 7) C dX2_reedTold_7 ?_
  refine z_iadd (pc := 8) C dX2_reedTold_8 ?_
  refine z_Vi (pc := 9) C (c_X6_atv l G _ _ _ (4 * i + 1) _ (P (4 * i + 1)) (by first | assumption | omega | decide) (by omega) (by first | assumption | omega | decide) (sP (4 * i + 1) (by omega))) ml_X2_28 yw_X6_at dX2_reedTold_9 (by first | rfl | assumption) (by omega) rfl rfl rfl (Nat.le_of_ble_eq_true rfl) ⟨by decide, by decide⟩ (fun r9 t9 h9 q9 => ?_)
  obtain ⟨rfl, rfl⟩ := q9
  refine z_bipush (pc := 12) C dX2_reedTold_12 (by decide +kernel) ?_
  refine z_isub (pc := 14) C dX2_reedTold_14 ?_
  refine z_iret (pc := 15) C dX2_reedTold_15 ?_
  exact ⟨_, rfl, by omega, rfl, rfl⟩
set_option maxHeartbeats 4000000 in
set_option maxRecDepth 100000 in
theorem c_X2_worryTold (l : Launch) (G : zGt) (σ : zMem) (m : Nat) (P : Nat → Int) (h : zPg σ m P) (hr : zPr0 P) (hm : m ≤ 26) (i : Nat) (p : Int) (hp : p = i) (hi : 4 * i + 2 < m) : zN l G yX2_worryTold cX2_worryTold 2 (some .int) 1 [.ref (zB G + 1), .int (zI p)] σ (zPi (fun x τ => x = P (4 * i + 2) - 48 ∧ σ = τ)) := by
  obtain ⟨s1, sP⟩ := id h
  have b2 : zRow 2 26 := by decide
  have hri := hr (4 * i + 2)
  refine zM.of (lv0 := [(0, _), (1, _)]) (by decide) (Nat.le_of_ble_eq_true rfl) rfl (fun X C => ?_)
  refine z_aload_n (pc := 0) C dX2_worryTold_0 rfl 0 rfl ?_
  refine z_getR (pc := 1) C (2) fl_X2_16 dX2_worryTold_1 (by first | rfl | assumption) (by omega) rfl (Or.inl rfl) ?_
  refine z_iconst (pc := 4) C dX2_worryTold_4 ?_
  refine z_iload_n (pc := 5) C dX2_worryTold_5 rfl 1 rfl ?_
  refine z_imul (pc := 6) C dX2_worryTold_6 ?_
  refine z_iconst (pc := 7) C dX2_worryTold_7 ?_
  refine z_iadd (pc := 8) C dX2_worryTold_8 ?_
  refine z_Vi (pc := 9) C (c_X6_atv l G _ _ _ (4 * i + 2) _ (P (4 * i + 2)) (by first | assumption | omega | decide) (by omega) (by first | assumption | omega | decide) (sP (4 * i + 2) (by omega))) ml_X2_28 yw_X6_at dX2_worryTold_9 (by first | rfl | assumption) (by omega) rfl rfl rfl (Nat.le_of_ble_eq_true rfl) ⟨by decide, by decide⟩ (fun r9 t9 h9 q9 => ?_)
  obtain ⟨rfl, rfl⟩ := q9
  refine z_bipush (pc := 12) C dX2_worryTold_12 (by decide +kernel) ?_
  refine z_isub (pc := 14) C dX2_worryTold_14 ?_
  refine z_iret (pc := 15) C dX2_worryTold_15 ?_
  exact ⟨_, rfl, by omega, rfl, rfl⟩
set_option maxHeartbeats 4000000 in
set_option maxRecDepth 100000 in
theorem c_X8_add (l : Launch) (G : zGt) (σ : zMem) (o m : Nat) (A Y Q : Nat → Int) (p q x : Int) (hL : zSits o) (h : zSgt σ o m A Y Q) (hm : m < 6) (hp : zR p) (hq : zR q) (hx : zR x) : zN l G yX8_add cX8_add 4 (none) 1 [.ref (zB G + o), .int (zI p), .int (zI q), .int (zI x)] σ (zPv (fun τ => zSgt τ o (m + 1) (zup A m p) (zup Y m q) (zup Q m x) ∧ zFr o (o + 7) σ τ)) := by
  obtain ⟨k0, b1, b3, b5, k6⟩ := id hL
  have kk1 := b1.1
  have kk3 := b3.1
  have kk5 := b5.1
  obtain ⟨s3, sS⟩ := id h
  refine zM.of (lv0 := [(0, _), (1, _), (2, _), (3, _)]) (by decide) (Nat.le_of_ble_eq_true rfl) rfl (fun X C => ?_)
  refine z_aload_n (pc := 0) C dX8_add_0 rfl 0 rfl ?_
  refine z_getR (pc := 1) C (o + 1) fl_X8_14 dX8_add_1 (by first | rfl | assumption) (by omega) rfl (Or.inl rfl) ?_
  refine z_aload_n (pc := 4) C dX8_add_4 rfl 0 rfl ?_
  refine z_getI (pc := 5) C fl_X8_26 dX8_add_5 (by first | rfl | assumption) (by omega) (fun g5 => ?_)
  refine z_iload_n (pc := 8) C dX8_add_8 rfl 1 rfl ?_
  refine z_Vv (pc := 9) C (c_X6_put l G _ _ _ (m) _ _ (by first | assumption | omega | decide) (s3) (by first | assumption | omega | decide) (by first | assumption | omega | decide)) ml_X8_30 yw_X6_put dX8_add_9 (by first | rfl | assumption) (by omega) rfl rfl rfl (Nat.le_of_ble_eq_true rfl) ⟨by decide, by decide⟩ (fun t9 q9 => ?_)
  obtain rfl := q9
  refine z_aload_n (pc := 12) C dX8_add_12 rfl 0 rfl ?_
  refine z_getR (pc := 13) C (o + 3) fl_X8_20 dX8_add_13 (by first | rfl | assumption) (by omega) rfl (Or.inl rfl) ?_
  refine z_aload_n (pc := 16) C dX8_add_16 rfl 0 rfl ?_
  refine z_getI (pc := 17) C fl_X8_26 dX8_add_17 (by first | rfl | assumption) (by omega) (fun g17 => ?_)
  refine z_iload_n (pc := 20) C dX8_add_20 rfl 2 rfl ?_
  refine z_Vv (pc := 21) C (c_X6_put l G _ _ _ (m) _ _ (by first | assumption | omega | decide) (by rw [zU_o (by omega)]; exact s3) (by first | assumption | omega | decide) (by first | assumption | omega | decide)) ml_X8_30 yw_X6_put dX8_add_21 (by first | rfl | assumption) (by omega) rfl rfl rfl (Nat.le_of_ble_eq_true rfl) ⟨by decide, by decide⟩ (fun t21 q21 => ?_)
  obtain rfl := q21
  refine z_aload_n (pc := 24) C dX8_add_24 rfl 0 rfl ?_
  refine z_getR (pc := 25) C (o + 5) fl_X8_23 dX8_add_25 (by first | rfl | assumption) (by omega) rfl (Or.inl rfl) ?_
  refine z_aload_n (pc := 28) C dX8_add_28 rfl 0 rfl ?_
  refine z_getI (pc := 29) C fl_X8_26 dX8_add_29 (by first | rfl | assumption) (by omega) (fun g29 => ?_)
  refine z_iload_n (pc := 32) C dX8_add_32 rfl 3 rfl ?_
  refine z_Vv (pc := 33) C (c_X6_put l G _ _ _ (m) _ _ (by first | assumption | omega | decide) (by rw [zU_o (by omega), zU_o (by omega)]; exact s3) (by first | assumption | omega | decide) (by first | assumption | omega | decide)) ml_X8_30 yw_X6_put dX8_add_33 (by first | rfl | assumption) (by omega) rfl rfl rfl (Nat.le_of_ble_eq_true rfl) ⟨by decide, by decide⟩ (fun t33 q33 => ?_)
  obtain rfl := q33
  refine z_aload_n (pc := 36) C dX8_add_36 rfl 0 rfl ?_
  refine z_dup (pc := 37) C dX8_add_37 rfl ?_
  refine z_getI (pc := 38) C fl_X8_26 dX8_add_38 (by first | rfl | assumption) (by omega) (fun g38 => ?_)
  refine z_iconst (pc := 41) C dX8_add_41 ?_
  refine z_iadd (pc := 42) C dX8_add_42 ?_
  rw [show zU (zU (zU σ (o + 1 + 1) m p) (o + 3 + 1) m q) (o + 5 + 1) m x o 3 = (m : Int) by rw [zU_o (by omega), zU_o (by omega), zU_o (by omega)]; exact s3]
  refine z_putIe (pc := 43) C fl_X8_26 dX8_add_43 (by first | rfl | assumption) (by omega) (by omega) (fun m43 em43 => ?_)
  refine z_vret (pc := 46) C dX8_add_46 ?_
  refine ⟨rfl, ⟨by rw [em43, zU_at]; omega, fun i hi => ?_⟩, by rw [em43]; exact (((zFr.rf.put (by omega) (by omega)).put (by omega) (by omega)).put (by omega) (by omega)).put (by omega) (by omega)⟩
  have w1 := show o + 2 ≠ o by omega
  have w2 := show o + 2 ≠ o + 5 + 1 by omega
  have w3 := show o + 2 ≠ o + 3 + 1 by omega
  have w4 := show o + 4 ≠ o by omega
  have w5 := show o + 4 ≠ o + 5 + 1 by omega
  have w6 := show o + 6 ≠ o by omega
  have w7 := show o + 4 ≠ o + 1 + 1 by omega
  have w8 := show o + 6 ≠ o + 3 + 1 by omega
  have w9 := show o + 6 ≠ o + 1 + 1 by omega
  rw [em43, zU_o w1, zU_o w2, zU_o w3, zU_o w4, zU_o w5, zU_o w6]
  unfold zup
  by_cases e : i = m
  · rw [e, if_pos rfl, if_pos rfl, if_pos rfl]
    exact ⟨zU_at, zU_at, zU_at⟩
  · rw [if_neg e, if_neg e, if_neg e]
    obtain ⟨a, b, c⟩ := sS i (by omega)
    exact ⟨(zU_k e).trans a, (zU_k e).trans ((zU_o w7).trans b), (zU_k e).trans ((zU_o w8).trans ((zU_o w9).trans c))⟩
set_option maxHeartbeats 4000000 in
set_option maxRecDepth 100000 in
theorem c_X8_take (l : Launch) (G : zGt) (σ : zMem) (o o2 : Nat) (hL : zSits o) (hL2 : zSits o2) (hd : o + 7 ≤ o2 ∨ o2 + 7 ≤ o) : zN l G yX8_take cX8_take 2 (none) 1 [.ref (zB G + o), .ref (zB G + o2)] σ (zPv (fun τ => zFr o (o + 7) σ τ ∧ τ o 3 = σ o2 3 ∧ ∀ k, k < 6 → τ (o + 2) k = σ (o2 + 2) k ∧ τ (o + 4) k = σ (o2 + 4) k ∧ τ (o + 6) k = σ (o2 + 6) k)) := by
  obtain ⟨k0, b1, b3, b5, k6⟩ := id hL
  have kk1 := b1.1
  have kk3 := b3.1
  have kk5 := b5.1
  obtain ⟨j0, d1, d3, d5, j6⟩ := id hL2
  have jj1 := d1.1
  have jj3 := d3.1
  have jj5 := d5.1
  refine zM.of (lv0 := [(0, _), (1, _)]) (by decide) (Nat.le_of_ble_eq_true rfl) rfl (fun X C => ?_)
  refine z_aload_n (pc := 0) C dX8_take_0 rfl 0 rfl ?_
  refine z_getR (pc := 1) C (o + 1) fl_X8_14 dX8_take_1 (by first | rfl | assumption) (by omega) rfl (Or.inl rfl) ?_
  refine z_aload_n (pc := 4) C dX8_take_4 rfl 1 rfl ?_
  refine z_getR (pc := 5) C (o2 + 1) fl_X8_14 dX8_take_5 (by first | rfl | assumption) (by omega) rfl (Or.inl rfl) ?_
  refine z_Vv (pc := 8) C (c_X6_take l G _ _ _ _ (by first | assumption | omega | decide) (by first | assumption | omega | decide) (by first | assumption | omega | decide)) ml_X8_34 yw_X6_take dX8_take_8 (by first | rfl | assumption) (by omega) rfl rfl rfl (Nat.le_of_ble_eq_true rfl) ⟨by decide, by decide⟩ (fun t8 q8 => ?_)
  refine z_aload_n (pc := 11) C dX8_take_11 rfl 0 rfl ?_
  refine z_getR (pc := 12) C (o + 3) fl_X8_20 dX8_take_12 (by first | rfl | assumption) (by omega) rfl (Or.inl rfl) ?_
  refine z_aload_n (pc := 15) C dX8_take_15 rfl 1 rfl ?_
  refine z_getR (pc := 16) C (o2 + 3) fl_X8_20 dX8_take_16 (by first | rfl | assumption) (by omega) rfl (Or.inl rfl) ?_
  refine z_Vv (pc := 19) C (c_X6_take l G _ _ _ _ (by first | assumption | omega | decide) (by first | assumption | omega | decide) (by first | assumption | omega | decide)) ml_X8_34 yw_X6_take dX8_take_19 (by first | rfl | assumption) (by omega) rfl rfl rfl (Nat.le_of_ble_eq_true rfl) ⟨by decide, by decide⟩ (fun t19 q19 => ?_)
  refine z_aload_n (pc := 22) C dX8_take_22 rfl 0 rfl ?_
  refine z_getR (pc := 23) C (o + 5) fl_X8_23 dX8_take_23 (by first | rfl | assumption) (by omega) rfl (Or.inl rfl) ?_
  refine z_aload_n (pc := 26) C dX8_take_26 rfl 1 rfl ?_
  refine z_getR (pc := 27) C (o2 + 5) fl_X8_23 dX8_take_27 (by first | rfl | assumption) (by omega) rfl (Or.inl rfl) ?_
  refine z_Vv (pc := 30) C (c_X6_take l G _ _ _ _ (by first | assumption | omega | decide) (by first | assumption | omega | decide) (by first | assumption | omega | decide)) ml_X8_34 yw_X6_take dX8_take_30 (by first | rfl | assumption) (by omega) rfl rfl rfl (Nat.le_of_ble_eq_true rfl) ⟨by decide, by decide⟩ (fun t30 q30 => ?_)
  refine z_aload_n (pc := 33) C dX8_take_33 rfl 0 rfl ?_
  refine z_aload_n (pc := 34) C dX8_take_34 rfl 1 rfl ?_
  refine z_getI (pc := 35) C fl_X8_26 dX8_take_35 (by first | rfl | assumption) (by omega) (fun g35 => ?_)
  refine z_putIe (pc := 38) C fl_X8_26 dX8_take_38 (by first | rfl | assumption) (by omega) (by omega) (fun m38 em38 => ?_)
  refine z_vret (pc := 41) C dX8_take_41 ?_
  have a8 : ∀ a k, t8 a k = if a = o + 2 ∧ k < 6 then σ (o2 + 2) k else σ a k := q8
  have a19 : ∀ a k, t19 a k = if a = o + 4 ∧ k < 6 then t8 (o2 + 4) k else t8 a k := q19
  have a30 : ∀ a k, t30 a k = if a = o + 6 ∧ k < 6 then t19 (o2 + 6) k else t19 a k := q30
  refine ⟨rfl, fun a k ha => ?_, ?_, fun k hk => ⟨?_, ?_, ?_⟩⟩
  · rw [em38, zU_o (by omega), a30, if_neg (by omega), a19, if_neg (by omega), a8, if_neg (by omega)]
  · rw [em38, zU_at, a30, if_neg (by omega), a19, if_neg (by omega), a8, if_neg (by omega)]
  · rw [em38, zU_o (by omega), a30, if_neg (by omega), a19, if_neg (by omega), a8, if_pos ⟨rfl, hk⟩]
  · rw [em38, zU_o (by omega), a30, if_neg (by omega), a19, if_pos ⟨rfl, hk⟩, a8, if_neg (by omega)]
  · rw [em38, zU_o (by omega), a30, if_pos ⟨rfl, hk⟩, a19, if_neg (by omega), a8, if_neg (by omega)]
