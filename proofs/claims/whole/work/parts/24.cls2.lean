set_option maxHeartbeats 4000000 in
set_option maxRecDepth 100000 in
theorem c_X9_lane (l : Launch) (G : zGt) (σ : zMem) (m : Nat) (P : Nat → Int) (hg : zPg σ m P) (hpr : zPr0 P) (hm : m ≤ 26) (n : Nat) (h4 : σ 4 4 = n) (lr : Int) (hlr : σ 0 12 = lr) (hlb : 0 ≤ lr ∧ lr ≤ 100000) : zN l G yX9_lane cX9_lane 2 (some .int) 12 [.ref (zB G + 0)] σ (zPi (fun x τ => (zIsL P m ∧ x = ((m + 1) / 4 : Nat) ∧ zLa τ 4 ((m + 1) / 4) 0 0 (zKl P ((m + 1) / 4)) (zRl P ((m + 1) / 4)) (zVl P ((m + 1) / 4)) (fun _ => 0) ∧ τ 1 1 = 0 ∧ τ 13 3 = 0 ∧ τ 0 11 = 0 ∧ τ 0 12 = lr + 1 ∧ zFr 0 20 σ τ) ∨ (¬ zIsL P m ∧ x = -103 ∧ σ = τ))) := by
  have hL4 : zLane 4 := by decide
  obtain ⟨g1, gP⟩ := id hg
  refine zM.of (lv0 := [(0, _)]) (by decide) (Nat.le_of_ble_eq_true rfl) rfl (fun X C => ?_)
  have L29 : ∀ (fuel : Nat) (N i : Nat) (τ : zMem), N - i < fuel → (((m + 1) / 4 = N ∧ zIsL P m) ∧ i ≤ N ∧ (τ 4 4 = N ∧ τ 4 5 = 0 ∧ τ 4 6 = 0) ∧ (∀ j, j < i → τ 6 j = zkd (P (4 * j)) ∧ τ 8 j = P (4 * j + 1) - 48 ∧ τ 10 j = P (4 * j + 2) - 48 ∧ τ 12 j = 0) ∧ zFr 4 13 σ τ) → zg G X true 2 129 0 0 29 [(0, .ref (zB G + 0)), (1, .int (zI (i : Int)))] [] τ := by
    intro fuel
    induction fuel with
    | zero => intro N i τ hm; exact absurd hm (Nat.not_lt_zero _)
    | succ fuel ih =>
      intro N i τ hms hinv
      obtain ⟨⟨hN, hil⟩, h1, ⟨e4, e5, e6⟩, h3, h5⟩ := hinv
      obtain ⟨n1, n2, n3, n4⟩ := hil.ok
      rw [hN] at n4
      have hg2 : zPg τ m P := ⟨(h5 _ _ (by omega)).trans g1, fun j hj => (h5 _ _ (by omega)).trans (gP j hj)⟩
      refine z_iload_n (pc := 29) C dX9_lane_29 rfl 1 rfl ?_
      refine z_aload_n (pc := 30) C dX9_lane_30 rfl 0 rfl ?_
      refine z_getR (pc := 31) C (4) fl_X9_19 dX9_lane_31 (by first | rfl | assumption) (by omega) rfl (Or.inl rfl) ?_
      refine z_getI (pc := 34) C fl_X9_107 dX9_lane_34 (by first | rfl | assumption) (by omega) (fun g34 => ?_)
      refine z_icmp_ge (pc := 37) (tgt := 78) C dX9_lane_37 (by decide) ⟨by omega, by omega⟩ (fun c37 => ?_) (fun c37 => ?_)
      · refine z_aload_n (pc := 78) C dX9_lane_78 rfl 0 rfl ?_
        refine z_getR (pc := 79) C (1) fl_X9_10 dX9_lane_79 (by first | rfl | assumption) (by omega) rfl (Or.inl rfl) ?_
        refine z_iconst (pc := 82) C dX9_lane_82 ?_
        refine z_putIe (pc := 83) C fl_X9_86 dX9_lane_83 (by first | rfl | assumption) (by omega) (by omega) (fun m83 em83 => ?_)
        refine z_aload_n (pc := 86) C dX9_lane_86 rfl 0 rfl ?_
        refine z_getR (pc := 87) C (13) fl_X9_26 dX9_lane_87 (by first | rfl | assumption) (by omega) rfl (Or.inl rfl) ?_
        refine z_iconst (pc := 90) C dX9_lane_90 ?_
        refine z_putIe (pc := 91) C fl_X9_122 dX9_lane_91 (by first | rfl | assumption) (by omega) (by omega) (fun m91 em91 => ?_)
        refine z_aload_n (pc := 94) C dX9_lane_94 rfl 0 rfl ?_
        refine z_iconst (pc := 95) C dX9_lane_95 ?_
        refine z_putZe (pc := 96) C fl_X9_74 dX9_lane_96 (by first | rfl | assumption) (by omega) (by omega) (fun m96 em96 => ?_)
        refine z_aload_n (pc := 99) C dX9_lane_99 rfl 0 rfl ?_
        refine z_dup (pc := 100) C dX9_lane_100 rfl ?_
        refine z_getI (pc := 101) C fl_X9_78 dX9_lane_101 (by first | rfl | assumption) (by omega) (fun g101 => ?_)
        refine z_iconst (pc := 104) C dX9_lane_104 ?_
        refine z_iadd (pc := 105) C dX9_lane_105 ?_
        rw [show m96 0 12 = lr by rw [em96, zU_k (by omega), em91, zU_o (by omega), em83, zU_o (by omega), h5 0 12 (by omega), hlr]]
        refine z_putIe (pc := 106) C fl_X9_78 dX9_lane_106 (by first | rfl | assumption) (by omega) (by omega) (fun m106 em106 => ?_)
        refine z_aload_n (pc := 109) C dX9_lane_109 rfl 0 rfl ?_
        refine z_getR (pc := 110) C (4) fl_X9_19 dX9_lane_110 (by first | rfl | assumption) (by omega) rfl (Or.inl rfl) ?_
        refine z_getI (pc := 113) C fl_X9_107 dX9_lane_113 (by first | rfl | assumption) (by omega) (fun g113 => ?_)
        refine z_iret (pc := 116) C dX9_lane_116 ?_
        have hiN : i = N := by omega
        have v1 : ∀ a k, (a ≠ 1 ∨ k ≠ 1) → (a ≠ 13 ∨ k ≠ 3) → (a ≠ 0) → m106 a k = τ a k := fun a k b1 b2 b3 => by
          rw [em106, em96, em91, em83]; unfold zU; rw [if_neg (by omega), if_neg (by omega), if_neg (by omega), if_neg (by omega)]
        have hl : zLa m106 4 N 0 0 (zKl P N) (zRl P N) (zVl P N) (fun _ => 0) := ⟨(v1 _ _ (by omega) (by omega) (by omega)).trans e4, (v1 _ _ (by omega) (by omega) (by omega)).trans e5, (v1 _ _ (by omega) (by omega) (by omega)).trans e6, fun j hj => by
          obtain ⟨a1, a2, a3, a4⟩ := h3 j (by omega)
          unfold zKl zRl zVl
          rw [if_pos hj, if_pos hj, if_pos hj]
          exact ⟨(v1 _ _ (by omega) (by omega) (by omega)).trans a1, (v1 _ _ (by omega) (by omega) (by omega)).trans a2, (v1 _ _ (by omega) (by omega) (by omega)).trans a3, (v1 _ _ (by omega) (by omega) (by omega)).trans a4⟩⟩
        have w4 := hl.1
        refine ⟨_, rfl, by omega, Or.inl ⟨hil, by rw [hN]; exact w4, by rw [hN]; exact hl, ?_, ?_, ?_, ?_, ?_⟩⟩
        · rw [em106, zU_o (by omega), em96, zU_o (by omega), em91, zU_o (by omega), em83]; exact zU_at
        · rw [em106, zU_o (by omega), em96, zU_o (by omega), em91]; exact zU_at
        · rw [em106, zU_k (by omega), em96]; exact zU_at
        · rw [em106, zU_at]
        · exact fun a k ha => (v1 a k (by omega) (by omega) (by omega)).trans (h5 a k (by omega))
      · refine z_aload_n (pc := 40) C dX9_lane_40 rfl 0 rfl ?_
        have n4i := n4 i
        unfold zKl zRl zVl at n4i
        rw [if_pos (by omega), if_pos (by omega), if_pos (by omega)] at n4i
        refine z_getR (pc := 41) C (4) fl_X9_19 dX9_lane_41 (by first | rfl | assumption) (by omega) rfl (Or.inl rfl) ?_
        refine z_iload_n (pc := 44) C dX9_lane_44 rfl 1 rfl ?_
        refine z_aload_n (pc := 45) C dX9_lane_45 rfl 0 rfl ?_
        refine z_getR (pc := 46) C (1) fl_X9_10 dX9_lane_46 (by first | rfl | assumption) (by omega) rfl (Or.inl rfl) ?_
        refine z_iload_n (pc := 49) C dX9_lane_49 rfl 1 rfl ?_
        refine z_Vi (pc := 50) C (c_X2_kindTold l G _ m P hg2 hpr hm i _ rfl (by omega)) ml_X9_108 yw_X2_kindTold dX9_lane_50 (by first | rfl | assumption) (by omega) rfl rfl rfl (Nat.le_of_ble_eq_true rfl) ⟨by decide, by decide⟩ (fun r50 t50 h50 q50 => ?_)
        obtain ⟨rfl, rfl⟩ := q50
        refine z_aload_n (pc := 53) C dX9_lane_53 rfl 0 rfl ?_
        refine z_getR (pc := 54) C (1) fl_X9_10 dX9_lane_54 (by first | rfl | assumption) (by omega) rfl (Or.inl rfl) ?_
        refine z_iload_n (pc := 57) C dX9_lane_57 rfl 1 rfl ?_
        refine z_Vi (pc := 58) C (c_X2_reedTold l G _ m P hg2 hpr hm i _ rfl (by omega)) ml_X9_112 yw_X2_reedTold dX9_lane_58 (by first | rfl | assumption) (by omega) rfl rfl rfl (Nat.le_of_ble_eq_true rfl) ⟨by decide, by decide⟩ (fun r58 t58 h58 q58 => ?_)
        obtain ⟨rfl, rfl⟩ := q58
        refine z_aload_n (pc := 61) C dX9_lane_61 rfl 0 rfl ?_
        refine z_getR (pc := 62) C (1) fl_X9_10 dX9_lane_62 (by first | rfl | assumption) (by omega) rfl (Or.inl rfl) ?_
        refine z_iload_n (pc := 65) C dX9_lane_65 rfl 1 rfl ?_
        refine z_Vi (pc := 66) C (c_X2_worryTold l G _ m P hg2 hpr hm i _ rfl (by omega)) ml_X9_115 yw_X2_worryTold dX9_lane_66 (by first | rfl | assumption) (by omega) rfl rfl rfl (Nat.le_of_ble_eq_true rfl) ⟨by decide, by decide⟩ (fun r66 t66 h66 q66 => ?_)
        obtain ⟨rfl, rfl⟩ := q66
        refine z_Vv (pc := 69) C (c_X1_settle l G _ _ (i) _ _ _ _ (by first | assumption | omega | decide) (rfl) (by first | assumption | omega | decide) (by omega) (by omega) (by omega)) ml_X9_118 yw_X1_settle dX9_lane_69 (by first | rfl | assumption) (by omega) rfl rfl rfl (Nat.le_of_ble_eq_true rfl) ⟨by decide, by decide⟩ (fun t69 q69 => ?_)
        refine z_iinc (pc := 72) (lv' := [(1, _), (0, _)]) C dX9_lane_72 1 rfl (by decide) rfl ?_
        refine z_goto (pc := 75) (tgt := 29) C dX9_lane_75 (by decide) ?_
        refine z_sub C [1, 0] rfl ?_
        have hst : ∀ j, j < i + 1 → t69 6 j = zkd (P (4 * j)) ∧ t69 8 j = P (4 * j + 1) - 48 ∧ t69 10 j = P (4 * j + 2) - 48 ∧ t69 12 j = 0 := by
          intro j hj
          rw [q69]
          by_cases e : j = i
          · rw [e]
            exact ⟨by rw [zU_o (by omega), zU_o (by omega), zU_o (by omega)]; exact zU_at, by rw [zU_o (by omega), zU_o (by omega)]; exact zU_at, by rw [zU_o (by omega)]; exact zU_at, zU_at⟩
          · obtain ⟨a1, a2, a3, a4⟩ := h3 j (by omega)
            exact ⟨by rw [zU_o (by omega), zU_o (by omega), zU_o (by omega)]; exact (zU_k e).trans a1, by rw [zU_o (by omega), zU_o (by omega)]; exact (zU_k e).trans ((zU_o (by omega)).trans a2), by rw [zU_o (by omega)]; exact (zU_k e).trans ((zU_o (by omega)).trans ((zU_o (by omega)).trans a3)), (zU_k e).trans ((zU_o (by omega)).trans ((zU_o (by omega)).trans ((zU_o (by omega)).trans a4)))⟩
        exact ih N (i + 1) _ (by omega) ⟨⟨hN, hil⟩, by omega, ⟨by rw [q69, zU_o (by omega), zU_o (by omega), zU_o (by omega), zU_o (by omega)]; exact e4, by rw [q69, zU_o (by omega), zU_o (by omega), zU_o (by omega), zU_o (by omega)]; exact e5, by rw [q69, zU_o (by omega), zU_o (by omega), zU_o (by omega), zU_o (by omega)]; exact e6⟩, hst, by rw [q69]; exact (((h5.put (by omega) (by omega)).put (by omega) (by omega)).put (by omega) (by omega)).put (by omega) (by omega)⟩
  refine z_aload_n (pc := 0) C dX9_lane_0 rfl 0 rfl ?_
  refine z_getR (pc := 1) C (1) fl_X9_10 dX9_lane_1 (by first | rfl | assumption) (by omega) rfl (Or.inl rfl) ?_
  refine z_Vi (pc := 4) C (c_X2_isLane l G _ m P hg hpr hm) ml_X9_97 yw_X2_isLane dX9_lane_4 (by first | rfl | assumption) (by omega) rfl rfl rfl (Nat.le_of_ble_eq_true rfl) ⟨by decide, by decide⟩ (fun r4 t4 h4 q4 => ?_)
  obtain ⟨q4, rfl⟩ := q4
  refine z_if_ne (pc := 7) (tgt := 13) C dX9_lane_7 (by decide) (by omega) (fun c7 => ?_) (fun c7 => ?_)
  · have hil : zIsL P m := by
      rw [q4] at c7
      unfold zIsL
      by_cases hq : m % 4 = 3 ∧ zff P m = m
      · exact hq
      · rw [if_neg hq] at c7; omega
    obtain ⟨n1, n2, n3, n4⟩ := hil.ok
    obtain ⟨N, hN⟩ : ∃ N, (m + 1) / 4 = N := ⟨_, rfl⟩
    have hN2 : ((m : Int) + 1) / 4 = N := by omega
    refine z_aload_n (pc := 13) C dX9_lane_13 rfl 0 rfl ?_
    refine z_getR (pc := 14) C (4) fl_X9_19 dX9_lane_14 (by first | rfl | assumption) (by omega) rfl (Or.inl rfl) ?_
    refine z_aload_n (pc := 17) C dX9_lane_17 rfl 0 rfl ?_
    refine z_getR (pc := 18) C (1) fl_X9_10 dX9_lane_18 (by first | rfl | assumption) (by omega) rfl (Or.inl rfl) ?_
    refine z_Vi (pc := 21) C (c_X2_housesTold l G _ m P hg hpr hm) ml_X9_101 yw_X2_housesTold dX9_lane_21 (by first | rfl | assumption) (by omega) rfl rfl rfl (Nat.le_of_ble_eq_true rfl) ⟨by decide, by decide⟩ (fun r21 t21 h21 q21 => ?_)
    obtain ⟨rfl, rfl⟩ := q21
    refine z_Vv (pc := 24) C (c_X1_begin l G _ _ _ (by first | assumption | omega | decide) (by omega)) ml_X9_104 yw_X1_begin dX9_lane_24 (by first | rfl | assumption) (by omega) rfl rfl rfl (Nat.le_of_ble_eq_true rfl) ⟨by decide, by decide⟩ (fun t24 q24 => ?_)
    obtain rfl := q24
    refine z_iconst (pc := 27) C dX9_lane_27 ?_
    refine z_istore_n (pc := 28) (lv' := [(1, _), (0, _)]) C dX9_lane_28 rfl (by decide) rfl ?_
    refine z_sub C [1, 0] rfl ?_
    exact L29 _ N 0 _ (Nat.lt_succ_self _) ⟨⟨hN, hil⟩, by omega, ⟨by rw [zU_k (by omega), zU_k (by omega), zU_at]; exact hN2, by rw [zU_k (by omega), zU_at], zU_at⟩, fun j hj => by omega, ((zFr.rf.put (by omega) (by omega)).put (by omega) (by omega)).put (by omega) (by omega)⟩
  · refine z_bipush (pc := 10) C dX9_lane_10 (by decide +kernel) ?_
    refine z_iret (pc := 12) C dX9_lane_12 ?_
    have hnl : ¬ zIsL P m := by
      intro hq
      unfold zIsL at hq
      rw [q4, if_pos hq] at c7
      omega
    exact ⟨_, rfl, by omega, Or.inr ⟨hnl, rfl, rfl⟩⟩
set_option maxHeartbeats 4000000 in
set_option maxRecDepth 100000 in
theorem c_X9_dry (l : Launch) (G : zGt) (σ : zMem) (n : Nat) (y w : Int) (K R V E : Nat → Int) (h : zLa σ 4 n y w K R V E) (hr : zLr K R V E) (hn : n ≤ 6) (p rain : Int) (hp : zR p) (hx : zR rain) (hy : 0 ≤ y ∧ y ≤ 90000) : zN l G yX9_dry cX9_dry 4 (some .int) 3 [.ref (zB G + 0), .int (zI p), .int (zI rain)] σ (zPi (fun x τ => x = zaDry n y K R V E p rain ∧ zFr 36 108 σ τ)) := by
  have hL4 : zLane 4 := by decide
  obtain ⟨s4, s5, s6, sA⟩ := id h
  have hL36 : zLane 36 := by decide
  refine zM.of (lv0 := [(0, _), (1, _), (2, _)]) (by decide) (Nat.le_of_ble_eq_true rfl) rfl (fun X C => ?_)
  have L40 : ∀ (fuel : Nat) (i k : Nat) (τ : zMem), 41 - k < fuel → ((i < n ∧ p = i ∧ 0 ≤ rain ∧ rain ≤ 20) ∧ k ≤ 41 ∧ zLa τ 36 n (y + (k : Int)) w K (zRy K R V E y k) V (zEy E k) ∧ zFr 36 108 σ τ ∧ zfs (fun k => zwp (zRy K R V E y k) rain i) (41 - k) k = zfs (fun k => zwp (zRy K R V E y k) rain i) 41 0) → zg G X true 4 129 0 0 40 [(0, .ref (zB G + 0)), (1, .int (zI p)), (2, .int (zI rain)), (3, .int (zI (k : Int)))] [] τ := by
    intro fuel
    induction fuel with
    | zero => intro i k τ hm; exact absurd hm (Nat.not_lt_zero _)
    | succ fuel ih =>
      intro i k τ hms hinv
      obtain ⟨⟨hi, rfl, hx1, hx2⟩, h1, h2, h3, h4⟩ := hinv
      refine z_iload_n (pc := 40) C dX9_dry_40 rfl 3 rfl ?_
      refine z_bipush (pc := 41) C dX9_dry_41 (by decide +kernel) ?_
      refine z_icmp_gt (pc := 43) (tgt := 73) C dX9_dry_43 (by decide) ⟨by omega, by omega⟩ (fun c43 => ?_) (fun c43 => ?_)
      · refine z_iconst (pc := 73) C dX9_dry_73 ?_
        refine z_iret (pc := 74) C dX9_dry_74 ?_
        have hz : zaDry n y K R V E (i : Int) rain = -1 := by
          rw [zaDry, if_pos (by omega), if_pos (by omega)]
          refine Eq.trans h4.symm ?_
          rw [show 41 - k = 0 by omega]; rfl
        exact ⟨_, rfl, by omega, hz.symm, h3⟩
      · refine z_aload_n (pc := 46) C dX9_dry_46 rfl 0 rfl ?_
        refine z_getR (pc := 47) C (36) fl_X9_36 dX9_dry_47 (by first | rfl | assumption) (by omega) rfl (Or.inl rfl) ?_
        refine z_iload_n (pc := 50) C dX9_dry_50 rfl 1 rfl ?_
        refine z_iload_n (pc := 51) C dX9_dry_51 rfl 2 rfl ?_
        refine z_Vi (pc := 52) C (c_X1_isWet l G _ 36 n _ _ K _ _ _ hL36 h2 (zRy_r hr k) hn i _ rfl (by omega) rain (by omega)) ml_X9_195 yw_X1_isWet dX9_dry_52 (by first | rfl | assumption) (by omega) rfl rfl rfl (Nat.le_of_ble_eq_true rfl) ⟨by decide, by decide⟩ (fun r52 t52 h52 q52 => ?_)
        obtain ⟨rfl, rfl⟩ := q52
        refine z_if_eq (pc := 55) (tgt := 60) C dX9_dry_55 (by decide) (by omega) (fun c55 => ?_) (fun c55 => ?_)
        · refine z_aload_n (pc := 60) C dX9_dry_60 rfl 0 rfl ?_
          refine z_getR (pc := 61) C (36) fl_X9_36 dX9_dry_61 (by first | rfl | assumption) (by omega) rfl (Or.inl rfl) ?_
          refine z_Vv (pc := 64) C (c_X1_passYear l G _ 36 n _ _ K _ _ _ hL36 h2 (zRy_r hr k) hn (by omega)) ml_X9_169 yw_X1_passYear dX9_dry_64 (by first | rfl | assumption) (by omega) rfl rfl rfl (Nat.le_of_ble_eq_true rfl) ⟨by decide, by decide⟩ (fun t64 q64 => ?_)
          obtain ⟨u64, f64⟩ := q64
          refine z_iinc (pc := 67) (lv' := [(3, _), (0, _), (1, _), (2, _)]) C dX9_dry_67 3 rfl (by decide) rfl ?_
          refine z_goto (pc := 70) (tgt := 40) C dX9_dry_70 (by decide) ?_
          refine z_sub C [1, 2, 3, 0] rfl ?_
          exact ih i (k + 1) _ (by omega) ⟨⟨hi, rfl, hx1, hx2⟩, by omega, u64.ext (by omega) rfl (fun j hj => ⟨rfl, by rw [zRy_s], rfl, by unfold zEy; rw [if_neg (by omega)]⟩), h3.tr (f64.mono (by omega) (by omega)), by rw [← h4, show 41 - k = (41 - (k + 1)) + 1 by omega, zfs, if_neg (by omega)]⟩
        · refine z_iload_n (pc := 58) C dX9_dry_58 rfl 3 rfl ?_
          refine z_iret (pc := 59) C dX9_dry_59 ?_
          have hz : zaDry n y K R V E (i : Int) rain = (k : Int) := by
            rw [zaDry, if_pos (by omega), if_pos (by omega)]
            refine Eq.trans h4.symm ?_
            rw [show 41 - k = (41 - (k + 1)) + 1 by omega, zfs, if_pos]
            have hzz := zwp_bd (zRy K R V E y k) rain i
            omega
          exact ⟨_, rfl, by omega, hz.symm, h3⟩
  refine z_aload_n (pc := 0) C dX9_dry_0 rfl 0 rfl ?_
  refine z_getR (pc := 1) C (4) fl_X9_19 dX9_dry_1 (by first | rfl | assumption) (by omega) rfl (Or.inl rfl) ?_
  refine z_iload_n (pc := 4) C dX9_dry_4 rfl 1 rfl ?_
  refine z_Vi (pc := 5) C (c_hasD l G _ _ _ _ (hL4) (s4) (by first | assumption | omega | decide) (by first | assumption | omega | decide)) ml_X9_123 yw_X1_has dX9_dry_5 (by first | rfl | assumption) (by omega) rfl rfl rfl (Nat.le_of_ble_eq_true rfl) ⟨by decide, by decide⟩ (fun r5 t5 h5 q5 => ?_)
  obtain ⟨w5, rfl⟩ := q5
  refine z_if_ne (pc := 8) (tgt := 14) C dX9_dry_8 (by decide) (by omega) (fun c8 => ?_) (fun c8 => ?_)
  · refine z_iload_n (pc := 14) C dX9_dry_14 rfl 2 rfl ?_
    refine z_iconst (pc := 15) C dX9_dry_15 ?_
    refine z_bipush (pc := 16) C dX9_dry_16 (by decide +kernel) ?_
    refine z_Si (pc := 18) C (c_withinD l G _ _ _ _ (by first | assumption | omega | decide) (by first | assumption | omega | decide) (by first | assumption | omega | decide)) ml_X9_82 ys_X9_within dX9_dry_18 rfl rfl (Nat.le_of_ble_eq_true rfl) ⟨by decide, by decide⟩ (fun r18 t18 h18 q18 => ?_)
    obtain ⟨w18, rfl⟩ := q18
    refine z_if_ne (pc := 21) (tgt := 27) C dX9_dry_21 (by decide) (by omega) (fun c21 => ?_) (fun c21 => ?_)
    · refine z_aload_n (pc := 27) C dX9_dry_27 rfl 0 rfl ?_
      obtain ⟨i, rfl⟩ : ∃ i : Nat, p = i := ⟨p.toNat, by omega⟩
      have hi : i < n := by omega
      have hri := hr i
      have hA := sA i hi
      have hxr : 0 ≤ rain ∧ rain ≤ 20 := by omega
      refine z_getR (pc := 28) C (36) fl_X9_36 dX9_dry_28 (by first | rfl | assumption) (by omega) rfl (Or.inl rfl) ?_
      refine z_aload_n (pc := 31) C dX9_dry_31 rfl 0 rfl ?_
      refine z_getR (pc := 32) C (4) fl_X9_19 dX9_dry_32 (by first | rfl | assumption) (by omega) rfl (Or.inl rfl) ?_
      refine z_Vv (pc := 35) C (c_X1_take l G _ 36 4 hL36 hL4 (by omega)) ml_X9_191 yw_X1_take dX9_dry_35 (by first | rfl | assumption) (by omega) rfl rfl rfl (Nat.le_of_ble_eq_true rfl) ⟨by decide, by decide⟩ (fun t35 q35 => ?_)
      obtain ⟨f35, e4, e5, e6, eA⟩ := q35
      have hl0 : zLa t35 36 n y w K R V E := ⟨e4.trans s4, e5.trans s5, e6.trans s6, fun j hj => by
        obtain ⟨a1, a2, a3, a4⟩ := eA j (by omega)
        obtain ⟨g1, g2, g3, g4⟩ := sA j hj
        exact ⟨a1.trans g1, a2.trans g2, a3.trans g3, a4.trans g4⟩⟩
      refine z_iconst (pc := 38) C dX9_dry_38 ?_
      refine z_istore_n (pc := 39) (lv' := [(3, _), (0, _), (1, _), (2, _)]) C dX9_dry_39 rfl (by decide) rfl ?_
      refine z_sub C [1, 2, 3, 0] rfl ?_
      exact L40 _ i 0 _ (Nat.lt_succ_self _) ⟨⟨hi, rfl, hxr.1, hxr.2⟩, by omega, hl0.ext (by simp) rfl (fun j hj => ⟨rfl, rfl, rfl, rfl⟩), f35.mono (by omega) (by omega), rfl⟩
    · refine z_bipush (pc := 24) C dX9_dry_24 (by decide +kernel) ?_
      refine z_iret (pc := 26) C dX9_dry_26 ?_
      exact ⟨_, rfl, by omega, by rw [zaDry, if_pos (by omega), if_neg (by omega)], zFr.rf⟩
  · refine z_bipush (pc := 11) C dX9_dry_11 (by decide +kernel) ?_
    refine z_iret (pc := 13) C dX9_dry_13 ?_
    exact ⟨_, rfl, by omega, by rw [zaDry, if_neg (by omega)], zFr.rf⟩
set_option maxHeartbeats 4000000 in
set_option maxRecDepth 100000 in
theorem c_X9_plan (l : Launch) (G : zGt) (σ : zMem) (n : Nat) (y w : Int) (K R V E : Nat → Int) (h : zLa σ 4 n y w K R V E) (hr : zLr K R V E) (hn : n ≤ 6) (p rain what : Int) (hp : zR p) (hx : zR rain) (hw : zR what) (hy : 0 ≤ y ∧ y ≤ 90000) : zN l G yX9_plan cX9_plan 5 (some .int) 19 [.ref (zB G + 0), .int (zI p), .int (zI rain), .int (zI what)] σ (zPi (fun x τ => x = zaPlan n y K R V E p rain what ∧ zFr 36 108 σ τ)) := by
  have hL4 : zLane 4 := by decide
  obtain ⟨s4, s5, s6, sA⟩ := id h
  refine zM.of (lv0 := [(0, _), (1, _), (2, _), (3, _)]) (by decide) (Nat.le_of_ble_eq_true rfl) rfl (fun X C => ?_)
  have J25 : ∀ (t : Int), ((t = 1 ∧ ((0 ≤ what ∧ what ≤ 1) ∨ (10 ≤ what ∧ what ≤ 13))) ∨ (t = 0 ∧ ¬ ((0 ≤ what ∧ what ≤ 1) ∨ (10 ≤ what ∧ what ≤ 13)))) → zg G X true 5 129 0 0 25 [(0, .ref (zB G + 0)), (1, .int (zI p)), (2, .int (zI rain)), (3, .int (zI what))] [.int (zI t)] σ := by
    intro t ht
    refine z_istore (pc := 25) (lv' := [(4, _), (0, _), (1, _), (2, _), (3, _)]) C dX9_plan_25 (by decide) rfl ?_
    refine z_iload_n (pc := 27) C dX9_plan_27 rfl 2 rfl ?_
    refine z_iconst (pc := 28) C dX9_plan_28 ?_
    refine z_iconst (pc := 29) C dX9_plan_29 ?_
    refine z_Si (pc := 30) C (c_withinD l G _ _ _ _ (by first | assumption | omega | decide) (by first | assumption | omega | decide) (by first | assumption | omega | decide)) ml_X9_82 ys_X9_within dX9_plan_30 rfl rfl (Nat.le_of_ble_eq_true rfl) ⟨by decide, by decide⟩ (fun r30 t30 h30 q30 => ?_)
    obtain ⟨w30, rfl⟩ := q30
    refine z_if_eq (pc := 33) (tgt := 51) C dX9_plan_33 (by decide) (by omega) (fun c33 => ?_) (fun c33 => ?_)
    · refine z_bipush (pc := 51) C dX9_plan_51 (by decide +kernel) ?_
      refine z_iret (pc := 53) C dX9_plan_53 ?_
      exact ⟨_, rfl, by omega, by rw [zaPlan, if_neg (by omega)], zFr.rf⟩
    · refine z_iload_n (pc := 36) C dX9_plan_36 rfl 3 rfl ?_
      refine z_iconst (pc := 37) C dX9_plan_37 ?_
      refine z_bipush (pc := 38) C dX9_plan_38 (by decide +kernel) ?_
      refine z_Si (pc := 40) C (c_withinD l G _ _ _ _ (by first | assumption | omega | decide) (by first | assumption | omega | decide) (by first | assumption | omega | decide)) ml_X9_82 ys_X9_within dX9_plan_40 rfl rfl (Nat.le_of_ble_eq_true rfl) ⟨by decide, by decide⟩ (fun r40 t40 h40 q40 => ?_)
      obtain ⟨w40, rfl⟩ := q40
      refine z_if_eq (pc := 43) (tgt := 51) C dX9_plan_43 (by decide) (by omega) (fun c43 => ?_) (fun c43 => ?_)
      · refine z_bipush (pc := 51) C dX9_plan_51 (by decide +kernel) ?_
        refine z_iret (pc := 53) C dX9_plan_53 ?_
        exact ⟨_, rfl, by omega, by rw [zaPlan, if_neg (by omega)], zFr.rf⟩
      · refine z_iload (pc := 46) C dX9_plan_46 0 rfl ?_
        refine z_if_ne (pc := 48) (tgt := 54) C dX9_plan_48 (by decide) (by omega) (fun c48 => ?_) (fun c48 => ?_)
        · refine z_aload_n (pc := 54) C dX9_plan_54 rfl 1 rfl ?_
          refine z_getR (pc := 55) C (4) fl_X9_19 dX9_plan_55 (by first | rfl | assumption) (by omega) rfl (Or.inl rfl) ?_
          refine z_getI (pc := 58) C fl_X9_107 dX9_plan_58 (by first | rfl | assumption) (by omega) (fun g58 => ?_)
          refine z_if_ne (pc := 61) (tgt := 67) C dX9_plan_61 (by decide) (by omega) (fun c61 => ?_) (fun c61 => ?_)
          · obtain ⟨m, rfl⟩ : ∃ m : Nat, p = m := ⟨p.toNat, by omega⟩
            refine z_aload_n (pc := 67) C dX9_plan_67 rfl 1 rfl ?_
            refine z_getR (pc := 68) C (50) fl_X9_49 dX9_plan_68 (by first | rfl | assumption) (by omega) rfl (Or.inl rfl) ?_
            refine z_aload_n (pc := 71) C dX9_plan_71 rfl 1 rfl ?_
            refine z_getR (pc := 72) C (4) fl_X9_19 dX9_plan_72 (by first | rfl | assumption) (by omega) rfl (Or.inl rfl) ?_
            refine z_iload_n (pc := 75) C dX9_plan_75 rfl 2 rfl ?_
            refine z_iload_n (pc := 76) C dX9_plan_76 rfl 3 rfl ?_
            refine z_Vv (pc := 77) C (c_X5_search l G _ 4 n y w K R V E hL4 h hr hn m _ rain rfl (by omega) (by omega) (by omega) (by omega) (by omega)) ml_X9_198 yw_X5_search dX9_plan_77 (by first | rfl | assumption) (by omega) rfl rfl rfl (Nat.le_of_ble_eq_true rfl) ⟨by decide, by decide⟩ (fun t77 q77 => ?_)
            obtain ⟨u77, f77⟩ := q77
            obtain ⟨b5, b6, b7⟩ := u77
            have zb := zpb_bd (zpW_bd hn K y (R, V, E) m rain) (zpQ_bd (K := K) (y := y) (s := (R, V, E)) hn hr m) (n ^ m)
            have hpw : 1 ≤ n ^ m := Nat.one_le_pow _ _ (by omega)
            refine z_iload_n (pc := 80) C dX9_plan_80 rfl 4 rfl ?_
            refine z_if_ne (pc := 81) (tgt := 92) C dX9_plan_81 (by decide) (by omega) (fun c81 => ?_) (fun c81 => ?_)
            · refine z_iload_n (pc := 92) C dX9_plan_92 rfl 4 rfl ?_
              refine z_iconst (pc := 93) C dX9_plan_93 ?_
              refine z_icmp_ne (pc := 94) (tgt := 105) C dX9_plan_94 (by decide) ⟨by omega, by omega⟩ (fun c94 => ?_) (fun c94 => ?_)
              · refine z_iload_n (pc := 105) C dX9_plan_105 rfl 4 rfl ?_
                refine z_bipush (pc := 106) C dX9_plan_106 (by decide +kernel) ?_
                refine z_isub (pc := 108) C dX9_plan_108 ?_
                refine z_iload_n (pc := 109) C dX9_plan_109 rfl 2 rfl ?_
                refine z_icmp_ge (pc := 110) (tgt := 130) C dX9_plan_110 (by decide) ⟨by omega, by omega⟩ (fun c110 => ?_) (fun c110 => ?_)
                · refine z_iconst (pc := 130) C dX9_plan_130 ?_
                  refine z_iret (pc := 131) C dX9_plan_131 ?_
                  first
                    | exact ⟨_, rfl, by assumption, by rw [zaPlan, if_pos (by omega), if_neg (by omega), if_neg (by omega), if_neg (by omega), if_pos (by omega)]; rfl, f77.mono (by omega) (by omega)⟩
                    | exact ⟨_, rfl, by omega, by rw [zaPlan, if_pos (by omega), if_neg (by omega), if_neg (by omega), if_neg (by omega), if_neg (by omega)], f77.mono (by omega) (by omega)⟩
                · refine z_aload_n (pc := 113) C dX9_plan_113 rfl 1 rfl ?_
                  refine z_getR (pc := 114) C (50) fl_X9_49 dX9_plan_114 (by first | rfl | assumption) (by omega) rfl (Or.inl rfl) ?_
                  refine z_getR (pc := 117) C (99) fl_X9_208 dX9_plan_117 (by first | rfl | assumption) (by omega) rfl (Or.inl rfl) ?_
                  refine z_iload_n (pc := 120) C dX9_plan_120 rfl 4 rfl ?_
                  refine z_bipush (pc := 121) C dX9_plan_121 (by decide +kernel) ?_
                  refine z_isub (pc := 123) C dX9_plan_123 ?_
                  refine z_Vi (pc := 124) C (c_X6_atv l G _ _ (4) ((what - 10).toNat) _ ((zdg n m (zpb (zpW n K y (R, V, E) m rain) (zpQ n K y (R, V, E) m) (n ^ m)).2.2 (what - 10).toNat : Int)) (by first | assumption | omega | decide) (by omega) (by omega) (b7 hpw _ (by omega))) ml_X9_131 yw_X6_at dX9_plan_124 (by first | rfl | assumption) (by omega) rfl rfl rfl (Nat.le_of_ble_eq_true rfl) ⟨by decide, by decide⟩ (fun r124 t124 h124 q124 => ?_)
                  obtain ⟨rfl, rfl⟩ := q124
                  refine z_goto (pc := 127) (tgt := 131) C dX9_plan_127 (by decide) ?_
                  refine z_iret (pc := 131) C dX9_plan_131 ?_
                  first
                    | exact ⟨_, rfl, by assumption, by rw [zaPlan, if_pos (by omega), if_neg (by omega), if_neg (by omega), if_neg (by omega), if_pos (by omega)]; rfl, f77.mono (by omega) (by omega)⟩
                    | exact ⟨_, rfl, by omega, by rw [zaPlan, if_pos (by omega), if_neg (by omega), if_neg (by omega), if_neg (by omega), if_neg (by omega)], f77.mono (by omega) (by omega)⟩
              · refine z_aload_n (pc := 97) C dX9_plan_97 rfl 1 rfl ?_
                refine z_getR (pc := 98) C (50) fl_X9_49 dX9_plan_98 (by first | rfl | assumption) (by omega) rfl (Or.inl rfl) ?_
                refine z_getI (pc := 101) C fl_X9_205 dX9_plan_101 (by first | rfl | assumption) (by omega) (fun g101 => ?_)
                refine z_iret (pc := 104) C dX9_plan_104 ?_
                exact ⟨_, rfl, by omega, by rw [zaPlan, if_pos (by omega), if_neg (by omega), if_neg (by omega), if_pos (by omega)]; exact b6, f77.mono (by omega) (by omega)⟩
            · refine z_aload_n (pc := 84) C dX9_plan_84 rfl 1 rfl ?_
              refine z_getR (pc := 85) C (50) fl_X9_49 dX9_plan_85 (by first | rfl | assumption) (by omega) rfl (Or.inl rfl) ?_
              refine z_getI (pc := 88) C fl_X9_202 dX9_plan_88 (by first | rfl | assumption) (by omega) (fun g88 => ?_)
              refine z_iret (pc := 91) C dX9_plan_91 ?_
              exact ⟨_, rfl, by omega, by rw [zaPlan, if_pos (by omega), if_neg (by omega), if_pos (by omega)]; exact b5, f77.mono (by omega) (by omega)⟩
          · refine z_bipush (pc := 64) C dX9_plan_64 (by decide +kernel) ?_
            refine z_iret (pc := 66) C dX9_plan_66 ?_
            exact ⟨_, rfl, by omega, by rw [zaPlan, if_pos (by omega), if_pos (by omega)], zFr.rf⟩
        · refine z_bipush (pc := 51) C dX9_plan_51 (by decide +kernel) ?_
          refine z_iret (pc := 53) C dX9_plan_53 ?_
          exact ⟨_, rfl, by omega, by rw [zaPlan, if_neg (by omega)], zFr.rf⟩
  refine z_iload_n (pc := 0) C dX9_plan_0 rfl 3 rfl ?_
  refine z_iconst (pc := 1) C dX9_plan_1 ?_
  refine z_iconst (pc := 2) C dX9_plan_2 ?_
  refine z_Si (pc := 3) C (c_withinD l G _ _ _ _ (by first | assumption | omega | decide) (by first | assumption | omega | decide) (by first | assumption | omega | decide)) ml_X9_82 ys_X9_within dX9_plan_3 rfl rfl (Nat.le_of_ble_eq_true rfl) ⟨by decide, by decide⟩ (fun r3 t3 h3 q3 => ?_)
  obtain ⟨w3, rfl⟩ := q3
  refine z_if_ne (pc := 6) (tgt := 20) C dX9_plan_6 (by decide) (by omega) (fun c6 => ?_) (fun c6 => ?_)
  · refine z_iconst (pc := 20) C dX9_plan_20 ?_
    refine z_goto (pc := 21) (tgt := 25) C dX9_plan_21 (by decide) ?_
    refine z_sub C [0, 1, 2, 3] rfl ?_
    exact J25 _ (by omega)
  · refine z_iload_n (pc := 9) C dX9_plan_9 rfl 3 rfl ?_
    refine z_bipush (pc := 10) C dX9_plan_10 (by decide +kernel) ?_
    refine z_bipush (pc := 12) C dX9_plan_12 (by decide +kernel) ?_
    refine z_Si (pc := 14) C (c_withinD l G _ _ _ _ (by first | assumption | omega | decide) (by first | assumption | omega | decide) (by first | assumption | omega | decide)) ml_X9_82 ys_X9_within dX9_plan_14 rfl rfl (Nat.le_of_ble_eq_true rfl) ⟨by decide, by decide⟩ (fun r14 t14 h14 q14 => ?_)
    obtain ⟨w14, rfl⟩ := q14
    refine z_if_eq (pc := 17) (tgt := 24) C dX9_plan_17 (by decide) (by omega) (fun c17 => ?_) (fun c17 => ?_)
    · refine z_iconst (pc := 24) C dX9_plan_24 ?_
      refine z_sub C [0, 1, 2, 3] rfl ?_
      exact J25 _ (by omega)
    · refine z_iconst (pc := 20) C dX9_plan_20 ?_
      refine z_goto (pc := 21) (tgt := 25) C dX9_plan_21 (by decide) ?_
      refine z_sub C [0, 1, 2, 3] rfl ?_
      exact J25 _ (by omega)
