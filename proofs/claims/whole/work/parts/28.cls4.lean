set_option maxHeartbeats 4000000 in
set_option maxRecDepth 100000 in
theorem c_X9_ages (l : Launch) (G : zGt) (σ : zMem) (n : Nat) (y w : Int) (K R V E : Nat → Int) (h : zLa σ 4 n y w K R V E) (hr : zLr K R V E) (hn : n ≤ 6) (p q what : Int) (hp : zR p) (hq : zR q) (hw : zR what) (hy : 0 ≤ y ∧ y ≤ 90000) (hw2 : 0 ≤ w ∧ w ≤ 9100) : zN l G yX9_ages cX9_ages 6 (some .int) 4 [.ref (zB G + 0), .int (zI p), .int (zI q), .int (zI what)] σ (zPi (fun x τ => x = zaAges n y K R V E p q what ∧ zFr 36 108 σ τ)) := by
  have hL4 : zLane 4 := by decide
  obtain ⟨s4, s5, s6, sA⟩ := id h
  have hL36 : zLane 36 := by decide
  refine zM.of (lv0 := [(0, _), (1, _), (2, _), (3, _)]) (by decide) (Nat.le_of_ble_eq_true rfl) rfl (fun X C => ?_)
  have L65 : ∀ (fuel : Nat) (N k : Nat) (w1 : Int) (x : Int) (τ : zMem), N - k < fuel → ((p = N ∧ (1 ≤ N ∧ N ≤ 60) ∧ 0 ≤ q ∧ (0 ≤ what ∧ what ≤ 2) ∧ n ≠ 0) ∧ k ≤ N ∧ (x = (zag n K y (0, q, (R, V, E)) k).1 ∧ (0 ≤ x ∧ x ≤ 6 * k) ∧ w ≤ w1 ∧ w1 ≤ w + 6 * k) ∧ zLa τ 36 n (y + (k : Int)) w1 K (zag n K y (0, q, (R, V, E)) k).2.2.1 (zag n K y (0, q, (R, V, E)) k).2.2.2.1 (zag n K y (0, q, (R, V, E)) k).2.2.2.2 ∧ τ 107 0 = (zag n K y (0, q, (R, V, E)) k).2.1 ∧ zFr 36 108 σ τ) → zg G X true 6 129 0 0 65 [(0, .ref (zB G + 0)), (1, .int (zI p)), (2, .int (zI q)), (3, .int (zI what)), (4, .int (zI x)), (5, .int (zI (k : Int)))] [] τ := by
    intro fuel
    induction fuel with
    | zero => intro N k w1 x τ hm; exact absurd hm (Nat.not_lt_zero _)
    | succ fuel ih =>
      intro N k w1 x τ hms hinv
      obtain ⟨⟨rfl, hNr⟩, h1, ⟨hx, hxb, hwb⟩, h2, h4, h3⟩ := hinv
      have hrk := zag_r (n := n) (K := K) (y := y) (by omega) (a := (0, q, (R, V, E))) hr k
      have hsk := zag_s (n := n) (K := K) (y := y) (a := (0, q, (R, V, E))) ⟨by dsimp only; omega, by dsimp only; omega⟩ k
      refine z_iload (pc := 65) C dX9_ages_65 5 rfl ?_
      refine z_iload_n (pc := 67) C dX9_ages_67 rfl 1 rfl ?_
      refine z_icmp_ge (pc := 68) (tgt := 86) C dX9_ages_68 (by decide) ⟨by omega, by omega⟩ (fun c68 => ?_) (fun c68 => ?_)
      · obtain rfl : N = k := by omega
        have hza : zaAges n y K R V E (N : Int) q what = if what = 0 then (zag n K y (0, q, (R, V, E)) N).1 else if what = 1 then zsum (zag n K y (0, q, (R, V, E)) N).2.2.1 n else (zag n K y (0, q, (R, V, E)) N).2.1 := by rw [zaAges, if_pos (by omega), if_neg (by omega)]; rfl
        refine z_iload_n (pc := 86) C dX9_ages_86 rfl 3 rfl ?_
        by_cases w87_0 : (what) = 0
        · refine z_lookup (pc := 87) (off := 25) (tgt := 112) C dX9_ages_87 (by omega) (by decide +kernel) (by rw [w87_0]; decide +kernel) (by decide) ?_
          refine z_iload (pc := 112) C dX9_ages_112 4 rfl ?_
          refine z_iret (pc := 114) C dX9_ages_114 ?_
          exact ⟨_, rfl, by omega, by rw [hza, if_pos (by omega)]; exact hx, h3⟩
        by_cases w87_1 : (what) = 1
        · refine z_lookup (pc := 87) (off := 28) (tgt := 115) C dX9_ages_87 (by omega) (by decide +kernel) (by rw [w87_1]; decide +kernel) (by decide) ?_
          refine z_aload_n (pc := 115) C dX9_ages_115 rfl 0 rfl ?_
          refine z_getR (pc := 116) C (36) fl_X9_36 dX9_ages_116 (by first | rfl | assumption) (by omega) rfl (Or.inl rfl) ?_
          refine z_Vi (pc := 119) C (c_X1_reedOfAll l G _ 36 n _ _ K _ _ _ hL36 h2 hrk (by omega)) ml_X9_239 yw_X1_reedOfAll dX9_ages_119 (by first | rfl | assumption) (by omega) rfl rfl rfl (Nat.le_of_ble_eq_true rfl) ⟨by decide, by decide⟩ (fun r119 t119 h119 q119 => ?_)
          obtain ⟨e119, rfl⟩ := q119
          refine z_iret (pc := 122) C dX9_ages_122 ?_
          exact ⟨_, rfl, by assumption, by rw [hza, if_neg (by omega), if_pos (by omega)]; exact e119, h3⟩
        refine z_lookup (pc := 87) (off := 36) (tgt := 123) C dX9_ages_87 (by omega) (by decide +kernel) (by simp [Op.lookupswitch.offset, w87_0, Ne.symm w87_0, w87_1, Ne.symm w87_1]) (by decide) ?_
        refine z_aload_n (pc := 123) C dX9_ages_123 rfl 0 rfl ?_
        refine z_getR (pc := 124) C (107) fl_X9_70 dX9_ages_124 (by first | rfl | assumption) (by omega) rfl (Or.inl rfl) ?_
        refine z_getJ (pc := 127) C fl_X9_232 dX9_ages_127 (by first | rfl | assumption) (by omega) ?_
        refine z_l2i (pc := 130) C dX9_ages_130 (by omega) ?_
        refine z_iret (pc := 131) C dX9_ages_131 ?_
        exact ⟨_, rfl, by omega, by rw [hza, if_neg (by omega), if_neg (by omega)]; exact h4, h3⟩
      · refine z_iload (pc := 71) C dX9_ages_71 4 rfl ?_
        refine z_aload_n (pc := 73) C dX9_ages_73 rfl 0 rfl ?_
        refine z_Vi (pc := 74) C (c_X9_oneAge l G _ n (y + (k : Int)) w1 (zag n K y (0, q, (R, V, E)) k).1 (zag n K y (0, q, (R, V, E)) k).2.1 K _ _ _ h2 hrk (by omega) h4 hsk (by omega) (by omega)) ml_X9_236 yw_X9_oneAge dX9_ages_74 (by first | rfl | assumption) (by omega) rfl rfl rfl (Nat.le_of_ble_eq_true rfl) ⟨by decide, by decide⟩ (fun r74 t74 h74 q74 => ?_)
        obtain ⟨e74, b74, ⟨w2, hw3, u74⟩, s74, f74⟩ := q74
        refine z_iadd (pc := 77) C dX9_ages_77 ?_
        refine z_istore (pc := 78) (lv' := [(4, _), (0, _), (1, _), (2, _), (3, _), (5, _)]) C dX9_ages_78 (by decide) rfl ?_
        refine z_iinc (pc := 80) (lv' := [(5, _), (4, _), (0, _), (1, _), (2, _), (3, _)]) C dX9_ages_80 5 rfl (by decide) rfl ?_
        refine z_goto (pc := 83) (tgt := 65) C dX9_ages_83 (by decide) ?_
        refine z_sub C [2, 3, 4, 5, 1, 0] rfl ?_
        exact ih N (k + 1) w2 (x + r74) _ (by omega) ⟨⟨rfl, hNr⟩, by omega, ⟨by rw [hx]; exact e74, by omega, by omega⟩, u74.ext (by omega) rfl (fun j hj => ⟨rfl, rfl, rfl, rfl⟩), s74, h3.tr f74⟩
  refine z_iload_n (pc := 0) C dX9_ages_0 rfl 1 rfl ?_
  refine z_iconst (pc := 1) C dX9_ages_1 ?_
  refine z_bipush (pc := 2) C dX9_ages_2 (by decide +kernel) ?_
  refine z_Si (pc := 4) C (c_withinD l G _ _ _ _ (by first | assumption | omega | decide) (by first | assumption | omega | decide) (by first | assumption | omega | decide)) ml_X9_82 ys_X9_within dX9_ages_4 rfl rfl (Nat.le_of_ble_eq_true rfl) ⟨by decide, by decide⟩ (fun r4 t4 h4 q4 => ?_)
  obtain ⟨w4, rfl⟩ := q4
  refine z_if_eq (pc := 7) (tgt := 23) C dX9_ages_7 (by decide) (by omega) (fun c7 => ?_) (fun c7 => ?_)
  · refine z_bipush (pc := 23) C dX9_ages_23 (by decide +kernel) ?_
    refine z_iret (pc := 25) C dX9_ages_25 ?_
    exact ⟨_, rfl, by omega, by rw [zaAges, if_neg (by omega)], zFr.rf⟩
  · refine z_iload_n (pc := 10) C dX9_ages_10 rfl 2 rfl ?_
    refine z_if_lt (pc := 11) (tgt := 23) C dX9_ages_11 (by decide) (by omega) (fun c11 => ?_) (fun c11 => ?_)
    · refine z_bipush (pc := 23) C dX9_ages_23 (by decide +kernel) ?_
      refine z_iret (pc := 25) C dX9_ages_25 ?_
      exact ⟨_, rfl, by omega, by rw [zaAges, if_neg (by omega)], zFr.rf⟩
    · refine z_iload_n (pc := 14) C dX9_ages_14 rfl 3 rfl ?_
      refine z_iconst (pc := 15) C dX9_ages_15 ?_
      refine z_iconst (pc := 16) C dX9_ages_16 ?_
      refine z_Si (pc := 17) C (c_withinD l G _ _ _ _ (by first | assumption | omega | decide) (by first | assumption | omega | decide) (by first | assumption | omega | decide)) ml_X9_82 ys_X9_within dX9_ages_17 rfl rfl (Nat.le_of_ble_eq_true rfl) ⟨by decide, by decide⟩ (fun r17 t17 h17 q17 => ?_)
      obtain ⟨w17, rfl⟩ := q17
      refine z_if_ne (pc := 20) (tgt := 26) C dX9_ages_20 (by decide) (by omega) (fun c20 => ?_) (fun c20 => ?_)
      · refine z_aload_n (pc := 26) C dX9_ages_26 rfl 0 rfl ?_
        refine z_getR (pc := 27) C (4) fl_X9_19 dX9_ages_27 (by first | rfl | assumption) (by omega) rfl (Or.inl rfl) ?_
        refine z_getI (pc := 30) C fl_X9_107 dX9_ages_30 (by first | rfl | assumption) (by omega) (fun g30 => ?_)
        refine z_if_ne (pc := 33) (tgt := 39) C dX9_ages_33 (by decide) (by omega) (fun c33 => ?_) (fun c33 => ?_)
        · obtain ⟨N, rfl⟩ : ∃ N : Nat, p = N := ⟨p.toNat, by omega⟩
          have hNr : (1 ≤ N ∧ N ≤ 60) ∧ 0 ≤ q ∧ (0 ≤ what ∧ what ≤ 2) ∧ n ≠ 0 := by omega
          refine z_aload_n (pc := 39) C dX9_ages_39 rfl 0 rfl ?_
          refine z_getR (pc := 40) C (36) fl_X9_36 dX9_ages_40 (by first | rfl | assumption) (by omega) rfl (Or.inl rfl) ?_
          refine z_aload_n (pc := 43) C dX9_ages_43 rfl 0 rfl ?_
          refine z_getR (pc := 44) C (4) fl_X9_19 dX9_ages_44 (by first | rfl | assumption) (by omega) rfl (Or.inl rfl) ?_
          refine z_Vv (pc := 47) C (c_X1_take l G _ 36 4 hL36 hL4 (by omega)) ml_X9_191 yw_X1_take dX9_ages_47 (by first | rfl | assumption) (by omega) rfl rfl rfl (Nat.le_of_ble_eq_true rfl) ⟨by decide, by decide⟩ (fun t47 q47 => ?_)
          obtain ⟨f47, e4, e5, e6, eA⟩ := q47
          have hl0 : zLa t47 36 n y w K R V E := ⟨e4.trans s4, e5.trans s5, e6.trans s6, fun j hj => by
            obtain ⟨a1, a2, a3, a4⟩ := eA j (by omega)
            obtain ⟨g1, g2, g3, g4⟩ := sA j hj
            exact ⟨a1.trans g1, a2.trans g2, a3.trans g3, a4.trans g4⟩⟩
          refine z_aload_n (pc := 50) C dX9_ages_50 rfl 0 rfl ?_
          refine z_getR (pc := 51) C (107) fl_X9_70 dX9_ages_51 (by first | rfl | assumption) (by omega) rfl (Or.inl rfl) ?_
          refine z_iload_n (pc := 54) C dX9_ages_54 rfl 2 rfl ?_
          refine z_i2l (pc := 55) C dX9_ages_55 (by omega) ?_
          refine z_putJe (pc := 56) C fl_X9_232 dX9_ages_56 (by first | rfl | assumption) (by omega) (fun m56 em56 => ?_)
          refine z_iconst (pc := 59) C dX9_ages_59 ?_
          refine z_istore (pc := 60) (lv' := [(4, _), (0, _), (1, _), (2, _), (3, _)]) C dX9_ages_60 (by decide) rfl ?_
          refine z_iconst (pc := 62) C dX9_ages_62 ?_
          refine z_istore (pc := 63) (lv' := [(5, _), (4, _), (0, _), (1, _), (2, _), (3, _)]) C dX9_ages_63 (by decide) rfl ?_
          refine z_sub C [2, 3, 4, 5, 1, 0] rfl ?_
          exact L65 _ N 0 w 0 _ (Nat.lt_succ_self _) ⟨⟨rfl, hNr⟩, by omega, ⟨rfl, by omega, by omega⟩, by rw [em56]; exact (hl0.ext (by simp) rfl (fun j hj => ⟨rfl, rfl, rfl, rfl⟩)).fr (zFr.rf.put (a := 107) (b := 108) (by omega) (by omega)) (by omega), by rw [em56]; exact zU_at, by rw [em56]; exact (f47.mono (by omega) (by omega)).put (by omega) (by omega)⟩
        · refine z_bipush (pc := 36) C dX9_ages_36 (by decide +kernel) ?_
          refine z_iret (pc := 38) C dX9_ages_38 ?_
          exact ⟨_, rfl, by omega, by rw [zaAges, if_pos (by omega), if_pos (by omega)], zFr.rf⟩
      · refine z_bipush (pc := 23) C dX9_ages_23 (by decide +kernel) ?_
        refine z_iret (pc := 25) C dX9_ages_25 ?_
        exact ⟨_, rfl, by omega, by rw [zaAges, if_neg (by omega)], zFr.rf⟩
set_option maxHeartbeats 4000000 in
set_option maxRecDepth 100000 in
theorem c_X9_count (l : Launch) (G : zGt) (σ : zMem) (n : Nat) (y w : Int) (K R V E : Nat → Int) (h : zLa σ 4 n y w K R V E) (hr : zLr K R V E) (hn : n ≤ 6) (c : Nat) (hs3 : σ 13 3 = c) (hc : c ≤ 6) (m : Nat) (hg : σ 1 1 = m) (hm : m ≤ 26) (lr : Int) (hlr : σ 0 12 = lr) (what : Int) (hw : zR what) (hy : zR y) (hww : zR w) : zN l G yX9_count cX9_count 2 (some .int) 2 [.ref (zB G + 0), .int (zI what)] σ (zPi (fun x τ => x = zaCount n y w R V E c m lr what ∧ σ = τ)) := by
  have hL4 : zLane 4 := by decide
  obtain ⟨s4, s5, s6, sA⟩ := id h
  refine zM.of (lv0 := [(0, _), (1, _)]) (by decide) (Nat.le_of_ble_eq_true rfl) rfl (fun X C => ?_)
  refine z_iload_n (pc := 0) C dX9_count_0 rfl 1 rfl ?_
  by_cases w1 : (what) < 0 ∨ 9 < (what)
  · refine z_tableOut (pc := 1) (tgt := 133) C dX9_count_1 (by omega) (by omega) (by decide) ?_
    refine z_bipush (pc := 133) C dX9_count_133 (by decide +kernel) ?_
    refine z_iret (pc := 135) C dX9_count_135 ?_
    exact ⟨_, rfl, by first | assumption | omega, by rw [zaCount, if_neg (by omega), if_neg (by omega), if_neg (by omega), if_neg (by omega), if_neg (by omega), if_neg (by omega), if_neg (by omega), if_neg (by omega), if_neg (by omega), if_neg (by omega)], rfl⟩
  by_cases w1_0 : (what) = 0
  · refine z_tableIn (pc := 1) (off := 55) (tgt := 56) C dX9_count_1 (by omega) (by omega) (by omega) (by rw [show ((what) - (0)).toNat = 0 by omega]; rfl) (by decide) ?_
    refine z_aload_n (pc := 56) C dX9_count_56 rfl 0 rfl ?_
    refine z_getR (pc := 57) C (4) fl_X9_19 dX9_count_57 (by first | rfl | assumption) (by omega) rfl (Or.inl rfl) ?_
    refine z_getI (pc := 60) C fl_X9_107 dX9_count_60 (by first | rfl | assumption) (by omega) (fun g60 => ?_)
    refine z_iret (pc := 63) C dX9_count_63 ?_
    exact ⟨_, rfl, by first | assumption | omega, by rw [zaCount, if_pos (by omega)]; try first | rfl | assumption, rfl⟩
  by_cases w1_1 : (what) = 1
  · refine z_tableIn (pc := 1) (off := 63) (tgt := 64) C dX9_count_1 (by omega) (by omega) (by omega) (by rw [show ((what) - (0)).toNat = 1 by omega]; rfl) (by decide) ?_
    refine z_aload_n (pc := 64) C dX9_count_64 rfl 0 rfl ?_
    refine z_getR (pc := 65) C (4) fl_X9_19 dX9_count_65 (by first | rfl | assumption) (by omega) rfl (Or.inl rfl) ?_
    refine z_Vi (pc := 68) C (c_X1_reedOfAll l G _ 4 n y w K R V E hL4 h hr hn ) ml_X9_239 yw_X1_reedOfAll dX9_count_68 (by first | rfl | assumption) (by omega) rfl rfl rfl (Nat.le_of_ble_eq_true rfl) ⟨by decide, by decide⟩ (fun r68 t68 h68 q68 => ?_)
    obtain ⟨rfl, rfl⟩ := q68
    refine z_iret (pc := 71) C dX9_count_71 ?_
    exact ⟨_, rfl, by first | assumption | omega, by rw [zaCount, if_neg (by omega), if_pos (by omega)]; try first | rfl | assumption, rfl⟩
  by_cases w1_2 : (what) = 2
  · refine z_tableIn (pc := 1) (off := 71) (tgt := 72) C dX9_count_1 (by omega) (by omega) (by omega) (by rw [show ((what) - (0)).toNat = 2 by omega]; rfl) (by decide) ?_
    refine z_aload_n (pc := 72) C dX9_count_72 rfl 0 rfl ?_
    refine z_getR (pc := 73) C (4) fl_X9_19 dX9_count_73 (by first | rfl | assumption) (by omega) rfl (Or.inl rfl) ?_
    refine z_Vi (pc := 76) C (c_X1_worryOfAll l G _ 4 n y w K R V E hL4 h hr hn ) ml_X9_245 yw_X1_worryOfAll dX9_count_76 (by first | rfl | assumption) (by omega) rfl rfl rfl (Nat.le_of_ble_eq_true rfl) ⟨by decide, by decide⟩ (fun r76 t76 h76 q76 => ?_)
    obtain ⟨rfl, rfl⟩ := q76
    refine z_iret (pc := 79) C dX9_count_79 ?_
    exact ⟨_, rfl, by first | assumption | omega, by rw [zaCount, if_neg (by omega), if_neg (by omega), if_pos (by omega)]; try first | rfl | assumption, rfl⟩
  by_cases w1_3 : (what) = 3
  · refine z_tableIn (pc := 1) (off := 79) (tgt := 80) C dX9_count_1 (by omega) (by omega) (by omega) (by rw [show ((what) - (0)).toNat = 3 by omega]; rfl) (by decide) ?_
    refine z_aload_n (pc := 80) C dX9_count_80 rfl 0 rfl ?_
    refine z_getR (pc := 81) C (4) fl_X9_19 dX9_count_81 (by first | rfl | assumption) (by omega) rfl (Or.inl rfl) ?_
    refine z_Vi (pc := 84) C (c_X1_howManyCombed l G _ 4 n y w K R V E hL4 h hr hn ) ml_X9_248 yw_X1_howManyCombed dX9_count_84 (by first | rfl | assumption) (by omega) rfl rfl rfl (Nat.le_of_ble_eq_true rfl) ⟨by decide, by decide⟩ (fun r84 t84 h84 q84 => ?_)
    obtain ⟨rfl, rfl⟩ := q84
    refine z_iret (pc := 87) C dX9_count_87 ?_
    exact ⟨_, rfl, by first | assumption | omega, by rw [zaCount, if_neg (by omega), if_neg (by omega), if_neg (by omega), if_pos (by omega)]; try first | rfl | assumption, rfl⟩
  by_cases w1_4 : (what) = 4
  · refine z_tableIn (pc := 1) (off := 87) (tgt := 88) C dX9_count_1 (by omega) (by omega) (by omega) (by rw [show ((what) - (0)).toNat = 4 by omega]; rfl) (by decide) ?_
    refine z_aload_n (pc := 88) C dX9_count_88 rfl 0 rfl ?_
    refine z_getR (pc := 89) C (4) fl_X9_19 dX9_count_89 (by first | rfl | assumption) (by omega) rfl (Or.inl rfl) ?_
    refine z_Vi (pc := 92) C (c_X1_howManyShelter l G _ 4 n y w K R V E hL4 h hr hn ) ml_X9_251 yw_X1_howManyShelter dX9_count_92 (by first | rfl | assumption) (by omega) rfl rfl rfl (Nat.le_of_ble_eq_true rfl) ⟨by decide, by decide⟩ (fun r92 t92 h92 q92 => ?_)
    obtain ⟨rfl, rfl⟩ := q92
    refine z_iret (pc := 95) C dX9_count_95 ?_
    exact ⟨_, rfl, by first | assumption | omega, by rw [zaCount, if_neg (by omega), if_neg (by omega), if_neg (by omega), if_neg (by omega), if_pos (by omega)]; try first | rfl | assumption, rfl⟩
  by_cases w1_5 : (what) = 5
  · refine z_tableIn (pc := 1) (off := 95) (tgt := 96) C dX9_count_1 (by omega) (by omega) (by omega) (by rw [show ((what) - (0)).toNat = 5 by omega]; rfl) (by decide) ?_
    refine z_aload_n (pc := 96) C dX9_count_96 rfl 0 rfl ?_
    refine z_getR (pc := 97) C (4) fl_X9_19 dX9_count_97 (by first | rfl | assumption) (by omega) rfl (Or.inl rfl) ?_
    refine z_getI (pc := 100) C fl_X9_166 dX9_count_100 (by first | rfl | assumption) (by omega) (fun g100 => ?_)
    refine z_iret (pc := 103) C dX9_count_103 ?_
    exact ⟨_, rfl, by first | assumption | omega, by rw [zaCount, if_neg (by omega), if_neg (by omega), if_neg (by omega), if_neg (by omega), if_neg (by omega), if_pos (by omega)]; try first | rfl | assumption, rfl⟩
  by_cases w1_6 : (what) = 6
  · refine z_tableIn (pc := 1) (off := 103) (tgt := 104) C dX9_count_1 (by omega) (by omega) (by omega) (by rw [show ((what) - (0)).toNat = 6 by omega]; rfl) (by decide) ?_
    refine z_aload_n (pc := 104) C dX9_count_104 rfl 0 rfl ?_
    refine z_getR (pc := 105) C (4) fl_X9_19 dX9_count_105 (by first | rfl | assumption) (by omega) rfl (Or.inl rfl) ?_
    refine z_getI (pc := 108) C fl_X9_172 dX9_count_108 (by first | rfl | assumption) (by omega) (fun g108 => ?_)
    refine z_iret (pc := 111) C dX9_count_111 ?_
    exact ⟨_, rfl, by first | assumption | omega, by rw [zaCount, if_neg (by omega), if_neg (by omega), if_neg (by omega), if_neg (by omega), if_neg (by omega), if_neg (by omega), if_pos (by omega)]; try first | rfl | assumption, rfl⟩
  by_cases w1_7 : (what) = 7
  · refine z_tableIn (pc := 1) (off := 111) (tgt := 112) C dX9_count_1 (by omega) (by omega) (by omega) (by rw [show ((what) - (0)).toNat = 7 by omega]; rfl) (by decide) ?_
    refine z_aload_n (pc := 112) C dX9_count_112 rfl 0 rfl ?_
    refine z_getR (pc := 113) C (13) fl_X9_26 dX9_count_113 (by first | rfl | assumption) (by omega) rfl (Or.inl rfl) ?_
    refine z_getI (pc := 116) C fl_X9_122 dX9_count_116 (by first | rfl | assumption) (by omega) (fun g116 => ?_)
    refine z_iret (pc := 119) C dX9_count_119 ?_
    exact ⟨_, rfl, by first | assumption | omega, by rw [zaCount, if_neg (by omega), if_neg (by omega), if_neg (by omega), if_neg (by omega), if_neg (by omega), if_neg (by omega), if_neg (by omega), if_pos (by omega)]; try first | rfl | assumption, rfl⟩
  by_cases w1_8 : (what) = 8
  · refine z_tableIn (pc := 1) (off := 119) (tgt := 120) C dX9_count_1 (by omega) (by omega) (by omega) (by rw [show ((what) - (0)).toNat = 8 by omega]; rfl) (by decide) ?_
    refine z_aload_n (pc := 120) C dX9_count_120 rfl 0 rfl ?_
    refine z_getR (pc := 121) C (1) fl_X9_10 dX9_count_121 (by first | rfl | assumption) (by omega) rfl (Or.inl rfl) ?_
    refine z_getI (pc := 124) C fl_X9_86 dX9_count_124 (by first | rfl | assumption) (by omega) (fun g124 => ?_)
    refine z_iret (pc := 127) C dX9_count_127 ?_
    exact ⟨_, rfl, by first | assumption | omega, by rw [zaCount, if_neg (by omega), if_neg (by omega), if_neg (by omega), if_neg (by omega), if_neg (by omega), if_neg (by omega), if_neg (by omega), if_neg (by omega), if_pos (by omega)]; try first | rfl | assumption, rfl⟩
  have w1_9 : (what) = 9 := by omega
  refine z_tableIn (pc := 1) (off := 127) (tgt := 128) C dX9_count_1 (by omega) (by omega) (by omega) (by rw [show ((what) - (0)).toNat = 9 by omega]; rfl) (by decide) ?_
  refine z_aload_n (pc := 128) C dX9_count_128 rfl 0 rfl ?_
  refine z_getI (pc := 129) C fl_X9_78 dX9_count_129 (by first | rfl | assumption) (by omega) (fun g129 => ?_)
  refine z_iret (pc := 132) C dX9_count_132 ?_
  exact ⟨_, rfl, by first | assumption | omega, by rw [zaCount, if_neg (by omega), if_neg (by omega), if_neg (by omega), if_neg (by omega), if_neg (by omega), if_neg (by omega), if_neg (by omega), if_neg (by omega), if_neg (by omega), if_pos (by omega)]; try first | rfl | assumption, rfl⟩
set_option maxHeartbeats 4000000 in
set_option maxRecDepth 100000 in
theorem c_X9_mixHouse (l : Launch) (G : zGt) (σ : zMem) (n : Nat) (y w : Int) (K R V E : Nat → Int) (h : zLa σ 4 n y w K R V E) (hr : zLr K R V E) (hn : n ≤ 6) (c : Nat) (A Y Q : Nat → Int) (hs : zSgt σ 13 c A Y Q) (hsr : zSr A Y Q) (hc : c ≤ 6) (b : Int) (i : Nat) (p : Int) (hp : p = i) (hi : i < n) (hy : 0 ≤ y ∧ y ≤ 90000) : zN l G yX9_mixHouse cX9_mixHouse 7 (some .long) 5 [.ref (zB G + 0), .long (zJ (b)), .int (zI p)] σ (zPl (fun x τ => x = zdH n y K R V E c A Y Q b i ∧ zFr 36 108 σ τ)) := by
  have hL4 : zLane 4 := by decide
  obtain ⟨s4, s5, s6, sA⟩ := id h
  subst hp
  refine zM.of (lv0 := [(0, _), (1, _), (3, _)]) (by decide) (Nat.le_of_ble_eq_true rfl) rfl (fun X C => ?_)
  have L6 : ∀ (fuel : Nat) (k : Nat) (u : Int) (τ : zMem), 7 - k < fuel → (k ≤ 7 ∧ u = zfd (fun t => zaHouse n y K R V E c A Y Q (i : Int) (t : Int)) k b ∧ zFr 36 108 σ τ) → zg G X true 7 129 0 0 6 [(0, .ref (zB G + 0)), (1, .long (zJ b)), (3, .int (zI (i : Int))), (4, .long (zJ u)), (6, .int (zI (k : Int)))] [] τ := by
    intro fuel
    induction fuel with
    | zero => intro k u τ hm; exact absurd hm (Nat.not_lt_zero _)
    | succ fuel ih =>
      intro k u τ hms hinv
      obtain ⟨h1, rfl, h3⟩ := hinv
      refine z_iload (pc := 6) C dX9_mixHouse_6 4 rfl ?_
      refine z_bipush (pc := 8) C dX9_mixHouse_8 (by decide +kernel) ?_
      refine z_icmp_gt (pc := 10) (tgt := 34) C dX9_mixHouse_10 (by decide) ⟨by omega, by omega⟩ (fun c10 => ?_) (fun c10 => ?_)
      · obtain rfl : k = 7 := by omega
        refine z_lload (pc := 34) C dX9_mixHouse_34 3 rfl ?_
        refine z_aload_n (pc := 36) C dX9_mixHouse_36 rfl 0 rfl ?_
        refine z_iload_n (pc := 37) C dX9_mixHouse_37 rfl 2 rfl ?_
        refine z_bipush (pc := 38) C dX9_mixHouse_38 (by decide +kernel) ?_
        refine z_Vi (pc := 40) C (c_X9_reaches l G _ n y w K R V E (h.fr h3 (by omega)) hr hn (i : Int) 12 (by omega) (by omega)) ml_X9_285 yw_X9_reaches dX9_mixHouse_40 (by first | rfl | assumption) (by omega) rfl rfl rfl (Nat.le_of_ble_eq_true rfl) ⟨by decide, by decide⟩ (fun r40 t40 h40 q40 => ?_)
        obtain ⟨rfl, rfl⟩ := q40
        refine z_i2l (pc := 43) C dX9_mixHouse_43 (by omega) ?_
        refine z_Sl (pc := 44) C (c_X9_mix l G _ _ _) ml_X9_263 ys_X9_mix dX9_mixHouse_44 rfl rfl (Nat.le_of_ble_eq_true rfl) ⟨by decide, by decide⟩ (fun r44 t44 q44 => ?_)
        obtain ⟨rfl, rfl⟩ := q44
        refine z_lstore (pc := 47) (lv' := [(4, _), (0, _), (1, _), (3, _), (6, _)]) C dX9_mixHouse_47 (by decide) rfl ?_
        refine z_lload (pc := 49) C dX9_mixHouse_49 0 rfl ?_
        refine z_aload_n (pc := 51) C dX9_mixHouse_51 rfl 1 rfl ?_
        refine z_iload_n (pc := 52) C dX9_mixHouse_52 rfl 3 rfl ?_
        refine z_bipush (pc := 53) C dX9_mixHouse_53 (by decide +kernel) ?_
        refine z_Vi (pc := 55) C (c_X9_dry l G _ n y w K R V E (h.fr h3 (by omega)) hr hn (i : Int) 8 (by omega) (by omega) hy) ml_X9_288 yw_X9_dry dX9_mixHouse_55 (by first | rfl | assumption) (by omega) rfl rfl rfl (Nat.le_of_ble_eq_true rfl) ⟨by decide, by decide⟩ (fun r55 t55 h55 q55 => ?_)
        obtain ⟨rfl, f55⟩ := q55
        have g55 := h3.tr f55
        refine z_i2l (pc := 58) C dX9_mixHouse_58 (by omega) ?_
        refine z_Sl (pc := 59) C (c_X9_mix l G _ _ _) ml_X9_263 ys_X9_mix dX9_mixHouse_59 rfl rfl (Nat.le_of_ble_eq_true rfl) ⟨by decide, by decide⟩ (fun r59 t59 q59 => ?_)
        obtain ⟨rfl, rfl⟩ := q59
        refine z_lstore (pc := 62) (lv' := [(4, _), (0, _), (1, _), (3, _), (6, _)]) C dX9_mixHouse_62 (by decide) rfl ?_
        refine z_lload (pc := 64) C dX9_mixHouse_64 0 rfl ?_
        refine z_aload_n (pc := 66) C dX9_mixHouse_66 rfl 1 rfl ?_
        refine z_iload_n (pc := 67) C dX9_mixHouse_67 rfl 3 rfl ?_
        refine z_iconst (pc := 68) C dX9_mixHouse_68 ?_
        refine z_iconst (pc := 69) C dX9_mixHouse_69 ?_
        refine z_Vi (pc := 70) C (c_X9_odds l G _ n y w K R V E (h.fr g55 (by omega)) hr hn (i : Int) 4 0 (by omega) (by omega) (by omega) hy) ml_X9_291 yw_X9_odds dX9_mixHouse_70 (by first | rfl | assumption) (by omega) rfl rfl rfl (Nat.le_of_ble_eq_true rfl) ⟨by decide, by decide⟩ (fun r70 t70 h70 q70 => ?_)
        obtain ⟨rfl, f70⟩ := q70
        have g70 := g55.tr f70
        refine z_i2l (pc := 73) C dX9_mixHouse_73 (by omega) ?_
        refine z_Sl (pc := 74) C (c_X9_mix l G _ _ _) ml_X9_263 ys_X9_mix dX9_mixHouse_74 rfl rfl (Nat.le_of_ble_eq_true rfl) ⟨by decide, by decide⟩ (fun r74 t74 q74 => ?_)
        obtain ⟨rfl, rfl⟩ := q74
        refine z_lstore (pc := 77) (lv' := [(4, _), (0, _), (1, _), (3, _), (6, _)]) C dX9_mixHouse_77 (by decide) rfl ?_
        refine z_lload (pc := 79) C dX9_mixHouse_79 0 rfl ?_
        refine z_aload_n (pc := 81) C dX9_mixHouse_81 rfl 1 rfl ?_
        refine z_iload_n (pc := 82) C dX9_mixHouse_82 rfl 3 rfl ?_
        refine z_iconst (pc := 83) C dX9_mixHouse_83 ?_
        refine z_iconst (pc := 84) C dX9_mixHouse_84 ?_
        refine z_Vi (pc := 85) C (c_X9_odds l G _ n y w K R V E (h.fr g70 (by omega)) hr hn (i : Int) 4 1 (by omega) (by omega) (by omega) hy) ml_X9_291 yw_X9_odds dX9_mixHouse_85 (by first | rfl | assumption) (by omega) rfl rfl rfl (Nat.le_of_ble_eq_true rfl) ⟨by decide, by decide⟩ (fun r85 t85 h85 q85 => ?_)
        obtain ⟨rfl, f85⟩ := q85
        have g85 := g70.tr f85
        refine z_i2l (pc := 88) C dX9_mixHouse_88 (by omega) ?_
        refine z_Sl (pc := 89) C (c_X9_mix l G _ _ _) ml_X9_263 ys_X9_mix dX9_mixHouse_89 rfl rfl (Nat.le_of_ble_eq_true rfl) ⟨by decide, by decide⟩ (fun r89 t89 q89 => ?_)
        obtain ⟨rfl, rfl⟩ := q89
        refine z_lret (pc := 92) C dX9_mixHouse_92 ?_
        exact ⟨_, rfl, rfl, g85⟩
      · refine z_lload (pc := 13) C dX9_mixHouse_13 3 rfl ?_
        refine z_aload_n (pc := 15) C dX9_mixHouse_15 rfl 0 rfl ?_
        refine z_iload_n (pc := 16) C dX9_mixHouse_16 rfl 2 rfl ?_
        refine z_iload (pc := 17) C dX9_mixHouse_17 4 rfl ?_
        refine z_Vi (pc := 19) C (c_X9_house l G _ n y w K R V E (h.fr h3 (by omega)) hr hn c A Y Q (hs.fr h3 (by omega)) hsr hc (i : Int) (k : Int) (by omega) (by omega) hy) ml_X9_282 yw_X9_house dX9_mixHouse_19 (by first | rfl | assumption) (by omega) rfl rfl rfl (Nat.le_of_ble_eq_true rfl) ⟨by decide, by decide⟩ (fun r19 t19 h19 q19 => ?_)
        obtain ⟨rfl, f19⟩ := q19
        refine z_i2l (pc := 22) C dX9_mixHouse_22 (by omega) ?_
        refine z_Sl (pc := 23) C (c_X9_mix l G _ _ _) ml_X9_263 ys_X9_mix dX9_mixHouse_23 rfl rfl (Nat.le_of_ble_eq_true rfl) ⟨by decide, by decide⟩ (fun r23 t23 q23 => ?_)
        obtain ⟨rfl, rfl⟩ := q23
        refine z_lstore (pc := 26) (lv' := [(4, _), (0, _), (1, _), (3, _), (6, _)]) C dX9_mixHouse_26 (by decide) rfl ?_
        refine z_iinc (pc := 28) (lv' := [(6, _), (4, _), (0, _), (1, _), (3, _)]) C dX9_mixHouse_28 4 rfl (by decide) rfl ?_
        refine z_goto (pc := 31) (tgt := 6) C dX9_mixHouse_31 (by decide) ?_
        refine z_sub C [2, 3, 4, 1, 0] rfl ?_
        exact ih (k + 1) _ _ (by omega) ⟨by omega, rfl, h3.tr f19⟩
  refine z_lload_n (pc := 0) C dX9_mixHouse_0 rfl 1 rfl ?_
  refine z_lstore (pc := 1) (lv' := [(4, _), (0, _), (1, _), (3, _)]) C dX9_mixHouse_1 (by decide) rfl ?_
  refine z_iconst (pc := 3) C dX9_mixHouse_3 ?_
  refine z_istore (pc := 4) (lv' := [(6, _), (4, _), (0, _), (1, _), (3, _)]) C dX9_mixHouse_4 (by decide) rfl ?_
  refine z_sub C [2, 3, 4, 1, 0] rfl ?_
  exact L6 _ 0 b _ (Nat.lt_succ_self _) ⟨by omega, rfl, zFr.rf⟩
/-! the digest -/
def zTw (n : Nat) (R : Nat → Int) : Nat → Int
  | 0 => zaTwos n R 0
  | t + 1 => zaTwos n R ((10 + t : Nat) : Int)
def zdP (n : Nat) (y : Int) (K R V E : Nat → Int) (h : Int) : Int := 31 * (31 * (31 * (31 * (31 * h + zaWet n R 9) + zaPlan n y K R V E 2 9 0) + zaPlan n y K R V E 2 9 1) + zaPlan n y K R V E 2 9 10) + zaPlan n y K R V E 2 9 11
def zdA (n : Nat) (y : Int) (K R V E : Nat → Int) (c : Nat) (A Y Q : Nat → Int) : Int := if n = 0 then 1259 else zdL n y K R V E (zTw n R) (zaPatch n R 12 9 0) (zaPatch n R 12 9 1) (zdHs n y K R V E c A Y Q n 1259)
def zaDig (n : Nat) (y w : Int) (K R V E : Nat → Int) (c : Nat) (A Y Q : Nat → Int) (m : Nat) (P : Nat → Int) (lr : Int) : Int := zfd (fun t => zaCount n y w R V E c m lr (t : Int)) 10 (zfd P m (zdA n y K R V E c A Y Q))
set_option maxHeartbeats 4000000 in
set_option maxRecDepth 100000 in
theorem c_X9_digest (l : Launch) (G : zGt) (σ : zMem) (n : Nat) (y w : Int) (K R V E : Nat → Int) (h : zLa σ 4 n y w K R V E) (hr : zLr K R V E) (hn : n ≤ 6) (c : Nat) (A Y Q : Nat → Int) (hs : zSgt σ 13 c A Y Q) (hsr : zSr A Y Q) (hc : c ≤ 6) (m : Nat) (P : Nat → Int) (hg : zPg σ m P) (hpr : zPr0 P) (hm : m ≤ 26) (lr : Int) (hlr : σ 0 12 = lr) (hy : 0 ≤ y ∧ y ≤ 90000) (hww : zR w) : zN l G yX9_digest cX9_digest 4 (some .long) 20 [.ref (zB G + 0)] σ (zPl (fun x τ => x = zaDig n y w K R V E c A Y Q m P lr ∧ zFr 36 108 σ τ)) := by
  have hL4 : zLane 4 := by decide
  obtain ⟨s4, s5, s6, sA⟩ := id h
  obtain ⟨g1, gP⟩ := id hg
  have s3 := hs.1
  have b2 : zRow 2 26 := by decide
  refine zM.of (lv0 := [(0, _)]) (by decide) (Nat.le_of_ble_eq_true rfl) rfl (fun X C => ?_)
  have L215 : ∀ (fuel : Nat) (k : Nat) (u : Int) (τ : zMem), 10 - k < fuel → (k ≤ 10 ∧ u = zfd (fun t => zaCount n y w R V E c m lr (t : Int)) k (zfd P m (zdA n y K R V E c A Y Q)) ∧ zFr 36 108 σ τ) → zg G X true 4 129 0 0 215 [(0, .ref (zB G + 0)), (1, .long (zJ u)), (3, .int (zI (k : Int)))] [] τ := by
    intro fuel
    induction fuel with
    | zero => intro k u τ hm; exact absurd hm (Nat.not_lt_zero _)
    | succ fuel ih =>
      intro k u τ hms hinv
      obtain ⟨h1, hu, h3⟩ := hinv
      refine z_iload_n (pc := 215) C dX9_digest_215 rfl 2 rfl ?_
      refine z_bipush (pc := 216) C dX9_digest_216 (by decide +kernel) ?_
      refine z_icmp_gt (pc := 218) (tgt := 238) C dX9_digest_218 (by decide) ⟨by omega, by omega⟩ (fun c218 => ?_) (fun c218 => ?_)
      · refine z_lload_n (pc := 238) C dX9_digest_238 rfl 1 rfl ?_
        refine z_lret (pc := 239) C dX9_digest_239 ?_
        exact ⟨_, rfl, by rw [hu, show k = 10 by omega]; rfl, h3⟩
      · refine z_lload_n (pc := 221) C dX9_digest_221 rfl 1 rfl ?_
        refine z_aload_n (pc := 222) C dX9_digest_222 rfl 0 rfl ?_
        refine z_iload_n (pc := 223) C dX9_digest_223 rfl 2 rfl ?_
        refine z_Vi (pc := 224) C (c_X9_count l G _ n y w K R V E (h.fr h3 (by omega)) hr hn c ((h3 _ _ (by omega)).trans s3) hc m ((h3 _ _ (by omega)).trans g1) hm lr ((h3 _ _ (by omega)).trans hlr) (k : Int) (by omega) (by omega) hww) ml_X9_279 yw_X9_count dX9_digest_224 (by first | rfl | assumption) (by omega) rfl rfl rfl (Nat.le_of_ble_eq_true rfl) ⟨by decide, by decide⟩ (fun r224 t224 h224 q224 => ?_)
        obtain ⟨rfl, rfl⟩ := q224
        refine z_i2l (pc := 227) C dX9_digest_227 (by omega) ?_
        refine z_Sl (pc := 228) C (c_X9_mix l G _ _ _) ml_X9_263 ys_X9_mix dX9_digest_228 rfl rfl (Nat.le_of_ble_eq_true rfl) ⟨by decide, by decide⟩ (fun r228 t228 q228 => ?_)
        obtain ⟨rfl, rfl⟩ := q228
        refine z_lstore_n (pc := 231) (lv' := [(1, _), (0, _), (3, _)]) C dX9_digest_231 rfl (by decide) rfl ?_
        refine z_iinc (pc := 232) (lv' := [(3, _), (1, _), (0, _)]) C dX9_digest_232 2 rfl (by decide) rfl ?_
        refine z_goto (pc := 235) (tgt := 215) C dX9_digest_235 (by decide) ?_
        refine z_sub C [2, 1, 0] rfl ?_
        exact ih (k + 1) _ _ (by omega) ⟨by omega, by rw [hu]; rfl, h3⟩
  have L179 : ∀ (fuel : Nat) (k : Nat) (u : Int) (τ : zMem), m - k < fuel → (k ≤ m ∧ u = zfd P k (zdA n y K R V E c A Y Q) ∧ zFr 36 108 σ τ) → zg G X true 4 129 0 0 179 [(0, .ref (zB G + 0)), (1, .long (zJ u)), (3, .int (zI (k : Int)))] [] τ := by
    intro fuel
    induction fuel with
    | zero => intro k u τ hm; exact absurd hm (Nat.not_lt_zero _)
    | succ fuel ih =>
      intro k u τ hms hinv
      obtain ⟨h1, hu, h3⟩ := hinv
      refine z_iload_n (pc := 179) C dX9_digest_179 rfl 2 rfl ?_
      refine z_aload_n (pc := 180) C dX9_digest_180 rfl 0 rfl ?_
      refine z_getR (pc := 181) C (1) fl_X9_10 dX9_digest_181 (by first | rfl | assumption) (by omega) rfl (Or.inl rfl) ?_
      refine z_getI (pc := 184) C fl_X9_86 dX9_digest_184 (by first | rfl | assumption) (by omega) (fun g184 => ?_)
      rw [show τ 1 1 = (m : Int) from (h3 _ _ (by omega)).trans g1]
      refine z_icmp_ge (pc := 187) (tgt := 213) C dX9_digest_187 (by decide) ⟨by omega, by omega⟩ (fun c187 => ?_) (fun c187 => ?_)
      · refine z_iconst (pc := 213) C dX9_digest_213 ?_
        refine z_istore_n (pc := 214) (lv' := [(3, _), (0, _), (1, _)]) C dX9_digest_214 rfl (by decide) rfl ?_
        refine z_sub C [1, 2, 0] rfl ?_
        exact L215 _ 0 _ _ (Nat.lt_succ_self _) ⟨by omega, by rw [hu, show k = m by omega]; rfl, h3⟩
      · have hpk := hpr k
        refine z_lload_n (pc := 190) C dX9_digest_190 rfl 1 rfl ?_
        refine z_aload_n (pc := 191) C dX9_digest_191 rfl 0 rfl ?_
        refine z_getR (pc := 192) C (1) fl_X9_10 dX9_digest_192 (by first | rfl | assumption) (by omega) rfl (Or.inl rfl) ?_
        refine z_getR (pc := 195) C (2) fl_X9_276 dX9_digest_195 (by first | rfl | assumption) (by omega) rfl (Or.inl rfl) ?_
        refine z_iload_n (pc := 198) C dX9_digest_198 rfl 2 rfl ?_
        refine z_Vi (pc := 199) C (c_X6_atv l G _ _ (26) (k) _ (P k) (by first | assumption | omega | decide) rfl (by first | assumption | omega | decide) ((h3 _ _ (by omega)).trans (gP k (by omega)))) ml_X9_131 yw_X6_at dX9_digest_199 (by first | rfl | assumption) (by omega) rfl rfl rfl (Nat.le_of_ble_eq_true rfl) ⟨by decide, by decide⟩ (fun r199 t199 h199 q199 => ?_)
        obtain ⟨rfl, rfl⟩ := q199
        refine z_i2l (pc := 202) C dX9_digest_202 (by omega) ?_
        refine z_Sl (pc := 203) C (c_X9_mix l G _ _ _) ml_X9_263 ys_X9_mix dX9_digest_203 rfl rfl (Nat.le_of_ble_eq_true rfl) ⟨by decide, by decide⟩ (fun r203 t203 q203 => ?_)
        obtain ⟨rfl, rfl⟩ := q203
        refine z_lstore_n (pc := 206) (lv' := [(1, _), (0, _), (3, _)]) C dX9_digest_206 rfl (by decide) rfl ?_
        refine z_iinc (pc := 207) (lv' := [(3, _), (1, _), (0, _)]) C dX9_digest_207 2 rfl (by decide) rfl ?_
        refine z_goto (pc := 210) (tgt := 179) C dX9_digest_210 (by decide) ?_
        refine z_sub C [2, 1, 0] rfl ?_
        exact ih (k + 1) _ _ (by omega) ⟨by omega, by rw [hu]; rfl, h3⟩
  have L124 : ∀ (fuel : Nat) (k : Nat) (u : Int) (τ : zMem), 6 - k < fuel → (n ≠ 0 ∧ k ≤ 6 ∧ u = zfd (zTw n R) (k + 1) (zdP n y K R V E (zdHs n y K R V E c A Y Q n 1259)) ∧ zFr 36 108 σ τ) → zg G X true 4 129 0 0 124 [(0, .ref (zB G + 0)), (1, .long (zJ u)), (3, .int (zI ((10 + k : Nat) : Int)))] [] τ := by
    intro fuel
    induction fuel with
    | zero => intro k u τ hm; exact absurd hm (Nat.not_lt_zero _)
    | succ fuel ih =>
      intro k u τ hms hinv
      obtain ⟨hn0, h1, hu, h3⟩ := hinv
      refine z_iload_n (pc := 124) C dX9_digest_124 rfl 2 rfl ?_
      refine z_bipush (pc := 125) C dX9_digest_125 (by decide +kernel) ?_
      refine z_icmp_gt (pc := 127) (tgt := 147) C dX9_digest_127 (by decide) ⟨by omega, by omega⟩ (fun c127 => ?_) (fun c127 => ?_)
      · refine z_lload_n (pc := 147) C dX9_digest_147 rfl 1 rfl ?_
        refine z_aload_n (pc := 148) C dX9_digest_148 rfl 0 rfl ?_
        refine z_bipush (pc := 149) C dX9_digest_149 (by decide +kernel) ?_
        refine z_bipush (pc := 151) C dX9_digest_151 (by decide +kernel) ?_
        refine z_iconst (pc := 153) C dX9_digest_153 ?_
        refine z_Vi (pc := 154) C (c_X9_patch l G _ n y w K R V E (h.fr h3 (by omega)) hr hn 12 9 0 (by omega) (by omega) (by omega)) ml_X9_273 yw_X9_patch dX9_digest_154 (by first | rfl | assumption) (by omega) rfl rfl rfl (Nat.le_of_ble_eq_true rfl) ⟨by decide, by decide⟩ (fun r154 t154 h154 q154 => ?_)
        obtain ⟨rfl, f154⟩ := q154
        have g154 := h3.tr f154
        refine z_i2l (pc := 157) C dX9_digest_157 (by omega) ?_
        refine z_Sl (pc := 158) C (c_X9_mix l G _ _ _) ml_X9_263 ys_X9_mix dX9_digest_158 rfl rfl (Nat.le_of_ble_eq_true rfl) ⟨by decide, by decide⟩ (fun r158 t158 q158 => ?_)
        obtain ⟨rfl, rfl⟩ := q158
        refine z_lstore_n (pc := 161) (lv' := [(1, _), (0, _), (3, _)]) C dX9_digest_161 rfl (by decide) rfl ?_
        refine z_lload_n (pc := 162) C dX9_digest_162 rfl 0 rfl ?_
        refine z_aload_n (pc := 163) C dX9_digest_163 rfl 1 rfl ?_
        refine z_bipush (pc := 164) C dX9_digest_164 (by decide +kernel) ?_
        refine z_bipush (pc := 166) C dX9_digest_166 (by decide +kernel) ?_
        refine z_iconst (pc := 168) C dX9_digest_168 ?_
        refine z_Vi (pc := 169) C (c_X9_patch l G _ n y w K R V E (h.fr g154 (by omega)) hr hn 12 9 1 (by omega) (by omega) (by omega)) ml_X9_273 yw_X9_patch dX9_digest_169 (by first | rfl | assumption) (by omega) rfl rfl rfl (Nat.le_of_ble_eq_true rfl) ⟨by decide, by decide⟩ (fun r169 t169 h169 q169 => ?_)
        obtain ⟨rfl, f169⟩ := q169
        have g169 := g154.tr f169
        refine z_i2l (pc := 172) C dX9_digest_172 (by omega) ?_
        refine z_Sl (pc := 173) C (c_X9_mix l G _ _ _) ml_X9_263 ys_X9_mix dX9_digest_173 rfl rfl (Nat.le_of_ble_eq_true rfl) ⟨by decide, by decide⟩ (fun r173 t173 q173 => ?_)
        obtain ⟨rfl, rfl⟩ := q173
        refine z_lstore_n (pc := 176) (lv' := [(1, _), (0, _), (3, _)]) C dX9_digest_176 rfl (by decide) rfl ?_
        refine z_iconst (pc := 177) C dX9_digest_177 ?_
        refine z_istore_n (pc := 178) (lv' := [(3, _), (1, _), (0, _)]) C dX9_digest_178 rfl (by decide) rfl ?_
        refine z_sub C [2, 1, 0] rfl ?_
        exact L179 _ 0 _ _ (Nat.lt_succ_self _) ⟨by omega, by rw [hu, show k = 6 by omega, zfd, zdA, if_neg hn0]; rfl, g169⟩
      · refine z_lload_n (pc := 130) C dX9_digest_130 rfl 1 rfl ?_
        refine z_aload_n (pc := 131) C dX9_digest_131 rfl 0 rfl ?_
        refine z_iload_n (pc := 132) C dX9_digest_132 rfl 2 rfl ?_
        refine z_Vi (pc := 133) C (c_X9_twos l G _ n y w K R V E (h.fr h3 (by omega)) hr hn ((10 + k : Nat) : Int) (by omega)) ml_X9_270 yw_X9_twos dX9_digest_133 (by first | rfl | assumption) (by omega) rfl rfl rfl (Nat.le_of_ble_eq_true rfl) ⟨by decide, by decide⟩ (fun r133 t133 h133 q133 => ?_)
        obtain ⟨rfl, f133⟩ := q133
        refine z_i2l (pc := 136) C dX9_digest_136 (by omega) ?_
        refine z_Sl (pc := 137) C (c_X9_mix l G _ _ _) ml_X9_263 ys_X9_mix dX9_digest_137 rfl rfl (Nat.le_of_ble_eq_true rfl) ⟨by decide, by decide⟩ (fun r137 t137 q137 => ?_)
        obtain ⟨rfl, rfl⟩ := q137
        refine z_lstore_n (pc := 140) (lv' := [(1, _), (0, _), (3, _)]) C dX9_digest_140 rfl (by decide) rfl ?_
        refine z_iinc (pc := 141) (lv' := [(3, _), (1, _), (0, _)]) C dX9_digest_141 2 rfl (by decide) rfl ?_
        refine z_goto (pc := 144) (tgt := 124) C dX9_digest_144 (by decide) ?_
        refine z_sub C [2, 1, 0] rfl ?_
        exact ih (k + 1) _ _ (by omega) ⟨hn0, by omega, by rw [hu]; rfl, h3.tr f133⟩
  have L6 : ∀ (fuel : Nat) (i : Nat) (u : Int) (τ : zMem), n - i < fuel → (i ≤ n ∧ u = zdHs n y K R V E c A Y Q i 1259 ∧ zFr 36 108 σ τ) → zg G X true 4 129 0 0 6 [(0, .ref (zB G + 0)), (1, .long (zJ u)), (3, .int (zI (i : Int)))] [] τ := by
    intro fuel
    induction fuel with
    | zero => intro i u τ hm; exact absurd hm (Nat.not_lt_zero _)
    | succ fuel ih =>
      intro i u τ hms hinv
      obtain ⟨h1, hu, h3⟩ := hinv
      refine z_iload_n (pc := 6) C dX9_digest_6 rfl 2 rfl ?_
      refine z_aload_n (pc := 7) C dX9_digest_7 rfl 0 rfl ?_
      refine z_getR (pc := 8) C (4) fl_X9_19 dX9_digest_8 (by first | rfl | assumption) (by omega) rfl (Or.inl rfl) ?_
      refine z_getI (pc := 11) C fl_X9_107 dX9_digest_11 (by first | rfl | assumption) (by omega) (fun g11 => ?_)
      rw [show τ 4 4 = (n : Int) from (h3 _ _ (by omega)).trans s4]
      refine z_icmp_ge (pc := 14) (tgt := 30) C dX9_digest_14 (by decide) ⟨by omega, by omega⟩ (fun c14 => ?_) (fun c14 => ?_)
      · refine z_aload_n (pc := 30) C dX9_digest_30 rfl 0 rfl ?_
        refine z_getR (pc := 31) C (4) fl_X9_19 dX9_digest_31 (by first | rfl | assumption) (by omega) rfl (Or.inl rfl) ?_
        refine z_getI (pc := 34) C fl_X9_107 dX9_digest_34 (by first | rfl | assumption) (by omega) (fun g34 => ?_)
        rw [show τ 4 4 = (n : Int) from (h3 _ _ (by omega)).trans s4]
        refine z_if_le (pc := 37) (tgt := 177) C dX9_digest_37 (by decide) (by omega) (fun c37 => ?_) (fun c37 => ?_)
        · refine z_iconst (pc := 177) C dX9_digest_177 ?_
          refine z_istore_n (pc := 178) (lv' := [(3, _), (0, _), (1, _)]) C dX9_digest_178 rfl (by decide) rfl ?_
          refine z_sub C [1, 2, 0] rfl ?_
          have hz : u = zfd P 0 (zdA n y K R V E c A Y Q) := by
            have hn0 : n = 0 := by omega
            rw [hu, show i = 0 by omega, zdA, if_pos hn0]; rfl
          exact L179 _ 0 _ _ (Nat.lt_succ_self _) ⟨by omega, hz, h3⟩
        · obtain rfl : n = i := by omega
          refine z_lload_n (pc := 40) C dX9_digest_40 rfl 1 rfl ?_
          refine z_aload_n (pc := 41) C dX9_digest_41 rfl 0 rfl ?_
          refine z_bipush (pc := 42) C dX9_digest_42 (by decide +kernel) ?_
          refine z_Vi (pc := 44) C (c_X9_wet l G _ n y w K R V E (h.fr h3 (by omega)) hr hn 9 (by omega)) ml_X9_260 yw_X9_wet dX9_digest_44 (by first | rfl | assumption) (by omega) rfl rfl rfl (Nat.le_of_ble_eq_true rfl) ⟨by decide, by decide⟩ (fun r44 t44 h44 q44 => ?_)
          obtain ⟨rfl, rfl⟩ := q44
          refine z_i2l (pc := 47) C dX9_digest_47 (by omega) ?_
          refine z_Sl (pc := 48) C (c_X9_mix l G _ _ _) ml_X9_263 ys_X9_mix dX9_digest_48 rfl rfl (Nat.le_of_ble_eq_true rfl) ⟨by decide, by decide⟩ (fun r48 t48 q48 => ?_)
          obtain ⟨rfl, rfl⟩ := q48
          refine z_lstore_n (pc := 51) (lv' := [(1, _), (0, _), (3, _)]) C dX9_digest_51 rfl (by decide) rfl ?_
          refine z_lload_n (pc := 52) C dX9_digest_52 rfl 0 rfl ?_
          refine z_aload_n (pc := 53) C dX9_digest_53 rfl 1 rfl ?_
          refine z_iconst (pc := 54) C dX9_digest_54 ?_
          refine z_bipush (pc := 55) C dX9_digest_55 (by decide +kernel) ?_
          refine z_iconst (pc := 57) C dX9_digest_57 ?_
          refine z_Vi (pc := 58) C (c_X9_plan l G _ n y w K R V E (h.fr h3 (by omega)) hr hn 2 9 0 (by omega) (by omega) (by omega) hy) ml_X9_267 yw_X9_plan dX9_digest_58 (by first | rfl | assumption) (by omega) rfl rfl rfl (Nat.le_of_ble_eq_true rfl) ⟨by decide, by decide⟩ (fun r58 t58 h58 q58 => ?_)
          obtain ⟨rfl, f58⟩ := q58
          have g58 := h3.tr f58
          refine z_i2l (pc := 61) C dX9_digest_61 (by omega) ?_
          refine z_Sl (pc := 62) C (c_X9_mix l G _ _ _) ml_X9_263 ys_X9_mix dX9_digest_62 rfl rfl (Nat.le_of_ble_eq_true rfl) ⟨by decide, by decide⟩ (fun r62 t62 q62 => ?_)
          obtain ⟨rfl, rfl⟩ := q62
          refine z_lstore_n (pc := 65) (lv' := [(1, _), (0, _), (3, _)]) C dX9_digest_65 rfl (by decide) rfl ?_
          refine z_lload_n (pc := 66) C dX9_digest_66 rfl 0 rfl ?_
          refine z_aload_n (pc := 67) C dX9_digest_67 rfl 1 rfl ?_
          refine z_iconst (pc := 68) C dX9_digest_68 ?_
          refine z_bipush (pc := 69) C dX9_digest_69 (by decide +kernel) ?_
          refine z_iconst (pc := 71) C dX9_digest_71 ?_
          refine z_Vi (pc := 72) C (c_X9_plan l G _ n y w K R V E (h.fr g58 (by omega)) hr hn 2 9 1 (by omega) (by omega) (by omega) hy) ml_X9_267 yw_X9_plan dX9_digest_72 (by first | rfl | assumption) (by omega) rfl rfl rfl (Nat.le_of_ble_eq_true rfl) ⟨by decide, by decide⟩ (fun r72 t72 h72 q72 => ?_)
          obtain ⟨rfl, f72⟩ := q72
          have g72 := g58.tr f72
          refine z_i2l (pc := 75) C dX9_digest_75 (by omega) ?_
          refine z_Sl (pc := 76) C (c_X9_mix l G _ _ _) ml_X9_263 ys_X9_mix dX9_digest_76 rfl rfl (Nat.le_of_ble_eq_true rfl) ⟨by decide, by decide⟩ (fun r76 t76 q76 => ?_)
          obtain ⟨rfl, rfl⟩ := q76
          refine z_lstore_n (pc := 79) (lv' := [(1, _), (0, _), (3, _)]) C dX9_digest_79 rfl (by decide) rfl ?_
          refine z_lload_n (pc := 80) C dX9_digest_80 rfl 0 rfl ?_
          refine z_aload_n (pc := 81) C dX9_digest_81 rfl 1 rfl ?_
          refine z_iconst (pc := 82) C dX9_digest_82 ?_
          refine z_bipush (pc := 83) C dX9_digest_83 (by decide +kernel) ?_
          refine z_bipush (pc := 85) C dX9_digest_85 (by decide +kernel) ?_
          refine z_Vi (pc := 87) C (c_X9_plan l G _ n y w K R V E (h.fr g72 (by omega)) hr hn 2 9 10 (by omega) (by omega) (by omega) hy) ml_X9_267 yw_X9_plan dX9_digest_87 (by first | rfl | assumption) (by omega) rfl rfl rfl (Nat.le_of_ble_eq_true rfl) ⟨by decide, by decide⟩ (fun r87 t87 h87 q87 => ?_)
          obtain ⟨rfl, f87⟩ := q87
          have g87 := g72.tr f87
          refine z_i2l (pc := 90) C dX9_digest_90 (by omega) ?_
          refine z_Sl (pc := 91) C (c_X9_mix l G _ _ _) ml_X9_263 ys_X9_mix dX9_digest_91 rfl rfl (Nat.le_of_ble_eq_true rfl) ⟨by decide, by decide⟩ (fun r91 t91 q91 => ?_)
          obtain ⟨rfl, rfl⟩ := q91
          refine z_lstore_n (pc := 94) (lv' := [(1, _), (0, _), (3, _)]) C dX9_digest_94 rfl (by decide) rfl ?_
          refine z_lload_n (pc := 95) C dX9_digest_95 rfl 0 rfl ?_
          refine z_aload_n (pc := 96) C dX9_digest_96 rfl 1 rfl ?_
          refine z_iconst (pc := 97) C dX9_digest_97 ?_
          refine z_bipush (pc := 98) C dX9_digest_98 (by decide +kernel) ?_
          refine z_bipush (pc := 100) C dX9_digest_100 (by decide +kernel) ?_
          refine z_Vi (pc := 102) C (c_X9_plan l G _ n y w K R V E (h.fr g87 (by omega)) hr hn 2 9 11 (by omega) (by omega) (by omega) hy) ml_X9_267 yw_X9_plan dX9_digest_102 (by first | rfl | assumption) (by omega) rfl rfl rfl (Nat.le_of_ble_eq_true rfl) ⟨by decide, by decide⟩ (fun r102 t102 h102 q102 => ?_)
          obtain ⟨rfl, f102⟩ := q102
          have g102 := g87.tr f102
          refine z_i2l (pc := 105) C dX9_digest_105 (by omega) ?_
          refine z_Sl (pc := 106) C (c_X9_mix l G _ _ _) ml_X9_263 ys_X9_mix dX9_digest_106 rfl rfl (Nat.le_of_ble_eq_true rfl) ⟨by decide, by decide⟩ (fun r106 t106 q106 => ?_)
          obtain ⟨rfl, rfl⟩ := q106
          refine z_lstore_n (pc := 109) (lv' := [(1, _), (0, _), (3, _)]) C dX9_digest_109 rfl (by decide) rfl ?_
          refine z_lload_n (pc := 110) C dX9_digest_110 rfl 0 rfl ?_
          refine z_aload_n (pc := 111) C dX9_digest_111 rfl 1 rfl ?_
          refine z_iconst (pc := 112) C dX9_digest_112 ?_
          refine z_Vi (pc := 113) C (c_X9_twos l G _ n y w K R V E (h.fr g102 (by omega)) hr hn 0 (by omega)) ml_X9_270 yw_X9_twos dX9_digest_113 (by first | rfl | assumption) (by omega) rfl rfl rfl (Nat.le_of_ble_eq_true rfl) ⟨by decide, by decide⟩ (fun r113 t113 h113 q113 => ?_)
          obtain ⟨rfl, f113⟩ := q113
          have g113 := g102.tr f113
          refine z_i2l (pc := 116) C dX9_digest_116 (by omega) ?_
          refine z_Sl (pc := 117) C (c_X9_mix l G _ _ _) ml_X9_263 ys_X9_mix dX9_digest_117 rfl rfl (Nat.le_of_ble_eq_true rfl) ⟨by decide, by decide⟩ (fun r117 t117 q117 => ?_)
          obtain ⟨rfl, rfl⟩ := q117
          refine z_lstore_n (pc := 120) (lv' := [(1, _), (0, _), (3, _)]) C dX9_digest_120 rfl (by decide) rfl ?_
          refine z_bipush (pc := 121) C dX9_digest_121 (by decide +kernel) ?_
          refine z_istore_n (pc := 123) (lv' := [(3, _), (1, _), (0, _)]) C dX9_digest_123 rfl (by decide) rfl ?_
          refine z_sub C [2, 1, 0] rfl ?_
          exact L124 _ 0 _ _ (Nat.lt_succ_self _) ⟨by omega, by omega, by rw [hu]; rfl, g113⟩
      · refine z_aload_n (pc := 17) C dX9_digest_17 rfl 0 rfl ?_
        refine z_lload_n (pc := 18) C dX9_digest_18 rfl 1 rfl ?_
        refine z_iload_n (pc := 19) C dX9_digest_19 rfl 2 rfl ?_
        refine z_Vl (pc := 20) C (c_X9_mixHouse l G _ n y w K R V E (h.fr h3 (by omega)) hr hn c A Y Q (hs.fr h3 (by omega)) hsr hc u i _ rfl (by omega) hy) ml_X9_256 yw_X9_mixHouse dX9_digest_20 (by first | rfl | assumption) (by omega) rfl rfl rfl (Nat.le_of_ble_eq_true rfl) ⟨by decide, by decide⟩ (fun r20 t20 q20 => ?_)
        obtain ⟨e20, f20⟩ := q20
        refine z_lstore_n (pc := 23) (lv' := [(1, _), (0, _), (3, _)]) C dX9_digest_23 rfl (by decide) rfl ?_
        refine z_iinc (pc := 24) (lv' := [(3, _), (1, _), (0, _)]) C dX9_digest_24 2 rfl (by decide) rfl ?_
        refine z_goto (pc := 27) (tgt := 6) C dX9_digest_27 (by decide) ?_
        refine z_sub C [2, 1, 0] rfl ?_
        exact ih (i + 1) _ _ (by omega) ⟨by omega, by rw [e20, hu]; rfl, h3.tr f20⟩
  refine z_ldc2 (pc := 0) (n := 1259) C dX9_digest_0 cw_X9_254 rfl ?_
  refine z_lstore_n (pc := 3) (lv' := [(1, _), (0, _)]) C dX9_digest_3 rfl (by decide) rfl ?_
  refine z_iconst (pc := 4) C dX9_digest_4 ?_
  refine z_istore_n (pc := 5) (lv' := [(3, _), (1, _), (0, _)]) C dX9_digest_5 rfl (by decide) rfl ?_
  refine z_sub C [2, 1, 0] rfl ?_
  exact L6 _ 0 _ _ (Nat.lt_succ_self _) ⟨by omega, rfl, zFr.rf⟩
