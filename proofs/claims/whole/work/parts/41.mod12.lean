/-! draws, by the model -/
theorem zland31 {a : Int} (h0 : 0 ≤ a) : zJ a &&& zJ 2147483647 = zJ (a % 2147483648) := by
  obtain ⟨m, rfl⟩ : ∃ m : Nat, a = m := ⟨a.toNat, by omega⟩
  rw [show ((m : Int) % 2147483648) = ((m % 2147483648 : Nat) : Int) by omega, show (2147483647 : Int) = ((2147483647 : Nat) : Int) by omega]
  unfold zJ
  apply Int64.toBitVec_inj.mp
  rw [Int64.toBitVec_and, Int64.toBitVec_ofInt, Int64.toBitVec_ofInt, Int64.toBitVec_ofInt, BitVec.ofInt_natCast, BitVec.ofInt_natCast, BitVec.ofInt_natCast]
  apply BitVec.eq_of_toNat_eq
  rw [BitVec.toNat_and, BitVec.toNat_ofNat, BitVec.toNat_ofNat, BitVec.toNat_ofNat]
  have h2 := Nat.and_two_pow_sub_one_eq_mod (m % 2 ^ 64) 31
  rw [show (2147483647 % 2 ^ 64 : Nat) = 2 ^ 31 - 1 by decide, h2]
  omega
set_option maxHeartbeats 4000000 in
set_option maxRecDepth 100000 in
theorem c_X10_draw (l : Launch) (G : zGt) (σ : zMem) (sd d : Int) (hsd : σ 108 28 = sd) (hb : 0 ≤ sd ∧ sd < 2147483648) (hd : 1 ≤ d ∧ d ≤ 1000) : zN l G yX10_draw cX10_draw 2 (some .int) 0 [.ref (zB G + 108), .int (zI d)] σ (zPi (fun x τ => x = zds sd / 65536 % d ∧ τ = zU σ 108 28 (zds sd))) := by
  subst hsd
  have hz := zds_bd (σ 108 28)
  refine zM.of (lv0 := [(0, _), (1, _)]) (by decide) (Nat.le_of_ble_eq_true rfl) rfl (fun X C => ?_)
  refine z_aload_n (pc := 0) C dX10_draw_0 rfl 0 rfl ?_
  refine z_ldc2 (pc := 1) (n := 1103515245) C dX10_draw_1 cw_X10_243 rfl ?_
  refine z_aload_n (pc := 4) C dX10_draw_4 rfl 0 rfl ?_
  refine z_getJ (pc := 5) C fl_X10_245 dX10_draw_5 (by first | rfl | assumption) (by omega) ?_
  refine z_lmul (pc := 8) C dX10_draw_8 ?_
  refine z_ldc2 (pc := 9) (n := 12345) C dX10_draw_9 cw_X10_249 rfl ?_
  refine z_ladd (pc := 12) C dX10_draw_12 ?_
  refine z_ldc2 (pc := 13) (n := 2147483647) C dX10_draw_13 cw_X10_251 rfl ?_
  refine z_land (pc := 16) (r := zds (σ 108 28)) C dX10_draw_16 (zland31 (by omega)) ?_
  refine z_putJe (pc := 17) C fl_X10_245 dX10_draw_17 (by first | rfl | assumption) (by omega) (fun m17 em17 => ?_)
  refine z_aload_n (pc := 20) C dX10_draw_20 rfl 0 rfl ?_
  refine z_getJ (pc := 21) C fl_X10_245 dX10_draw_21 (by first | rfl | assumption) (by omega) ?_
  rw [show m17 108 28 = zds (σ 108 28) by rw [em17, zU_at]]
  refine z_ldc2 (pc := 24) (n := 65536) C dX10_draw_24 cw_X10_253 rfl ?_
  refine z_ldiv (pc := 27) C dX10_draw_27 ⟨⟨by omega, by omega⟩, by omega, by omega⟩ ?_
  refine z_iload_n (pc := 28) C dX10_draw_28 rfl 1 rfl ?_
  refine z_i2l (pc := 29) C dX10_draw_29 (by omega) ?_
  refine z_lrem (pc := 30) C dX10_draw_30 ⟨⟨by omega, by omega⟩, by omega, by omega⟩ ?_
  refine z_l2i (pc := 31) C dX10_draw_31 (by have h1 := Int.emod_nonneg (zds (σ 108 28) / 65536) (show d ≠ 0 by omega); have h2 := Int.emod_lt_of_pos (zds (σ 108 28) / 65536) (show 0 < d by omega); omega) ?_
  refine z_iret (pc := 32) C dX10_draw_32 ?_
  have h1 := Int.emod_nonneg (zds (σ 108 28) / 65536) (show d ≠ 0 by omega)
  have h2 := Int.emod_lt_of_pos (zds (σ 108 28) / 65536) (show 0 < d by omega)
  exact ⟨_, rfl, by omega, rfl, em17⟩
set_option maxHeartbeats 4000000 in
set_option maxRecDepth 100000 in
theorem c_X10_agesNow (l : Launch) (G : zGt) (σ : zMem) (n : Nat) (y : Int) (K R V E : Nat → Int) (h : zMl σ n y K R V E) (hr : zLr K R V E) (hn : n ≤ 6) (N : Nat) (p q what : Int) (hp : p = N) (hN : 1 ≤ N ∧ N ≤ 60) (hq : 0 ≤ q ∧ q < 2147483648) (hw : 0 ≤ what ∧ what ≤ 2) (hn1 : 1 ≤ n) (hy : 0 ≤ y ∧ y ≤ 90000) : zN l G yX10_agesNow cX10_agesNow 7 (some .int) 4 [.ref (zB G + 108), .int (zI p), .int (zI q), .int (zI what)] σ (zPi (fun x τ => x = zaAges n y K R V E (N : Int) q what ∧ zMl τ n y K R V E ∧ zKp σ τ)) := by
  obtain ⟨s1, s6, s5, sA⟩ := id h
  have l109 : zl 109 = 6 := by decide
  have l110 : zl 110 = 6 := by decide
  have l111 : zl 111 = 6 := by decide
  have hE : ∀ j, 0 ≤ E j ∧ E j ≤ 1 := fun j => (hr j).2.2.2
  have hb5 := zbs_bd hE n
  have hq6 := zpow6 n hn
  subst hp
  refine zM.of (lv0 := [(0, _), (1, _), (2, _), (3, _)]) (by decide) (Nat.le_of_ble_eq_true rfl) rfl (fun X C => ?_)
  have L16 : ∀ (fuel : Nat) (k : Nat) (x : Int) (τ : zMem), N - k < fuel → (k ≤ N ∧ (x = (zag n K y (0, q, (R, V, E)) k).1 ∧ 0 ≤ x ∧ x ≤ 6 * k) ∧ zMl τ n (y + (k : Int)) K (zag n K y (0, q, (R, V, E)) k).2.2.1 (zag n K y (0, q, (R, V, E)) k).2.2.2.1 (zag n K y (0, q, (R, V, E)) k).2.2.2.2 ∧ τ 108 28 = (zag n K y (0, q, (R, V, E)) k).2.1 ∧ zSv τ n y R V E ∧ zKp σ τ) → zg G X true 7 129 0 0 16 [(0, .ref (zB G + 108)), (1, .int (zI (N : Int))), (2, .int (zI q)), (3, .int (zI what)), (4, .int (zI x)), (5, .int (zI (k : Int)))] [] τ := by
    intro fuel
    induction fuel with
    | zero => intro k x τ hm; exact absurd hm (Nat.not_lt_zero _)
    | succ fuel ih =>
      intro k x τ hms hinv
      obtain ⟨h1, ⟨hx, hxb⟩, h2, h4, h3, h5⟩ := hinv
      have J64 : ∀ (s2 : zSt) (τ3 : zMem) (i : Nat) (c : Int), (s2 = zmid (zag n K y (0, q, (R, V, E)) k).2.2 i c ∧ zds (zag n K y (0, q, (R, V, E)) k).2.1 / 65536 % n = i ∧ c = zds (zds (zag n K y (0, q, (R, V, E)) k).2.1) / 65536 % 2 ∧ zMl τ3 n (y + (k : Int)) K s2.1 s2.2.1 s2.2.2 ∧ τ3 108 28 = zds (zds (zag n K y (0, q, (R, V, E)) k).2.1) ∧ zSv τ3 n y R V E ∧ zKp σ τ3) ∧ (k < N) → zg G X true 7 129 0 0 64 [(0, .ref (zB G + 108)), (1, .int (zI (N : Int))), (2, .int (zI q)), (3, .int (zI what)), (4, .int (zI x)), (5, .int (zI (k : Int)))] [] τ3 := by
        intro s2 τ3 i c hinv
        obtain ⟨⟨q1, q2, q3, q4, q5, q6, q7⟩, q8⟩ := hinv
        have hr2 : zLr K s2.1 s2.2.1 s2.2.2 := by rw [q1]; exact zmid_r (zag_r (n := n) (K := K) (y := y) (by omega) (a := (0, q, (R, V, E))) hr k) i c
        have hz2 := zds_bd (zds (zag n K y (0, q, (R, V, E)) k).2.1)
        have hz3 := zds_bd (zds (zds (zag n K y (0, q, (R, V, E)) k).2.1))
        refine z_aload_n (pc := 64) C dX10_agesNow_64 rfl 0 rfl ?_
        refine z_Vv (pc := 65) C (c_X10_goYear l G _ n _ K _ _ _ q4 hr2 hn (by omega)) ml_X10_158 yw_X10_goYear dX10_agesNow_65 (by first | rfl | assumption) (by omega) rfl rfl rfl (Nat.le_of_ble_eq_true rfl) ⟨by decide, by decide⟩ (fun t65 q65 => ?_)
        obtain ⟨u65, g65⟩ := q65
        have x65 : t65 108 28 = zds (zds (zag n K y (0, q, (R, V, E)) k).2.1) := (g65 _ _ (by omega)).trans q5
        refine z_iload (pc := 68) C dX10_agesNow_68 4 rfl ?_
        refine z_aload_n (pc := 70) C dX10_agesNow_70 rfl 0 rfl ?_
        refine z_aload_n (pc := 71) C dX10_agesNow_71 rfl 0 rfl ?_
        refine z_bipush (pc := 72) C dX10_agesNow_72 (by decide +kernel) ?_
        refine z_Vi (pc := 74) C (c_X10_draw l G _ (zds (zds (zag n K y (0, q, (R, V, E)) k).2.1)) 16 x65 hz2 (by omega)) ml_X10_255 yw_X10_draw dX10_agesNow_74 (by first | rfl | assumption) (by omega) rfl rfl rfl (Nat.le_of_ble_eq_true rfl) ⟨by decide, by decide⟩ (fun r74 t74 h74 q74 => ?_)
        obtain ⟨e74, m74⟩ := q74
        have hm6 := Int.emod_nonneg (zds (zds (zds (zag n K y (0, q, (R, V, E)) k).2.1)) / 65536) (show (16 : Int) ≠ 0 by omega)
        have hm7 := Int.emod_lt_of_pos (zds (zds (zds (zag n K y (0, q, (R, V, E)) k).2.1)) / 65536) (show 0 < (16 : Int) by omega)
        have u74 : zMl t74 n (y + (k : Int) + 1) K (zgs K (y + (k : Int)) s2) s2.2.1 (fun _ => 0) := by rw [m74]; exact u65.put (by omega)
        have hr3 : zLr K (zgs K (y + (k : Int)) s2) s2.2.1 (fun _ => 0) := fun j => ⟨(hr2 j).1, zgr_bd _ _ _ _ _, (hr2 j).2.2.1, by simp⟩
        refine z_Vi (pc := 77) C (c_X10_goRain l G _ n _ K _ _ _ u74 hr3 hn r74 (by omega)) ml_X10_161 yw_X10_goRain dX10_agesNow_77 (by first | rfl | assumption) (by omega) rfl rfl rfl (Nat.le_of_ble_eq_true rfl) ⟨by decide, by decide⟩ (fun r77 t77 h77 q77 => ?_)
        obtain ⟨e77, u77, g77⟩ := q77
        have hsb := zsum_bd (f := zwp (zgs K (y + (k : Int)) s2) r74) (c := 1) (n := n) (fun j _ => zwp_bd _ _ j)
        have hz : (zag n K y (0, q, (R, V, E)) (k + 1)) = _ := za1_eq (y := y + (k : Int)) (t := (zag n K y (0, q, (R, V, E)) k).1) (sd := (zag n K y (0, q, (R, V, E)) k).2.1) (s := (zag n K y (0, q, (R, V, E)) k).2.2) q2 q3
        rw [← q1, ← e74] at hz
        refine z_iadd (pc := 80) C dX10_agesNow_80 ?_
        refine z_istore (pc := 81) (lv' := [(4, _), (0, _), (1, _), (2, _), (3, _), (5, _)]) C dX10_agesNow_81 (by decide) rfl ?_
        refine z_iinc (pc := 83) (lv' := [(5, _), (4, _), (0, _), (1, _), (2, _), (3, _)]) C dX10_agesNow_83 5 rfl (by decide) rfl ?_
        refine z_goto (pc := 86) (tgt := 16) C dX10_agesNow_86 (by decide) ?_
        refine z_sub C [2, 3, 4, 5, 1, 0] rfl ?_
        exact ih (k + 1) _ _ (by omega) ⟨by omega, ⟨by rw [hz, hx, e77], by omega, by omega⟩, by rw [hz]; exact u77.ext (by omega) (fun j hj => ⟨rfl, rfl, rfl, rfl⟩), by rw [hz]; exact (g77 _ _ (by omega)).trans (by rw [m74, zU_at]), ((q6.kg g65).put (o := 108) (k := 28) (by omega) |> fun w => by rw [m74] at g77; exact w.kg g77), q7.tr (g65.kp.tr ((show zKp t65 t74 by rw [m74]; exact zKp.rf.put (by omega)).tr g77.kp))⟩
      have hrk := zag_r (n := n) (K := K) (y := y) (by omega) (a := (0, q, (R, V, E))) hr k
      have hsk := zag_s (n := n) (K := K) (y := y) (a := (0, q, (R, V, E))) ⟨by dsimp only; omega, by dsimp only; omega⟩ k
      refine z_iload (pc := 16) C dX10_agesNow_16 5 rfl ?_
      refine z_iload_n (pc := 18) C dX10_agesNow_18 rfl 1 rfl ?_
      refine z_icmp_ge (pc := 19) (tgt := 89) C dX10_agesNow_19 (by decide) ⟨by omega, by omega⟩ (fun c19 => ?_) (fun c19 => ?_)
      · obtain rfl : k = N := by omega
        have hza : zaAges n y K R V E (k : Int) q what = if what = 0 then (zag n K y (0, q, (R, V, E)) k).1 else if what = 1 then zsum (zag n K y (0, q, (R, V, E)) k).2.2.1 n else (zag n K y (0, q, (R, V, E)) k).2.1 := by rw [zaAges, if_pos (by omega), if_neg (by omega)]; rfl
        refine z_aload_n (pc := 89) C dX10_agesNow_89 rfl 0 rfl ?_
        refine z_Vi (pc := 90) C (c_X10_reedAll l G _ n _ K _ _ _ h2 hrk hn) ml_X10_196 yw_X10_reedAll dX10_agesNow_90 (by first | rfl | assumption) (by omega) rfl rfl rfl (Nat.le_of_ble_eq_true rfl) ⟨by decide, by decide⟩ (fun r90 t90 h90 q90 => ?_)
        obtain ⟨e90, rfl⟩ := q90
        refine z_istore (pc := 93) (lv' := [(5, _), (0, _), (1, _), (2, _), (3, _), (4, _)]) C dX10_agesNow_93 (by decide) rfl ?_
        refine z_aload_n (pc := 95) C dX10_agesNow_95 rfl 1 rfl ?_
        refine z_Vv (pc := 96) C (c_X10_load l G _ n y _ K R V E _ _ _ h2 h3 hr hn (by omega)) ml_X10_183 yw_X10_load dX10_agesNow_96 (by first | rfl | assumption) (by omega) rfl rfl rfl (Nat.le_of_ble_eq_true rfl) ⟨by decide, by decide⟩ (fun t96 q96 => ?_)
        obtain ⟨u96, v96, g96⟩ := q96
        have x96 : t96 108 28 = (zag n K y (0, q, (R, V, E)) k).2.1 := (g96 _ _ (by omega)).trans h4
        refine z_iload_n (pc := 99) C dX10_agesNow_99 rfl 4 rfl ?_
        refine z_if_ne (pc := 100) (tgt := 108) C dX10_agesNow_100 (by decide) (by omega) (fun c100 => ?_) (fun c100 => ?_)
        · refine z_iload_n (pc := 108) C dX10_agesNow_108 rfl 4 rfl ?_
          refine z_iconst (pc := 109) C dX10_agesNow_109 ?_
          refine z_icmp_ne (pc := 110) (tgt := 118) C dX10_agesNow_110 (by decide) ⟨by omega, by omega⟩ (fun c110 => ?_) (fun c110 => ?_)
          · refine z_aload_n (pc := 118) C dX10_agesNow_118 rfl 1 rfl ?_
            refine z_getJ (pc := 119) C fl_X10_245 dX10_agesNow_119 (by first | rfl | assumption) (by omega) ?_
            rw [x96]
            refine z_l2i (pc := 122) C dX10_agesNow_122 (by omega) ?_
            refine z_iret (pc := 123) C dX10_agesNow_123 ?_
            first
              | (exfalso; omega)
              | exact ⟨_, rfl, by omega, by rw [hza, if_pos (by omega)]; exact hx, u96, h5.tr g96.kp⟩
              | exact ⟨_, rfl, by assumption, by rw [hza, if_neg (by omega), if_pos (by omega)]; exact e90, u96, h5.tr g96.kp⟩
              | exact ⟨_, rfl, by omega, by rw [hza, if_neg (by omega), if_neg (by omega)], u96, h5.tr g96.kp⟩
          · refine z_iload (pc := 113) C dX10_agesNow_113 0 rfl ?_
            refine z_goto (pc := 115) (tgt := 123) C dX10_agesNow_115 (by decide) ?_
            refine z_iret (pc := 123) C dX10_agesNow_123 ?_
            first
              | (exfalso; omega)
              | exact ⟨_, rfl, by omega, by rw [hza, if_pos (by omega)]; exact hx, u96, h5.tr g96.kp⟩
              | exact ⟨_, rfl, by assumption, by rw [hza, if_neg (by omega), if_pos (by omega)]; exact e90, u96, h5.tr g96.kp⟩
              | exact ⟨_, rfl, by omega, by rw [hza, if_neg (by omega), if_neg (by omega)], u96, h5.tr g96.kp⟩
        · refine z_iload (pc := 103) C dX10_agesNow_103 5 rfl ?_
          refine z_goto (pc := 105) (tgt := 123) C dX10_agesNow_105 (by decide) ?_
          refine z_iret (pc := 123) C dX10_agesNow_123 ?_
          first
            | (exfalso; omega)
            | exact ⟨_, rfl, by omega, by rw [hza, if_pos (by omega)]; exact hx, u96, h5.tr g96.kp⟩
            | exact ⟨_, rfl, by assumption, by rw [hza, if_neg (by omega), if_pos (by omega)]; exact e90, u96, h5.tr g96.kp⟩
            | exact ⟨_, rfl, by omega, by rw [hza, if_neg (by omega), if_neg (by omega)], u96, h5.tr g96.kp⟩
      · refine z_aload_n (pc := 22) C dX10_agesNow_22 rfl 0 rfl ?_
        refine z_aload_n (pc := 23) C dX10_agesNow_23 rfl 0 rfl ?_
        refine z_getI (pc := 24) C fl_X10_101 dX10_agesNow_24 (by first | rfl | assumption) (by omega) (fun g24 => ?_)
        rw [show τ 108 1 = (n : Int) from h2.1]
        refine z_Vi (pc := 27) C (c_X10_draw l G _ (zag n K y (0, q, (R, V, E)) k).2.1 (n : Int) h4 hsk (by omega)) ml_X10_255 yw_X10_draw dX10_agesNow_27 (by first | rfl | assumption) (by omega) rfl rfl rfl (Nat.le_of_ble_eq_true rfl) ⟨by decide, by decide⟩ (fun r27 t27 h27 q27 => ?_)
        obtain ⟨e27, m27⟩ := q27
        have hm := Int.emod_nonneg (zds (zag n K y (0, q, (R, V, E)) k).2.1 / 65536) (show (n : Int) ≠ 0 by omega)
        have hm2 := Int.emod_lt_of_pos (zds (zag n K y (0, q, (R, V, E)) k).2.1 / 65536) (show 0 < (n : Int) by omega)
        obtain ⟨i, hi⟩ : ∃ i : Nat, zds (zag n K y (0, q, (R, V, E)) k).2.1 / 65536 % n = i := ⟨(zds (zag n K y (0, q, (R, V, E)) k).2.1 / 65536 % n).toNat, by omega⟩
        have hri : r27 = i := by rw [e27, hi]
        have x27 : t27 108 28 = zds (zag n K y (0, q, (R, V, E)) k).2.1 := by rw [m27, zU_at]
        have hz1 := zds_bd (zag n K y (0, q, (R, V, E)) k).2.1
        refine z_istore (pc := 30) (lv' := [(6, _), (0, _), (1, _), (2, _), (3, _), (4, _), (5, _)]) C dX10_agesNow_30 (by decide) rfl ?_
        refine z_aload_n (pc := 32) C dX10_agesNow_32 rfl 1 rfl ?_
        refine z_iconst (pc := 33) C dX10_agesNow_33 ?_
        refine z_Vi (pc := 34) C (c_X10_draw l G _ (zds (zag n K y (0, q, (R, V, E)) k).2.1) 2 x27 hz1 (by omega)) ml_X10_255 yw_X10_draw dX10_agesNow_34 (by first | rfl | assumption) (by omega) rfl rfl rfl (Nat.le_of_ble_eq_true rfl) ⟨by decide, by decide⟩ (fun r34 t34 h34 q34 => ?_)
        obtain ⟨e34, m34⟩ := q34
        have hz2 := zds_bd (zds (zag n K y (0, q, (R, V, E)) k).2.1)
        have x34 : t34 108 28 = zds (zds (zag n K y (0, q, (R, V, E)) k).2.1) := by rw [m34, zU_at]
        have y34 : zMl t34 n (y + (k : Int)) K (zag n K y (0, q, (R, V, E)) k).2.2.1 (zag n K y (0, q, (R, V, E)) k).2.2.2.1 (zag n K y (0, q, (R, V, E)) k).2.2.2.2 := by rw [m34, m27]; exact (h2.put (by omega)).put (by omega)
        have v34 : zSv t34 n y R V E := by rw [m34, m27]; exact (h3.put (by omega)).put (by omega)
        have f34 : zKp σ t34 := by rw [m34, m27]; exact (h5.put (by omega)).put (by omega)
        refine z_if_ne (pc := 37) (tgt := 49) C dX10_agesNow_37 (by decide) (by omega) (fun c37 => ?_) (fun c37 => ?_)
        · refine z_aload_n (pc := 49) C dX10_agesNow_49 rfl 1 rfl ?_
          refine z_iload (pc := 50) C dX10_agesNow_50 0 rfl ?_
          refine z_Vi (pc := 52) C (c_X10_mayComb l G _ n _ K _ _ _ y34 hrk hn i _ hri (by omega)) ml_X10_168 yw_X10_mayComb dX10_agesNow_52 (by first | rfl | assumption) (by omega) rfl rfl rfl (Nat.le_of_ble_eq_true rfl) ⟨by decide, by decide⟩ (fun r52 t52 h52 q52 => ?_)
          obtain ⟨w52, rfl⟩ := q52
          refine z_if_eq (pc := 55) (tgt := 64) C dX10_agesNow_55 (by decide) (by omega) (fun c55 => ?_) (fun c55 => ?_)
          · refine z_sub C [1, 2, 3, 4, 5, 6] rfl ?_
            first
              | exact J64 ((zag n K y (0, q, (R, V, E)) k).2.2.1, zcv1 (zag n K y (0, q, (R, V, E)) k).2.2.2.1 i, (zag n K y (0, q, (R, V, E)) k).2.2.2.2) _ i r34 ⟨⟨by unfold zmid; rw [if_pos (by omega)], hi, e34, u43, (g43 _ _ (by omega)).trans x34, v34.kg g43, f34.tr g43.kp⟩, by omega⟩
              | exact J64 (zup (zag n K y (0, q, (R, V, E)) k).2.2.1 i ((zag n K y (0, q, (R, V, E)) k).2.2.1 i - 2), (zag n K y (0, q, (R, V, E)) k).2.2.2.1, zup (zag n K y (0, q, (R, V, E)) k).2.2.2.2 i 1) _ i r34 ⟨⟨by unfold zmid; rw [if_neg (by omega), if_pos (by omega)], hi, e34, u61, (g61 _ _ (by omega)).trans x34, v34.kg g61, f34.tr g61.kp⟩, by omega⟩
              | exact J64 (zag n K y (0, q, (R, V, E)) k).2.2 _ i r34 ⟨⟨by unfold zmid; rw [if_neg (by omega), if_neg (by omega)], hi, e34, y34, x34, v34, f34⟩, by omega⟩
          · refine z_aload_n (pc := 58) C dX10_agesNow_58 rfl 1 rfl ?_
            refine z_iload (pc := 59) C dX10_agesNow_59 0 rfl ?_
            refine z_Vv (pc := 61) C (c_X10_goComb l G _ n _ K _ _ _ y34 hrk hn i _ hri (by omega) (by omega)) ml_X10_171 yw_X10_goComb dX10_agesNow_61 (by first | rfl | assumption) (by omega) rfl rfl rfl (Nat.le_of_ble_eq_true rfl) ⟨by decide, by decide⟩ (fun t61 q61 => ?_)
            obtain ⟨u61, g61⟩ := q61
            refine z_sub C [1, 2, 3, 4, 5, 6] rfl ?_
            first
              | exact J64 ((zag n K y (0, q, (R, V, E)) k).2.2.1, zcv1 (zag n K y (0, q, (R, V, E)) k).2.2.2.1 i, (zag n K y (0, q, (R, V, E)) k).2.2.2.2) _ i r34 ⟨⟨by unfold zmid; rw [if_pos (by omega)], hi, e34, u43, (g43 _ _ (by omega)).trans x34, v34.kg g43, f34.tr g43.kp⟩, by omega⟩
              | exact J64 (zup (zag n K y (0, q, (R, V, E)) k).2.2.1 i ((zag n K y (0, q, (R, V, E)) k).2.2.1 i - 2), (zag n K y (0, q, (R, V, E)) k).2.2.2.1, zup (zag n K y (0, q, (R, V, E)) k).2.2.2.2 i 1) _ i r34 ⟨⟨by unfold zmid; rw [if_neg (by omega), if_pos (by omega)], hi, e34, u61, (g61 _ _ (by omega)).trans x34, v34.kg g61, f34.tr g61.kp⟩, by omega⟩
              | exact J64 (zag n K y (0, q, (R, V, E)) k).2.2 _ i r34 ⟨⟨by unfold zmid; rw [if_neg (by omega), if_neg (by omega)], hi, e34, y34, x34, v34, f34⟩, by omega⟩
        · refine z_aload_n (pc := 40) C dX10_agesNow_40 rfl 1 rfl ?_
          refine z_iload (pc := 41) C dX10_agesNow_41 0 rfl ?_
          refine z_Vv (pc := 43) C (c_X10_goCheer l G _ n _ K _ _ _ y34 hrk hn i _ hri (by omega)) ml_X10_164 yw_X10_goCheer dX10_agesNow_43 (by first | rfl | assumption) (by omega) rfl rfl rfl (Nat.le_of_ble_eq_true rfl) ⟨by decide, by decide⟩ (fun t43 q43 => ?_)
          obtain ⟨u43, g43⟩ := q43
          refine z_goto (pc := 46) (tgt := 64) C dX10_agesNow_46 (by decide) ?_
          refine z_sub C [1, 2, 3, 4, 5, 6] rfl ?_
          first
            | exact J64 ((zag n K y (0, q, (R, V, E)) k).2.2.1, zcv1 (zag n K y (0, q, (R, V, E)) k).2.2.2.1 i, (zag n K y (0, q, (R, V, E)) k).2.2.2.2) _ i r34 ⟨⟨by unfold zmid; rw [if_pos (by omega)], hi, e34, u43, (g43 _ _ (by omega)).trans x34, v34.kg g43, f34.tr g43.kp⟩, by omega⟩
            | exact J64 (zup (zag n K y (0, q, (R, V, E)) k).2.2.1 i ((zag n K y (0, q, (R, V, E)) k).2.2.1 i - 2), (zag n K y (0, q, (R, V, E)) k).2.2.2.1, zup (zag n K y (0, q, (R, V, E)) k).2.2.2.2 i 1) _ i r34 ⟨⟨by unfold zmid; rw [if_neg (by omega), if_pos (by omega)], hi, e34, u61, (g61 _ _ (by omega)).trans x34, v34.kg g61, f34.tr g61.kp⟩, by omega⟩
            | exact J64 (zag n K y (0, q, (R, V, E)) k).2.2 _ i r34 ⟨⟨by unfold zmid; rw [if_neg (by omega), if_neg (by omega)], hi, e34, y34, x34, v34, f34⟩, by omega⟩
  refine z_aload_n (pc := 0) C dX10_agesNow_0 rfl 0 rfl ?_
  refine z_Vv (pc := 1) C (c_X10_save l G _ n y K R V E h hr hn ) ml_X10_180 yw_X10_save dX10_agesNow_1 (by first | rfl | assumption) (by omega) rfl rfl rfl (Nat.le_of_ble_eq_true rfl) ⟨by decide, by decide⟩ (fun t1 q1 => ?_)
  obtain ⟨u1, v1, f1⟩ := q1
  refine z_aload_n (pc := 4) C dX10_agesNow_4 rfl 0 rfl ?_
  refine z_iload_n (pc := 5) C dX10_agesNow_5 rfl 2 rfl ?_
  refine z_i2l (pc := 6) C dX10_agesNow_6 (by omega) ?_
  refine z_putJe (pc := 7) C fl_X10_245 dX10_agesNow_7 (by first | rfl | assumption) (by omega) (fun m7 em7 => ?_)
  refine z_iconst (pc := 10) C dX10_agesNow_10 ?_
  refine z_istore (pc := 11) (lv' := [(4, _), (0, _), (1, _), (2, _), (3, _)]) C dX10_agesNow_11 (by decide) rfl ?_
  refine z_iconst (pc := 13) C dX10_agesNow_13 ?_
  refine z_istore (pc := 14) (lv' := [(5, _), (4, _), (0, _), (1, _), (2, _), (3, _)]) C dX10_agesNow_14 (by decide) rfl ?_
  refine z_sub C [2, 3, 4, 5, 1, 0] rfl ?_
  exact L16 _ 0 0 _ (Nat.lt_succ_self _) ⟨by omega, ⟨rfl, by omega, by omega⟩, by rw [em7]; exact (u1.put (by omega)).ext (by simp) (fun j hj => ⟨rfl, rfl, rfl, rfl⟩), by rw [em7]; exact zU_at, by rw [em7]; exact v1.put (by omega), by rw [em7]; exact (show zKp σ t1 from fun o k ho => f1 o k (by omega) (by omega) (by omega)).put (by omega)⟩
set_option maxHeartbeats 4000000 in
set_option maxRecDepth 100000 in
theorem c_X10_ages (l : Launch) (G : zGt) (σ : zMem) (n : Nat) (y : Int) (K R V E : Nat → Int) (h : zMl σ n y K R V E) (hr : zLr K R V E) (hn : n ≤ 6) (p q what : Int) (hp : zR p) (hq : zR q) (hw : zR what) (hy : 0 ≤ y ∧ y ≤ 90000) : zN l G yX10_ages cX10_ages 4 (some .int) 5 [.ref (zB G + 108), .int (zI p), .int (zI q), .int (zI what)] σ (zPi (fun x τ => x = zaAges n y K R V E p q what ∧ zMl τ n y K R V E ∧ zKp σ τ)) := by
  obtain ⟨s1, s6, s5, sA⟩ := id h
  have l109 : zl 109 = 6 := by decide
  have l110 : zl 110 = 6 := by decide
  have l111 : zl 111 = 6 := by decide
  have hE : ∀ j, 0 ≤ E j ∧ E j ≤ 1 := fun j => (hr j).2.2.2
  have hb5 := zbs_bd hE n
  have hq6 := zpow6 n hn
  refine zM.of (lv0 := [(0, _), (1, _), (2, _), (3, _)]) (by decide) (Nat.le_of_ble_eq_true rfl) rfl (fun X C => ?_)
  refine z_iload_n (pc := 0) C dX10_ages_0 rfl 1 rfl ?_
  refine z_iconst (pc := 1) C dX10_ages_1 ?_
  refine z_bipush (pc := 2) C dX10_ages_2 (by decide +kernel) ?_
  refine z_Si (pc := 4) C (c_X10_within l G _ _ _ _ (by first | assumption | omega | decide) (by first | assumption | omega | decide) (by first | assumption | omega | decide)) ml_X10_71 ys_X10_within dX10_ages_4 rfl rfl (Nat.le_of_ble_eq_true rfl) ⟨by decide, by decide⟩ (fun r4 t4 h4 q4 => ?_)
  obtain ⟨w4, rfl⟩ := q4
  refine z_if_eq (pc := 7) (tgt := 23) C dX10_ages_7 (by decide) (by omega) (fun c7 => ?_) (fun c7 => ?_)
  · refine z_bipush (pc := 23) C dX10_ages_23 (by decide +kernel) ?_
    refine z_iret (pc := 25) C dX10_ages_25 ?_
    exact ⟨_, rfl, by omega, by rw [zaAges, if_neg (by omega)], h, zKp.rf⟩
  · refine z_iload_n (pc := 10) C dX10_ages_10 rfl 2 rfl ?_
    refine z_if_lt (pc := 11) (tgt := 23) C dX10_ages_11 (by decide) (by omega) (fun c11 => ?_) (fun c11 => ?_)
    · refine z_bipush (pc := 23) C dX10_ages_23 (by decide +kernel) ?_
      refine z_iret (pc := 25) C dX10_ages_25 ?_
      exact ⟨_, rfl, by omega, by rw [zaAges, if_neg (by omega)], h, zKp.rf⟩
    · refine z_iload_n (pc := 14) C dX10_ages_14 rfl 3 rfl ?_
      refine z_iconst (pc := 15) C dX10_ages_15 ?_
      refine z_iconst (pc := 16) C dX10_ages_16 ?_
      refine z_Si (pc := 17) C (c_X10_within l G _ _ _ _ (by first | assumption | omega | decide) (by first | assumption | omega | decide) (by first | assumption | omega | decide)) ml_X10_71 ys_X10_within dX10_ages_17 rfl rfl (Nat.le_of_ble_eq_true rfl) ⟨by decide, by decide⟩ (fun r17 t17 h17 q17 => ?_)
      obtain ⟨w17, rfl⟩ := q17
      refine z_if_ne (pc := 20) (tgt := 26) C dX10_ages_20 (by decide) (by omega) (fun c20 => ?_) (fun c20 => ?_)
      · refine z_aload_n (pc := 26) C dX10_ages_26 rfl 0 rfl ?_
        refine z_getI (pc := 27) C fl_X10_101 dX10_ages_27 (by first | rfl | assumption) (by omega) (fun g27 => ?_)
        refine z_if_ne (pc := 30) (tgt := 38) C dX10_ages_30 (by decide) (by omega) (fun c30 => ?_) (fun c30 => ?_)
        · obtain ⟨N, rfl⟩ : ∃ N : Nat, p = N := ⟨p.toNat, by omega⟩
          refine z_aload_n (pc := 38) C dX10_ages_38 rfl 0 rfl ?_
          refine z_iload_n (pc := 39) C dX10_ages_39 rfl 1 rfl ?_
          refine z_iload_n (pc := 40) C dX10_ages_40 rfl 2 rfl ?_
          refine z_iload_n (pc := 41) C dX10_ages_41 rfl 3 rfl ?_
          refine z_Vi (pc := 42) C (c_X10_agesNow l G _ n y K R V E h hr hn N _ q what rfl (by omega) (by omega) (by omega) (by omega) hy) ml_X10_258 yw_X10_agesNow dX10_ages_42 (by first | rfl | assumption) (by omega) rfl rfl rfl (Nat.le_of_ble_eq_true rfl) ⟨by decide, by decide⟩ (fun r42 t42 h42 q42 => ?_)
          obtain ⟨e42, u42, f42⟩ := q42
          refine z_iret (pc := 45) C dX10_ages_45 ?_
          first
            | exact ⟨_, rfl, by assumption, e42, u42, f42⟩
            | exact ⟨_, rfl, by omega, by rw [zaAges, if_pos (by omega), if_pos (by omega)], h, zKp.rf⟩
        · refine z_bipush (pc := 33) C dX10_ages_33 (by decide +kernel) ?_
          refine z_goto (pc := 35) (tgt := 45) C dX10_ages_35 (by decide) ?_
          refine z_iret (pc := 45) C dX10_ages_45 ?_
          first
            | exact ⟨_, rfl, by assumption, e42, u42, f42⟩
            | exact ⟨_, rfl, by omega, by rw [zaAges, if_pos (by omega), if_pos (by omega)], h, zKp.rf⟩
      · refine z_bipush (pc := 23) C dX10_ages_23 (by decide +kernel) ?_
        refine z_iret (pc := 25) C dX10_ages_25 ?_
        exact ⟨_, rfl, by omega, by rw [zaAges, if_neg (by omega)], h, zKp.rf⟩
