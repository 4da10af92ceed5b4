/-! the digest, by the model -/
def zKh (σ τ : zMem) : Prop := ∀ o k, (o < 108 ∨ (o = 108 ∧ (k < 5 ∨ (7 ≤ k ∧ k ≤ 13) ∨ (29 ≤ k ∧ k ≠ 41))) ∨ o = 109 ∨ (112 ≤ o ∧ o ≤ 115) ∨ 123 ≤ o) → τ o k = σ o k
theorem zKh.rf {σ : zMem} : zKh σ σ := fun _ _ _ => rfl
theorem zKh.tr {σ τ υ : zMem} (h : zKh σ τ) (h2 : zKh τ υ) : zKh σ υ := fun o k hk => (h2 o k hk).trans (h o k hk)
theorem zKh.kp {σ τ : zMem} (h : zKp σ τ) : zKh σ τ := fun o k hk => h o k (by omega)
def zHx (σ τ : zMem) (n : Nat) (y : Int) (K R V E : Nat → Int) (x : Int) : Prop := zMl τ n y K R V E ∧ zKh σ τ ∧ τ 108 41 = x
theorem zHx.kp {σ τ υ : zMem} {n : Nat} {y : Int} {K R V E : Nat → Int} {x : Int} (h : zHx σ τ n y K R V E x) (h2 : zMl υ n y K R V E) (h3 : zKp τ υ) : zHx σ υ n y K R V E x := ⟨h2, h.2.1.tr (zKh.kp h3), (h3 _ _ (by omega)).trans h.2.2⟩
theorem zHx.kq {σ τ υ : zMem} {n : Nat} {y : Int} {K R V E : Nat → Int} {x : Int} (h : zHx σ τ n y K R V E x) (h3 : zKq τ υ) : zHx σ υ n y K R V E x := h.kp (h3.ml h.1) h3.kp
theorem zHx.kr {σ τ υ : zMem} {n : Nat} {y : Int} {K R V E : Nat → Int} {x : Int} (h : zHx σ τ n y K R V E x) (h3 : zKr τ υ) : zHx σ υ n y K R V E x := h.kp (h3.ml h.1) h3.kp
theorem zHx.mix {σ τ υ : zMem} {n : Nat} {y : Int} {K R V E : Nat → Int} {x v : Int} (h : zHx σ τ n y K R V E x) (e : υ = zU τ 108 41 (31 * τ 108 41 + v)) : zHx σ υ n y K R V E (31 * x + v) := by
  subst e
  refine ⟨h.1.put (by omega), h.2.1.tr (fun o k hk => ?_), by rw [zU_at, h.2.2]⟩
  unfold zU
  rw [if_neg (by omega)]
theorem zHx.ms {σ τ : zMem} {n : Nat} {y : Int} {K R V E : Nat → Int} {x : Int} {c : Nat} {A Y Q : Nat → Int} (h : zHx σ τ n y K R V E x) (hs : zMs σ c A Y Q) : zMs τ c A Y Q := hs.fr fun o k hk => h.2.1 o k (by omega)
theorem zHx.rf {σ : zMem} {n : Nat} {y : Int} {K R V E : Nat → Int} {x : Int} (h : zMl σ n y K R V E) (hx : σ 108 41 = x) : zHx σ σ n y K R V E x := ⟨h, zKh.rf, hx⟩
theorem zHx.tr {σ τ υ : zMem} {n : Nat} {y : Int} {K R V E : Nat → Int} {x x2 : Int} (h : zHx σ τ n y K R V E x) (h2 : zHx τ υ n y K R V E x2) : zHx σ υ n y K R V E x2 := ⟨h2.1, h.2.1.tr h2.2.1, h2.2.2⟩
set_option maxHeartbeats 4000000 in
set_option maxRecDepth 100000 in
theorem c_X10_mix (l : Launch) (G : zGt) (σ : zMem) (v : Int) : zN l G yX10_mix cX10_mix 3 (none) 0 [.ref (zB G + 108), .long (zJ (v))] σ (zPv (fun τ => τ = zU σ 108 41 (31 * σ 108 41 + v))) := by
  refine zM.of (lv0 := [(0, _), (1, _)]) (by decide) (Nat.le_of_ble_eq_true rfl) rfl (fun X C => ?_)
  refine z_aload_n (pc := 0) C dX10_mix_0 rfl 0 rfl ?_
  refine z_ldc2 (pc := 1) (n := 31) C dX10_mix_1 cw_X10_288 rfl ?_
  refine z_aload_n (pc := 4) C dX10_mix_4 rfl 0 rfl ?_
  refine z_getJ (pc := 5) C fl_X10_290 dX10_mix_5 (by first | rfl | assumption) (by omega) ?_
  refine z_lmul (pc := 8) C dX10_mix_8 ?_
  refine z_lload_n (pc := 9) C dX10_mix_9 rfl 1 rfl ?_
  refine z_ladd (pc := 10) C dX10_mix_10 ?_
  refine z_putJe (pc := 11) C fl_X10_290 dX10_mix_11 (by first | rfl | assumption) (by omega) (fun m11 em11 => ?_)
  refine z_vret (pc := 14) C dX10_mix_14 ?_
  exact ⟨rfl, em11⟩
set_option maxHeartbeats 4000000 in
set_option maxRecDepth 100000 in
theorem c_X10_mixHouse (l : Launch) (G : zGt) (σ : zMem) (n : Nat) (y : Int) (K R V E : Nat → Int) (h : zMl σ n y K R V E) (hr : zLr K R V E) (hn : n ≤ 6) (c : Nat) (A Y Q : Nat → Int) (hs : zMs σ c A Y Q) (hsr : zSr A Y Q) (hc : c ≤ 6) (i : Nat) (p x : Int) (hp : p = i) (hi : i < n) (hx : σ 108 41 = x) (hy : 0 ≤ y ∧ y ≤ 90000) : zN l G yX10_mixHouse cX10_mixHouse 3 (none) 6 [.ref (zB G + 108), .int (zI p)] σ (zPv (fun τ => zHx σ τ n y K R V E (zdH n y K R V E c A Y Q x i))) := by
  obtain ⟨s1, s6, s5, sA⟩ := id h
  have l109 : zl 109 = 6 := by decide
  have l110 : zl 110 = 6 := by decide
  have l111 : zl 111 = 6 := by decide
  have hE : ∀ j, 0 ≤ E j ∧ E j ≤ 1 := fun j => (hr j).2.2.2
  have hb5 := zbs_bd hE n
  have hq6 := zpow6 n hn
  subst hp
  refine zM.of (lv0 := [(0, _), (1, _)]) (by decide) (Nat.le_of_ble_eq_true rfl) rfl (fun X C => ?_)
  have L2 : ∀ (fuel : Nat) (k : Nat) (τ : zMem), 7 - k < fuel → (k ≤ 7 ∧ zHx σ τ n y K R V E (zfd (fun t : Nat => zaHouse n y K R V E c A Y Q (i : Int) (t : Int)) k x)) → zg G X true 3 129 0 0 2 [(0, .ref (zB G + 108)), (1, .int (zI (i : Int))), (2, .int (zI (k : Int)))] [] τ := by
    intro fuel
    induction fuel with
    | zero => intro k τ hm; exact absurd hm (Nat.not_lt_zero _)
    | succ fuel ih =>
      intro k τ hms hinv
      obtain ⟨h1, h2⟩ := hinv
      refine z_iload_n (pc := 2) C dX10_mixHouse_2 rfl 2 rfl ?_
      refine z_bipush (pc := 3) C dX10_mixHouse_3 (by decide +kernel) ?_
      refine z_icmp_ge (pc := 5) (tgt := 25) C dX10_mixHouse_5 (by decide) ⟨by omega, by omega⟩ (fun c5 => ?_) (fun c5 => ?_)
      · obtain rfl : k = 7 := by omega
        refine z_aload_n (pc := 25) C dX10_mixHouse_25 rfl 0 rfl ?_
        refine z_aload_n (pc := 26) C dX10_mixHouse_26 rfl 0 rfl ?_
        refine z_iload_n (pc := 27) C dX10_mixHouse_27 rfl 1 rfl ?_
        refine z_bipush (pc := 28) C dX10_mixHouse_28 (by decide +kernel) ?_
        refine z_Vi (pc := 30) C (c_X10_reachesTo l G _ n y K R V E h2.1 hr hn i _ 12 rfl (by omega) (by omega)) ml_X10_133 yw_X10_reachesTo dX10_mixHouse_30 (by first | rfl | assumption) (by omega) rfl rfl rfl (Nat.le_of_ble_eq_true rfl) ⟨by decide, by decide⟩ (fun r30 t30 h30 q30 => ?_)
        obtain ⟨e30, rfl⟩ := q30
        refine z_i2l (pc := 33) C dX10_mixHouse_33 (by omega) ?_
        refine z_Vv (pc := 34) C (c_X10_mix l G _ _) ml_X10_293 yw_X10_mix dX10_mixHouse_34 (by first | rfl | assumption) (by omega) rfl rfl rfl (Nat.le_of_ble_eq_true rfl) ⟨by decide, by decide⟩ (fun t34 q34 => ?_)
        have m34 := q34
        have w34 := h2.mix m34
        refine z_aload_n (pc := 37) C dX10_mixHouse_37 rfl 0 rfl ?_
        refine z_aload_n (pc := 38) C dX10_mixHouse_38 rfl 0 rfl ?_
        refine z_iload_n (pc := 39) C dX10_mixHouse_39 rfl 1 rfl ?_
        refine z_bipush (pc := 40) C dX10_mixHouse_40 (by decide +kernel) ?_
        refine z_Vi (pc := 42) C (c_X10_dryNow l G _ n y K R V E w34.1 hr hn i _ 8 rfl hi (by omega) hy) ml_X10_186 yw_X10_dryNow dX10_mixHouse_42 (by first | rfl | assumption) (by omega) rfl rfl rfl (Nat.le_of_ble_eq_true rfl) ⟨by decide, by decide⟩ (fun r42 t42 h42 q42 => ?_)
        obtain ⟨e42, u42, f42⟩ := q42
        have w42 := w34.kp u42 f42
        refine z_i2l (pc := 45) C dX10_mixHouse_45 (by omega) ?_
        refine z_Vv (pc := 46) C (c_X10_mix l G _ _) ml_X10_293 yw_X10_mix dX10_mixHouse_46 (by first | rfl | assumption) (by omega) rfl rfl rfl (Nat.le_of_ble_eq_true rfl) ⟨by decide, by decide⟩ (fun t46 q46 => ?_)
        have m46 := q46
        have w46 := w42.mix m46
        refine z_aload_n (pc := 49) C dX10_mixHouse_49 rfl 0 rfl ?_
        refine z_aload_n (pc := 50) C dX10_mixHouse_50 rfl 0 rfl ?_
        refine z_iload_n (pc := 51) C dX10_mixHouse_51 rfl 1 rfl ?_
        refine z_iconst (pc := 52) C dX10_mixHouse_52 ?_
        refine z_iconst (pc := 53) C dX10_mixHouse_53 ?_
        refine z_Vi (pc := 54) C (c_X10_oddsNow l G _ n y K R V E w46.1 hr hn i 4 _ _ 0 rfl rfl hi (by omega) (by omega) hy) ml_X10_234 yw_X10_oddsNow dX10_mixHouse_54 (by first | rfl | assumption) (by omega) rfl rfl rfl (Nat.le_of_ble_eq_true rfl) ⟨by decide, by decide⟩ (fun r54 t54 h54 q54 => ?_)
        obtain ⟨e54, u54, f54⟩ := q54
        have w54 := w46.kp u54 f54
        refine z_i2l (pc := 57) C dX10_mixHouse_57 (by omega) ?_
        refine z_Vv (pc := 58) C (c_X10_mix l G _ _) ml_X10_293 yw_X10_mix dX10_mixHouse_58 (by first | rfl | assumption) (by omega) rfl rfl rfl (Nat.le_of_ble_eq_true rfl) ⟨by decide, by decide⟩ (fun t58 q58 => ?_)
        have m58 := q58
        have w58 := w54.mix m58
        refine z_aload_n (pc := 61) C dX10_mixHouse_61 rfl 0 rfl ?_
        refine z_aload_n (pc := 62) C dX10_mixHouse_62 rfl 0 rfl ?_
        refine z_iload_n (pc := 63) C dX10_mixHouse_63 rfl 1 rfl ?_
        refine z_iconst (pc := 64) C dX10_mixHouse_64 ?_
        refine z_iconst (pc := 65) C dX10_mixHouse_65 ?_
        refine z_Vi (pc := 66) C (c_X10_oddsNow l G _ n y K R V E w58.1 hr hn i 4 _ _ 1 rfl rfl hi (by omega) (by omega) hy) ml_X10_234 yw_X10_oddsNow dX10_mixHouse_66 (by first | rfl | assumption) (by omega) rfl rfl rfl (Nat.le_of_ble_eq_true rfl) ⟨by decide, by decide⟩ (fun r66 t66 h66 q66 => ?_)
        obtain ⟨e66, u66, f66⟩ := q66
        have w66 := w58.kp u66 f66
        refine z_i2l (pc := 69) C dX10_mixHouse_69 (by omega) ?_
        refine z_Vv (pc := 70) C (c_X10_mix l G _ _) ml_X10_293 yw_X10_mix dX10_mixHouse_70 (by first | rfl | assumption) (by omega) rfl rfl rfl (Nat.le_of_ble_eq_true rfl) ⟨by decide, by decide⟩ (fun t70 q70 => ?_)
        have m70 := q70
        have w70 := w66.mix m70
        refine z_vret (pc := 73) C dX10_mixHouse_73 ?_
        refine ⟨rfl, ?_⟩
        have a30 : r30 = zaReach n R (i : Int) 12 := by rw [e30, zaReach, if_pos (by omega), if_pos (by omega)]; rfl
        have a42 : r42 = zaDry n y K R V E (i : Int) 8 := by rw [e42, zaDry, if_pos (by omega), if_pos (by omega)]; rfl
        have a54 : r54 = zaOdds n y K R V E (i : Int) 4 0 := by rw [zaOdds, if_pos (by omega), if_pos (by omega)]; exact e54
        have a66 : r66 = zaOdds n y K R V E (i : Int) 4 1 := by rw [zaOdds, if_pos (by omega), if_pos (by omega)]; exact e66
        rw [a30, a42, a54, a66] at w70
        exact w70
      · refine z_aload_n (pc := 8) C dX10_mixHouse_8 rfl 0 rfl ?_
        refine z_aload_n (pc := 9) C dX10_mixHouse_9 rfl 0 rfl ?_
        refine z_iload_n (pc := 10) C dX10_mixHouse_10 rfl 1 rfl ?_
        refine z_iload_n (pc := 11) C dX10_mixHouse_11 rfl 2 rfl ?_
        refine z_Vi (pc := 12) C (c_X10_houseNow l G _ n y K R V E h2.1 hr hn c A Y Q (h2.ms hs) hsr hc i _ (k : Int) rfl hi (by omega) hy) ml_X10_152 yw_X10_houseNow dX10_mixHouse_12 (by first | rfl | assumption) (by omega) rfl rfl rfl (Nat.le_of_ble_eq_true rfl) ⟨by decide, by decide⟩ (fun r12 t12 h12 q12 => ?_)
        obtain ⟨e12, f12⟩ := q12
        have w12 := h2.kr f12
        refine z_i2l (pc := 15) C dX10_mixHouse_15 (by omega) ?_
        refine z_Vv (pc := 16) C (c_X10_mix l G _ _) ml_X10_293 yw_X10_mix dX10_mixHouse_16 (by first | rfl | assumption) (by omega) rfl rfl rfl (Nat.le_of_ble_eq_true rfl) ⟨by decide, by decide⟩ (fun t16 q16 => ?_)
        have m16 := q16
        have w16 : zHx σ t16 n y K R V E (zfd (fun t : Nat => zaHouse n y K R V E c A Y Q (i : Int) (t : Int)) (k + 1) x) := by have w := w12.mix m16; rw [e12] at w; exact w
        refine z_iinc (pc := 19) (lv' := [(2, _), (0, _), (1, _)]) C dX10_mixHouse_19 2 rfl (by decide) rfl ?_
        refine z_goto (pc := 22) (tgt := 2) C dX10_mixHouse_22 (by decide) ?_
        refine z_sub C [1, 2, 0] rfl ?_
        exact ih (k + 1) _ (by omega) ⟨by omega, w16⟩
  refine z_iconst (pc := 0) C dX10_mixHouse_0 ?_
  refine z_istore_n (pc := 1) (lv' := [(2, _), (0, _), (1, _)]) C dX10_mixHouse_1 rfl (by decide) rfl ?_
  refine z_sub C [1, 2, 0] rfl ?_
  exact L2 _ 0 _ (Nat.lt_succ_self _) ⟨by omega, zHx.rf h hx⟩
set_option maxHeartbeats 4000000 in
set_option maxRecDepth 100000 in
theorem c_X10_mixLane (l : Launch) (G : zGt) (σ : zMem) (n : Nat) (y : Int) (K R V E : Nat → Int) (h : zMl σ n y K R V E) (hr : zLr K R V E) (hn : n ≤ 6) (x : Int) (hx : σ 108 41 = x) (hn1 : 1 ≤ n) (hy : 0 ≤ y ∧ y ≤ 90000) : zN l G yX10_mixLane cX10_mixLane 2 (none) 6 [.ref (zB G + 108)] σ (zPv (fun τ => zHx σ τ n y K R V E (zdL n y K R V E (zTw n R) (zaPatch n R 12 9 0) (zaPatch n R 12 9 1) x))) := by
  obtain ⟨s1, s6, s5, sA⟩ := id h
  have l109 : zl 109 = 6 := by decide
  have l110 : zl 110 = 6 := by decide
  have l111 : zl 111 = 6 := by decide
  have hE : ∀ j, 0 ≤ E j ∧ E j ≤ 1 := fun j => (hr j).2.2.2
  have hb5 := zbs_bd hE n
  have hq6 := zpow6 n hn
  have hx0 := zHx.rf h hx
  have l119 : zl 119 = 6 := by decide
  have hbw := zbs_bd (zwp_bd R 9) n
  refine zM.of (lv0 := [(0, _)]) (by decide) (Nat.le_of_ble_eq_true rfl) rfl (fun X C => ?_)
  have L75 : ∀ (fuel : Nat) (t : Nat) (τ : zMem), 6 - t < fuel → (t ≤ 6 ∧ zHx σ τ n y K R V E (zfd (zTw n R) (t + 1) (zdP n y K R V E x)) ∧ ∀ j, j < 6 → τ 119 j = zAf R n 6 (2 ^ n - 1) (fun _ => -1) j) → zg G X true 2 129 0 0 75 [(0, .ref (zB G + 108)), (1, .int (zI (t : Int)))] [] τ := by
    intro fuel
    induction fuel with
    | zero => intro t τ hm; exact absurd hm (Nat.not_lt_zero _)
    | succ fuel ih =>
      intro t τ hms hinv
      obtain ⟨h1, h2, h3⟩ := hinv
      refine z_iload_n (pc := 75) C dX10_mixLane_75 rfl 1 rfl ?_
      refine z_bipush (pc := 76) C dX10_mixLane_76 (by decide +kernel) ?_
      refine z_icmp_ge (pc := 78) (tgt := 98) C dX10_mixLane_78 (by decide) ⟨by omega, by omega⟩ (fun c78 => ?_) (fun c78 => ?_)
      · refine z_aload_n (pc := 98) C dX10_mixLane_98 rfl 0 rfl ?_
        refine z_aload_n (pc := 99) C dX10_mixLane_99 rfl 0 rfl ?_
        refine z_bipush (pc := 100) C dX10_mixLane_100 (by decide +kernel) ?_
        refine z_bipush (pc := 102) C dX10_mixLane_102 (by decide +kernel) ?_
        refine z_iconst (pc := 104) C dX10_mixLane_104 ?_
        refine z_Vi (pc := 105) C (c_X10_patchNow l G _ n y K R V E h2.1 hr hn 12 9 0 (by omega) (by omega) (by omega)) ml_X10_227 yw_X10_patchNow dX10_mixLane_105 (by first | rfl | assumption) (by omega) rfl rfl rfl (Nat.le_of_ble_eq_true rfl) ⟨by decide, by decide⟩ (fun r105 t105 h105 q105 => ?_)
        obtain ⟨e105, f105⟩ := q105
        have w105 := h2.kq f105
        refine z_i2l (pc := 108) C dX10_mixLane_108 (by omega) ?_
        refine z_Vv (pc := 109) C (c_X10_mix l G _ _) ml_X10_293 yw_X10_mix dX10_mixLane_109 (by first | rfl | assumption) (by omega) rfl rfl rfl (Nat.le_of_ble_eq_true rfl) ⟨by decide, by decide⟩ (fun t109 q109 => ?_)
        have m109 := q109
        have w109 := w105.mix m109
        refine z_aload_n (pc := 112) C dX10_mixLane_112 rfl 0 rfl ?_
        refine z_aload_n (pc := 113) C dX10_mixLane_113 rfl 0 rfl ?_
        refine z_bipush (pc := 114) C dX10_mixLane_114 (by decide +kernel) ?_
        refine z_bipush (pc := 116) C dX10_mixLane_116 (by decide +kernel) ?_
        refine z_iconst (pc := 118) C dX10_mixLane_118 ?_
        refine z_Vi (pc := 119) C (c_X10_patchNow l G _ n y K R V E w109.1 hr hn 12 9 1 (by omega) (by omega) (by omega)) ml_X10_227 yw_X10_patchNow dX10_mixLane_119 (by first | rfl | assumption) (by omega) rfl rfl rfl (Nat.le_of_ble_eq_true rfl) ⟨by decide, by decide⟩ (fun r119 t119 h119 q119 => ?_)
        obtain ⟨e119, f119⟩ := q119
        have w119 := w109.kq f119
        refine z_i2l (pc := 122) C dX10_mixLane_122 (by omega) ?_
        refine z_Vv (pc := 123) C (c_X10_mix l G _ _) ml_X10_293 yw_X10_mix dX10_mixLane_123 (by first | rfl | assumption) (by omega) rfl rfl rfl (Nat.le_of_ble_eq_true rfl) ⟨by decide, by decide⟩ (fun t123 q123 => ?_)
        have m123 := q123
        have w123 := w119.mix m123
        refine z_vret (pc := 126) C dX10_mixLane_126 ?_
        obtain rfl : t = 6 := by omega
        have a105 : r105 = zaPatch n R 12 9 0 := by rw [zaPatch, if_pos (by omega), if_neg (by omega)]; exact e105
        have a119 : r119 = zaPatch n R 12 9 1 := by rw [zaPatch, if_pos (by omega), if_neg (by omega)]; exact e119
        rw [a105, a119] at w123
        exact ⟨rfl, w123⟩
      · refine z_aload_n (pc := 81) C dX10_mixLane_81 rfl 0 rfl ?_
        refine z_aload_n (pc := 82) C dX10_mixLane_82 rfl 0 rfl ?_
        refine z_getR (pc := 83) C (119) fl_X10_41 dX10_mixLane_83 (by first | rfl | assumption) (by omega) rfl (Or.inl rfl) ?_
        refine z_iload_n (pc := 86) C dX10_mixLane_86 rfl 1 rfl ?_
        refine z_iaload (pc := 87) C (t) dX10_mixLane_87 (by first | rfl | assumption) (by omega) rfl (by omega) (fun g87 => ?_)
        refine z_i2l (pc := 88) C dX10_mixLane_88 (by omega) ?_
        refine z_Vv (pc := 89) C (c_X10_mix l G _ _) ml_X10_293 yw_X10_mix dX10_mixLane_89 (by first | rfl | assumption) (by omega) rfl rfl rfl (Nat.le_of_ble_eq_true rfl) ⟨by decide, by decide⟩ (fun t89 q89 => ?_)
        have m89 := q89
        have w89 := h2.mix m89
        have A89 : ∀ j, j < 6 → t89 119 j = zAf R n 6 (2 ^ n - 1) (fun _ => -1) j := fun j hj => by rw [m89, zU_o (by omega)]; exact h3 j hj
        refine z_iinc (pc := 92) (lv' := [(1, _), (0, _)]) C dX10_mixLane_92 1 rfl (by decide) rfl ?_
        refine z_goto (pc := 95) (tgt := 75) C dX10_mixLane_95 (by decide) ?_
        refine z_sub C [1, 0] rfl ?_
        have at1 : τ 119 t = zTw n R (t + 1) := by
          show _ = zaTwos n R ((10 + t : Nat) : Int)
          rw [h3 t (by omega), zaTwos, if_pos (by omega), if_neg (by omega), if_neg (by omega), show (((10 + t : Nat) : Int) - 10).toNat = t by omega]
        rw [at1] at w89
        have w89 : zHx σ t89 n y K R V E (zfd (zTw n R) (t + 1 + 1) (zdP n y K R V E x)) := w89
        exact ih (t + 1) _ (by omega) ⟨by omega, w89, A89⟩
  refine z_aload_n (pc := 0) C dX10_mixLane_0 rfl 0 rfl ?_
  refine z_aload_n (pc := 1) C dX10_mixLane_1 rfl 0 rfl ?_
  refine z_bipush (pc := 2) C dX10_mixLane_2 (by decide +kernel) ?_
  refine z_Vi (pc := 4) C (c_X10_wetBy l G _ n y K R V E h hr hn 9 (by omega)) ml_X10_137 yw_X10_wetBy dX10_mixLane_4 (by first | rfl | assumption) (by omega) rfl rfl rfl (Nat.le_of_ble_eq_true rfl) ⟨by decide, by decide⟩ (fun r4 t4 h4 q4 => ?_)
  obtain ⟨e4, rfl⟩ := q4
  refine z_i2l (pc := 7) C dX10_mixLane_7 (by omega) ?_
  refine z_Vv (pc := 8) C (c_X10_mix l G _ _) ml_X10_293 yw_X10_mix dX10_mixLane_8 (by first | rfl | assumption) (by omega) rfl rfl rfl (Nat.le_of_ble_eq_true rfl) ⟨by decide, by decide⟩ (fun t8 q8 => ?_)
  have m8 := q8
  have w8 := hx0.mix m8
  refine z_aload_n (pc := 11) C dX10_mixLane_11 rfl 0 rfl ?_
  refine z_iconst (pc := 12) C dX10_mixLane_12 ?_
  refine z_bipush (pc := 13) C dX10_mixLane_13 (by decide +kernel) ?_
  refine z_Vv (pc := 15) C (c_X10_layPlan l G _ n y K R V E w8.1 hr hn 2 _ 9 rfl (by omega) (by omega) hn1 hy) ml_X10_202 yw_X10_layPlan dX10_mixLane_15 (by first | rfl | assumption) (by omega) rfl rfl rfl (Nat.le_of_ble_eq_true rfl) ⟨by decide, by decide⟩ (fun t15 q15 => ?_)
  obtain ⟨b15, u15, f15⟩ := q15
  have w15 := w8.kp u15 f15
  have hpw : 1 ≤ n ^ 2 := Nat.one_le_pow _ _ (by omega)
  obtain ⟨b20, b21, b22⟩ : t15 108 20 = (zpb (zpW n K y (R, V, E) 2 9) (zpQ n K y (R, V, E) 2) (n ^ 2)).1 ∧ t15 108 21 = (zpb (zpW n K y (R, V, E) 2 9) (zpQ n K y (R, V, E) 2) (n ^ 2)).2.1 ∧ t15 108 22 = ((zpb (zpW n K y (R, V, E) 2 9) (zpQ n K y (R, V, E) 2) (n ^ 2)).2.2 : Int) := by rcases b15 with q | q; (exfalso; omega); exact q.2
  have hcc := zpb_c (W := zpW n K y (R, V, E) 2 9) (Q := zpQ n K y (R, V, E) 2) (n ^ 2)
  have hnm := znm hn (show 2 ≤ 4 by omega)
  refine z_aload_n (pc := 18) C dX10_mixLane_18 rfl 0 rfl ?_
  refine z_aload_n (pc := 19) C dX10_mixLane_19 rfl 0 rfl ?_
  refine z_iconst (pc := 20) C dX10_mixLane_20 ?_
  refine z_iconst (pc := 21) C dX10_mixLane_21 ?_
  refine z_Vi (pc := 22) C (c_X10_planNow l G _ n 2 _ _ _ _ 0 rfl w15.1.1 b20 b21 b22 (by omega) (by omega) (by omega) (by omega)) ml_X10_206 yw_X10_planNow dX10_mixLane_22 (by first | rfl | assumption) (by omega) rfl rfl rfl (Nat.le_of_ble_eq_true rfl) ⟨by decide, by decide⟩ (fun r22 t22 h22 q22 => ?_)
  obtain ⟨e22, rfl⟩ := q22
  refine z_i2l (pc := 25) C dX10_mixLane_25 (by omega) ?_
  refine z_Vv (pc := 26) C (c_X10_mix l G _ _) ml_X10_293 yw_X10_mix dX10_mixLane_26 (by first | rfl | assumption) (by omega) rfl rfl rfl (Nat.le_of_ble_eq_true rfl) ⟨by decide, by decide⟩ (fun t26 q26 => ?_)
  have m26 := q26
  have w26 := w15.mix m26
  have k26_20 : t26 108 20 = _ := (by rw [m26, zU_k (by omega)] : t26 108 20 = _).trans b20
  have k26_21 : t26 108 21 = _ := (by rw [m26, zU_k (by omega)] : t26 108 21 = _).trans b21
  have k26_22 : t26 108 22 = _ := (by rw [m26, zU_k (by omega)] : t26 108 22 = _).trans b22
  refine z_aload_n (pc := 29) C dX10_mixLane_29 rfl 0 rfl ?_
  refine z_aload_n (pc := 30) C dX10_mixLane_30 rfl 0 rfl ?_
  refine z_iconst (pc := 31) C dX10_mixLane_31 ?_
  refine z_iconst (pc := 32) C dX10_mixLane_32 ?_
  refine z_Vi (pc := 33) C (c_X10_planNow l G _ n 2 _ _ _ _ 1 rfl w26.1.1 k26_20 k26_21 k26_22 (by omega) (by omega) (by omega) (by omega)) ml_X10_206 yw_X10_planNow dX10_mixLane_33 (by first | rfl | assumption) (by omega) rfl rfl rfl (Nat.le_of_ble_eq_true rfl) ⟨by decide, by decide⟩ (fun r33 t33 h33 q33 => ?_)
  obtain ⟨e33, rfl⟩ := q33
  refine z_i2l (pc := 36) C dX10_mixLane_36 (by omega) ?_
  refine z_Vv (pc := 37) C (c_X10_mix l G _ _) ml_X10_293 yw_X10_mix dX10_mixLane_37 (by first | rfl | assumption) (by omega) rfl rfl rfl (Nat.le_of_ble_eq_true rfl) ⟨by decide, by decide⟩ (fun t37 q37 => ?_)
  have m37 := q37
  have w37 := w26.mix m37
  have k37_20 : t37 108 20 = _ := (by rw [m37, zU_k (by omega)] : t37 108 20 = _).trans k26_20
  have k37_21 : t37 108 21 = _ := (by rw [m37, zU_k (by omega)] : t37 108 21 = _).trans k26_21
  have k37_22 : t37 108 22 = _ := (by rw [m37, zU_k (by omega)] : t37 108 22 = _).trans k26_22
  refine z_aload_n (pc := 40) C dX10_mixLane_40 rfl 0 rfl ?_
  refine z_aload_n (pc := 41) C dX10_mixLane_41 rfl 0 rfl ?_
  refine z_iconst (pc := 42) C dX10_mixLane_42 ?_
  refine z_bipush (pc := 43) C dX10_mixLane_43 (by decide +kernel) ?_
  refine z_Vi (pc := 45) C (c_X10_planNow l G _ n 2 _ _ _ _ 10 rfl w37.1.1 k37_20 k37_21 k37_22 (by omega) (by omega) (by omega) (by omega)) ml_X10_206 yw_X10_planNow dX10_mixLane_45 (by first | rfl | assumption) (by omega) rfl rfl rfl (Nat.le_of_ble_eq_true rfl) ⟨by decide, by decide⟩ (fun r45 t45 h45 q45 => ?_)
  obtain ⟨e45, rfl⟩ := q45
  refine z_i2l (pc := 48) C dX10_mixLane_48 (by omega) ?_
  refine z_Vv (pc := 49) C (c_X10_mix l G _ _) ml_X10_293 yw_X10_mix dX10_mixLane_49 (by first | rfl | assumption) (by omega) rfl rfl rfl (Nat.le_of_ble_eq_true rfl) ⟨by decide, by decide⟩ (fun t49 q49 => ?_)
  have m49 := q49
  have w49 := w37.mix m49
  have k49_20 : t49 108 20 = _ := (by rw [m49, zU_k (by omega)] : t49 108 20 = _).trans k37_20
  have k49_21 : t49 108 21 = _ := (by rw [m49, zU_k (by omega)] : t49 108 21 = _).trans k37_21
  have k49_22 : t49 108 22 = _ := (by rw [m49, zU_k (by omega)] : t49 108 22 = _).trans k37_22
  refine z_aload_n (pc := 52) C dX10_mixLane_52 rfl 0 rfl ?_
  refine z_aload_n (pc := 53) C dX10_mixLane_53 rfl 0 rfl ?_
  refine z_iconst (pc := 54) C dX10_mixLane_54 ?_
  refine z_bipush (pc := 55) C dX10_mixLane_55 (by decide +kernel) ?_
  refine z_Vi (pc := 57) C (c_X10_planNow l G _ n 2 _ _ _ _ 11 rfl w49.1.1 k49_20 k49_21 k49_22 (by omega) (by omega) (by omega) (by omega)) ml_X10_206 yw_X10_planNow dX10_mixLane_57 (by first | rfl | assumption) (by omega) rfl rfl rfl (Nat.le_of_ble_eq_true rfl) ⟨by decide, by decide⟩ (fun r57 t57 h57 q57 => ?_)
  obtain ⟨e57, rfl⟩ := q57
  refine z_i2l (pc := 60) C dX10_mixLane_60 (by omega) ?_
  refine z_Vv (pc := 61) C (c_X10_mix l G _ _) ml_X10_293 yw_X10_mix dX10_mixLane_61 (by first | rfl | assumption) (by omega) rfl rfl rfl (Nat.le_of_ble_eq_true rfl) ⟨by decide, by decide⟩ (fun t61 q61 => ?_)
  have m61 := q61
  have w61 := w49.mix m61
  refine z_aload_n (pc := 64) C dX10_mixLane_64 rfl 0 rfl ?_
  refine z_aload_n (pc := 65) C dX10_mixLane_65 rfl 0 rfl ?_
  refine z_Vi (pc := 66) C (c_X10_layTwos l G _ n y K R V E w61.1 hr hn hn1) ml_X10_221 yw_X10_layTwos dX10_mixLane_66 (by first | rfl | assumption) (by omega) rfl rfl rfl (Nat.le_of_ble_eq_true rfl) ⟨by decide, by decide⟩ (fun r66 t66 h66 q66 => ?_)
  obtain ⟨e66, A66, f66⟩ := q66
  have w66 := w61.kp (f66.ml w61.1) f66.kp
  refine z_i2l (pc := 69) C dX10_mixLane_69 (by omega) ?_
  refine z_Vv (pc := 70) C (c_X10_mix l G _ _) ml_X10_293 yw_X10_mix dX10_mixLane_70 (by first | rfl | assumption) (by omega) rfl rfl rfl (Nat.le_of_ble_eq_true rfl) ⟨by decide, by decide⟩ (fun t70 q70 => ?_)
  have m70 := q70
  have w70 := w66.mix m70
  have A70 : ∀ j, j < 6 → t70 119 j = zAf R n 6 (2 ^ n - 1) (fun _ => -1) j := fun j hj => by rw [m70, zU_o (by omega)]; exact A66 j hj
  refine z_iconst (pc := 73) C dX10_mixLane_73 ?_
  refine z_istore_n (pc := 74) (lv' := [(1, _), (0, _)]) C dX10_mixLane_74 rfl (by decide) rfl ?_
  refine z_sub C [1, 0] rfl ?_
  have a4 : r4 = zaWet n R 9 := by rw [zaWet, if_pos (by omega), if_neg (by omega)]; exact e4
  have a22 : r22 = zaPlan n y K R V E 2 9 0 := by rw [zaPlan, if_pos (by omega), if_neg (by omega)]; exact e22
  have a33 : r33 = zaPlan n y K R V E 2 9 1 := by rw [zaPlan, if_pos (by omega), if_neg (by omega)]; exact e33
  have a45 : r45 = zaPlan n y K R V E 2 9 10 := by rw [zaPlan, if_pos (by omega), if_neg (by omega)]; exact e45
  have a57 : r57 = zaPlan n y K R V E 2 9 11 := by rw [zaPlan, if_pos (by omega), if_neg (by omega)]; exact e57
  have a66 : r66 = zTw n R 0 := by show r66 = zaTwos n R 0; rw [zaTwos, if_pos (by omega), if_neg (by omega), if_pos (by omega)]; exact e66
  rw [a4, a22, a33, a45, a57, a66] at w70
  have w70 : zHx σ t70 n y K R V E (zfd (zTw n R) (0 + 1) (zdP n y K R V E x)) := w70
  exact L75 _ 0 _ (Nat.lt_succ_self _) ⟨by omega, w70, A70⟩
set_option maxHeartbeats 4000000 in
set_option maxRecDepth 100000 in
theorem c_X10_digest (l : Launch) (G : zGt) (σ : zMem) (n : Nat) (y : Int) (K R V E : Nat → Int) (h : zMl σ n y K R V E) (hr : zLr K R V E) (hn : n ≤ 6) (c : Nat) (A Y Q : Nat → Int) (hs : zMs σ c A Y Q) (hsr : zSr A Y Q) (hc : c ≤ 6) (m : Nat) (P : Nat → Int) (hg : zMg σ m P) (hpr : zPr0 P) (hm : m ≤ 26) (w : Int) (hw7 : σ 108 7 = w) (hww : zR w) (lr : Int) (hlr : σ 108 0 = lr) (hlb : zR lr) (hy : 0 ≤ y ∧ y ≤ 90000) : zN l G yX10_digest cX10_digest 2 (some .long) 8 [.ref (zB G + 108)] σ (zPl (fun x τ => x = zaDig n y w K R V E c A Y Q m P lr ∧ zMl τ n y K R V E ∧ zKh σ τ)) := by
  obtain ⟨s1, s6, s5, sA⟩ := id h
  have l109 : zl 109 = 6 := by decide
  have l110 : zl 110 = 6 := by decide
  have l111 : zl 111 = 6 := by decide
  have hE : ∀ j, 0 ≤ E j ∧ E j ≤ 1 := fun j => (hr j).2.2.2
  have hb5 := zbs_bd hE n
  have hq6 := zpow6 n hn
  obtain ⟨hg1, hgP⟩ := id hg
  have l115 : zl 115 = 26 := by decide
  have d8 := hs.1
  refine zM.of (lv0 := [(0, _)]) (by decide) (Nat.le_of_ble_eq_true rfl) rfl (fun X C => ?_)
  have L68 : ∀ (fuel : Nat) (k : Nat) (τ : zMem), 10 - k < fuel → (k ≤ 10 ∧ zHx σ τ n y K R V E (zfd (fun t : Nat => zaCount n y w R V E c m lr (t : Int)) k (zfd P m (zdA n y K R V E c A Y Q)))) → zg G X true 2 129 0 0 68 [(0, .ref (zB G + 108)), (1, .int (zI (k : Int)))] [] τ := by
    intro fuel
    induction fuel with
    | zero => intro k τ hm; exact absurd hm (Nat.not_lt_zero _)
    | succ fuel ih =>
      intro k τ hms hinv
      obtain ⟨h1, h2⟩ := hinv
      refine z_iload_n (pc := 68) C dX10_digest_68 rfl 1 rfl ?_
      refine z_bipush (pc := 69) C dX10_digest_69 (by decide +kernel) ?_
      refine z_icmp_ge (pc := 71) (tgt := 90) C dX10_digest_71 (by decide) ⟨by omega, by omega⟩ (fun c71 => ?_) (fun c71 => ?_)
      · refine z_aload_n (pc := 90) C dX10_digest_90 rfl 0 rfl ?_
        refine z_getJ (pc := 91) C fl_X10_290 dX10_digest_91 (by first | rfl | assumption) (by omega) ?_
        refine z_lret (pc := 94) C dX10_digest_94 ?_
        obtain rfl : k = 10 := by omega
        exact ⟨_, rfl, h2.2.2, h2.1, h2.2.1⟩
      · refine z_aload_n (pc := 74) C dX10_digest_74 rfl 0 rfl ?_
        refine z_aload_n (pc := 75) C dX10_digest_75 rfl 0 rfl ?_
        refine z_iload_n (pc := 76) C dX10_digest_76 rfl 1 rfl ?_
        refine z_Vi (pc := 77) C (c_X10_howMany l G _ n y K R V E h2.1 hr hn c (h2.ms hs).1 hc m ((h2.2.1 _ _ (by omega)).trans hg1) hm w ((h2.2.1 _ _ (by omega)).trans hw7) lr ((h2.2.1 _ _ (by omega)).trans hlr) (k : Int) (by omega) (by omega)) ml_X10_285 yw_X10_howMany dX10_digest_77 (by first | rfl | assumption) (by omega) rfl rfl rfl (Nat.le_of_ble_eq_true rfl) ⟨by decide, by decide⟩ (fun r77 t77 h77 q77 => ?_)
        obtain ⟨e77, rfl⟩ := q77
        refine z_i2l (pc := 80) C dX10_digest_80 (by omega) ?_
        refine z_Vv (pc := 81) C (c_X10_mix l G _ _) ml_X10_293 yw_X10_mix dX10_digest_81 (by first | rfl | assumption) (by omega) rfl rfl rfl (Nat.le_of_ble_eq_true rfl) ⟨by decide, by decide⟩ (fun t81 q81 => ?_)
        have m81 := q81
        have w81 := h2.mix m81
        refine z_iinc (pc := 84) (lv' := [(1, _), (0, _)]) C dX10_digest_84 1 rfl (by decide) rfl ?_
        refine z_goto (pc := 87) (tgt := 68) C dX10_digest_87 (by decide) ?_
        refine z_sub C [1, 0] rfl ?_
        exact ih (k + 1) _ (by omega) ⟨by omega, by rw [e77] at w81; exact w81⟩
  have L41 : ∀ (fuel : Nat) (k : Nat) (τ : zMem), m - k < fuel → (k ≤ m ∧ zHx σ τ n y K R V E (zfd P k (zdA n y K R V E c A Y Q))) → zg G X true 2 129 0 0 41 [(0, .ref (zB G + 108)), (1, .int (zI (k : Int)))] [] τ := by
    intro fuel
    induction fuel with
    | zero => intro k τ hm; exact absurd hm (Nat.not_lt_zero _)
    | succ fuel ih =>
      intro k τ hms hinv
      obtain ⟨h1, h2⟩ := hinv
      refine z_iload_n (pc := 41) C dX10_digest_41 rfl 1 rfl ?_
      refine z_aload_n (pc := 42) C dX10_digest_42 rfl 0 rfl ?_
      refine z_getI (pc := 43) C fl_X10_75 dX10_digest_43 (by first | rfl | assumption) (by omega) (fun g43 => ?_)
      rw [show τ 108 12 = (m : Int) from (h2.2.1 _ _ (by omega)).trans hg1]
      refine z_icmp_ge (pc := 46) (tgt := 66) C dX10_digest_46 (by decide) ⟨by omega, by omega⟩ (fun c46 => ?_) (fun c46 => ?_)
      · refine z_iconst (pc := 66) C dX10_digest_66 ?_
        refine z_istore_n (pc := 67) (lv' := [(1, _), (0, _)]) C dX10_digest_67 rfl (by decide) rfl ?_
        refine z_sub C [1, 0] rfl ?_
        have hnx : zHx σ τ n y K R V E (zfd P m (zdA n y K R V E c A Y Q)) := by
          rw [show k = m by omega] at h2
          exact h2
        exact L68 _ 0 _ (Nat.lt_succ_self _) ⟨by omega, hnx⟩
      · refine z_aload_n (pc := 49) C dX10_digest_49 rfl 0 rfl ?_
        refine z_aload_n (pc := 50) C dX10_digest_50 rfl 0 rfl ?_
        refine z_getR (pc := 51) C (115) fl_X10_28 dX10_digest_51 (by first | rfl | assumption) (by omega) rfl (Or.inl rfl) ?_
        refine z_iload_n (pc := 54) C dX10_digest_54 rfl 1 rfl ?_
        refine z_baload (pc := 55) C (k) dX10_digest_55 (by first | rfl | assumption) (by omega) rfl (by omega) (fun g55 => ?_)
        have hpk := hpr k
        have e115 : τ 115 k = P k := (h2.2.1 _ _ (by omega)).trans (hgP k (by omega))
        refine z_i2l (pc := 56) C dX10_digest_56 (by omega) ?_
        refine z_Vv (pc := 57) C (c_X10_mix l G _ _) ml_X10_293 yw_X10_mix dX10_digest_57 (by first | rfl | assumption) (by omega) rfl rfl rfl (Nat.le_of_ble_eq_true rfl) ⟨by decide, by decide⟩ (fun t57 q57 => ?_)
        have m57 := q57
        have w57 := h2.mix m57
        refine z_iinc (pc := 60) (lv' := [(1, _), (0, _)]) C dX10_digest_60 1 rfl (by decide) rfl ?_
        refine z_goto (pc := 63) (tgt := 41) C dX10_digest_63 (by decide) ?_
        refine z_sub C [1, 0] rfl ?_
        have hnx : zHx σ t57 n y K R V E (zfd P (k + 1) (zdA n y K R V E c A Y Q)) := by
          have e1 : τ 115 k = P k := (h2.2.1 _ _ (by omega)).trans (hgP k (by omega))
          rw [e1] at w57
          exact w57
        exact ih (k + 1) _ (by omega) ⟨by omega, hnx⟩
  have L9 : ∀ (fuel : Nat) (k : Nat) (τ : zMem), n - k < fuel → (k ≤ n ∧ zHx σ τ n y K R V E (zdHs n y K R V E c A Y Q k 1259)) → zg G X true 2 129 0 0 9 [(0, .ref (zB G + 108)), (1, .int (zI (k : Int)))] [] τ := by
    intro fuel
    induction fuel with
    | zero => intro k τ hm; exact absurd hm (Nat.not_lt_zero _)
    | succ fuel ih =>
      intro k τ hms hinv
      obtain ⟨h1, h2⟩ := hinv
      refine z_iload_n (pc := 9) C dX10_digest_9 rfl 1 rfl ?_
      refine z_aload_n (pc := 10) C dX10_digest_10 rfl 0 rfl ?_
      refine z_getI (pc := 11) C fl_X10_101 dX10_digest_11 (by first | rfl | assumption) (by omega) (fun g11 => ?_)
      rw [show τ 108 1 = (n : Int) from h2.1.1]
      refine z_icmp_ge (pc := 14) (tgt := 28) C dX10_digest_14 (by decide) ⟨by omega, by omega⟩ (fun c14 => ?_) (fun c14 => ?_)
      · refine z_aload_n (pc := 28) C dX10_digest_28 rfl 0 rfl ?_
        refine z_getI (pc := 29) C fl_X10_101 dX10_digest_29 (by first | rfl | assumption) (by omega) (fun g29 => ?_)
        rw [show τ 108 1 = (n : Int) from h2.1.1]
        refine z_if_le (pc := 32) (tgt := 39) C dX10_digest_32 (by decide) (by omega) (fun c32 => ?_) (fun c32 => ?_)
        · refine z_iconst (pc := 39) C dX10_digest_39 ?_
          refine z_istore_n (pc := 40) (lv' := [(1, _), (0, _)]) C dX10_digest_40 rfl (by decide) rfl ?_
          refine z_sub C [1, 0] rfl ?_
          have t1 : τ 108 1 = n := h2.1.1
          first
            | exact L41 _ 0 _ (Nat.lt_succ_self _) ⟨by omega, by rw [zfd, zdA, if_neg (by omega)]; exact w36⟩
            | exact L41 _ 0 _ (Nat.lt_succ_self _) ⟨by omega, by rw [zfd, zdA, if_pos (by omega)]; rw [show k = 0 by omega] at h2; exact h2⟩
        · obtain rfl : n = k := by omega
          refine z_aload_n (pc := 35) C dX10_digest_35 rfl 0 rfl ?_
          refine z_Vv (pc := 36) C (c_X10_mixLane l G _ n y K R V E h2.1 hr hn _ h2.2.2 (by omega) hy) ml_X10_302 yw_X10_mixLane dX10_digest_36 (by first | rfl | assumption) (by omega) rfl rfl rfl (Nat.le_of_ble_eq_true rfl) ⟨by decide, by decide⟩ (fun t36 q36 => ?_)
          have w36 := h2.tr q36
          refine z_iconst (pc := 39) C dX10_digest_39 ?_
          refine z_istore_n (pc := 40) (lv' := [(1, _), (0, _)]) C dX10_digest_40 rfl (by decide) rfl ?_
          refine z_sub C [1, 0] rfl ?_
          have t1 : τ 108 1 = n := h2.1.1
          first
            | exact L41 _ 0 _ (Nat.lt_succ_self _) ⟨by omega, by rw [zfd, zdA, if_neg (by omega)]; exact w36⟩
            | exact L41 _ 0 _ (Nat.lt_succ_self _) ⟨by omega, by rw [zfd, zdA, if_pos (by omega)]; rw [show k = 0 by omega] at h2; exact h2⟩
      · refine z_aload_n (pc := 17) C dX10_digest_17 rfl 0 rfl ?_
        refine z_iload_n (pc := 18) C dX10_digest_18 rfl 1 rfl ?_
        refine z_Vv (pc := 19) C (c_X10_mixHouse l G _ n y K R V E h2.1 hr hn c A Y Q (h2.ms hs) hsr hc k _ _ rfl (by omega) h2.2.2 hy) ml_X10_299 yw_X10_mixHouse dX10_digest_19 (by first | rfl | assumption) (by omega) rfl rfl rfl (Nat.le_of_ble_eq_true rfl) ⟨by decide, by decide⟩ (fun t19 q19 => ?_)
        have w19 := h2.tr q19
        refine z_iinc (pc := 22) (lv' := [(1, _), (0, _)]) C dX10_digest_22 1 rfl (by decide) rfl ?_
        refine z_goto (pc := 25) (tgt := 9) C dX10_digest_25 (by decide) ?_
        refine z_sub C [1, 0] rfl ?_
        exact ih (k + 1) _ (by omega) ⟨by omega, w19⟩
  refine z_aload_n (pc := 0) C dX10_digest_0 rfl 0 rfl ?_
  refine z_ldc2 (pc := 1) (n := 1259) C dX10_digest_1 cw_X10_297 rfl ?_
  refine z_putJe (pc := 4) C fl_X10_290 dX10_digest_4 (by first | rfl | assumption) (by omega) (fun m4 em4 => ?_)
  refine z_iconst (pc := 7) C dX10_digest_7 ?_
  refine z_istore_n (pc := 8) (lv' := [(1, _), (0, _)]) C dX10_digest_8 rfl (by decide) rfl ?_
  refine z_sub C [1, 0] rfl ?_
  have hst : zHx σ m4 n y K R V E 1259 := by
    refine ⟨by rw [em4]; exact h.put (by omega), fun o k hk => ?_, by rw [em4, zU_at]⟩
    rw [em4]; unfold zU; rw [if_neg (by omega)]
  exact L9 _ 0 _ (Nat.lt_succ_self _) ⟨by omega, hst⟩
