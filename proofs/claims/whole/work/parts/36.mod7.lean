theorem zite1 {b : Bool} {r : Int} (e : r = if b = true then 1 else 0) (h : ¬ r = 0) : b = true := by
  cases b
  · rw [if_neg (by decide)] at e; exact absurd e h
  · rfl
theorem zite0 {b : Bool} {r : Int} (e : r = if b = true then 1 else 0) (h : r = 0) : b = false := by
  cases b
  · rfl
  · rw [if_pos rfl] at e; omega
set_option maxRecDepth 100000 in
theorem zrest : ∀ S, S < 64 → S ≠ 0 → ∀ h, h < 6 → (zbt (S - 2 ^ zlow S) h = true ↔ zlow S < h ∧ zbt S h = true) := by decide +kernel
theorem z2n {n : Nat} (hn : n ≤ 6) : (2 : Nat) ^ n ≤ 64 := Nat.pow_le_pow_right (by decide) hn
theorem zLv {R : Nat → Int} {n : Nat} (hn : n ≤ 6) (hR : ∀ i, 0 ≤ R i ∧ R i ≤ 20) {S : Nat} (hS : S < 2 ^ n) : 0 ≤ zLf R n 6 S ∧ zLf R n 6 S ≤ 120 := ⟨(zLf_bd hn hR 6 S).1, (zLf_bd hn hR 6 S).2 hS⟩
set_option maxHeartbeats 4000000 in
set_option maxRecDepth 100000 in
theorem c_X10_apart (l : Launch) (G : zGt) (σ : zMem) (n : Nat) (y : Int) (K R V E : Nat → Int) (h : zMl σ n y K R V E) (hr : zLr K R V E) (hn : n ≤ 6) (i j : Nat) (p q : Int) (hp : p = i) (hq : q = j) (hi : i < n) (hj : j < n) : zN l G yX10_apart cX10_apart 4 (some .int) 0 [.ref (zB G + 108), .int (zI p), .int (zI q)] σ (zPi (fun x τ => x = zab (R i) (R j) ∧ σ = τ)) := by
  obtain ⟨s1, s6, s5, sA⟩ := id h
  have l109 : zl 109 = 6 := by decide
  have l110 : zl 110 = 6 := by decide
  have l111 : zl 111 = 6 := by decide
  have hE : ∀ j, 0 ≤ E j ∧ E j ≤ 1 := fun j => (hr j).2.2.2
  have hb5 := zbs_bd hE n
  have hq6 := zpow6 n hn
  subst hp
  subst hq
  have hri := hr i
  have hrj := hr j
  have hAi := (sA i hi).2.1
  have hAj := (sA j hj).2.1
  refine zM.of (lv0 := [(0, _), (1, _), (2, _)]) (by decide) (Nat.le_of_ble_eq_true rfl) rfl (fun X C => ?_)
  refine z_aload_n (pc := 0) C dX10_apart_0 rfl 0 rfl ?_
  refine z_getR (pc := 1) C (110) fl_X10_13 dX10_apart_1 (by first | rfl | assumption) (by omega) rfl (Or.inl rfl) ?_
  refine z_iload_n (pc := 4) C dX10_apart_4 rfl 1 rfl ?_
  refine z_iaload (pc := 5) C (i) dX10_apart_5 (by first | rfl | assumption) (by omega) rfl (by omega) (fun g5 => ?_)
  rw [hAi]
  refine z_aload_n (pc := 6) C dX10_apart_6 rfl 0 rfl ?_
  refine z_getR (pc := 7) C (110) fl_X10_13 dX10_apart_7 (by first | rfl | assumption) (by omega) rfl (Or.inl rfl) ?_
  refine z_iload_n (pc := 10) C dX10_apart_10 rfl 2 rfl ?_
  refine z_iaload (pc := 11) C (j) dX10_apart_11 (by first | rfl | assumption) (by omega) rfl (by omega) (fun g11 => ?_)
  rw [hAj]
  refine z_isub (pc := 12) C dX10_apart_12 ?_
  refine z_istore_n (pc := 13) (lv' := [(3, _), (0, _), (1, _), (2, _)]) C dX10_apart_13 rfl (by decide) rfl ?_
  refine z_iload_n (pc := 14) C dX10_apart_14 rfl 0 rfl ?_
  refine z_if_ge (pc := 15) (tgt := 23) C dX10_apart_15 (by decide) (by omega) (fun c15 => ?_) (fun c15 => ?_)
  · refine z_iload_n (pc := 23) C dX10_apart_23 rfl 0 rfl ?_
    refine z_iret (pc := 24) C dX10_apart_24 ?_
    exact ⟨_, rfl, by omega, by unfold zab; split <;> omega, rfl⟩
  · refine z_iload_n (pc := 18) C dX10_apart_18 rfl 0 rfl ?_
    refine z_ineg (pc := 19) C dX10_apart_19 ?_
    refine z_goto (pc := 20) (tgt := 24) C dX10_apart_20 (by decide) ?_
    refine z_iret (pc := 24) C dX10_apart_24 ?_
    exact ⟨_, rfl, by omega, by unfold zab; split <;> omega, rfl⟩
set_option maxHeartbeats 4000000 in
set_option maxRecDepth 100000 in
theorem c_X10_lowest (l : Launch) (G : zGt) (σ : zMem) (S : Nat) (b : Int) (hb : b = S) (hS : S < 64) (h0 : S ≠ 0) : zN l G yX10_lowest cX10_lowest 2 (some .int) 1 [.int (zI b)] σ (zPi (fun x τ => x = (zlow S : Nat) ∧ σ = τ)) := by
  subst hb
  obtain ⟨x1, x2, x3⟩ := zlow_bt S hS h0
  refine zM.of (lv0 := [(0, _)]) (by decide) (Nat.le_of_ble_eq_true rfl) rfl (fun X C => ?_)
  have L2 : ∀ (fuel : Nat) (k : Nat), 6 - k < fuel → (k ≤ zlow S ∧ ∀ j, j < k → zbt S j = false) → zg G X true 2 129 0 0 2 [(0, .int (zI (S : Int))), (1, .int (zI (k : Int)))] [] σ := by
    intro fuel
    induction fuel with
    | zero => intro k hm; exact absurd hm (Nat.not_lt_zero _)
    | succ fuel ih =>
      intro k hms hinv
      obtain ⟨h1, h2⟩ := hinv
      refine z_iload_n (pc := 2) C dX10_lowest_2 rfl 0 rfl ?_
      refine z_iload_n (pc := 3) C dX10_lowest_3 rfl 1 rfl ?_
      refine z_Si (pc := 4) C (c_isInV l G _ _ (if zbt S k = true then 1 else 0) k _ rfl (by omega) (by omega) (zbt_n S hS k (by omega))) ml_X10_122 ys_X10_isIn dX10_lowest_4 rfl rfl (Nat.le_of_ble_eq_true rfl) ⟨by decide, by decide⟩ (fun r4 t4 h4 q4 => ?_)
      obtain ⟨e4, rfl⟩ := q4
      refine z_if_ne (pc := 7) (tgt := 16) C dX10_lowest_7 (by decide) (by omega) (fun c7 => ?_) (fun c7 => ?_)
      · refine z_iload_n (pc := 16) C dX10_lowest_16 rfl 1 rfl ?_
        refine z_iret (pc := 17) C dX10_lowest_17 ?_
        have hb := zite1 e4 (by omega)
        exact ⟨_, rfl, by omega, by rw [zlow_of S hS k (by omega) hb h2], rfl⟩
      · refine z_iinc (pc := 10) (lv' := [(1, _), (0, _)]) C dX10_lowest_10 1 rfl (by decide) rfl ?_
        refine z_goto (pc := 13) (tgt := 2) C dX10_lowest_13 (by decide) ?_
        refine z_sub C [1, 0] rfl ?_
        have hb := zite0 e4 (by omega)
        have hk1 : k + 1 ≤ zlow S := by
          rcases (show k + 1 ≤ zlow S ∨ k = zlow S by omega) with q | q
          · exact q
          · rw [q, x2] at hb; cases hb
        exact ih (k + 1) (by omega) ⟨hk1, fun j hj => (show j < k ∨ j = k by omega).elim (fun q => h2 j q) (fun q => by rw [q]; exact hb)⟩
  refine z_iconst (pc := 0) C dX10_lowest_0 ?_
  refine z_istore_n (pc := 1) (lv' := [(1, _), (0, _)]) C dX10_lowest_1 rfl (by decide) rfl ?_
  refine z_sub C [1, 0] rfl ?_
  exact L2 _ 0 (Nat.lt_succ_self _) ⟨by omega, fun j hj => by omega⟩
set_option maxHeartbeats 4000000 in
set_option maxRecDepth 100000 in
theorem c_X10_leastOf (l : Launch) (G : zGt) (σ : zMem) (n : Nat) (y : Int) (K R V E : Nat → Int) (h : zMl σ n y K R V E) (hr : zLr K R V E) (hn : n ≤ 6) (S : Nat) (b : Int) (hb : b = S) (hS : S < 2 ^ n) (h0 : S ≠ 0) (ht : ∀ T, T < S → σ 118 T = zLf R n 6 T) : zN l G yX10_leastOf cX10_leastOf 7 (some .int) 2 [.ref (zB G + 108), .int (zI b)] σ (zPi (fun x τ => x = zLf R n 6 S ∧ σ = τ)) := by
  obtain ⟨s1, s6, s5, sA⟩ := id h
  have l109 : zl 109 = 6 := by decide
  have l110 : zl 110 = 6 := by decide
  have l111 : zl 111 = 6 := by decide
  have hE : ∀ j, 0 ≤ E j ∧ E j ≤ 1 := fun j => (hr j).2.2.2
  have hb5 := zbs_bd hE n
  have hq6 := zpow6 n hn
  subst hb
  have l118 : zl 118 = 64 := by decide
  have h2n := z2n hn
  have hS2 : S < 64 := by omega
  obtain ⟨x1, x2, x3⟩ := zlow_bt S hS2 h0
  obtain ⟨r1, r2, r3⟩ := zrm_bt S hS2 _ x1 x2
  have hpx := Nat.two_pow_pos (zlow S)
  have hR : ∀ i, 0 ≤ R i ∧ R i ≤ 20 := fun i => (hr i).2.1
  have hxn := zbt_lt n hn S hS _ x1 x2
  have hsz := zsum_bd (f := fun k => (S : Int) / 2 ^ k % 2) (c := 1) (n := 10) (fun k _ => by omega)
  have hod := zodd_n S hS2
  refine zM.of (lv0 := [(0, _), (1, _)]) (by decide) (Nat.le_of_ble_eq_true rfl) rfl (fun X C => ?_)
  have L39 : ∀ (fuel : Nat) (h2 : Nat) (ls : Int), n - h2 < fuel → (h2 ≤ n ∧ ls = zLm (zLf R n 6) R S (zlow S) h2) → zg G X true 7 129 0 0 39 [(0, .ref (zB G + 108)), (1, .int (zI (S : Int))), (2, .int (zI (zlow S : Int))), (3, .int (zI ((S - 2 ^ zlow S : Nat) : Int))), (4, .int (zI ls)), (5, .int (zI (h2 : Int)))] [] σ := by
    intro fuel
    induction fuel with
    | zero => intro h2 ls hm; exact absurd hm (Nat.not_lt_zero _)
    | succ fuel ih =>
      intro h2 ls hms hinv
      obtain ⟨h1, hls⟩ := hinv
      have hlb : 0 ≤ ls ∧ ls ≤ 268435456 := by
        rw [hls]
        refine ⟨zLm_ge0 (fun S => (zLf_bd hn hR 6 S).1) hR, Int.le_trans (zLm_anti (Nat.zero_le _)) ?_⟩
        have hq := (zLv hn hR (S := S - 2 ^ zlow S) (by omega)).2
        unfold zLm
        split <;> omega
      refine z_iload (pc := 39) C dX10_leastOf_39 5 rfl ?_
      refine z_aload_n (pc := 41) C dX10_leastOf_41 rfl 0 rfl ?_
      refine z_getI (pc := 42) C fl_X10_101 dX10_leastOf_42 (by first | rfl | assumption) (by omega) (fun g42 => ?_)
      refine z_icmp_ge (pc := 45) (tgt := 102) C dX10_leastOf_45 (by decide) ⟨by omega, by omega⟩ (fun c45 => ?_) (fun c45 => ?_)
      · refine z_iload (pc := 102) C dX10_leastOf_102 4 rfl ?_
        refine z_iret (pc := 104) C dX10_leastOf_104 ?_
        obtain rfl : h2 = n := by omega
        exact ⟨_, rfl, by omega, by rw [hls, ← zL_rec hn hS h0], rfl⟩
      · refine z_iload_n (pc := 48) C dX10_leastOf_48 rfl 3 rfl ?_
        refine z_iload (pc := 49) C dX10_leastOf_49 5 rfl ?_
        refine z_Si (pc := 51) C (c_isInV l G _ _ (if zbt (S - 2 ^ zlow S) h2 = true then 1 else 0) h2 _ rfl (by omega) (by omega) (zbt_n (S - 2 ^ zlow S) (by omega) h2 (by omega))) ml_X10_122 ys_X10_isIn dX10_leastOf_51 rfl rfl (Nat.le_of_ble_eq_true rfl) ⟨by decide, by decide⟩ (fun r51 t51 h51 q51 => ?_)
        obtain ⟨e51, rfl⟩ := q51
        refine z_if_eq (pc := 54) (tgt := 96) C dX10_leastOf_54 (by decide) (by omega) (fun c54 => ?_) (fun c54 => ?_)
        · refine z_iinc (pc := 96) (lv' := [(5, _), (0, _), (1, _), (2, _), (3, _), (4, _)]) C dX10_leastOf_96 5 rfl (by decide) rfl ?_
          refine z_goto (pc := 99) (tgt := 39) C dX10_leastOf_99 (by decide) ?_
          refine z_sub C [1, 2, 3, 4, 5, 0] rfl ?_
          first
            | exact ih (h2 + 1) _ (by omega) ⟨by omega, hst⟩
            | exact ih (h2 + 1) _ (by omega) ⟨by omega, by rw [hls, zLm, if_neg (fun q => by have q2 := (zrest S hS2 h0 h2 (by omega)).mpr q; rw [zite0 e51 (by omega)] at q2; cases q2)]⟩
        · have hbk := zite1 e51 (by omega)
          have hck := (zrest S hS2 h0 h2 (by omega)).mp hbk
          obtain ⟨y1, y2, y3⟩ := zrm_bt (S - 2 ^ zlow S) (by omega) h2 (by omega) hbk
          have hph := Nat.two_pow_pos h2
          refine z_aload_n (pc := 57) C dX10_leastOf_57 rfl 0 rfl ?_
          refine z_getR (pc := 58) C (118) fl_X10_38 dX10_leastOf_58 (by first | rfl | assumption) (by omega) rfl (Or.inl rfl) ?_
          refine z_iload_n (pc := 61) C dX10_leastOf_61 rfl 3 rfl ?_
          refine z_iconst (pc := 62) C dX10_leastOf_62 ?_
          refine z_iload (pc := 63) C dX10_leastOf_63 5 rfl ?_
          refine z_ishl (pc := 65) (r := 2 ^ h2) C dX10_leastOf_65 (zshl_n h2 (by omega)) ?_
          refine z_iconst (pc := 66) C dX10_leastOf_66 ?_
          refine z_ixor (pc := 67) (r := -(2 ^ h2) - 1) C dX10_leastOf_67 (zxor_n h2 (by omega)) ?_
          refine z_iand (pc := 68) (r := (S - 2 ^ zlow S - 2 ^ h2 : Nat)) C dX10_leastOf_68 (zclr_n (S - 2 ^ zlow S) (by omega) h2 (by omega) hbk) ?_
          refine z_iaload (pc := 69) C (S - 2 ^ zlow S - 2 ^ h2) dX10_leastOf_69 (by first | rfl | assumption) (by omega) rfl (by omega) (fun g69 => ?_)
          rw [ht _ (by omega)]
          have hq2 := zLv hn hR (S := S - 2 ^ zlow S - 2 ^ h2) (by omega)
          refine z_aload_n (pc := 70) C dX10_leastOf_70 rfl 0 rfl ?_
          refine z_iload_n (pc := 71) C dX10_leastOf_71 rfl 2 rfl ?_
          refine z_iload (pc := 72) C dX10_leastOf_72 5 rfl ?_
          refine z_Vi (pc := 74) C (c_X10_apart l G _ n y K R V E h hr hn (zlow S) h2 _ _ rfl rfl hxn (by omega)) ml_X10_212 yw_X10_apart dX10_leastOf_74 (by first | rfl | assumption) (by omega) rfl rfl rfl (Nat.le_of_ble_eq_true rfl) ⟨by decide, by decide⟩ (fun r74 t74 h74 q74 => ?_)
          obtain ⟨rfl, rfl⟩ := q74
          have hq3 := zab_bd (hR (zlow S)) (hR h2)
          refine z_iadd (pc := 77) C dX10_leastOf_77 ?_
          refine z_istore (pc := 78) (lv' := [(6, _), (0, _), (1, _), (2, _), (3, _), (4, _), (5, _)]) C dX10_leastOf_78 (by decide) rfl ?_
          refine z_iload (pc := 80) C dX10_leastOf_80 0 rfl ?_
          refine z_iload (pc := 82) C dX10_leastOf_82 5 rfl ?_
          refine z_icmp_ge (pc := 84) (tgt := 92) C dX10_leastOf_84 (by decide) ⟨by omega, by omega⟩ (fun c84 => ?_) (fun c84 => ?_)
          · refine z_iload (pc := 92) C dX10_leastOf_92 5 rfl ?_
            have hst : (if zLf R n 6 (S - 2 ^ zlow S - 2 ^ h2) + zab (R (zlow S)) (R h2) < ls then zLf R n 6 (S - 2 ^ zlow S - 2 ^ h2) + zab (R (zlow S)) (R h2) else ls) = zLm (zLf R n 6) R S (zlow S) (h2 + 1) := by rw [zLm, if_pos hck, ← hls]
            first | rw [if_pos (by omega)] at hst | rw [if_neg (by omega)] at hst
            refine z_istore (pc := 94) (lv' := [(4, _), (6, _), (0, _), (1, _), (2, _), (3, _), (5, _)]) C dX10_leastOf_94 (by decide) rfl ?_
            refine z_iinc (pc := 96) (lv' := [(5, _), (4, _), (6, _), (0, _), (1, _), (2, _), (3, _)]) C dX10_leastOf_96 6 rfl (by decide) rfl ?_
            refine z_goto (pc := 99) (tgt := 39) C dX10_leastOf_99 (by decide) ?_
            refine z_sub C [3, 4, 5, 6, 1, 0] rfl ?_
            first
              | exact ih (h2 + 1) _ (by omega) ⟨by omega, hst⟩
              | exact ih (h2 + 1) _ (by omega) ⟨by omega, by rw [hls, zLm, if_neg (fun q => by have q2 := (zrest S hS2 h0 h2 (by omega)).mpr q; rw [zite0 e51 (by omega)] at q2; cases q2)]⟩
          · refine z_iload (pc := 87) C dX10_leastOf_87 0 rfl ?_
            refine z_goto (pc := 89) (tgt := 94) C dX10_leastOf_89 (by decide) ?_
            have hst : (if zLf R n 6 (S - 2 ^ zlow S - 2 ^ h2) + zab (R (zlow S)) (R h2) < ls then zLf R n 6 (S - 2 ^ zlow S - 2 ^ h2) + zab (R (zlow S)) (R h2) else ls) = zLm (zLf R n 6) R S (zlow S) (h2 + 1) := by rw [zLm, if_pos hck, ← hls]
            first | rw [if_pos (by omega)] at hst | rw [if_neg (by omega)] at hst
            refine z_istore (pc := 94) (lv' := [(4, _), (6, _), (0, _), (1, _), (2, _), (3, _), (5, _)]) C dX10_leastOf_94 (by decide) rfl ?_
            refine z_iinc (pc := 96) (lv' := [(5, _), (4, _), (6, _), (0, _), (1, _), (2, _), (3, _)]) C dX10_leastOf_96 6 rfl (by decide) rfl ?_
            refine z_goto (pc := 99) (tgt := 39) C dX10_leastOf_99 (by decide) ?_
            refine z_sub C [3, 4, 5, 6, 1, 0] rfl ?_
            first
              | exact ih (h2 + 1) _ (by omega) ⟨by omega, hst⟩
              | exact ih (h2 + 1) _ (by omega) ⟨by omega, by rw [hls, zLm, if_neg (fun q => by have q2 := (zrest S hS2 h0 h2 (by omega)).mpr q; rw [zite0 e51 (by omega)] at q2; cases q2)]⟩
  refine z_iload_n (pc := 0) C dX10_leastOf_0 rfl 1 rfl ?_
  refine z_Si (pc := 1) C (c_X10_lowest l G _ S _ rfl hS2 h0) ml_X10_209 ys_X10_lowest dX10_leastOf_1 rfl rfl (Nat.le_of_ble_eq_true rfl) ⟨by decide, by decide⟩ (fun r1 t1 h1 q1 => ?_)
  obtain ⟨rfl, rfl⟩ := q1
  refine z_istore_n (pc := 4) (lv' := [(2, _), (0, _), (1, _)]) C dX10_leastOf_4 rfl (by decide) rfl ?_
  refine z_iload_n (pc := 5) C dX10_leastOf_5 rfl 2 rfl ?_
  refine z_iconst (pc := 6) C dX10_leastOf_6 ?_
  refine z_iload_n (pc := 7) C dX10_leastOf_7 rfl 0 rfl ?_
  refine z_ishl (pc := 8) (r := 2 ^ zlow S) C dX10_leastOf_8 (zshl_n (zlow S) (by omega)) ?_
  refine z_iconst (pc := 9) C dX10_leastOf_9 ?_
  refine z_ixor (pc := 10) (r := -(2 ^ zlow S) - 1) C dX10_leastOf_10 (zxor_n (zlow S) x1) ?_
  refine z_iand (pc := 11) (r := (S - 2 ^ zlow S : Nat)) C dX10_leastOf_11 (zclr_n S hS2 (zlow S) x1 x2) ?_
  refine z_istore_n (pc := 12) (lv' := [(3, _), (2, _), (0, _), (1, _)]) C dX10_leastOf_12 rfl (by decide) rfl ?_
  refine z_iload_n (pc := 13) C dX10_leastOf_13 rfl 3 rfl ?_
  refine z_Si (pc := 14) C (c_X10_size l G _ _ (by omega)) ml_X10_140 ys_X10_size dX10_leastOf_14 rfl rfl (Nat.le_of_ble_eq_true rfl) ⟨by decide, by decide⟩ (fun r14 t14 h14 q14 => ?_)
  obtain ⟨rfl, rfl⟩ := q14
  refine z_iconst (pc := 17) C dX10_leastOf_17 ?_
  refine z_irem (pc := 18) C dX10_leastOf_18 ⟨⟨by omega, by omega⟩, by omega, by omega⟩ ?_
  refine z_iconst (pc := 19) C dX10_leastOf_19 ?_
  refine z_icmp_ne (pc := 20) (tgt := 32) C dX10_leastOf_20 (by decide) ⟨by omega, by omega⟩ (fun c20 => ?_) (fun c20 => ?_)
  · refine z_ldc (pc := 32) (n := 268435456) C dX10_leastOf_32 cw_X10_189 rfl ?_
    refine z_istore (pc := 34) (lv' := [(4, _), (3, _), (2, _), (0, _), (1, _)]) C dX10_leastOf_34 (by decide) rfl ?_
    refine z_iconst (pc := 36) C dX10_leastOf_36 ?_
    refine z_istore (pc := 37) (lv' := [(5, _), (4, _), (3, _), (2, _), (0, _), (1, _)]) C dX10_leastOf_37 (by decide) rfl ?_
    refine z_sub C [4, 5, 3, 2, 1, 0] rfl ?_
    first
      | exact L39 _ 0 _ (Nat.lt_succ_self _) ⟨by omega, by rw [ht _ (by omega)]; unfold zLm; rw [if_pos (by cases hz : zodd S; (rw [hz] at hod; simp at hod; omega); rfl)]⟩
      | exact L39 _ 0 _ (Nat.lt_succ_self _) ⟨by omega, by unfold zLm; rw [if_neg (by intro hz; rw [hz] at hod; simp at hod; omega)]⟩
  · refine z_aload_n (pc := 23) C dX10_leastOf_23 rfl 2 rfl ?_
    refine z_getR (pc := 24) C (118) fl_X10_38 dX10_leastOf_24 (by first | rfl | assumption) (by omega) rfl (Or.inl rfl) ?_
    refine z_iload_n (pc := 27) C dX10_leastOf_27 rfl 0 rfl ?_
    refine z_iaload (pc := 28) C (S - 2 ^ zlow S) dX10_leastOf_28 (by first | rfl | assumption) (by omega) rfl (by omega) (fun g28 => ?_)
    refine z_goto (pc := 29) (tgt := 34) C dX10_leastOf_29 (by decide) ?_
    refine z_istore (pc := 34) (lv' := [(4, _), (3, _), (2, _), (0, _), (1, _)]) C dX10_leastOf_34 (by decide) rfl ?_
    refine z_iconst (pc := 36) C dX10_leastOf_36 ?_
    refine z_istore (pc := 37) (lv' := [(5, _), (4, _), (3, _), (2, _), (0, _), (1, _)]) C dX10_leastOf_37 (by decide) rfl ?_
    refine z_sub C [4, 5, 3, 2, 1, 0] rfl ?_
    first
      | exact L39 _ 0 _ (Nat.lt_succ_self _) ⟨by omega, by rw [ht _ (by omega)]; unfold zLm; rw [if_pos (by cases hz : zodd S; (rw [hz] at hod; simp at hod; omega); rfl)]⟩
      | exact L39 _ 0 _ (Nat.lt_succ_self _) ⟨by omega, by unfold zLm; rw [if_neg (by intro hz; rw [hz] at hod; simp at hod; omega)]⟩
set_option maxHeartbeats 4000000 in
set_option maxRecDepth 100000 in
theorem c_X10_partnerIn (l : Launch) (G : zGt) (σ : zMem) (n : Nat) (y : Int) (K R V E : Nat → Int) (h : zMl σ n y K R V E) (hr : zLr K R V E) (hn : n ≤ 6) (S : Nat) (b : Int) (hb : b = S) (hS : S < 2 ^ n) (h0 : S ≠ 0) (ht : ∀ T, T < 2 ^ n → σ 118 T = zLf R n 6 T) : zN l G yX10_partnerIn cX10_partnerIn 5 (some .int) 2 [.ref (zB G + 108), .int (zI b)] σ (zPi (fun x τ => ((x = -1 ∧ zodd S = true ∧ zLf R n 6 (S - 2 ^ zlow S) = zLf R n 6 S) ∨ ∃ h2 : Nat, x = h2 ∧ h2 < n ∧ zlow S < h2 ∧ zbt S h2 = true ∧ zLf R n 6 (S - 2 ^ zlow S - 2 ^ h2) + zab (R (zlow S)) (R h2) = zLf R n 6 S ∧ (∀ j, j < h2 → zlow S < j → zbt S j = true → zLf R n 6 (S - 2 ^ zlow S - 2 ^ j) + zab (R (zlow S)) (R j) ≠ zLf R n 6 S) ∧ (zodd S = true → zLf R n 6 (S - 2 ^ zlow S) ≠ zLf R n 6 S)) ∧ σ = τ)) := by
  obtain ⟨s1, s6, s5, sA⟩ := id h
  have l109 : zl 109 = 6 := by decide
  have l110 : zl 110 = 6 := by decide
  have l111 : zl 111 = 6 := by decide
  have hE : ∀ j, 0 ≤ E j ∧ E j ≤ 1 := fun j => (hr j).2.2.2
  have hb5 := zbs_bd hE n
  have hq6 := zpow6 n hn
  subst hb
  have l118 : zl 118 = 64 := by decide
  have h2n := z2n hn
  have hS2 : S < 64 := by omega
  obtain ⟨x1, x2, x3⟩ := zlow_bt S hS2 h0
  obtain ⟨r1, r2, r3⟩ := zrm_bt S hS2 _ x1 x2
  have hpx := Nat.two_pow_pos (zlow S)
  have hR : ∀ i, 0 ≤ R i ∧ R i ≤ 20 := fun i => (hr i).2.1
  have hxn := zbt_lt n hn S hS _ x1 x2
  have hsz := zsum_bd (f := fun k => (S : Int) / 2 ^ k % 2) (c := 1) (n := 10) (fun k _ => by omega)
  have hod := zodd_n S hS2
  have hLS := zLv hn hR hS
  have hLr := zLv hn hR (S := S - 2 ^ zlow S) (by omega)
  have hrec := zL_rec (R := R) hn hS h0
  have hF : zLm (zLf R n 6) R S (zlow S) n < 268435456 := by omega
  refine zM.of (lv0 := [(0, _), (1, _)]) (by decide) (Nat.le_of_ble_eq_true rfl) rfl (fun X C => ?_)
  have L43 : ∀ (fuel : Nat) (hw h2 : Nat), hw + 1 - h2 < fuel → ((hw < n ∧ zlow S < hw ∧ zbt S hw = true ∧ zLf R n 6 (S - 2 ^ zlow S - 2 ^ hw) + zab (R (zlow S)) (R hw) = zLf R n 6 S) ∧ (zodd S = true → zLf R n 6 (S - 2 ^ zlow S) ≠ zLf R n 6 S) ∧ h2 ≤ hw ∧ ∀ j, j < h2 → zlow S < j → zbt S j = true → zLf R n 6 (S - 2 ^ zlow S - 2 ^ j) + zab (R (zlow S)) (R j) ≠ zLf R n 6 S) → zg G X true 5 129 0 0 43 [(0, .ref (zB G + 108)), (1, .int (zI (S : Int))), (2, .int (zI (zlow S : Int))), (3, .int (zI ((S - 2 ^ zlow S : Nat) : Int))), (4, .int (zI (h2 : Int)))] [] σ := by
    intro fuel
    induction fuel with
    | zero => intro hw h2 hm; exact absurd hm (Nat.not_lt_zero _)
    | succ fuel ih =>
      intro hw h2 hms hinv
      obtain ⟨⟨w1, w2, w3, w4⟩, hno, h1, hbf⟩ := hinv
      refine z_iload_n (pc := 43) C dX10_partnerIn_43 rfl 3 rfl ?_
      refine z_iload (pc := 44) C dX10_partnerIn_44 4 rfl ?_
      refine z_Si (pc := 46) C (c_isInV l G _ _ (if zbt (S - 2 ^ zlow S) h2 = true then 1 else 0) h2 _ rfl (by omega) (by omega) (zbt_n (S - 2 ^ zlow S) (by omega) h2 (by omega))) ml_X10_122 ys_X10_isIn dX10_partnerIn_46 rfl rfl (Nat.le_of_ble_eq_true rfl) ⟨by decide, by decide⟩ (fun r46 t46 h46 q46 => ?_)
      obtain ⟨e46, rfl⟩ := q46
      refine z_if_eq (pc := 49) (tgt := 82) C dX10_partnerIn_49 (by decide) (by omega) (fun c49 => ?_) (fun c49 => ?_)
      · refine z_iinc (pc := 82) (lv' := [(4, _), (0, _), (1, _), (2, _), (3, _)]) C dX10_partnerIn_82 4 rfl (by decide) rfl ?_
        refine z_goto (pc := 85) (tgt := 43) C dX10_partnerIn_85 (by decide) ?_
        refine z_sub C [1, 2, 3, 4, 0] rfl ?_
        have hnow : zlow S < h2 → zbt S h2 = true → zLf R n 6 (S - 2 ^ zlow S - 2 ^ h2) + zab (R (zlow S)) (R h2) ≠ zLf R n 6 S := by
          intro a1 a2 a3
          have q2 := (zrest S hS2 h0 h2 (by omega)).mpr ⟨a1, a2⟩
          first
            | (rw [zite0 e46 (by omega)] at q2; cases q2)
            | omega
        have hne : h2 ≠ hw := fun q => by rw [q] at hnow; exact hnow w2 w3 w4
        exact ih hw (h2 + 1) (by omega) ⟨⟨w1, w2, w3, w4⟩, hno, by omega, fun j hj a1 a2 => (show j < h2 ∨ j = h2 by omega).elim (fun q => hbf j q a1 a2) (fun q => by subst q; exact hnow a1 a2)⟩
      · have hbk := zite1 e46 (by omega)
        have hck := (zrest S hS2 h0 h2 (by omega)).mp hbk
        obtain ⟨y1, y2, y3⟩ := zrm_bt (S - 2 ^ zlow S) (by omega) h2 (by omega) hbk
        have hph := Nat.two_pow_pos h2
        refine z_aload_n (pc := 52) C dX10_partnerIn_52 rfl 0 rfl ?_
        refine z_getR (pc := 53) C (118) fl_X10_38 dX10_partnerIn_53 (by first | rfl | assumption) (by omega) rfl (Or.inl rfl) ?_
        refine z_iload_n (pc := 56) C dX10_partnerIn_56 rfl 3 rfl ?_
        refine z_iconst (pc := 57) C dX10_partnerIn_57 ?_
        refine z_iload (pc := 58) C dX10_partnerIn_58 4 rfl ?_
        refine z_ishl (pc := 60) (r := 2 ^ h2) C dX10_partnerIn_60 (zshl_n h2 (by omega)) ?_
        refine z_iconst (pc := 61) C dX10_partnerIn_61 ?_
        refine z_ixor (pc := 62) (r := -(2 ^ h2) - 1) C dX10_partnerIn_62 (zxor_n h2 (by omega)) ?_
        refine z_iand (pc := 63) (r := (S - 2 ^ zlow S - 2 ^ h2 : Nat)) C dX10_partnerIn_63 (zclr_n (S - 2 ^ zlow S) (by omega) h2 (by omega) hbk) ?_
        refine z_iaload (pc := 64) C (S - 2 ^ zlow S - 2 ^ h2) dX10_partnerIn_64 (by first | rfl | assumption) (by omega) rfl (by omega) (fun g64 => ?_)
        rw [ht _ (by omega)]
        have hq2 := zLv hn hR (S := S - 2 ^ zlow S - 2 ^ h2) (by omega)
        refine z_aload_n (pc := 65) C dX10_partnerIn_65 rfl 0 rfl ?_
        refine z_iload_n (pc := 66) C dX10_partnerIn_66 rfl 2 rfl ?_
        refine z_iload (pc := 67) C dX10_partnerIn_67 4 rfl ?_
        refine z_Vi (pc := 69) C (c_X10_apart l G _ n y K R V E h hr hn (zlow S) h2 _ _ rfl rfl hxn (by omega)) ml_X10_212 yw_X10_apart dX10_partnerIn_69 (by first | rfl | assumption) (by omega) rfl rfl rfl (Nat.le_of_ble_eq_true rfl) ⟨by decide, by decide⟩ (fun r69 t69 h69 q69 => ?_)
        obtain ⟨rfl, rfl⟩ := q69
        have hq3 := zab_bd (hR (zlow S)) (hR h2)
        refine z_iadd (pc := 72) C dX10_partnerIn_72 ?_
        refine z_aload_n (pc := 73) C dX10_partnerIn_73 rfl 0 rfl ?_
        refine z_getR (pc := 74) C (118) fl_X10_38 dX10_partnerIn_74 (by first | rfl | assumption) (by omega) rfl (Or.inl rfl) ?_
        refine z_iload_n (pc := 77) C dX10_partnerIn_77 rfl 1 rfl ?_
        refine z_iaload (pc := 78) C (S) dX10_partnerIn_78 (by first | rfl | assumption) (by omega) rfl (by omega) (fun g78 => ?_)
        rw [ht S hS]
        refine z_icmp_eq (pc := 79) (tgt := 88) C dX10_partnerIn_79 (by decide) ⟨by omega, by omega⟩ (fun c79 => ?_) (fun c79 => ?_)
        · refine z_iload (pc := 88) C dX10_partnerIn_88 4 rfl ?_
          refine z_iret (pc := 90) C dX10_partnerIn_90 ?_
          exact ⟨_, rfl, by omega, Or.inr ⟨h2, rfl, by omega, hck.1, hck.2, by omega, hbf, hno⟩, rfl⟩
        · refine z_iinc (pc := 82) (lv' := [(4, _), (0, _), (1, _), (2, _), (3, _)]) C dX10_partnerIn_82 4 rfl (by decide) rfl ?_
          refine z_goto (pc := 85) (tgt := 43) C dX10_partnerIn_85 (by decide) ?_
          refine z_sub C [1, 2, 3, 4, 0] rfl ?_
          have hnow : zlow S < h2 → zbt S h2 = true → zLf R n 6 (S - 2 ^ zlow S - 2 ^ h2) + zab (R (zlow S)) (R h2) ≠ zLf R n 6 S := by
            intro a1 a2 a3
            have q2 := (zrest S hS2 h0 h2 (by omega)).mpr ⟨a1, a2⟩
            first
              | (rw [zite0 e46 (by omega)] at q2; cases q2)
              | omega
          have hne : h2 ≠ hw := fun q => by rw [q] at hnow; exact hnow w2 w3 w4
          exact ih hw (h2 + 1) (by omega) ⟨⟨w1, w2, w3, w4⟩, hno, by omega, fun j hj a1 a2 => (show j < h2 ∨ j = h2 by omega).elim (fun q => hbf j q a1 a2) (fun q => by subst q; exact hnow a1 a2)⟩
  refine z_iload_n (pc := 0) C dX10_partnerIn_0 rfl 1 rfl ?_
  refine z_Si (pc := 1) C (c_X10_lowest l G _ S _ rfl hS2 h0) ml_X10_209 ys_X10_lowest dX10_partnerIn_1 rfl rfl (Nat.le_of_ble_eq_true rfl) ⟨by decide, by decide⟩ (fun r1 t1 h1 q1 => ?_)
  obtain ⟨rfl, rfl⟩ := q1
  refine z_istore_n (pc := 4) (lv' := [(2, _), (0, _), (1, _)]) C dX10_partnerIn_4 rfl (by decide) rfl ?_
  refine z_iload_n (pc := 5) C dX10_partnerIn_5 rfl 2 rfl ?_
  refine z_iconst (pc := 6) C dX10_partnerIn_6 ?_
  refine z_iload_n (pc := 7) C dX10_partnerIn_7 rfl 0 rfl ?_
  refine z_ishl (pc := 8) (r := 2 ^ zlow S) C dX10_partnerIn_8 (zshl_n (zlow S) (by omega)) ?_
  refine z_iconst (pc := 9) C dX10_partnerIn_9 ?_
  refine z_ixor (pc := 10) (r := -(2 ^ zlow S) - 1) C dX10_partnerIn_10 (zxor_n (zlow S) x1) ?_
  refine z_iand (pc := 11) (r := (S - 2 ^ zlow S : Nat)) C dX10_partnerIn_11 (zclr_n S hS2 (zlow S) x1 x2) ?_
  refine z_istore_n (pc := 12) (lv' := [(3, _), (2, _), (0, _), (1, _)]) C dX10_partnerIn_12 rfl (by decide) rfl ?_
  refine z_iload_n (pc := 13) C dX10_partnerIn_13 rfl 3 rfl ?_
  refine z_Si (pc := 14) C (c_X10_size l G _ _ (by omega)) ml_X10_140 ys_X10_size dX10_partnerIn_14 rfl rfl (Nat.le_of_ble_eq_true rfl) ⟨by decide, by decide⟩ (fun r14 t14 h14 q14 => ?_)
  obtain ⟨rfl, rfl⟩ := q14
  refine z_iconst (pc := 17) C dX10_partnerIn_17 ?_
  refine z_irem (pc := 18) C dX10_partnerIn_18 ⟨⟨by omega, by omega⟩, by omega, by omega⟩ ?_
  refine z_iconst (pc := 19) C dX10_partnerIn_19 ?_
  refine z_icmp_ne (pc := 20) (tgt := 40) C dX10_partnerIn_20 (by decide) ⟨by omega, by omega⟩ (fun c20 => ?_) (fun c20 => ?_)
  · refine z_iconst (pc := 40) C dX10_partnerIn_40 ?_
    refine z_istore (pc := 41) (lv' := [(4, _), (3, _), (2, _), (0, _), (1, _)]) C dX10_partnerIn_41 (by decide) rfl ?_
    refine z_sub C [3, 4, 2, 1, 0] rfl ?_
    have hno : zodd S = true → zLf R n 6 (S - 2 ^ zlow S) ≠ zLf R n 6 S := by
      intro hz q
      rw [if_pos hz] at hod
      have t1 := ht (S - 2 ^ zlow S) (by omega)
      have t2 := ht S hS
      omega
    have hat : ∃ o, o < n ∧ zlow S < o ∧ zbt S o = true ∧ zLf R n 6 (S - 2 ^ zlow S - 2 ^ o) + zab (R (zlow S)) (R o) = zLf R n 6 S := by
      rcases zLm_att (g := zLf R n 6) (R := R) (S := S) (x := zlow S) (m := n) with q | q
      · exfalso
        rw [← hrec] at q
        have q0 : zLm (zLf R n 6) R S (zlow S) 0 = (if zodd S = true then zLf R n 6 (S - 2 ^ zlow S) else 268435456) := rfl
        rw [q0] at q
        by_cases hz : zodd S = true
        · rw [if_pos hz] at q; exact hno hz q.symm
        · rw [if_neg hz] at q; omega
      · rw [← hrec] at q; exact q
    obtain ⟨hw, w1, w2, w3, w4⟩ := hat
    exact L43 _ hw 0 (Nat.lt_succ_self _) ⟨⟨w1, w2, w3, w4⟩, hno, by omega, fun j hj => by omega⟩
  · refine z_aload_n (pc := 23) C dX10_partnerIn_23 rfl 2 rfl ?_
    refine z_getR (pc := 24) C (118) fl_X10_38 dX10_partnerIn_24 (by first | rfl | assumption) (by omega) rfl (Or.inl rfl) ?_
    refine z_iload_n (pc := 27) C dX10_partnerIn_27 rfl 0 rfl ?_
    refine z_iaload (pc := 28) C (S - 2 ^ zlow S) dX10_partnerIn_28 (by first | rfl | assumption) (by omega) rfl (by omega) (fun g28 => ?_)
    rw [ht _ (by omega)]
    refine z_aload_n (pc := 29) C dX10_partnerIn_29 rfl 2 rfl ?_
    refine z_getR (pc := 30) C (118) fl_X10_38 dX10_partnerIn_30 (by first | rfl | assumption) (by omega) rfl (Or.inl rfl) ?_
    refine z_iload_n (pc := 33) C dX10_partnerIn_33 rfl 3 rfl ?_
    refine z_iaload (pc := 34) C (S) dX10_partnerIn_34 (by first | rfl | assumption) (by omega) rfl (by omega) (fun g34 => ?_)
    rw [ht S hS]
    refine z_icmp_ne (pc := 35) (tgt := 40) C dX10_partnerIn_35 (by decide) ⟨by omega, by omega⟩ (fun c35 => ?_) (fun c35 => ?_)
    · refine z_iconst (pc := 40) C dX10_partnerIn_40 ?_
      refine z_istore (pc := 41) (lv' := [(4, _), (3, _), (2, _), (0, _), (1, _)]) C dX10_partnerIn_41 (by decide) rfl ?_
      refine z_sub C [3, 4, 2, 1, 0] rfl ?_
      have hno : zodd S = true → zLf R n 6 (S - 2 ^ zlow S) ≠ zLf R n 6 S := by
        intro hz q
        rw [if_pos hz] at hod
        have t1 := ht (S - 2 ^ zlow S) (by omega)
        have t2 := ht S hS
        omega
      have hat : ∃ o, o < n ∧ zlow S < o ∧ zbt S o = true ∧ zLf R n 6 (S - 2 ^ zlow S - 2 ^ o) + zab (R (zlow S)) (R o) = zLf R n 6 S := by
        rcases zLm_att (g := zLf R n 6) (R := R) (S := S) (x := zlow S) (m := n) with q | q
        · exfalso
          rw [← hrec] at q
          have q0 : zLm (zLf R n 6) R S (zlow S) 0 = (if zodd S = true then zLf R n 6 (S - 2 ^ zlow S) else 268435456) := rfl
          rw [q0] at q
          by_cases hz : zodd S = true
          · rw [if_pos hz] at q; exact hno hz q.symm
          · rw [if_neg hz] at q; omega
        · rw [← hrec] at q; exact q
      obtain ⟨hw, w1, w2, w3, w4⟩ := hat
      exact L43 _ hw 0 (Nat.lt_succ_self _) ⟨⟨w1, w2, w3, w4⟩, hno, by omega, fun j hj => by omega⟩
    · refine z_iconst (pc := 38) C dX10_partnerIn_38 ?_
      refine z_iret (pc := 39) C dX10_partnerIn_39 ?_
      have hz : zodd S = true := by
        cases hq : zodd S
        · rw [hq] at hod; simp at hod; omega
        · rfl
      exact ⟨_, rfl, by omega, Or.inl ⟨rfl, hz, by omega⟩, rfl⟩
