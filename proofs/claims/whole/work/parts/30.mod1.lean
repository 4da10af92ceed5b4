set_option maxRecDepth 100000 in
theorem zby_n : ∀ x : Nat, x < 127 → (zI (x : Int)).toInt8.toInt32 = zI (x : Int) ∧ narrow .byte (.int (zI (x : Int))) = .int (zI (x : Int)) := by decide +kernel
theorem zby {x : Int} (h : 0 ≤ x ∧ x ≤ 126) : (zI x).toInt8.toInt32 = zI x ∧ narrow .byte (.int (zI x)) = .int (zI x) := by
  obtain ⟨m, rfl⟩ := Int.eq_ofNat_of_zero_le h.1
  exact zby_n m (by omega)
set_option maxHeartbeats 4000000 in
set_option maxRecDepth 100000 in
theorem c_X10_within (l : Launch) (G : zGt) (σ : zMem) (a lo hi : Int) (ha : zR a) (hl : zR lo) (hh : zR hi) : zN l G yX10_within cX10_within 3 (some .boolean) 0 [.int (zI a), .int (zI lo), .int (zI hi)] σ (zPi (fun x τ => ((x = 1 ∧ lo ≤ a ∧ a ≤ hi) ∨ (x = 0 ∧ (a < lo ∨ hi < a))) ∧ σ = τ)) := by
  refine zM.of (lv0 := [(0, _), (1, _), (2, _)]) (by decide) (Nat.le_of_ble_eq_true rfl) rfl (fun X C => ?_)
  refine z_iload_n (pc := 0) C dX10_within_0 rfl 0 rfl ?_
  refine z_iload_n (pc := 1) C dX10_within_1 rfl 1 rfl ?_
  refine z_icmp_lt (pc := 2) (tgt := 14) C dX10_within_2 (by decide) ⟨by omega, by omega⟩ (fun c2 => ?_) (fun c2 => ?_)
  · refine z_iconst (pc := 14) C dX10_within_14 ?_
    refine z_zret (pc := 15) C dX10_within_15 (by omega) ?_
    exact ⟨_, rfl, by omega, by omega, rfl⟩
  · refine z_iload_n (pc := 5) C dX10_within_5 rfl 0 rfl ?_
    refine z_iload_n (pc := 6) C dX10_within_6 rfl 2 rfl ?_
    refine z_icmp_gt (pc := 7) (tgt := 14) C dX10_within_7 (by decide) ⟨by omega, by omega⟩ (fun c7 => ?_) (fun c7 => ?_)
    · refine z_iconst (pc := 14) C dX10_within_14 ?_
      refine z_zret (pc := 15) C dX10_within_15 (by omega) ?_
      exact ⟨_, rfl, by omega, by omega, rfl⟩
    · refine z_iconst (pc := 10) C dX10_within_10 ?_
      refine z_goto (pc := 11) (tgt := 15) C dX10_within_11 (by decide) ?_
      refine z_zret (pc := 15) C dX10_within_15 (by omega) ?_
      exact ⟨_, rfl, by omega, by omega, rfl⟩
set_option maxHeartbeats 4000000 in
set_option maxRecDepth 100000 in
theorem c_X10_isIn (l : Launch) (G : zGt) (σ : zMem) (b v : Int) (k : Nat) (p : Int) (hp : p = k) (hk : k < 10) (hb : 0 ≤ b ∧ b < 1024) (hv : b / 2 ^ k % 2 = v) : zN l G yX10_isIn cX10_isIn 2 (some .boolean) 0 [.int (zI b), .int (zI p)] σ (zPi (fun x τ => x = b / 2 ^ k % 2 ∧ σ = τ)) := by
  subst hp
  subst hv
  refine zM.of (lv0 := [(0, _), (1, _)]) (by decide) (Nat.le_of_ble_eq_true rfl) rfl (fun X C => ?_)
  refine z_iload_n (pc := 0) C dX10_isIn_0 rfl 0 rfl ?_
  refine z_iload_n (pc := 1) C dX10_isIn_1 rfl 1 rfl ?_
  refine z_ishr (pc := 2) (r := b / 2 ^ k) C dX10_isIn_2 (zshr_i hk hb.1 hb.2) ?_
  have hd := zdiv_bd k hb.1 hb.2
  obtain ⟨t, ht⟩ : ∃ t, b / 2 ^ k = t := ⟨_, rfl⟩
  rw [ht] at hd
  refine z_iconst (pc := 3) C dX10_isIn_3 ?_
  refine z_iand (pc := 4) (r := b / 2 ^ k % 2) C dX10_isIn_4 (zand1_i (zdiv_bd k hb.1 hb.2).1 (zdiv_bd k hb.1 hb.2).2) ?_
  rw [ht]
  refine z_iconst (pc := 5) C dX10_isIn_5 ?_
  refine z_icmp_ne (pc := 6) (tgt := 13) C dX10_isIn_6 (by decide) ⟨by omega, by omega⟩ (fun c6 => ?_) (fun c6 => ?_)
  · refine z_iconst (pc := 13) C dX10_isIn_13 ?_
    refine z_zret (pc := 14) C dX10_isIn_14 (by omega) ?_
    exact ⟨_, rfl, by omega, by rw [ht]; omega, rfl⟩
  · refine z_iconst (pc := 9) C dX10_isIn_9 ?_
    refine z_goto (pc := 10) (tgt := 14) C dX10_isIn_10 (by decide) ?_
    refine z_zret (pc := 14) C dX10_isIn_14 (by omega) ?_
    exact ⟨_, rfl, by omega, by rw [ht]; omega, rfl⟩
theorem c_isInV (l : Launch) (G : zGt) (σ : zMem) (b v : Int) (k : Nat) (p : Int) (hp : p = k) (hk : k < 10) (hb : 0 ≤ b ∧ b < 1024) (hv : b / 2 ^ k % 2 = v) : zN l G yX10_isIn cX10_isIn 2 (some .boolean) 0 [.int (zI b), .int (zI p)] σ (zPi (fun x τ => x = v ∧ σ = τ)) := by
  have := c_X10_isIn l G σ b v k p hp hk hb hv
  rwa [hv] at this
set_option maxHeartbeats 4000000 in
set_option maxRecDepth 100000 in
theorem c_X10_size (l : Launch) (G : zGt) (σ : zMem) (b : Int) (hb : 0 ≤ b ∧ b < 1024) : zN l G yX10_size cX10_size 3 (some .int) 0 [.int (zI b)] σ (zPi (fun x τ => x = zsum (fun k => b / 2 ^ k % 2) 10 ∧ σ = τ)) := by
  refine zM.of (lv0 := [(0, _)]) (by decide) (Nat.le_of_ble_eq_true rfl) rfl (fun X C => ?_)
  have L4 : ∀ (fuel : Nat) (i : Nat), 10 - i < fuel → (i ≤ 10) → zg G X true 3 129 0 0 4 [(0, .int (zI b)), (1, .int (zI (zsum (fun k => b / 2 ^ k % 2) i))), (2, .int (zI (i : Int)))] [] σ := by
    intro fuel
    induction fuel with
    | zero => intro i hm; exact absurd hm (Nat.not_lt_zero _)
    | succ fuel ih =>
      intro i hms h1
      refine z_iload_n (pc := 4) C dX10_size_4 rfl 2 rfl ?_
      refine z_bipush (pc := 5) C dX10_size_5 (by decide +kernel) ?_
      refine z_icmp_ge (pc := 7) (tgt := 24) C dX10_size_7 (by decide) ⟨by omega, by omega⟩ (fun c7 => ?_) (fun c7 => ?_)
      · refine z_iload_n (pc := 24) C dX10_size_24 rfl 1 rfl ?_
        refine z_iret (pc := 25) C dX10_size_25 ?_
        have hz := zsum_bd (f := fun k => b / 2 ^ k % 2) (c := 1) (n := i) (fun k _ => by omega)
        exact ⟨_, rfl, by omega, by rw [show i = 10 by omega], rfl⟩
      · refine z_iload_n (pc := 10) C dX10_size_10 rfl 1 rfl ?_
        refine z_iload_n (pc := 11) C dX10_size_11 rfl 0 rfl ?_
        refine z_iload_n (pc := 12) C dX10_size_12 rfl 2 rfl ?_
        refine z_ishr (pc := 13) (r := b / 2 ^ i) C dX10_size_13 (zshr_i (by omega) hb.1 hb.2) ?_
        refine z_iconst (pc := 14) C dX10_size_14 ?_
        refine z_iand (pc := 15) (r := b / 2 ^ i % 2) C dX10_size_15 (zand1_i (zdiv_bd i hb.1 hb.2).1 (zdiv_bd i hb.1 hb.2).2) ?_
        refine z_iadd (pc := 16) C dX10_size_16 ?_
        refine z_istore_n (pc := 17) (lv' := [(1, _), (0, _), (2, _)]) C dX10_size_17 rfl (by decide) rfl ?_
        refine z_iinc (pc := 18) (lv' := [(2, _), (1, _), (0, _)]) C dX10_size_18 2 rfl (by decide) rfl ?_
        refine z_goto (pc := 21) (tgt := 4) C dX10_size_21 (by decide) ?_
        refine z_sub C [2, 1, 0] rfl ?_
        exact ih (i + 1) (by omega) (by omega)
  refine z_iconst (pc := 0) C dX10_size_0 ?_
  refine z_istore_n (pc := 1) (lv' := [(1, _), (0, _)]) C dX10_size_1 rfl (by decide) rfl ?_
  refine z_iconst (pc := 2) C dX10_size_2 ?_
  refine z_istore_n (pc := 3) (lv' := [(2, _), (1, _), (0, _)]) C dX10_size_3 rfl (by decide) rfl ?_
  refine z_sub C [2, 1, 0] rfl ?_
  exact L4 _ 0 (Nat.lt_succ_self _) (by omega)
theorem c_sizeV (l : Launch) (G : zGt) (σ : zMem) (b v : Int) (hb : 0 ≤ b ∧ b < 1024) (hv : zsum (fun k => b / 2 ^ k % 2) 10 = v) : zN l G yX10_size cX10_size 3 (some .int) 0 [.int (zI b)] σ (zPi (fun x τ => x = v ∧ σ = τ)) := by
  have := c_X10_size l G σ b hb
  rwa [hv] at this
set_option maxHeartbeats 4000000 in
set_option maxRecDepth 100000 in
theorem c_X10_divisor (l : Launch) (G : zGt) (σ : zMem) (A B : Nat) (p q : Int) (hp : p = A) (hq : q = B) (hA : A < 2147483648) (hB : B < 2147483648) : zN l G yX10_divisor cX10_divisor 5 (some .int) 0 [.int (zI p), .int (zI q)] σ (zPi (fun x τ => x = (Nat.gcd A B : Nat) ∧ σ = τ)) := by
  subst hp
  subst hq
  refine zM.of (lv0 := [(0, _), (1, _)]) (by decide) (Nat.le_of_ble_eq_true rfl) rfl (fun X C => ?_)
  have L4 : ∀ (fuel : Nat) (a b : Nat), b < fuel → (a < 2147483648 ∧ b < 2147483648 ∧ Nat.gcd a b = Nat.gcd A B) → zg G X true 5 129 0 0 4 [(2, .int (zI (a : Int))), (3, .int (zI (b : Int)))] [] σ := by
    intro fuel
    induction fuel with
    | zero => intro a b hm; exact absurd hm (Nat.not_lt_zero _)
    | succ fuel ih =>
      intro a b hms hinv
      obtain ⟨h1, h2, h3⟩ := hinv
      refine z_iload_n (pc := 4) C dX10_divisor_4 rfl 1 rfl ?_
      refine z_if_eq (pc := 5) (tgt := 21) C dX10_divisor_5 (by decide) (by omega) (fun c5 => ?_) (fun c5 => ?_)
      · refine z_iload_n (pc := 21) C dX10_divisor_21 rfl 0 rfl ?_
        refine z_iret (pc := 22) C dX10_divisor_22 ?_
        obtain rfl : b = 0 := by omega
        rw [Nat.gcd_zero_right] at h3
        exact ⟨_, rfl, by omega, by rw [h3], rfl⟩
      · refine z_iload_n (pc := 8) C dX10_divisor_8 rfl 0 rfl ?_
        refine z_iload_n (pc := 9) C dX10_divisor_9 rfl 1 rfl ?_
        refine z_irem (pc := 10) C dX10_divisor_10 ⟨⟨by omega, by omega⟩, by omega, by omega⟩ ?_
        refine z_istore (pc := 11) (lv' := [(4, _), (2, _), (3, _)]) C dX10_divisor_11 (by decide) rfl ?_
        refine z_iload_n (pc := 13) C dX10_divisor_13 rfl 2 rfl ?_
        refine z_istore_n (pc := 14) (lv' := [(2, _), (4, _), (3, _)]) C dX10_divisor_14 rfl (by decide) rfl ?_
        refine z_iload (pc := 15) C dX10_divisor_15 1 rfl ?_
        refine z_istore_n (pc := 17) (lv' := [(3, _), (2, _), (4, _)]) C dX10_divisor_17 rfl (by decide) rfl ?_
        refine z_goto (pc := 18) (tgt := 4) C dX10_divisor_18 (by decide) ?_
        refine z_sub C [1, 0] rfl ?_
        have hm := Nat.mod_lt a (show 0 < b by omega)
        exact ih b (a % b) (by omega) ⟨h2, by omega, by rw [← h3, Nat.gcd_comm, ← Nat.gcd_rec, Nat.gcd_comm]⟩
  refine z_iload_n (pc := 0) C dX10_divisor_0 rfl 0 rfl ?_
  refine z_istore_n (pc := 1) (lv' := [(2, _), (0, _), (1, _)]) C dX10_divisor_1 rfl (by decide) rfl ?_
  refine z_iload_n (pc := 2) C dX10_divisor_2 rfl 2 rfl ?_
  refine z_istore_n (pc := 3) (lv' := [(3, _), (2, _), (0, _), (1, _)]) C dX10_divisor_3 rfl (by decide) rfl ?_
  refine z_sub C [1, 0] rfl ?_
  exact L4 _ A B (Nat.lt_succ_self _) ⟨hA, hB, rfl⟩
set_option maxHeartbeats 4000000 in
set_option maxRecDepth 100000 in
theorem c_X10_kindBy (l : Launch) (G : zGt) (σ : zMem) (c : Int) (hc : zR c) : zN l G yX10_kindBy cX10_kindBy 1 (some .int) 0 [.int (zI c)] σ (zPi (fun x τ => x = zkd c ∧ σ = τ)) := by
  refine zM.of (lv0 := [(0, _)]) (by decide) (Nat.le_of_ble_eq_true rfl) rfl (fun X C => ?_)
  refine z_iload_n (pc := 0) C dX10_kindBy_0 rfl 0 rfl ?_
  by_cases w1_104 : (c) = 104
  · refine z_lookup (pc := 1) (off := 51) (tgt := 52) C dX10_kindBy_1 (by omega) (by decide +kernel) (by rw [w1_104]; decide +kernel) (by decide) ?_
    refine z_iconst (pc := 52) C dX10_kindBy_52 ?_
    refine z_iret (pc := 53) C dX10_kindBy_53 ?_
    exact ⟨_, rfl, by omega, by unfold zkd; (repeat' split) <;> omega, rfl⟩
  by_cases w1_111 : (c) = 111
  · refine z_lookup (pc := 1) (off := 55) (tgt := 56) C dX10_kindBy_1 (by omega) (by decide +kernel) (by rw [w1_111]; decide +kernel) (by decide) ?_
    refine z_iconst (pc := 56) C dX10_kindBy_56 ?_
    refine z_iret (pc := 57) C dX10_kindBy_57 ?_
    exact ⟨_, rfl, by omega, by unfold zkd; (repeat' split) <;> omega, rfl⟩
  by_cases w1_116 : (c) = 116
  · refine z_lookup (pc := 1) (off := 59) (tgt := 60) C dX10_kindBy_1 (by omega) (by decide +kernel) (by rw [w1_116]; decide +kernel) (by decide) ?_
    refine z_iconst (pc := 60) C dX10_kindBy_60 ?_
    refine z_iret (pc := 61) C dX10_kindBy_61 ?_
    exact ⟨_, rfl, by omega, by unfold zkd; (repeat' split) <;> omega, rfl⟩
  by_cases w1_119 : (c) = 119
  · refine z_lookup (pc := 1) (off := 53) (tgt := 54) C dX10_kindBy_1 (by omega) (by decide +kernel) (by rw [w1_119]; decide +kernel) (by decide) ?_
    refine z_iconst (pc := 54) C dX10_kindBy_54 ?_
    refine z_iret (pc := 55) C dX10_kindBy_55 ?_
    exact ⟨_, rfl, by omega, by unfold zkd; (repeat' split) <;> omega, rfl⟩
  by_cases w1_121 : (c) = 121
  · refine z_lookup (pc := 1) (off := 57) (tgt := 58) C dX10_kindBy_1 (by omega) (by decide +kernel) (by rw [w1_121]; decide +kernel) (by decide) ?_
    refine z_iconst (pc := 58) C dX10_kindBy_58 ?_
    refine z_iret (pc := 59) C dX10_kindBy_59 ?_
    exact ⟨_, rfl, by omega, by unfold zkd; (repeat' split) <;> omega, rfl⟩
  refine z_lookup (pc := 1) (off := 61) (tgt := 62) C dX10_kindBy_1 (by omega) (by decide +kernel) (by simp [Op.lookupswitch.offset, w1_104, Ne.symm w1_104, w1_111, Ne.symm w1_111, w1_116, Ne.symm w1_116, w1_119, Ne.symm w1_119, w1_121, Ne.symm w1_121]) (by decide) ?_
  refine z_iconst (pc := 62) C dX10_kindBy_62 ?_
  refine z_iret (pc := 63) C dX10_kindBy_63 ?_
  exact ⟨_, rfl, by omega, by unfold zkd; (repeat' split) <;> omega, rfl⟩
set_option maxHeartbeats 4000000 in
set_option maxRecDepth 100000 in
theorem c_X10_held (l : Launch) (G : zGt) (σ : zMem) (p : Int) (hp : zR p) : zN l G yX10_held cX10_held 1 (some .int) 0 [.int (zI p)] σ (zPi (fun x τ => x = zcl p ∧ σ = τ)) := by
  refine zM.of (lv0 := [(0, _)]) (by decide) (Nat.le_of_ble_eq_true rfl) rfl (fun X C => ?_)
  refine z_iload_n (pc := 0) C dX10_held_0 rfl 0 rfl ?_
  refine z_if_ge (pc := 1) (tgt := 8) C dX10_held_1 (by decide) (by omega) (fun c1 => ?_) (fun c1 => ?_)
  · refine z_iload_n (pc := 8) C dX10_held_8 rfl 0 rfl ?_
    refine z_bipush (pc := 9) C dX10_held_9 (by decide +kernel) ?_
    refine z_icmp_le (pc := 11) (tgt := 19) C dX10_held_11 (by decide) ⟨by omega, by omega⟩ (fun c11 => ?_) (fun c11 => ?_)
    · refine z_iload_n (pc := 19) C dX10_held_19 rfl 0 rfl ?_
      refine z_iret (pc := 20) C dX10_held_20 ?_
      exact ⟨_, rfl, by omega, by unfold zcl; (repeat' split) <;> omega, rfl⟩
    · refine z_bipush (pc := 14) C dX10_held_14 (by decide +kernel) ?_
      refine z_goto (pc := 16) (tgt := 20) C dX10_held_16 (by decide) ?_
      refine z_iret (pc := 20) C dX10_held_20 ?_
      exact ⟨_, rfl, by omega, by unfold zcl; (repeat' split) <;> omega, rfl⟩
  · refine z_iconst (pc := 4) C dX10_held_4 ?_
    refine z_goto (pc := 5) (tgt := 20) C dX10_held_5 (by decide) ?_
    refine z_iret (pc := 20) C dX10_held_20 ?_
    exact ⟨_, rfl, by omega, by unfold zcl; (repeat' split) <;> omega, rfl⟩
set_option maxHeartbeats 4000000 in
set_option maxRecDepth 100000 in
theorem c_X10_isRain (l : Launch) (G : zGt) (σ : zMem) (p : Int) (hp : zR p) : zN l G yX10_isRain cX10_isRain 1 (some .boolean) 1 [.int (zI p)] σ (zPi (fun x τ => ((x = 1 ∧ 0 ≤ p ∧ p ≤ 20) ∨ (x = 0 ∧ (p < 0 ∨ 20 < p))) ∧ σ = τ)) := by
  refine zM.of (lv0 := [(0, _)]) (by decide) (Nat.le_of_ble_eq_true rfl) rfl (fun X C => ?_)
  refine z_iload_n (pc := 0) C dX10_isRain_0 rfl 0 rfl ?_
  refine z_iconst (pc := 1) C dX10_isRain_1 ?_
  refine z_bipush (pc := 2) C dX10_isRain_2 (by decide +kernel) ?_
  refine z_Si (pc := 4) C (c_X10_within l G _ _ _ _ (by first | assumption | omega | decide) (by first | assumption | omega | decide) (by first | assumption | omega | decide)) ml_X10_71 ys_X10_within dX10_isRain_4 rfl rfl (Nat.le_of_ble_eq_true rfl) ⟨by decide, by decide⟩ (fun r4 t4 h4 q4 => ?_)
  obtain ⟨w4, rfl⟩ := q4
  refine z_zret (pc := 7) C dX10_isRain_7 (by omega) ?_
  exact ⟨_, rfl, by omega, by omega, rfl⟩
set_option maxHeartbeats 4000000 in
set_option maxRecDepth 100000 in
theorem c_X10_grown (l : Launch) (G : zGt) (σ : zMem) (k r v e y : Int) (hk : 0 ≤ k ∧ k ≤ 4) (hr : 0 ≤ r ∧ r ≤ 1000) (hv : 0 ≤ v ∧ v ≤ 1000) (he : 0 ≤ e ∧ e ≤ 1) (hy : 0 ≤ y ∧ y ≤ 1000000) : zN l G yX10_grown cX10_grown 6 (some .int) 1 [.int (zI k), .int (zI r), .int (zI v), .int (zI e), .int (zI y)] σ (zPi (fun x τ => x = zgr k r v e y ∧ σ = τ)) := by
  refine zM.of (lv0 := [(0, _), (1, _), (2, _), (3, _), (4, _)]) (by decide) (Nat.le_of_ble_eq_true rfl) rfl (fun X C => ?_)
  have J69 : ∀ (own : Int), (own = r + zmo k v y) → zg G X true 6 129 0 0 69 [(3, .int (zI e)), (5, .int (zI own))] [] σ := by
    intro own hm
    have hb := zmo_bd (k := k) (y := y) hv
    refine z_iload (pc := 69) C dX10_grown_69 1 rfl ?_
    refine z_iload_n (pc := 71) C dX10_grown_71 rfl 0 rfl ?_
    refine z_if_eq (pc := 72) (tgt := 79) C dX10_grown_72 (by decide) (by omega) (fun c72 => ?_) (fun c72 => ?_)
    · refine z_iconst (pc := 79) C dX10_grown_79 ?_
      refine z_iadd (pc := 80) C dX10_grown_80 ?_
      refine z_Si (pc := 81) C (c_X10_held l G _ _ (by first | assumption | omega | decide)) ml_X10_119 ys_X10_held dX10_grown_81 rfl rfl (Nat.le_of_ble_eq_true rfl) ⟨by decide, by decide⟩ (fun r81 t81 h81 q81 => ?_)
      obtain ⟨rfl, rfl⟩ := q81
      refine z_iret (pc := 84) C dX10_grown_84 ?_
      have hz := zcl_bd (r + zmo k v y + 3 * e)
      have ez : ∀ z, z = r + zmo k v y + 3 * e → zcl z = zgr k r v e y := fun z hz => by rw [hz]; rfl
      exact ⟨_, rfl, by assumption, ez _ (by omega), rfl⟩
    · refine z_iconst (pc := 75) C dX10_grown_75 ?_
      refine z_goto (pc := 76) (tgt := 80) C dX10_grown_76 (by decide) ?_
      refine z_iadd (pc := 80) C dX10_grown_80 ?_
      refine z_Si (pc := 81) C (c_X10_held l G _ _ (by first | assumption | omega | decide)) ml_X10_119 ys_X10_held dX10_grown_81 rfl rfl (Nat.le_of_ble_eq_true rfl) ⟨by decide, by decide⟩ (fun r81 t81 h81 q81 => ?_)
      obtain ⟨rfl, rfl⟩ := q81
      refine z_iret (pc := 84) C dX10_grown_84 ?_
      have hz := zcl_bd (r + zmo k v y + 3 * e)
      have ez : ∀ z, z = r + zmo k v y + 3 * e → zcl z = zgr k r v e y := fun z hz => by rw [hz]; rfl
      exact ⟨_, rfl, by assumption, ez _ (by omega), rfl⟩
  refine z_iload_n (pc := 0) C dX10_grown_0 rfl 1 rfl ?_
  refine z_iconst (pc := 1) C dX10_grown_1 ?_
  refine z_iadd (pc := 2) C dX10_grown_2 ?_
  refine z_iload_n (pc := 3) C dX10_grown_3 rfl 2 rfl ?_
  refine z_iconst (pc := 4) C dX10_grown_4 ?_
  refine z_idiv (pc := 5) C dX10_grown_5 ⟨⟨by omega, by omega⟩, by omega, by omega⟩ ?_
  refine z_isub (pc := 6) C dX10_grown_6 ?_
  refine z_istore (pc := 7) (lv' := [(5, _), (0, _), (1, _), (2, _), (3, _), (4, _)]) C dX10_grown_7 (by decide) rfl ?_
  refine z_iload_n (pc := 9) C dX10_grown_9 rfl 1 rfl ?_
  by_cases w10 : (k) < 1 ∨ 4 < (k)
  · refine z_tableOut (pc := 10) (tgt := 69) C dX10_grown_10 (by omega) (by omega) (by decide) ?_
    refine z_sub C [4, 0] rfl ?_
    exact J69 _ (by first | (rw [zmo_1 (by assumption)]; omega) | (rw [zmo_2 (by assumption)]; omega) | (rw [zmo_3 (by assumption)]; omega) | (rw [zmo_4 (by assumption)]; omega) | (rw [zmo_0 (by assumption)]; omega))
  by_cases w10_1 : (k) = 1
  · refine z_tableIn (pc := 10) (off := 30) (tgt := 40) C dX10_grown_10 (by omega) (by omega) (by omega) (by rw [show ((k) - (1)).toNat = 0 by omega]; rfl) (by decide) ?_
    refine z_iload_n (pc := 40) C dX10_grown_40 rfl 2 rfl ?_
    refine z_istore (pc := 41) (lv' := [(5, _), (0, _), (1, _), (2, _), (3, _), (4, _)]) C dX10_grown_41 (by decide) rfl ?_
    refine z_goto (pc := 43) (tgt := 69) C dX10_grown_43 (by decide) ?_
    refine z_sub C [4, 0] rfl ?_
    exact J69 _ (by first | (rw [zmo_1 (by assumption)]; omega) | (rw [zmo_2 (by assumption)]; omega) | (rw [zmo_3 (by assumption)]; omega) | (rw [zmo_4 (by assumption)]; omega) | (rw [zmo_0 (by assumption)]; omega))
  by_cases w10_2 : (k) = 2
  · refine z_tableIn (pc := 10) (off := 36) (tgt := 46) C dX10_grown_10 (by omega) (by omega) (by omega) (by rw [show ((k) - (1)).toNat = 1 by omega]; rfl) (by decide) ?_
    refine z_iinc (pc := 46) (lv' := [(5, _), (0, _), (1, _), (2, _), (3, _), (4, _)]) C dX10_grown_46 0 rfl (by decide) rfl ?_
    refine z_goto (pc := 49) (tgt := 69) C dX10_grown_49 (by decide) ?_
    refine z_sub C [4, 0] rfl ?_
    exact J69 _ (by first | (rw [zmo_1 (by assumption)]; omega) | (rw [zmo_2 (by assumption)]; omega) | (rw [zmo_3 (by assumption)]; omega) | (rw [zmo_4 (by assumption)]; omega) | (rw [zmo_0 (by assumption)]; omega))
  by_cases w10_3 : (k) = 3
  · refine z_tableIn (pc := 10) (off := 42) (tgt := 52) C dX10_grown_10 (by omega) (by omega) (by omega) (by rw [show ((k) - (1)).toNat = 2 by omega]; rfl) (by decide) ?_
    refine z_iinc (pc := 52) (lv' := [(5, _), (0, _), (1, _), (2, _), (3, _), (4, _)]) C dX10_grown_52 0 rfl (by decide) rfl ?_
    refine z_goto (pc := 55) (tgt := 69) C dX10_grown_55 (by decide) ?_
    refine z_sub C [4, 0] rfl ?_
    exact J69 _ (by first | (rw [zmo_1 (by assumption)]; omega) | (rw [zmo_2 (by assumption)]; omega) | (rw [zmo_3 (by assumption)]; omega) | (rw [zmo_4 (by assumption)]; omega) | (rw [zmo_0 (by assumption)]; omega))
  have w10_4 : (k) = 4 := by omega
  refine z_tableIn (pc := 10) (off := 48) (tgt := 58) C dX10_grown_10 (by omega) (by omega) (by omega) (by rw [show ((k) - (1)).toNat = 3 by omega]; rfl) (by decide) ?_
  refine z_iload_n (pc := 58) C dX10_grown_58 rfl 2 rfl ?_
  refine z_iload (pc := 59) C dX10_grown_59 5 rfl ?_
  refine z_iconst (pc := 61) C dX10_grown_61 ?_
  refine z_irem (pc := 62) C dX10_grown_62 ⟨⟨by omega, by omega⟩, by omega, by omega⟩ ?_
  refine z_isub (pc := 63) C dX10_grown_63 ?_
  refine z_istore (pc := 64) (lv' := [(5, _), (0, _), (1, _), (2, _), (3, _), (4, _)]) C dX10_grown_64 (by decide) rfl ?_
  refine z_goto (pc := 66) (tgt := 69) C dX10_grown_66 (by decide) ?_
  refine z_sub C [4, 0] rfl ?_
  exact J69 _ (by first | (rw [zmo_1 (by assumption)]; omega) | (rw [zmo_2 (by assumption)]; omega) | (rw [zmo_3 (by assumption)]; omega) | (rw [zmo_4 (by assumption)]; omega) | (rw [zmo_0 (by assumption)]; omega))
set_option maxHeartbeats 4000000 in
set_option maxRecDepth 100000 in
theorem c_X10_letter (l : Launch) (G : zGt) (σ : zMem) (m : Nat) (P : Nat → Int) (hg : zMg σ m P) (hpr : zPr0 P) (hm : m ≤ 26) (p : Int) (hp : zR p) : zN l G yX10_letter cX10_letter 2 (some .int) 1 [.ref (zB G + 108), .int (zI p)] σ (zPi (fun x τ => (x = if 32 ≤ p ∧ p ≤ 126 then (if 26 ≤ m then -104 else (m : Int) + 1) else -102) ∧ ((32 ≤ p ∧ p ≤ 126 ∧ m < 26 ∧ zMg τ (m + 1) (zup P m p) ∧ ∀ o k, o ≠ 115 → (o ≠ 108 ∨ k ≠ 12) → τ o k = σ o k) ∨ (¬ (32 ≤ p ∧ p ≤ 126 ∧ m < 26) ∧ σ = τ)))) := by
  obtain ⟨hg1, hgP⟩ := id hg
  have l115 : zl 115 = 26 := by decide
  refine zM.of (lv0 := [(0, _), (1, _)]) (by decide) (Nat.le_of_ble_eq_true rfl) rfl (fun X C => ?_)
  refine z_iload_n (pc := 0) C dX10_letter_0 rfl 1 rfl ?_
  refine z_bipush (pc := 1) C dX10_letter_1 (by decide +kernel) ?_
  refine z_bipush (pc := 3) C dX10_letter_3 (by decide +kernel) ?_
  refine z_Si (pc := 5) C (c_X10_within l G _ _ _ _ (by first | assumption | omega | decide) (by first | assumption | omega | decide) (by first | assumption | omega | decide)) ml_X10_71 ys_X10_within dX10_letter_5 rfl rfl (Nat.le_of_ble_eq_true rfl) ⟨by decide, by decide⟩ (fun r5 t5 h5 q5 => ?_)
  obtain ⟨w5, rfl⟩ := q5
  refine z_if_ne (pc := 8) (tgt := 14) C dX10_letter_8 (by decide) (by omega) (fun c8 => ?_) (fun c8 => ?_)
  · refine z_aload_n (pc := 14) C dX10_letter_14 rfl 0 rfl ?_
    refine z_getI (pc := 15) C fl_X10_75 dX10_letter_15 (by first | rfl | assumption) (by omega) (fun g15 => ?_)
    refine z_bipush (pc := 18) C dX10_letter_18 (by decide +kernel) ?_
    refine z_icmp_ne (pc := 20) (tgt := 26) C dX10_letter_20 (by decide) ⟨by omega, by omega⟩ (fun c20 => ?_) (fun c20 => ?_)
    · refine z_aload_n (pc := 26) C dX10_letter_26 rfl 0 rfl ?_
      refine z_getR (pc := 27) C (115) fl_X10_28 dX10_letter_27 (by first | rfl | assumption) (by omega) rfl (Or.inl rfl) ?_
      refine z_aload_n (pc := 30) C dX10_letter_30 rfl 0 rfl ?_
      refine z_getI (pc := 31) C fl_X10_75 dX10_letter_31 (by first | rfl | assumption) (by omega) (fun g31 => ?_)
      refine z_iload_n (pc := 34) C dX10_letter_34 rfl 1 rfl ?_
      refine z_i2b (pc := 35) C dX10_letter_35 (zby (by omega)).1 ?_
      refine z_bastoree (pc := 36) C (m) dX10_letter_36 (by first | rfl | assumption) (by omega) hg1 (by omega) ⟨by omega, (zby (by omega)).2⟩ (fun m36 em36 => ?_)
      have hbd : m < 26 := by omega
      refine z_aload_n (pc := 37) C dX10_letter_37 rfl 0 rfl ?_
      refine z_dup (pc := 38) C dX10_letter_38 rfl ?_
      refine z_getI (pc := 39) C fl_X10_75 dX10_letter_39 (by first | rfl | assumption) (by omega) (fun g39 => ?_)
      rw [show m36 108 12 = (m : Int) by rw [em36, zU_o (by omega)]; exact hg1]
      refine z_iconst (pc := 42) C dX10_letter_42 ?_
      refine z_iadd (pc := 43) C dX10_letter_43 ?_
      refine z_putIe (pc := 44) C fl_X10_75 dX10_letter_44 (by first | rfl | assumption) (by omega) (by omega) (fun m44 em44 => ?_)
      refine z_aload_n (pc := 47) C dX10_letter_47 rfl 0 rfl ?_
      refine z_getI (pc := 48) C fl_X10_75 dX10_letter_48 (by first | rfl | assumption) (by omega) (fun g48 => ?_)
      refine z_iret (pc := 51) C dX10_letter_51 ?_
      have v12 : m44 108 12 = (m : Int) + 1 := by rw [em44, zU_at]
      refine ⟨_, rfl, by omega, by rw [if_pos (by omega), if_neg (by omega)]; exact v12, Or.inl ⟨by omega, by omega, hbd, ⟨by rw [v12]; omega, fun i hi => ?_⟩, fun o k h1 h2 => ?_⟩⟩
      · rw [em44, zU_o (by omega), em36]
        unfold zup
        by_cases e : i = m
        · rw [e, zU_at, if_pos rfl]
        · rw [zU_k e, if_neg e]; exact hgP i (by omega)
      · rw [em44, em36]; unfold zU; rw [if_neg (by omega), if_neg (by omega)]
    · refine z_bipush (pc := 23) C dX10_letter_23 (by decide +kernel) ?_
      refine z_iret (pc := 25) C dX10_letter_25 ?_
      exact ⟨_, rfl, by omega, by rw [if_pos (by omega), if_pos (by omega)], Or.inr ⟨by omega, rfl⟩⟩
  · refine z_bipush (pc := 11) C dX10_letter_11 (by decide +kernel) ?_
    refine z_iret (pc := 13) C dX10_letter_13 ?_
    exact ⟨_, rfl, by omega, by rw [if_neg (by omega)], Or.inr ⟨by omega, rfl⟩⟩
set_option maxHeartbeats 4000000 in
set_option maxRecDepth 100000 in
theorem c_X10_blank (l : Launch) (G : zGt) (σ : zMem) (m : Nat) (P : Nat → Int) (hg : zMg σ m P) (hpr : zPr0 P) (hm : m ≤ 26) : zN l G yX10_blank cX10_blank 2 (some .int) 0 [.ref (zB G + 108)] σ (zPi (fun x τ => x = m ∧ τ = zU σ 108 12 0)) := by
  obtain ⟨hg1, hgP⟩ := id hg
  have l115 : zl 115 = 26 := by decide
  refine zM.of (lv0 := [(0, _)]) (by decide) (Nat.le_of_ble_eq_true rfl) rfl (fun X C => ?_)
  refine z_aload_n (pc := 0) C dX10_blank_0 rfl 0 rfl ?_
  refine z_getI (pc := 1) C fl_X10_75 dX10_blank_1 (by first | rfl | assumption) (by omega) (fun g1 => ?_)
  refine z_istore_n (pc := 4) (lv' := [(1, _), (0, _)]) C dX10_blank_4 rfl (by decide) rfl ?_
  refine z_aload_n (pc := 5) C dX10_blank_5 rfl 1 rfl ?_
  refine z_iconst (pc := 6) C dX10_blank_6 ?_
  refine z_putIe (pc := 7) C fl_X10_75 dX10_blank_7 (by first | rfl | assumption) (by omega) (by omega) (fun m7 em7 => ?_)
  refine z_iload_n (pc := 10) C dX10_blank_10 rfl 0 rfl ?_
  refine z_iret (pc := 11) C dX10_blank_11 ?_
  exact ⟨_, rfl, by omega, by rw [hg1], em7⟩
set_option maxHeartbeats 4000000 in
set_option maxRecDepth 100000 in
theorem c_X10_at (l : Launch) (G : zGt) (σ : zMem) (m : Nat) (P : Nat → Int) (hg : zMg σ m P) (hpr : zPr0 P) (hm : m ≤ 26) (k : Nat) (p : Int) (hp : p = k) (hk : k < 1000) : zN l G yX10_at cX10_at 2 (some .int) 0 [.ref (zB G + 108), .int (zI p)] σ (zPi (fun x τ => x = zat P m k ∧ σ = τ)) := by
  obtain ⟨hg1, hgP⟩ := id hg
  have l115 : zl 115 = 26 := by decide
  subst hp
  refine zM.of (lv0 := [(0, _), (1, _)]) (by decide) (Nat.le_of_ble_eq_true rfl) rfl (fun X C => ?_)
  refine z_iload_n (pc := 0) C dX10_at_0 rfl 1 rfl ?_
  refine z_aload_n (pc := 1) C dX10_at_1 rfl 0 rfl ?_
  refine z_getI (pc := 2) C fl_X10_75 dX10_at_2 (by first | rfl | assumption) (by omega) (fun g2 => ?_)
  refine z_icmp_ge (pc := 5) (tgt := 17) C dX10_at_5 (by decide) ⟨by omega, by omega⟩ (fun c5 => ?_) (fun c5 => ?_)
  · refine z_iconst (pc := 17) C dX10_at_17 ?_
    refine z_iret (pc := 18) C dX10_at_18 ?_
    have hz := zat_bd hpr m k
    first
      | exact ⟨_, rfl, by omega, by rw [zat, if_pos (by omega)]; exact hgP k (by omega), rfl⟩
      | exact ⟨_, rfl, by omega, by rw [zat, if_neg (by omega)], rfl⟩
  · refine z_aload_n (pc := 8) C dX10_at_8 rfl 0 rfl ?_
    refine z_getR (pc := 9) C (115) fl_X10_28 dX10_at_9 (by first | rfl | assumption) (by omega) rfl (Or.inl rfl) ?_
    refine z_iload_n (pc := 12) C dX10_at_12 rfl 1 rfl ?_
    refine z_baload (pc := 13) C (k) dX10_at_13 (by first | rfl | assumption) (by omega) rfl (by omega) (fun g13 => ?_)
    refine z_goto (pc := 14) (tgt := 18) C dX10_at_14 (by decide) ?_
    refine z_iret (pc := 18) C dX10_at_18 ?_
    have hz := zat_bd hpr m k
    first
      | exact ⟨_, rfl, by omega, by rw [zat, if_pos (by omega)]; exact hgP k (by omega), rfl⟩
      | exact ⟨_, rfl, by omega, by rw [zat, if_neg (by omega)], rfl⟩
set_option maxHeartbeats 4000000 in
set_option maxRecDepth 100000 in
theorem c_X10_isFigure (l : Launch) (G : zGt) (σ : zMem) (m : Nat) (P : Nat → Int) (hg : zMg σ m P) (hpr : zPr0 P) (hm : m ≤ 26) (k : Nat) (p : Int) (hp : p = k) (hk : k < 1000) : zN l G yX10_isFigure cX10_isFigure 2 (some .boolean) 1 [.ref (zB G + 108), .int (zI p)] σ (zPi (fun x τ => ((x = 1 ∧ (48 ≤ zat P m k ∧ zat P m k ≤ 57)) ∨ (x = 0 ∧ ¬ (48 ≤ zat P m k ∧ zat P m k ≤ 57))) ∧ σ = τ)) := by
  obtain ⟨hg1, hgP⟩ := id hg
  have l115 : zl 115 = 26 := by decide
  subst hp
  have hz := zat_bd hpr m k
  refine zM.of (lv0 := [(0, _), (1, _)]) (by decide) (Nat.le_of_ble_eq_true rfl) rfl (fun X C => ?_)
  refine z_aload_n (pc := 0) C dX10_isFigure_0 rfl 0 rfl ?_
  refine z_iload_n (pc := 1) C dX10_isFigure_1 rfl 1 rfl ?_
  refine z_Vi (pc := 2) C (c_X10_at l G _ _ _ (by first | assumption | omega | decide) (by first | assumption | omega | decide) (by first | assumption | omega | decide) (k) _ (rfl) (by first | assumption | omega | decide)) ml_X10_79 yw_X10_at dX10_isFigure_2 (by first | rfl | assumption) (by omega) rfl rfl rfl (Nat.le_of_ble_eq_true rfl) ⟨by decide, by decide⟩ (fun r2 t2 h2 q2 => ?_)
  obtain ⟨rfl, rfl⟩ := q2
  refine z_bipush (pc := 5) C dX10_isFigure_5 (by decide +kernel) ?_
  refine z_isub (pc := 7) C dX10_isFigure_7 ?_
  refine z_iconst (pc := 8) C dX10_isFigure_8 ?_
  refine z_bipush (pc := 9) C dX10_isFigure_9 (by decide +kernel) ?_
  refine z_Si (pc := 11) C (c_X10_within l G _ _ _ _ (by first | assumption | omega | decide) (by first | assumption | omega | decide) (by first | assumption | omega | decide)) ml_X10_71 ys_X10_within dX10_isFigure_11 rfl rfl (Nat.le_of_ble_eq_true rfl) ⟨by decide, by decide⟩ (fun r11 t11 h11 q11 => ?_)
  obtain ⟨w11, rfl⟩ := q11
  refine z_zret (pc := 14) C dX10_isFigure_14 (by omega) ?_
  exact ⟨_, rfl, by omega, by omega, rfl⟩
