/-! what was seen, by the model -/
def zMs (σ : zMem) (c : Nat) (A Y Q : Nat → Int) : Prop := σ 108 8 = c ∧ ∀ i, i < c → σ 112 i = A i ∧ σ 113 i = Y i ∧ σ 114 i = Q i
theorem zMs.fr {σ τ : zMem} {c : Nat} {A Y Q : Nat → Int} (h : zMs σ c A Y Q) (hf : ∀ o k, (o = 108 ∧ k = 8) ∨ o = 112 ∨ o = 113 ∨ o = 114 → τ o k = σ o k) : zMs τ c A Y Q :=
  ⟨(hf _ _ (by omega)).trans h.1, fun i hi => by rw [hf 112 i (by omega), hf 113 i (by omega), hf 114 i (by omega)]; exact h.2 i hi⟩
theorem zMs.kp {σ τ : zMem} {c : Nat} {A Y Q : Nat → Int} (h : zMs σ c A Y Q) (hf : zKp σ τ) : zMs τ c A Y Q := h.fr fun o k hk => hf o k (by omega)
/-- where only sameBy changes -/
def zKr (σ τ : zMem) : Prop := ∀ o k, o ≠ 122 → τ o k = σ o k
theorem zKr.rf {σ : zMem} : zKr σ σ := fun _ _ _ => rfl
theorem zKr.tr {σ τ υ : zMem} (h : zKr σ τ) (h2 : zKr τ υ) : zKr σ υ := fun o k a => (h2 o k a).trans (h o k a)
theorem zKr.kp {σ τ : zMem} (h : zKr σ τ) : zKp σ τ := fun o k hk => h o k (by omega)
theorem zKr.ml {σ τ : zMem} {n : Nat} {y : Int} {K R V E : Nat → Int} (h : zKr σ τ) (h2 : zMl σ n y K R V E) : zMl τ n y K R V E := h2.fr fun o k ho => h o k (by omega)
theorem zKr.ms {σ τ : zMem} {c : Nat} {A Y Q : Nat → Int} (h : zKr σ τ) (h2 : zMs σ c A Y Q) : zMs τ c A Y Q := h2.fr fun o k hk => h o k (by omega)
theorem zbs_z {p : Nat → Int} (hp : ∀ i, 0 ≤ p i ∧ p i ≤ 1) : ∀ n, zbs p n = 0 → ∀ i, i < n → p i = 0 := by
  intro n h i hi
  have := zbs_bit hp n i hi
  rw [h] at this
  have h2 : (0 : Int) / 2 ^ i % 2 = 0 := by rw [Int.zero_ediv]; rfl
  omega
theorem zpw10 : ∀ v : Nat, v ≤ 10 → (2 : Int) ^ v ≤ 1024 := by decide +kernel
set_option maxHeartbeats 4000000 in
set_option maxRecDepth 100000 in
theorem c_X10_see (l : Launch) (G : zGt) (σ : zMem) (n : Nat) (h1 : σ 108 1 = n) (hn : n ≤ 6) (c : Nat) (A Y Q : Nat → Int) (hs : zMs σ c A Y Q) (hsr : zSr A Y Q) (hc : c ≤ 6) (p q x : Int) (hp : zR p) (hq : zR q) (hx : zR x) : zN l G yX10_see cX10_see 4 (some .int) 2 [.ref (zB G + 108), .int (zI p), .int (zI q), .int (zI x)] σ (zPi (fun z τ => (z = if 0 ≤ p ∧ p < n then (if (1 ≤ q ∧ q ≤ 9) ∧ 0 ≤ x ∧ x ≤ 20 then (if 6 ≤ c then -104 else (c : Int) + 1) else -102) else -101) ∧ (((0 ≤ p ∧ p < n) ∧ (1 ≤ q ∧ q ≤ 9) ∧ (0 ≤ x ∧ x ≤ 20) ∧ c < 6 ∧ zMs τ (c + 1) (zup A c p) (zup Y c q) (zup Q c x) ∧ ∀ o k, o ≠ 112 → o ≠ 113 → o ≠ 114 → (o ≠ 108 ∨ k ≠ 8) → τ o k = σ o k) ∨ (¬ ((0 ≤ p ∧ p < n) ∧ (1 ≤ q ∧ q ≤ 9) ∧ (0 ≤ x ∧ x ≤ 20) ∧ c < 6) ∧ σ = τ)))) := by
  obtain ⟨d8, dA⟩ := id hs
  have l112 : zl 112 = 6 := by decide
  have l113 : zl 113 = 6 := by decide
  have l114 : zl 114 = 6 := by decide
  refine zM.of (lv0 := [(0, _), (1, _), (2, _), (3, _)]) (by decide) (Nat.le_of_ble_eq_true rfl) rfl (fun X C => ?_)
  refine z_aload_n (pc := 0) C dX10_see_0 rfl 0 rfl ?_
  refine z_iload_n (pc := 1) C dX10_see_1 rfl 1 rfl ?_
  refine z_Vi (pc := 2) C (c_X10_isHouse l G _ n _ h1 (by omega) hn) ml_X10_149 yw_X10_isHouse dX10_see_2 (by first | rfl | assumption) (by omega) rfl rfl rfl (Nat.le_of_ble_eq_true rfl) ⟨by decide, by decide⟩ (fun r2 t2 h2 q2 => ?_)
  obtain ⟨w2, rfl⟩ := q2
  refine z_if_ne (pc := 5) (tgt := 11) C dX10_see_5 (by decide) (by omega) (fun c5 => ?_) (fun c5 => ?_)
  · refine z_iload_n (pc := 11) C dX10_see_11 rfl 2 rfl ?_
    refine z_iconst (pc := 12) C dX10_see_12 ?_
    refine z_bipush (pc := 13) C dX10_see_13 (by decide +kernel) ?_
    refine z_Si (pc := 15) C (c_X10_within l G _ _ _ _ (by first | assumption | omega | decide) (by first | assumption | omega | decide) (by first | assumption | omega | decide)) ml_X10_71 ys_X10_within dX10_see_15 rfl rfl (Nat.le_of_ble_eq_true rfl) ⟨by decide, by decide⟩ (fun r15 t15 h15 q15 => ?_)
    obtain ⟨w15, rfl⟩ := q15
    refine z_if_eq (pc := 18) (tgt := 31) C dX10_see_18 (by decide) (by omega) (fun c18 => ?_) (fun c18 => ?_)
    · refine z_bipush (pc := 31) C dX10_see_31 (by decide +kernel) ?_
      refine z_iret (pc := 33) C dX10_see_33 ?_
      exact ⟨_, rfl, by omega, by rw [if_pos (by omega), if_neg (by omega)], Or.inr ⟨by omega, rfl⟩⟩
    · refine z_iload_n (pc := 21) C dX10_see_21 rfl 3 rfl ?_
      refine z_iconst (pc := 22) C dX10_see_22 ?_
      refine z_bipush (pc := 23) C dX10_see_23 (by decide +kernel) ?_
      refine z_Si (pc := 25) C (c_X10_within l G _ _ _ _ (by first | assumption | omega | decide) (by first | assumption | omega | decide) (by first | assumption | omega | decide)) ml_X10_71 ys_X10_within dX10_see_25 rfl rfl (Nat.le_of_ble_eq_true rfl) ⟨by decide, by decide⟩ (fun r25 t25 h25 q25 => ?_)
      obtain ⟨w25, rfl⟩ := q25
      refine z_if_ne (pc := 28) (tgt := 34) C dX10_see_28 (by decide) (by omega) (fun c28 => ?_) (fun c28 => ?_)
      · refine z_aload_n (pc := 34) C dX10_see_34 rfl 0 rfl ?_
        refine z_getI (pc := 35) C fl_X10_116 dX10_see_35 (by first | rfl | assumption) (by omega) (fun g35 => ?_)
        refine z_bipush (pc := 38) C dX10_see_38 (by decide +kernel) ?_
        refine z_icmp_ne (pc := 40) (tgt := 46) C dX10_see_40 (by decide) ⟨by omega, by omega⟩ (fun c40 => ?_) (fun c40 => ?_)
        · refine z_aload_n (pc := 46) C dX10_see_46 rfl 0 rfl ?_
          refine z_getR (pc := 47) C (112) fl_X10_19 dX10_see_47 (by first | rfl | assumption) (by omega) rfl (Or.inl rfl) ?_
          refine z_aload_n (pc := 50) C dX10_see_50 rfl 0 rfl ?_
          refine z_getI (pc := 51) C fl_X10_116 dX10_see_51 (by first | rfl | assumption) (by omega) (fun g51 => ?_)
          refine z_iload_n (pc := 54) C dX10_see_54 rfl 1 rfl ?_
          refine z_iastoree (pc := 55) C (c) dX10_see_55 (by first | rfl | assumption) (by omega) d8 (by omega) (by omega) (fun m55 em55 => ?_)
          refine z_aload_n (pc := 56) C dX10_see_56 rfl 0 rfl ?_
          refine z_getR (pc := 57) C (113) fl_X10_22 dX10_see_57 (by first | rfl | assumption) (by omega) rfl (Or.inl rfl) ?_
          refine z_aload_n (pc := 60) C dX10_see_60 rfl 0 rfl ?_
          refine z_getI (pc := 61) C fl_X10_116 dX10_see_61 (by first | rfl | assumption) (by omega) (fun g61 => ?_)
          refine z_iload_n (pc := 64) C dX10_see_64 rfl 2 rfl ?_
          refine z_iastoree (pc := 65) C (c) dX10_see_65 (by first | rfl | assumption) (by omega) (by rw [em55, zU_o (by omega)]; exact d8) (by omega) (by omega) (fun m65 em65 => ?_)
          refine z_aload_n (pc := 66) C dX10_see_66 rfl 0 rfl ?_
          refine z_getR (pc := 67) C (114) fl_X10_25 dX10_see_67 (by first | rfl | assumption) (by omega) rfl (Or.inl rfl) ?_
          refine z_aload_n (pc := 70) C dX10_see_70 rfl 0 rfl ?_
          refine z_getI (pc := 71) C fl_X10_116 dX10_see_71 (by first | rfl | assumption) (by omega) (fun g71 => ?_)
          refine z_iload_n (pc := 74) C dX10_see_74 rfl 3 rfl ?_
          refine z_iastoree (pc := 75) C (c) dX10_see_75 (by first | rfl | assumption) (by omega) (by rw [em65, zU_o (by omega), em55, zU_o (by omega)]; exact d8) (by omega) (by omega) (fun m75 em75 => ?_)
          have e8 : m75 108 8 = c := by rw [em75, zU_o (by omega), em65, zU_o (by omega), em55, zU_o (by omega)]; exact d8
          refine z_aload_n (pc := 76) C dX10_see_76 rfl 0 rfl ?_
          refine z_dup (pc := 77) C dX10_see_77 rfl ?_
          refine z_getI (pc := 78) C fl_X10_116 dX10_see_78 (by first | rfl | assumption) (by omega) (fun g78 => ?_)
          refine z_iconst (pc := 81) C dX10_see_81 ?_
          refine z_iadd (pc := 82) C dX10_see_82 ?_
          refine z_putIe (pc := 83) C fl_X10_116 dX10_see_83 (by first | rfl | assumption) (by omega) (by omega) (fun m83 em83 => ?_)
          refine z_aload_n (pc := 86) C dX10_see_86 rfl 0 rfl ?_
          refine z_getI (pc := 87) C fl_X10_116 dX10_see_87 (by first | rfl | assumption) (by omega) (fun g87 => ?_)
          refine z_iret (pc := 90) C dX10_see_90 ?_
          have e83 : m83 108 8 = (c : Int) + 1 := by rw [em83, zU_at, e8]
          have hu : ∀ (a : Nat → Int) (v : Int) j, j < c → zup a c v j = a j := fun a v j hj => by unfold zup; rw [if_neg (by omega)]
          have hu2 : ∀ (a : Nat → Int) (v : Int), zup a c v c = v := fun a v => by unfold zup; rw [if_pos rfl]
          have hcell : ∀ j, j < c + 1 → m83 112 j = zup A c p j ∧ m83 113 j = zup Y c q j ∧ m83 114 j = zup Q c x j := by
            intro j hj
            refine ⟨?_, ?_, ?_⟩
            · rw [em83, zU_o (by omega), em75, zU_o (by omega), em65, zU_o (by omega), em55]
              by_cases e : j = c
              · rw [e, zU_at, hu2]
              · rw [zU_k e, hu _ _ _ (by omega)]; exact (dA j (by omega)).1
            · rw [em83, zU_o (by omega), em75, zU_o (by omega), em65]
              by_cases e : j = c
              · rw [e, zU_at, hu2]
              · rw [zU_k e, hu _ _ _ (by omega), em55, zU_o (by omega)]; exact (dA j (by omega)).2.1
            · rw [em83, zU_o (by omega), em75]
              by_cases e : j = c
              · rw [e, zU_at, hu2]
              · rw [zU_k e, hu _ _ _ (by omega), em65, zU_o (by omega), em55, zU_o (by omega)]; exact (dA j (by omega)).2.2
          refine ⟨_, rfl, by omega, by rw [if_pos (by omega), if_pos (by omega), if_neg (by omega)]; exact e83, Or.inl ⟨by omega, by omega, by omega, by omega, ⟨by omega, hcell⟩, fun o k a b c0 d => ?_⟩⟩
          rw [em83, em75, em65, em55]
          unfold zU
          rw [if_neg (by omega), if_neg (by omega), if_neg (by omega), if_neg (by omega)]
        · refine z_bipush (pc := 43) C dX10_see_43 (by decide +kernel) ?_
          refine z_iret (pc := 45) C dX10_see_45 ?_
          exact ⟨_, rfl, by omega, by rw [if_pos (by omega), if_pos (by omega), if_pos (by omega)], Or.inr ⟨by omega, rfl⟩⟩
      · refine z_bipush (pc := 31) C dX10_see_31 (by decide +kernel) ?_
        refine z_iret (pc := 33) C dX10_see_33 ?_
        exact ⟨_, rfl, by omega, by rw [if_pos (by omega), if_neg (by omega)], Or.inr ⟨by omega, rfl⟩⟩
  · refine z_bipush (pc := 8) C dX10_see_8 (by decide +kernel) ?_
    refine z_iret (pc := 10) C dX10_see_10 ?_
    exact ⟨_, rfl, by omega, by rw [if_neg (by omega)], Or.inr ⟨by omega, rfl⟩⟩
set_option maxHeartbeats 4000000 in
set_option maxRecDepth 100000 in
theorem c_X10_forget (l : Launch) (G : zGt) (σ : zMem) (c : Nat) (h8 : σ 108 8 = c) (hc : c ≤ 6) : zN l G yX10_forget cX10_forget 2 (some .int) 0 [.ref (zB G + 108)] σ (zPi (fun x τ => x = c ∧ τ = zU σ 108 8 0)) := by
  refine zM.of (lv0 := [(0, _)]) (by decide) (Nat.le_of_ble_eq_true rfl) rfl (fun X C => ?_)
  refine z_aload_n (pc := 0) C dX10_forget_0 rfl 0 rfl ?_
  refine z_getI (pc := 1) C fl_X10_116 dX10_forget_1 (by first | rfl | assumption) (by omega) (fun g1 => ?_)
  refine z_istore_n (pc := 4) (lv' := [(1, _), (0, _)]) C dX10_forget_4 rfl (by decide) rfl ?_
  refine z_aload_n (pc := 5) C dX10_forget_5 rfl 1 rfl ?_
  refine z_iconst (pc := 6) C dX10_forget_6 ?_
  refine z_putIe (pc := 7) C fl_X10_116 dX10_forget_7 (by first | rfl | assumption) (by omega) (by omega) (fun m7 em7 => ?_)
  refine z_iload_n (pc := 10) C dX10_forget_10 rfl 0 rfl ?_
  refine z_iret (pc := 11) C dX10_forget_11 ?_
  exact ⟨_, rfl, by omega, h8, em7⟩
set_option maxHeartbeats 4000000 in
set_option maxRecDepth 100000 in
theorem c_X10_reedBehind (l : Launch) (G : zGt) (σ : zMem) (n : Nat) (y : Int) (K R V E : Nat → Int) (h : zMl σ n y K R V E) (hr : zLr K R V E) (hn : n ≤ 6) (i t : Nat) (p v q : Int) (hp : p = i) (hq : q = t) (hi : i < n) (ht : t ≤ 9) (hv : 0 ≤ v ∧ v ≤ 9) (hy : 0 ≤ y ∧ y ≤ 90000) : zN l G yX10_reedBehind cX10_reedBehind 6 (some .int) 2 [.ref (zB G + 108), .int (zI p), .int (zI v), .int (zI q)] σ (zPi (fun x τ => x = zbh (K i) (R i) v (E i) y t ∧ σ = τ)) := by
  obtain ⟨s1, s6, s5, sA⟩ := id h
  have l109 : zl 109 = 6 := by decide
  have l110 : zl 110 = 6 := by decide
  have l111 : zl 111 = 6 := by decide
  have hE : ∀ j, 0 ≤ E j ∧ E j ≤ 1 := fun j => (hr j).2.2.2
  have hb5 := zbs_bd hE n
  have hq6 := zpow6 n hn
  subst hp
  subst hq
  have hri := hr i
  have hA := sA i hi
  have hEi := hE i
  refine zM.of (lv0 := [(0, _), (1, _), (2, _), (3, _)]) (by decide) (Nat.le_of_ble_eq_true rfl) rfl (fun X C => ?_)
  have L11 : ∀ (fuel : Nat) (k : Nat), t - k < fuel → (k ≤ t) → zg G X true 6 129 0 0 11 [(0, .ref (zB G + 108)), (1, .int (zI (i : Int))), (2, .int (zI v)), (3, .int (zI (t : Int))), (4, .int (zI (zbh (K i) (R i) v (E i) y k))), (5, .int (zI (k : Int)))] [] σ := by
    intro fuel
    induction fuel with
    | zero => intro k hm; exact absurd hm (Nat.not_lt_zero _)
    | succ fuel ih =>
      intro k hms h1
      have hz := zbh_bd (k := K i) (v := v) (e := E i) (y := y) hri.2.1 k
      refine z_iload (pc := 11) C dX10_reedBehind_11 5 rfl ?_
      refine z_iload_n (pc := 13) C dX10_reedBehind_13 rfl 3 rfl ?_
      refine z_icmp_ge (pc := 14) (tgt := 67) C dX10_reedBehind_14 (by decide) ⟨by omega, by omega⟩ (fun c14 => ?_) (fun c14 => ?_)
      · refine z_iload (pc := 67) C dX10_reedBehind_67 4 rfl ?_
        refine z_iret (pc := 69) C dX10_reedBehind_69 ?_
        obtain rfl : k = t := by omega
        exact ⟨_, rfl, by omega, rfl, rfl⟩
      · refine z_aload_n (pc := 17) C dX10_reedBehind_17 rfl 0 rfl ?_
        refine z_getR (pc := 18) C (109) fl_X10_7 dX10_reedBehind_18 (by first | rfl | assumption) (by omega) rfl (Or.inl rfl) ?_
        refine z_iload_n (pc := 21) C dX10_reedBehind_21 rfl 1 rfl ?_
        refine z_iaload (pc := 22) C (i) dX10_reedBehind_22 (by first | rfl | assumption) (by omega) rfl (by omega) (fun g22 => ?_)
        rw [hA.1]
        refine z_iload (pc := 23) C dX10_reedBehind_23 4 rfl ?_
        refine z_iload_n (pc := 25) C dX10_reedBehind_25 rfl 2 rfl ?_
        refine z_iload (pc := 26) C dX10_reedBehind_26 5 rfl ?_
        refine z_if_ne (pc := 28) (tgt := 46) C dX10_reedBehind_28 (by decide) (by omega) (fun c28 => ?_) (fun c28 => ?_)
        · refine z_iconst (pc := 46) C dX10_reedBehind_46 ?_
          refine z_aload_n (pc := 47) C dX10_reedBehind_47 rfl 0 rfl ?_
          refine z_getI (pc := 48) C fl_X10_107 dX10_reedBehind_48 (by first | rfl | assumption) (by omega) (fun g48 => ?_)
          rw [s6]
          refine z_iconst (pc := 51) C dX10_reedBehind_51 ?_
          refine z_iadd (pc := 52) C dX10_reedBehind_52 ?_
          refine z_iload (pc := 53) C dX10_reedBehind_53 5 rfl ?_
          refine z_iadd (pc := 55) C dX10_reedBehind_55 ?_
          refine z_Si (pc := 56) C (c_X10_grown l G _ _ _ _ _ _ (by first | assumption | omega | decide) (by first | assumption | omega | decide) (by first | assumption | omega | decide) (by first | assumption | omega | decide) (by first | assumption | omega | decide)) ml_X10_126 ys_X10_grown dX10_reedBehind_56 rfl rfl (Nat.le_of_ble_eq_true rfl) ⟨by decide, by decide⟩ (fun r56 t56 h56 q56 => ?_)
          obtain ⟨e56, rfl⟩ := q56
          obtain rfl : r56 = zbh (K i) (R i) v (E i) y (k + 1) := by
            rw [e56, zbh, show y + 1 + (k : Int) = y + ((k : Int) + 1) by omega]
            first
              | rw [if_neg (by omega)]
              | (rw [if_pos (by omega)]; exact congrArg (fun z => zgr (K i) (zbh (K i) (R i) v (E i) y k) v z (y + ((k : Int) + 1))) (by omega))
          refine z_istore (pc := 59) (lv' := [(4, _), (0, _), (1, _), (2, _), (3, _), (5, _)]) C dX10_reedBehind_59 (by decide) rfl ?_
          refine z_iinc (pc := 61) (lv' := [(5, _), (4, _), (0, _), (1, _), (2, _), (3, _)]) C dX10_reedBehind_61 5 rfl (by decide) rfl ?_
          refine z_goto (pc := 64) (tgt := 11) C dX10_reedBehind_64 (by decide) ?_
          refine z_sub C [2, 3, 4, 5, 1, 0] rfl ?_
          exact ih (k + 1) (by omega) (by omega)
        · refine z_aload_n (pc := 31) C dX10_reedBehind_31 rfl 0 rfl ?_
          refine z_getI (pc := 32) C fl_X10_104 dX10_reedBehind_32 (by first | rfl | assumption) (by omega) (fun g32 => ?_)
          rw [s5]
          refine z_iload_n (pc := 35) C dX10_reedBehind_35 rfl 1 rfl ?_
          refine z_Si (pc := 36) C (c_isInV l G _ _ (E i) i _ rfl (by omega) (by omega) (zbs_bit hE n i hi)) ml_X10_122 ys_X10_isIn dX10_reedBehind_36 rfl rfl (Nat.le_of_ble_eq_true rfl) ⟨by decide, by decide⟩ (fun r36 t36 h36 q36 => ?_)
          obtain ⟨rfl, rfl⟩ := q36
          refine z_if_eq (pc := 39) (tgt := 46) C dX10_reedBehind_39 (by decide) (by omega) (fun c39 => ?_) (fun c39 => ?_)
          · refine z_iconst (pc := 46) C dX10_reedBehind_46 ?_
            refine z_aload_n (pc := 47) C dX10_reedBehind_47 rfl 0 rfl ?_
            refine z_getI (pc := 48) C fl_X10_107 dX10_reedBehind_48 (by first | rfl | assumption) (by omega) (fun g48 => ?_)
            rw [s6]
            refine z_iconst (pc := 51) C dX10_reedBehind_51 ?_
            refine z_iadd (pc := 52) C dX10_reedBehind_52 ?_
            refine z_iload (pc := 53) C dX10_reedBehind_53 5 rfl ?_
            refine z_iadd (pc := 55) C dX10_reedBehind_55 ?_
            refine z_Si (pc := 56) C (c_X10_grown l G _ _ _ _ _ _ (by first | assumption | omega | decide) (by first | assumption | omega | decide) (by first | assumption | omega | decide) (by first | assumption | omega | decide) (by first | assumption | omega | decide)) ml_X10_126 ys_X10_grown dX10_reedBehind_56 rfl rfl (Nat.le_of_ble_eq_true rfl) ⟨by decide, by decide⟩ (fun r56 t56 h56 q56 => ?_)
            obtain ⟨e56, rfl⟩ := q56
            obtain rfl : r56 = zbh (K i) (R i) v (E i) y (k + 1) := by
              rw [e56, zbh, show y + 1 + (k : Int) = y + ((k : Int) + 1) by omega]
              first
                | rw [if_neg (by omega)]
                | (rw [if_pos (by omega)]; exact congrArg (fun z => zgr (K i) (zbh (K i) (R i) v (E i) y k) v z (y + ((k : Int) + 1))) (by omega))
            refine z_istore (pc := 59) (lv' := [(4, _), (0, _), (1, _), (2, _), (3, _), (5, _)]) C dX10_reedBehind_59 (by decide) rfl ?_
            refine z_iinc (pc := 61) (lv' := [(5, _), (4, _), (0, _), (1, _), (2, _), (3, _)]) C dX10_reedBehind_61 5 rfl (by decide) rfl ?_
            refine z_goto (pc := 64) (tgt := 11) C dX10_reedBehind_64 (by decide) ?_
            refine z_sub C [2, 3, 4, 5, 1, 0] rfl ?_
            exact ih (k + 1) (by omega) (by omega)
          · refine z_iconst (pc := 42) C dX10_reedBehind_42 ?_
            refine z_goto (pc := 43) (tgt := 47) C dX10_reedBehind_43 (by decide) ?_
            refine z_aload_n (pc := 47) C dX10_reedBehind_47 rfl 0 rfl ?_
            refine z_getI (pc := 48) C fl_X10_107 dX10_reedBehind_48 (by first | rfl | assumption) (by omega) (fun g48 => ?_)
            rw [s6]
            refine z_iconst (pc := 51) C dX10_reedBehind_51 ?_
            refine z_iadd (pc := 52) C dX10_reedBehind_52 ?_
            refine z_iload (pc := 53) C dX10_reedBehind_53 5 rfl ?_
            refine z_iadd (pc := 55) C dX10_reedBehind_55 ?_
            refine z_Si (pc := 56) C (c_X10_grown l G _ _ _ _ _ _ (by first | assumption | omega | decide) (by first | assumption | omega | decide) (by first | assumption | omega | decide) (by first | assumption | omega | decide) (by first | assumption | omega | decide)) ml_X10_126 ys_X10_grown dX10_reedBehind_56 rfl rfl (Nat.le_of_ble_eq_true rfl) ⟨by decide, by decide⟩ (fun r56 t56 h56 q56 => ?_)
            obtain ⟨e56, rfl⟩ := q56
            obtain rfl : r56 = zbh (K i) (R i) v (E i) y (k + 1) := by
              rw [e56, zbh, show y + 1 + (k : Int) = y + ((k : Int) + 1) by omega]
              first
                | rw [if_neg (by omega)]
                | (rw [if_pos (by omega)]; exact congrArg (fun z => zgr (K i) (zbh (K i) (R i) v (E i) y k) v z (y + ((k : Int) + 1))) (by omega))
            refine z_istore (pc := 59) (lv' := [(4, _), (0, _), (1, _), (2, _), (3, _), (5, _)]) C dX10_reedBehind_59 (by decide) rfl ?_
            refine z_iinc (pc := 61) (lv' := [(5, _), (4, _), (0, _), (1, _), (2, _), (3, _)]) C dX10_reedBehind_61 5 rfl (by decide) rfl ?_
            refine z_goto (pc := 64) (tgt := 11) C dX10_reedBehind_64 (by decide) ?_
            refine z_sub C [2, 3, 4, 5, 1, 0] rfl ?_
            exact ih (k + 1) (by omega) (by omega)
  refine z_aload_n (pc := 0) C dX10_reedBehind_0 rfl 0 rfl ?_
  refine z_getR (pc := 1) C (110) fl_X10_13 dX10_reedBehind_1 (by first | rfl | assumption) (by omega) rfl (Or.inl rfl) ?_
  refine z_iload_n (pc := 4) C dX10_reedBehind_4 rfl 1 rfl ?_
  refine z_iaload (pc := 5) C (i) dX10_reedBehind_5 (by first | rfl | assumption) (by omega) rfl (by omega) (fun g5 => ?_)
  rw [hA.2.1]
  refine z_istore (pc := 6) (lv' := [(4, _), (0, _), (1, _), (2, _), (3, _)]) C dX10_reedBehind_6 (by decide) rfl ?_
  refine z_iconst (pc := 8) C dX10_reedBehind_8 ?_
  refine z_istore (pc := 9) (lv' := [(5, _), (4, _), (0, _), (1, _), (2, _), (3, _)]) C dX10_reedBehind_9 (by decide) rfl ?_
  refine z_sub C [2, 3, 4, 5, 1, 0] rfl ?_
  exact L11 _ 0 (Nat.lt_succ_self _) (by omega)
set_option maxHeartbeats 4000000 in
set_option maxRecDepth 100000 in
theorem c_X10_worriesOf (l : Launch) (G : zGt) (σ : zMem) (n : Nat) (y : Int) (K R V E : Nat → Int) (h : zMl σ n y K R V E) (hr : zLr K R V E) (hn : n ≤ 6) (c : Nat) (A Y Q : Nat → Int) (hs : zMs σ c A Y Q) (hsr : zSr A Y Q) (hc : c ≤ 6) (i : Nat) (p : Int) (hp : p = i) (hi : i < n) (hy : 0 ≤ y ∧ y ≤ 90000) : zN l G yX10_worriesOf cX10_worriesOf 6 (some .int) 3 [.ref (zB G + 108), .int (zI p)] σ (zPi (fun x τ => x = zwr (K i) (R i) (E i) y A Y Q c (i : Int) ∧ σ = τ)) := by
  obtain ⟨s1, s6, s5, sA⟩ := id h
  have l109 : zl 109 = 6 := by decide
  have l110 : zl 110 = 6 := by decide
  have l111 : zl 111 = 6 := by decide
  have hE : ∀ j, 0 ≤ E j ∧ E j ≤ 1 := fun j => (hr j).2.2.2
  have hb5 := zbs_bd hE n
  have hq6 := zpow6 n hn
  obtain ⟨d8, dA⟩ := id hs
  have l112 : zl 112 = 6 := by decide
  have l113 : zl 113 = 6 := by decide
  have l114 : zl 114 = 6 := by decide
  subst hp
  have hri := hr i
  have hwf : ∀ v, 0 ≤ zwf (K i) (R i) (E i) y A Y Q c (i : Int) v ∧ zwf (K i) (R i) (E i) y A Y Q c (i : Int) v ≤ 1 := fun v => zfi_bd _ _ _ _ _ _
  refine zM.of (lv0 := [(0, _), (1, _)]) (by decide) (Nat.le_of_ble_eq_true rfl) rfl (fun X C => ?_)
  have L16 : ∀ (fuel : Nat) (v : Nat) (_ : v < 10) (_ : ∀ (b : Int), (b = zwf (K i) (R i) (E i) y A Y Q c (i : Int) v) → zg G X true 6 129 0 0 77 [(0, .ref (zB G + 108)), (1, .int (zI (i : Int))), (2, .int (zI (zbs (zwf (K i) (R i) (E i) y A Y Q c (i : Int)) v))), (3, .int (zI (v : Int))), (4, .int (zI b))] [] σ) (s : Nat) (b : Int), c - s < fuel → (s ≤ c ∧ b = zfi A Y Q (i : Int) (zbh (K i) (R i) (v : Int) (E i) y) s) → zg G X true 6 129 0 0 16 [(0, .ref (zB G + 108)), (1, .int (zI (i : Int))), (2, .int (zI (zbs (zwf (K i) (R i) (E i) y A Y Q c (i : Int)) v))), (3, .int (zI (v : Int))), (4, .int (zI b)), (5, .int (zI (s : Int)))] [] σ := by
    intro fuel
    induction fuel with
    | zero => intro v hv kk16 s b hm; exact absurd hm (Nat.not_lt_zero _)
    | succ fuel ih =>
      intro v hv kk16 s b hms hinv
      obtain ⟨j1, hbf⟩ := hinv
      refine z_iload (pc := 16) C dX10_worriesOf_16 5 rfl ?_
      refine z_aload_n (pc := 18) C dX10_worriesOf_18 rfl 0 rfl ?_
      refine z_getI (pc := 19) C fl_X10_116 dX10_worriesOf_19 (by first | rfl | assumption) (by omega) (fun g19 => ?_)
      refine z_icmp_ge (pc := 22) (tgt := 77) C dX10_worriesOf_22 (by decide) ⟨by omega, by omega⟩ (fun c22 => ?_) (fun c22 => ?_)
      · refine z_sub C [0, 1, 2, 3, 4] rfl ?_
        exact kk16 b (by rw [hbf, show s = c by omega]; rfl)
      · have hsv := dA s (by omega)
        have hsb := hsr s
        have hfb := zfi_bd A Y Q (i : Int) (zbh (K i) (R i) (v : Int) (E i) y) s
        obtain ⟨t, ht⟩ : ∃ t : Nat, Y s = t := ⟨(Y s).toNat, by omega⟩
        have hYt : (Y s).toNat = t := by omega
        refine z_iload (pc := 25) C dX10_worriesOf_25 4 rfl ?_
        refine z_if_eq (pc := 27) (tgt := 68) C dX10_worriesOf_27 (by decide) (by omega) (fun c27 => ?_) (fun c27 => ?_)
        · refine z_iconst (pc := 68) C dX10_worriesOf_68 ?_
          refine z_istore (pc := 69) (lv' := [(4, _), (0, _), (1, _), (2, _), (3, _), (5, _)]) C dX10_worriesOf_69 (by decide) rfl ?_
          refine z_iinc (pc := 71) (lv' := [(5, _), (4, _), (0, _), (1, _), (2, _), (3, _)]) C dX10_worriesOf_71 5 rfl (by decide) rfl ?_
          refine z_goto (pc := 74) (tgt := 16) C dX10_worriesOf_74 (by decide) ?_
          refine z_sub C [2, 3, 4, 5, 1, 0] rfl ?_
          first
            | exact ih v hv kk16 (s + 1) 1 (by omega) ⟨by omega, (zfi_s1 (by omega) (fun q => by rw [hYt]; omega)).symm⟩
            | exact ih v hv kk16 (s + 1) 0 (by omega) ⟨by omega, (zfi_s0 (by omega) (by rw [hYt]; omega)).symm⟩
            | exact ih v hv kk16 (s + 1) 0 (by omega) ⟨by omega, (zfi_0 (Nat.le_succ s) (by omega)).symm⟩
        · refine z_aload_n (pc := 30) C dX10_worriesOf_30 rfl 0 rfl ?_
          refine z_getR (pc := 31) C (112) fl_X10_19 dX10_worriesOf_31 (by first | rfl | assumption) (by omega) rfl (Or.inl rfl) ?_
          refine z_iload (pc := 34) C dX10_worriesOf_34 5 rfl ?_
          refine z_iaload (pc := 36) C (s) dX10_worriesOf_36 (by first | rfl | assumption) (by omega) rfl (by omega) (fun g36 => ?_)
          refine z_iload_n (pc := 37) C dX10_worriesOf_37 rfl 1 rfl ?_
          refine z_icmp_ne (pc := 38) (tgt := 64) C dX10_worriesOf_38 (by decide) ⟨by omega, by omega⟩ (fun c38 => ?_) (fun c38 => ?_)
          · refine z_iconst (pc := 64) C dX10_worriesOf_64 ?_
            refine z_goto (pc := 65) (tgt := 69) C dX10_worriesOf_65 (by decide) ?_
            refine z_istore (pc := 69) (lv' := [(4, _), (0, _), (1, _), (2, _), (3, _), (5, _)]) C dX10_worriesOf_69 (by decide) rfl ?_
            refine z_iinc (pc := 71) (lv' := [(5, _), (4, _), (0, _), (1, _), (2, _), (3, _)]) C dX10_worriesOf_71 5 rfl (by decide) rfl ?_
            refine z_goto (pc := 74) (tgt := 16) C dX10_worriesOf_74 (by decide) ?_
            refine z_sub C [2, 3, 4, 5, 1, 0] rfl ?_
            first
              | exact ih v hv kk16 (s + 1) 1 (by omega) ⟨by omega, (zfi_s1 (by omega) (fun q => by rw [hYt]; omega)).symm⟩
              | exact ih v hv kk16 (s + 1) 0 (by omega) ⟨by omega, (zfi_s0 (by omega) (by rw [hYt]; omega)).symm⟩
              | exact ih v hv kk16 (s + 1) 0 (by omega) ⟨by omega, (zfi_0 (Nat.le_succ s) (by omega)).symm⟩
          · refine z_aload_n (pc := 41) C dX10_worriesOf_41 rfl 0 rfl ?_
            refine z_iload_n (pc := 42) C dX10_worriesOf_42 rfl 1 rfl ?_
            refine z_iload_n (pc := 43) C dX10_worriesOf_43 rfl 3 rfl ?_
            refine z_aload_n (pc := 44) C dX10_worriesOf_44 rfl 0 rfl ?_
            refine z_getR (pc := 45) C (113) fl_X10_22 dX10_worriesOf_45 (by first | rfl | assumption) (by omega) rfl (Or.inl rfl) ?_
            refine z_iload (pc := 48) C dX10_worriesOf_48 5 rfl ?_
            refine z_iaload (pc := 50) C (s) dX10_worriesOf_50 (by first | rfl | assumption) (by omega) rfl (by omega) (fun g50 => ?_)
            rw [hsv.2.1]
            refine z_Vi (pc := 51) C (c_X10_reedBehind l G _ n y K R V E h hr hn i t _ (v : Int) _ rfl ht hi (by omega) (by omega) hy) ml_X10_237 yw_X10_reedBehind dX10_worriesOf_51 (by first | rfl | assumption) (by omega) rfl rfl rfl (Nat.le_of_ble_eq_true rfl) ⟨by decide, by decide⟩ (fun r51 t51 h51 q51 => ?_)
            obtain ⟨rfl, rfl⟩ := q51
            have hzz := zbh_bd (k := K i) (v := (v : Int)) (e := E i) (y := y) hri.2.1 t
            refine z_aload_n (pc := 54) C dX10_worriesOf_54 rfl 0 rfl ?_
            refine z_getR (pc := 55) C (114) fl_X10_25 dX10_worriesOf_55 (by first | rfl | assumption) (by omega) rfl (Or.inl rfl) ?_
            refine z_iload (pc := 58) C dX10_worriesOf_58 5 rfl ?_
            refine z_iaload (pc := 60) C (s) dX10_worriesOf_60 (by first | rfl | assumption) (by omega) rfl (by omega) (fun g60 => ?_)
            refine z_icmp_ne (pc := 61) (tgt := 68) C dX10_worriesOf_61 (by decide) ⟨by omega, by omega⟩ (fun c61 => ?_) (fun c61 => ?_)
            · refine z_iconst (pc := 68) C dX10_worriesOf_68 ?_
              refine z_istore (pc := 69) (lv' := [(4, _), (0, _), (1, _), (2, _), (3, _), (5, _)]) C dX10_worriesOf_69 (by decide) rfl ?_
              refine z_iinc (pc := 71) (lv' := [(5, _), (4, _), (0, _), (1, _), (2, _), (3, _)]) C dX10_worriesOf_71 5 rfl (by decide) rfl ?_
              refine z_goto (pc := 74) (tgt := 16) C dX10_worriesOf_74 (by decide) ?_
              refine z_sub C [2, 3, 4, 5, 1, 0] rfl ?_
              first
                | exact ih v hv kk16 (s + 1) 1 (by omega) ⟨by omega, (zfi_s1 (by omega) (fun q => by rw [hYt]; omega)).symm⟩
                | exact ih v hv kk16 (s + 1) 0 (by omega) ⟨by omega, (zfi_s0 (by omega) (by rw [hYt]; omega)).symm⟩
                | exact ih v hv kk16 (s + 1) 0 (by omega) ⟨by omega, (zfi_0 (Nat.le_succ s) (by omega)).symm⟩
            · refine z_iconst (pc := 64) C dX10_worriesOf_64 ?_
              refine z_goto (pc := 65) (tgt := 69) C dX10_worriesOf_65 (by decide) ?_
              refine z_istore (pc := 69) (lv' := [(4, _), (0, _), (1, _), (2, _), (3, _), (5, _)]) C dX10_worriesOf_69 (by decide) rfl ?_
              refine z_iinc (pc := 71) (lv' := [(5, _), (4, _), (0, _), (1, _), (2, _), (3, _)]) C dX10_worriesOf_71 5 rfl (by decide) rfl ?_
              refine z_goto (pc := 74) (tgt := 16) C dX10_worriesOf_74 (by decide) ?_
              refine z_sub C [2, 3, 4, 5, 1, 0] rfl ?_
              first
                | exact ih v hv kk16 (s + 1) 1 (by omega) ⟨by omega, (zfi_s1 (by omega) (fun q => by rw [hYt]; omega)).symm⟩
                | exact ih v hv kk16 (s + 1) 0 (by omega) ⟨by omega, (zfi_s0 (by omega) (by rw [hYt]; omega)).symm⟩
                | exact ih v hv kk16 (s + 1) 0 (by omega) ⟨by omega, (zfi_0 (Nat.le_succ s) (by omega)).symm⟩
  have L4 : ∀ (fuel : Nat) (v : Nat), 10 - v < fuel → (v ≤ 10) → zg G X true 6 129 0 0 4 [(0, .ref (zB G + 108)), (1, .int (zI (i : Int))), (2, .int (zI (zbs (zwf (K i) (R i) (E i) y A Y Q c (i : Int)) v))), (3, .int (zI (v : Int)))] [] σ := by
    intro fuel
    induction fuel with
    | zero => intro v hm; exact absurd hm (Nat.not_lt_zero _)
    | succ fuel ih =>
      intro v hms h1
      have hb := zbs_bd hwf v
      have hq10 := zpw10 v h1
      refine z_iload_n (pc := 4) C dX10_worriesOf_4 rfl 3 rfl ?_
      refine z_bipush (pc := 5) C dX10_worriesOf_5 (by decide +kernel) ?_
      refine z_icmp_gt (pc := 7) (tgt := 98) C dX10_worriesOf_7 (by decide) ⟨by omega, by omega⟩ (fun c7 => ?_) (fun c7 => ?_)
      · refine z_iload_n (pc := 98) C dX10_worriesOf_98 rfl 2 rfl ?_
        refine z_iret (pc := 99) C dX10_worriesOf_99 ?_
        obtain rfl : v = 10 := by omega
        exact ⟨_, rfl, by omega, rfl, rfl⟩
      · refine z_iconst (pc := 10) C dX10_worriesOf_10 ?_
        refine z_istore (pc := 11) (lv' := [(4, _), (0, _), (1, _), (2, _), (3, _)]) C dX10_worriesOf_11 (by decide) rfl ?_
        refine z_iconst (pc := 13) C dX10_worriesOf_13 ?_
        refine z_istore (pc := 14) (lv' := [(5, _), (4, _), (0, _), (1, _), (2, _), (3, _)]) C dX10_worriesOf_14 (by decide) rfl ?_
        refine z_sub C [2, 3, 4, 5, 1, 0] rfl ?_
        refine L16 _ v (by omega) ?_ 0 _ (Nat.lt_succ_self _) ⟨by omega, rfl⟩
        intro b hbf
        refine z_iload_n (pc := 77) C dX10_worriesOf_77 rfl 2 rfl ?_
        have hfc := hwf v
        refine z_iload (pc := 78) C dX10_worriesOf_78 4 rfl ?_
        refine z_if_eq (pc := 80) (tgt := 89) C dX10_worriesOf_80 (by decide) (by omega) (fun c80 => ?_) (fun c80 => ?_)
        · refine z_iconst (pc := 89) C dX10_worriesOf_89 ?_
          refine z_ior (pc := 90) (r := zbs (zwf (K i) (R i) (E i) y A Y Q c (i : Int)) (v + 1)) C dX10_worriesOf_90 (by first | (rw [zbs_s1 (show zwf (K i) (R i) (E i) y A Y Q c (i : Int) v = 1 by omega)]; exact zor_i (by omega) hb.1 hb.2) | (rw [zbs_s0 (show zwf (K i) (R i) (E i) y A Y Q c (i : Int) v = 0 by omega)]; exact zI_or0)) ?_
          refine z_istore_n (pc := 91) (lv' := [(2, _), (0, _), (1, _), (3, _), (4, _)]) C dX10_worriesOf_91 rfl (by decide) rfl ?_
          refine z_iinc (pc := 92) (lv' := [(3, _), (2, _), (0, _), (1, _), (4, _)]) C dX10_worriesOf_92 3 rfl (by decide) rfl ?_
          refine z_goto (pc := 95) (tgt := 4) C dX10_worriesOf_95 (by decide) ?_
          refine z_sub C [2, 3, 1, 0] rfl ?_
          exact ih (v + 1) (by omega) (by omega)
        · refine z_iconst (pc := 83) C dX10_worriesOf_83 ?_
          refine z_iload_n (pc := 84) C dX10_worriesOf_84 rfl 3 rfl ?_
          refine z_ishl (pc := 85) (r := 2 ^ v) C dX10_worriesOf_85 (zshl_n v (by omega)) ?_
          refine z_goto (pc := 86) (tgt := 90) C dX10_worriesOf_86 (by decide) ?_
          refine z_ior (pc := 90) (r := zbs (zwf (K i) (R i) (E i) y A Y Q c (i : Int)) (v + 1)) C dX10_worriesOf_90 (by first | (rw [zbs_s1 (show zwf (K i) (R i) (E i) y A Y Q c (i : Int) v = 1 by omega)]; exact zor_i (by omega) hb.1 hb.2) | (rw [zbs_s0 (show zwf (K i) (R i) (E i) y A Y Q c (i : Int) v = 0 by omega)]; exact zI_or0)) ?_
          refine z_istore_n (pc := 91) (lv' := [(2, _), (0, _), (1, _), (3, _), (4, _)]) C dX10_worriesOf_91 rfl (by decide) rfl ?_
          refine z_iinc (pc := 92) (lv' := [(3, _), (2, _), (0, _), (1, _), (4, _)]) C dX10_worriesOf_92 3 rfl (by decide) rfl ?_
          refine z_goto (pc := 95) (tgt := 4) C dX10_worriesOf_95 (by decide) ?_
          refine z_sub C [2, 3, 1, 0] rfl ?_
          exact ih (v + 1) (by omega) (by omega)
  refine z_iconst (pc := 0) C dX10_worriesOf_0 ?_
  refine z_istore_n (pc := 1) (lv' := [(2, _), (0, _), (1, _)]) C dX10_worriesOf_1 rfl (by decide) rfl ?_
  refine z_iconst (pc := 2) C dX10_worriesOf_2 ?_
  refine z_istore_n (pc := 3) (lv' := [(3, _), (2, _), (0, _), (1, _)]) C dX10_worriesOf_3 rfl (by decide) rfl ?_
  refine z_sub C [2, 3, 1, 0] rfl ?_
  exact L4 _ 0 (Nat.lt_succ_self _) (by omega)
