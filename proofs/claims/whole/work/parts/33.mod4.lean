set_option maxHeartbeats 4000000 in
set_option maxRecDepth 100000 in
theorem c_X10_as (l : Launch) (G : zGt) (σ : zMem) (n : Nat) (y : Int) (K R V E : Nat → Int) (h : zMl σ n y K R V E) (hr : zLr K R V E) (hn : n ≤ 6) (p k : Int) (hp : zR p) (hk : zR k) : zN l G yX10_as cX10_as 4 (some .int) 2 [.ref (zB G + 108), .int (zI p), .int (zI k)] σ (zPi (fun x τ => x = zaAs n K p k ∧ σ = τ)) := by
  obtain ⟨s1, s6, s5, sA⟩ := id h
  have l109 : zl 109 = 6 := by decide
  have l110 : zl 110 = 6 := by decide
  have l111 : zl 111 = 6 := by decide
  have hE : ∀ j, 0 ≤ E j ∧ E j ≤ 1 := fun j => (hr j).2.2.2
  have hb5 := zbs_bd hE n
  have hq6 := zpow6 n hn
  refine zM.of (lv0 := [(0, _), (1, _), (2, _)]) (by decide) (Nat.le_of_ble_eq_true rfl) rfl (fun X C => ?_)
  refine z_aload_n (pc := 0) C dX10_as_0 rfl 0 rfl ?_
  refine z_iload_n (pc := 1) C dX10_as_1 rfl 1 rfl ?_
  refine z_Vi (pc := 2) C (c_X10_isHouse l G _ n _ s1 (by omega) hn) ml_X10_149 yw_X10_isHouse dX10_as_2 (by first | rfl | assumption) (by omega) rfl rfl rfl (Nat.le_of_ble_eq_true rfl) ⟨by decide, by decide⟩ (fun r2 t2 h2 q2 => ?_)
  obtain ⟨w2, rfl⟩ := q2
  refine z_if_ne (pc := 5) (tgt := 11) C dX10_as_5 (by decide) (by omega) (fun c5 => ?_) (fun c5 => ?_)
  · obtain ⟨i, rfl⟩ : ∃ i : Nat, p = i := ⟨p.toNat, by omega⟩
    have hi : i < n := by omega
    have hri := hr i
    have hA := sA i hi
    refine z_iload_n (pc := 11) C dX10_as_11 rfl 2 rfl ?_
    refine z_iconst (pc := 12) C dX10_as_12 ?_
    refine z_iconst (pc := 13) C dX10_as_13 ?_
    refine z_Si (pc := 14) C (c_X10_within l G _ _ _ _ (by first | assumption | omega | decide) (by first | assumption | omega | decide) (by first | assumption | omega | decide)) ml_X10_71 ys_X10_within dX10_as_14 rfl rfl (Nat.le_of_ble_eq_true rfl) ⟨by decide, by decide⟩ (fun r14 t14 h14 q14 => ?_)
    obtain ⟨w14, rfl⟩ := q14
    refine z_if_ne (pc := 17) (tgt := 23) C dX10_as_17 (by decide) (by omega) (fun c17 => ?_) (fun c17 => ?_)
    · refine z_aload_n (pc := 23) C dX10_as_23 rfl 0 rfl ?_
      refine z_getR (pc := 24) C (109) fl_X10_7 dX10_as_24 (by first | rfl | assumption) (by omega) rfl (Or.inl rfl) ?_
      refine z_iload_n (pc := 27) C dX10_as_27 rfl 1 rfl ?_
      refine z_iaload (pc := 28) C (i) dX10_as_28 (by first | rfl | assumption) (by omega) rfl (by omega) (fun g28 => ?_)
      refine z_istore_n (pc := 29) (lv' := [(3, _), (0, _), (1, _), (2, _)]) C dX10_as_29 rfl (by decide) rfl ?_
      refine z_iload_n (pc := 30) C dX10_as_30 rfl 3 rfl ?_
      refine z_if_eq (pc := 31) (tgt := 49) C dX10_as_31 (by decide) (by omega) (fun c31 => ?_) (fun c31 => ?_)
      · refine z_iload_n (pc := 49) C dX10_as_49 rfl 2 rfl ?_
        refine z_goto (pc := 50) (tgt := 54) C dX10_as_50 (by decide) ?_
        refine z_iret (pc := 54) C dX10_as_54 ?_
        have hz : (K ((i : Int).toNat)) = K i := rfl
        by_cases hq : k = 0 ∨ K i = k ∨ (k = 1 ∧ K i = 4)
        · first
            | (exfalso; omega)
            | exact ⟨_, rfl, by omega, by rw [zaAs, if_pos (by omega), if_pos (by omega), hz, if_pos hq], rfl⟩
        · first
            | (exfalso; omega)
            | exact ⟨_, rfl, by omega, by rw [zaAs, if_pos (by omega), if_pos (by omega), hz, if_neg hq], rfl⟩
      · refine z_iload_n (pc := 34) C dX10_as_34 rfl 0 rfl ?_
        refine z_iload_n (pc := 35) C dX10_as_35 rfl 3 rfl ?_
        refine z_icmp_eq (pc := 36) (tgt := 49) C dX10_as_36 (by decide) ⟨by omega, by omega⟩ (fun c36 => ?_) (fun c36 => ?_)
        · refine z_iload_n (pc := 49) C dX10_as_49 rfl 2 rfl ?_
          refine z_goto (pc := 50) (tgt := 54) C dX10_as_50 (by decide) ?_
          refine z_iret (pc := 54) C dX10_as_54 ?_
          have hz : (K ((i : Int).toNat)) = K i := rfl
          by_cases hq : k = 0 ∨ K i = k ∨ (k = 1 ∧ K i = 4)
          · first
              | (exfalso; omega)
              | exact ⟨_, rfl, by omega, by rw [zaAs, if_pos (by omega), if_pos (by omega), hz, if_pos hq], rfl⟩
          · first
              | (exfalso; omega)
              | exact ⟨_, rfl, by omega, by rw [zaAs, if_pos (by omega), if_pos (by omega), hz, if_neg hq], rfl⟩
        · refine z_iload_n (pc := 39) C dX10_as_39 rfl 3 rfl ?_
          refine z_iconst (pc := 40) C dX10_as_40 ?_
          refine z_icmp_ne (pc := 41) (tgt := 53) C dX10_as_41 (by decide) ⟨by omega, by omega⟩ (fun c41 => ?_) (fun c41 => ?_)
          · refine z_iconst (pc := 53) C dX10_as_53 ?_
            refine z_iret (pc := 54) C dX10_as_54 ?_
            have hz : (K ((i : Int).toNat)) = K i := rfl
            by_cases hq : k = 0 ∨ K i = k ∨ (k = 1 ∧ K i = 4)
            · first
                | (exfalso; omega)
                | exact ⟨_, rfl, by omega, by rw [zaAs, if_pos (by omega), if_pos (by omega), hz, if_pos hq], rfl⟩
            · first
                | (exfalso; omega)
                | exact ⟨_, rfl, by omega, by rw [zaAs, if_pos (by omega), if_pos (by omega), hz, if_neg hq], rfl⟩
          · refine z_iload_n (pc := 44) C dX10_as_44 rfl 0 rfl ?_
            refine z_iconst (pc := 45) C dX10_as_45 ?_
            refine z_icmp_ne (pc := 46) (tgt := 53) C dX10_as_46 (by decide) ⟨by omega, by omega⟩ (fun c46 => ?_) (fun c46 => ?_)
            · refine z_iconst (pc := 53) C dX10_as_53 ?_
              refine z_iret (pc := 54) C dX10_as_54 ?_
              have hz : (K ((i : Int).toNat)) = K i := rfl
              by_cases hq : k = 0 ∨ K i = k ∨ (k = 1 ∧ K i = 4)
              · first
                  | (exfalso; omega)
                  | exact ⟨_, rfl, by omega, by rw [zaAs, if_pos (by omega), if_pos (by omega), hz, if_pos hq], rfl⟩
              · first
                  | (exfalso; omega)
                  | exact ⟨_, rfl, by omega, by rw [zaAs, if_pos (by omega), if_pos (by omega), hz, if_neg hq], rfl⟩
            · refine z_iload_n (pc := 49) C dX10_as_49 rfl 2 rfl ?_
              refine z_goto (pc := 50) (tgt := 54) C dX10_as_50 (by decide) ?_
              refine z_iret (pc := 54) C dX10_as_54 ?_
              have hz : (K ((i : Int).toNat)) = K i := rfl
              by_cases hq : k = 0 ∨ K i = k ∨ (k = 1 ∧ K i = 4)
              · first
                  | (exfalso; omega)
                  | exact ⟨_, rfl, by omega, by rw [zaAs, if_pos (by omega), if_pos (by omega), hz, if_pos hq], rfl⟩
              · first
                  | (exfalso; omega)
                  | exact ⟨_, rfl, by omega, by rw [zaAs, if_pos (by omega), if_pos (by omega), hz, if_neg hq], rfl⟩
    · refine z_bipush (pc := 20) C dX10_as_20 (by decide +kernel) ?_
      refine z_iret (pc := 22) C dX10_as_22 ?_
      exact ⟨_, rfl, by omega, by rw [zaAs, if_pos (by omega), if_neg (by omega)], rfl⟩
  · refine z_bipush (pc := 8) C dX10_as_8 (by decide +kernel) ?_
    refine z_iret (pc := 10) C dX10_as_10 ?_
    exact ⟨_, rfl, by omega, by rw [zaAs, if_neg (by omega)], rfl⟩
set_option maxHeartbeats 4000000 in
set_option maxRecDepth 100000 in
theorem c_X10_reaches (l : Launch) (G : zGt) (σ : zMem) (n : Nat) (y : Int) (K R V E : Nat → Int) (h : zMl σ n y K R V E) (hr : zLr K R V E) (hn : n ≤ 6) (p rain : Int) (hp : zR p) (hx : zR rain) : zN l G yX10_reaches cX10_reaches 3 (some .int) 2 [.ref (zB G + 108), .int (zI p), .int (zI rain)] σ (zPi (fun x τ => x = zaReach n R p rain ∧ σ = τ)) := by
  obtain ⟨s1, s6, s5, sA⟩ := id h
  have l109 : zl 109 = 6 := by decide
  have l110 : zl 110 = 6 := by decide
  have l111 : zl 111 = 6 := by decide
  have hE : ∀ j, 0 ≤ E j ∧ E j ≤ 1 := fun j => (hr j).2.2.2
  have hb5 := zbs_bd hE n
  have hq6 := zpow6 n hn
  refine zM.of (lv0 := [(0, _), (1, _), (2, _)]) (by decide) (Nat.le_of_ble_eq_true rfl) rfl (fun X C => ?_)
  refine z_aload_n (pc := 0) C dX10_reaches_0 rfl 0 rfl ?_
  refine z_iload_n (pc := 1) C dX10_reaches_1 rfl 1 rfl ?_
  refine z_Vi (pc := 2) C (c_X10_isHouse l G _ n _ s1 (by omega) hn) ml_X10_149 yw_X10_isHouse dX10_reaches_2 (by first | rfl | assumption) (by omega) rfl rfl rfl (Nat.le_of_ble_eq_true rfl) ⟨by decide, by decide⟩ (fun r2 t2 h2 q2 => ?_)
  obtain ⟨w2, rfl⟩ := q2
  refine z_if_ne (pc := 5) (tgt := 11) C dX10_reaches_5 (by decide) (by omega) (fun c5 => ?_) (fun c5 => ?_)
  · obtain ⟨i, rfl⟩ : ∃ i : Nat, p = i := ⟨p.toNat, by omega⟩
    have hi : i < n := by omega
    have hri := hr i
    have hA := sA i hi
    refine z_iload_n (pc := 11) C dX10_reaches_11 rfl 2 rfl ?_
    refine z_Si (pc := 12) C (c_X10_isRain l G _ _ (by first | assumption | omega | decide)) ml_X10_155 ys_X10_isRain dX10_reaches_12 rfl rfl (Nat.le_of_ble_eq_true rfl) ⟨by decide, by decide⟩ (fun r12 t12 h12 q12 => ?_)
    obtain ⟨w12, rfl⟩ := q12
    refine z_if_eq (pc := 15) (tgt := 27) C dX10_reaches_15 (by decide) (by omega) (fun c15 => ?_) (fun c15 => ?_)
    · refine z_bipush (pc := 27) C dX10_reaches_27 (by decide +kernel) ?_
      refine z_iret (pc := 29) C dX10_reaches_29 ?_
      first
        | exact ⟨_, rfl, by assumption, by rw [zaReach, if_pos (by omega), if_pos (by omega)]; rfl, rfl⟩
        | exact ⟨_, rfl, by omega, by rw [zaReach, if_pos (by omega), if_neg (by omega)], rfl⟩
    · refine z_aload_n (pc := 18) C dX10_reaches_18 rfl 0 rfl ?_
      refine z_iload_n (pc := 19) C dX10_reaches_19 rfl 1 rfl ?_
      refine z_iload_n (pc := 20) C dX10_reaches_20 rfl 2 rfl ?_
      refine z_Vi (pc := 21) C (c_X10_reachesTo l G _ n y K R V E h hr hn i _ rain rfl (by omega) (by omega)) ml_X10_133 yw_X10_reachesTo dX10_reaches_21 (by first | rfl | assumption) (by omega) rfl rfl rfl (Nat.le_of_ble_eq_true rfl) ⟨by decide, by decide⟩ (fun r21 t21 h21 q21 => ?_)
      obtain ⟨rfl, rfl⟩ := q21
      refine z_goto (pc := 24) (tgt := 29) C dX10_reaches_24 (by decide) ?_
      refine z_iret (pc := 29) C dX10_reaches_29 ?_
      first
        | exact ⟨_, rfl, by assumption, by rw [zaReach, if_pos (by omega), if_pos (by omega)]; rfl, rfl⟩
        | exact ⟨_, rfl, by omega, by rw [zaReach, if_pos (by omega), if_neg (by omega)], rfl⟩
  · refine z_bipush (pc := 8) C dX10_reaches_8 (by decide +kernel) ?_
    refine z_iret (pc := 10) C dX10_reaches_10 ?_
    exact ⟨_, rfl, by omega, by rw [zaReach, if_neg (by omega)], rfl⟩
set_option maxHeartbeats 4000000 in
set_option maxRecDepth 100000 in
theorem c_X10_wet (l : Launch) (G : zGt) (σ : zMem) (n : Nat) (y : Int) (K R V E : Nat → Int) (h : zMl σ n y K R V E) (hr : zLr K R V E) (hn : n ≤ 6) (rain : Int) (hx : zR rain) : zN l G yX10_wet cX10_wet 2 (some .int) 2 [.ref (zB G + 108), .int (zI rain)] σ (zPi (fun x τ => x = zaWet n R rain ∧ σ = τ)) := by
  obtain ⟨s1, s6, s5, sA⟩ := id h
  have l109 : zl 109 = 6 := by decide
  have l110 : zl 110 = 6 := by decide
  have l111 : zl 111 = 6 := by decide
  have hE : ∀ j, 0 ≤ E j ∧ E j ≤ 1 := fun j => (hr j).2.2.2
  have hb5 := zbs_bd hE n
  have hq6 := zpow6 n hn
  refine zM.of (lv0 := [(0, _), (1, _)]) (by decide) (Nat.le_of_ble_eq_true rfl) rfl (fun X C => ?_)
  refine z_iload_n (pc := 0) C dX10_wet_0 rfl 1 rfl ?_
  refine z_Si (pc := 1) C (c_X10_isRain l G _ _ (by first | assumption | omega | decide)) ml_X10_155 ys_X10_isRain dX10_wet_1 rfl rfl (Nat.le_of_ble_eq_true rfl) ⟨by decide, by decide⟩ (fun r1 t1 h1 q1 => ?_)
  obtain ⟨w1, rfl⟩ := q1
  refine z_if_ne (pc := 4) (tgt := 10) C dX10_wet_4 (by decide) (by omega) (fun c4 => ?_) (fun c4 => ?_)
  · refine z_aload_n (pc := 10) C dX10_wet_10 rfl 0 rfl ?_
    refine z_getI (pc := 11) C fl_X10_101 dX10_wet_11 (by first | rfl | assumption) (by omega) (fun g11 => ?_)
    refine z_if_ne (pc := 14) (tgt := 22) C dX10_wet_14 (by decide) (by omega) (fun c14 => ?_) (fun c14 => ?_)
    · refine z_aload_n (pc := 22) C dX10_wet_22 rfl 0 rfl ?_
      refine z_iload_n (pc := 23) C dX10_wet_23 rfl 1 rfl ?_
      refine z_Vi (pc := 24) C (c_X10_wetBy l G _ n y K R V E h hr hn rain (by omega)) ml_X10_137 yw_X10_wetBy dX10_wet_24 (by first | rfl | assumption) (by omega) rfl rfl rfl (Nat.le_of_ble_eq_true rfl) ⟨by decide, by decide⟩ (fun r24 t24 h24 q24 => ?_)
      obtain ⟨rfl, rfl⟩ := q24
      refine z_iret (pc := 27) C dX10_wet_27 ?_
      first
        | exact ⟨_, rfl, by assumption, by rw [zaWet, if_pos (by omega), if_neg (by omega)], rfl⟩
        | exact ⟨_, rfl, by omega, by rw [zaWet, if_pos (by omega), if_pos (by omega)], rfl⟩
    · refine z_bipush (pc := 17) C dX10_wet_17 (by decide +kernel) ?_
      refine z_goto (pc := 19) (tgt := 27) C dX10_wet_19 (by decide) ?_
      refine z_iret (pc := 27) C dX10_wet_27 ?_
      first
        | exact ⟨_, rfl, by assumption, by rw [zaWet, if_pos (by omega), if_neg (by omega)], rfl⟩
        | exact ⟨_, rfl, by omega, by rw [zaWet, if_pos (by omega), if_pos (by omega)], rfl⟩
  · refine z_bipush (pc := 7) C dX10_wet_7 (by decide +kernel) ?_
    refine z_iret (pc := 9) C dX10_wet_9 ?_
    exact ⟨_, rfl, by omega, by rw [zaWet, if_neg (by omega)], rfl⟩
set_option maxHeartbeats 4000000 in
set_option maxRecDepth 100000 in
theorem c_X10_year (l : Launch) (G : zGt) (σ : zMem) (n : Nat) (y : Int) (K R V E : Nat → Int) (h : zMl σ n y K R V E) (hr : zLr K R V E) (hn : n ≤ 6) (hy : 0 ≤ y ∧ y ≤ 999) : zN l G yX10_year cX10_year 1 (some .int) 4 [.ref (zB G + 108)] σ (zPi (fun x τ => x = zaYear n y ∧ ((n ≠ 0 ∧ y < 999 ∧ zMl τ n (y + 1) K (fun j => zgr (K j) (R j) (V j) (E j) (y + 1)) V (fun _ => 0) ∧ zKg σ τ) ∨ (¬ (n ≠ 0 ∧ y < 999) ∧ σ = τ)))) := by
  obtain ⟨s1, s6, s5, sA⟩ := id h
  have l109 : zl 109 = 6 := by decide
  have l110 : zl 110 = 6 := by decide
  have l111 : zl 111 = 6 := by decide
  have hE : ∀ j, 0 ≤ E j ∧ E j ≤ 1 := fun j => (hr j).2.2.2
  have hb5 := zbs_bd hE n
  have hq6 := zpow6 n hn
  refine zM.of (lv0 := [(0, _)]) (by decide) (Nat.le_of_ble_eq_true rfl) rfl (fun X C => ?_)
  refine z_aload_n (pc := 0) C dX10_year_0 rfl 0 rfl ?_
  refine z_getI (pc := 1) C fl_X10_101 dX10_year_1 (by first | rfl | assumption) (by omega) (fun g1 => ?_)
  refine z_if_ne (pc := 4) (tgt := 10) C dX10_year_4 (by decide) (by omega) (fun c4 => ?_) (fun c4 => ?_)
  · refine z_aload_n (pc := 10) C dX10_year_10 rfl 0 rfl ?_
    refine z_getI (pc := 11) C fl_X10_107 dX10_year_11 (by first | rfl | assumption) (by omega) (fun g11 => ?_)
    refine z_sipush (pc := 14) C dX10_year_14 (by decide +kernel) ?_
    refine z_icmp_ne (pc := 17) (tgt := 23) C dX10_year_17 (by decide) ⟨by omega, by omega⟩ (fun c17 => ?_) (fun c17 => ?_)
    · refine z_aload_n (pc := 23) C dX10_year_23 rfl 0 rfl ?_
      refine z_Vv (pc := 24) C (c_X10_goYear l G _ n y K R V E h hr hn (by omega)) ml_X10_158 yw_X10_goYear dX10_year_24 (by first | rfl | assumption) (by omega) rfl rfl rfl (Nat.le_of_ble_eq_true rfl) ⟨by decide, by decide⟩ (fun t24 q24 => ?_)
      obtain ⟨u24, f24⟩ := q24
      have e33 := u24.2.1
      refine z_aload_n (pc := 27) C dX10_year_27 rfl 0 rfl ?_
      refine z_getI (pc := 28) C fl_X10_107 dX10_year_28 (by first | rfl | assumption) (by omega) (fun g28 => ?_)
      refine z_iret (pc := 31) C dX10_year_31 ?_
      exact ⟨_, rfl, by omega, by rw [zaYear, if_neg (by omega), if_neg (by omega)]; exact e33, Or.inl ⟨by omega, by omega, u24, f24⟩⟩
    · refine z_bipush (pc := 20) C dX10_year_20 (by decide +kernel) ?_
      refine z_iret (pc := 22) C dX10_year_22 ?_
      exact ⟨_, rfl, by omega, by rw [zaYear, if_neg (by omega), if_pos (by omega)], Or.inr ⟨by omega, rfl⟩⟩
  · refine z_bipush (pc := 7) C dX10_year_7 (by decide +kernel) ?_
    refine z_iret (pc := 9) C dX10_year_9 ?_
    exact ⟨_, rfl, by omega, by rw [zaYear, if_pos (by omega)], Or.inr ⟨by omega, rfl⟩⟩
set_option maxHeartbeats 4000000 in
set_option maxRecDepth 100000 in
theorem c_X10_rain (l : Launch) (G : zGt) (σ : zMem) (n : Nat) (y : Int) (K R V E : Nat → Int) (h : zMl σ n y K R V E) (hr : zLr K R V E) (hn : n ≤ 6) (w rain : Int) (hw7 : σ 108 7 = w) (hx : zR rain) (hw : 0 ≤ w ∧ w ≤ 9100) : zN l G yX10_rain cX10_rain 3 (some .int) 3 [.ref (zB G + 108), .int (zI rain)] σ (zPi (fun x τ => x = zaRain n w R rain ∧ (((0 ≤ rain ∧ rain ≤ 20) ∧ n ≠ 0 ∧ w < 9000 ∧ zMl τ n y K R (zrV R V rain) E ∧ τ 108 7 = w + zsum (zwp R rain) n ∧ ∀ o k, o ≠ 110 → o ≠ 111 → (o ≠ 108 ∨ (k ≠ 5 ∧ k ≠ 6 ∧ k ≠ 7)) → τ o k = σ o k) ∨ (¬ ((0 ≤ rain ∧ rain ≤ 20) ∧ n ≠ 0 ∧ w < 9000) ∧ σ = τ)))) := by
  obtain ⟨s1, s6, s5, sA⟩ := id h
  have l109 : zl 109 = 6 := by decide
  have l110 : zl 110 = 6 := by decide
  have l111 : zl 111 = 6 := by decide
  have hE : ∀ j, 0 ≤ E j ∧ E j ≤ 1 := fun j => (hr j).2.2.2
  have hb5 := zbs_bd hE n
  have hq6 := zpow6 n hn
  refine zM.of (lv0 := [(0, _), (1, _)]) (by decide) (Nat.le_of_ble_eq_true rfl) rfl (fun X C => ?_)
  refine z_iload_n (pc := 0) C dX10_rain_0 rfl 1 rfl ?_
  refine z_Si (pc := 1) C (c_X10_isRain l G _ _ (by first | assumption | omega | decide)) ml_X10_155 ys_X10_isRain dX10_rain_1 rfl rfl (Nat.le_of_ble_eq_true rfl) ⟨by decide, by decide⟩ (fun r1 t1 h1 q1 => ?_)
  obtain ⟨w1, rfl⟩ := q1
  refine z_if_ne (pc := 4) (tgt := 10) C dX10_rain_4 (by decide) (by omega) (fun c4 => ?_) (fun c4 => ?_)
  · refine z_aload_n (pc := 10) C dX10_rain_10 rfl 0 rfl ?_
    refine z_getI (pc := 11) C fl_X10_101 dX10_rain_11 (by first | rfl | assumption) (by omega) (fun g11 => ?_)
    refine z_if_ne (pc := 14) (tgt := 20) C dX10_rain_14 (by decide) (by omega) (fun c14 => ?_) (fun c14 => ?_)
    · refine z_aload_n (pc := 20) C dX10_rain_20 rfl 0 rfl ?_
      refine z_getI (pc := 21) C fl_X10_110 dX10_rain_21 (by first | rfl | assumption) (by omega) (fun g21 => ?_)
      refine z_sipush (pc := 24) C dX10_rain_24 (by decide +kernel) ?_
      refine z_icmp_lt (pc := 27) (tgt := 33) C dX10_rain_27 (by decide) ⟨by omega, by omega⟩ (fun c27 => ?_) (fun c27 => ?_)
      · refine z_aload_n (pc := 33) C dX10_rain_33 rfl 0 rfl ?_
        refine z_iload_n (pc := 34) C dX10_rain_34 rfl 1 rfl ?_
        refine z_Vi (pc := 35) C (c_X10_goRain l G _ n y K R V E h hr hn rain (by omega)) ml_X10_161 yw_X10_goRain dX10_rain_35 (by first | rfl | assumption) (by omega) rfl rfl rfl (Nat.le_of_ble_eq_true rfl) ⟨by decide, by decide⟩ (fun r35 t35 h35 q35 => ?_)
        obtain ⟨rfl, u35, f35⟩ := q35
        refine z_istore_n (pc := 38) (lv' := [(2, _), (0, _), (1, _)]) C dX10_rain_38 rfl (by decide) rfl ?_
        refine z_aload_n (pc := 39) C dX10_rain_39 rfl 1 rfl ?_
        refine z_dup (pc := 40) C dX10_rain_40 rfl ?_
        refine z_getI (pc := 41) C fl_X10_110 dX10_rain_41 (by first | rfl | assumption) (by omega) (fun g41 => ?_)
        rw [show t35 108 7 = w from (f35 _ _ (by omega)).trans hw7]
        have hm := zsum_bd (f := zwp R rain) (c := 1) (n := n) (fun j _ => zwp_bd R rain j)
        refine z_iload_n (pc := 44) C dX10_rain_44 rfl 0 rfl ?_
        refine z_iadd (pc := 45) C dX10_rain_45 ?_
        refine z_putIe (pc := 46) C fl_X10_110 dX10_rain_46 (by first | rfl | assumption) (by omega) (by omega) (fun m46 em46 => ?_)
        refine z_iload_n (pc := 49) C dX10_rain_49 rfl 0 rfl ?_
        refine z_iret (pc := 50) C dX10_rain_50 ?_
        exact ⟨_, rfl, by assumption, by rw [zaRain, if_pos (by omega), if_neg (by omega), if_neg (by omega)], Or.inl ⟨by omega, by omega, by omega, by rw [em46]; exact u35.put (by omega), by rw [em46, zU_at], fun o k h1 h2 h3 => by rw [em46]; unfold zU; rw [if_neg (by omega)]; exact f35 o k (by omega)⟩⟩
      · refine z_bipush (pc := 30) C dX10_rain_30 (by decide +kernel) ?_
        refine z_iret (pc := 32) C dX10_rain_32 ?_
        exact ⟨_, rfl, by omega, by rw [zaRain, if_pos (by omega), if_neg (by omega), if_pos (by omega)], Or.inr ⟨by omega, rfl⟩⟩
    · refine z_bipush (pc := 17) C dX10_rain_17 (by decide +kernel) ?_
      refine z_iret (pc := 19) C dX10_rain_19 ?_
      exact ⟨_, rfl, by omega, by rw [zaRain, if_pos (by omega), if_pos (by omega)], Or.inr ⟨by omega, rfl⟩⟩
  · refine z_bipush (pc := 7) C dX10_rain_7 (by decide +kernel) ?_
    refine z_iret (pc := 9) C dX10_rain_9 ?_
    exact ⟨_, rfl, by omega, by rw [zaRain, if_neg (by omega)], Or.inr ⟨by omega, rfl⟩⟩
set_option maxHeartbeats 4000000 in
set_option maxRecDepth 100000 in
theorem c_X10_cheer (l : Launch) (G : zGt) (σ : zMem) (n : Nat) (y : Int) (K R V E : Nat → Int) (h : zMl σ n y K R V E) (hr : zLr K R V E) (hn : n ≤ 6) (p : Int) (hp : zR p) : zN l G yX10_cheer cX10_cheer 2 (some .int) 2 [.ref (zB G + 108), .int (zI p)] σ (zPi (fun x τ => x = zaCheer n V p ∧ ((0 ≤ p ∧ p < n ∧ zMl τ n y K R (zcv1 V p.toNat) E ∧ zKg σ τ) ∨ (¬ (0 ≤ p ∧ p < n) ∧ σ = τ)))) := by
  obtain ⟨s1, s6, s5, sA⟩ := id h
  have l109 : zl 109 = 6 := by decide
  have l110 : zl 110 = 6 := by decide
  have l111 : zl 111 = 6 := by decide
  have hE : ∀ j, 0 ≤ E j ∧ E j ≤ 1 := fun j => (hr j).2.2.2
  have hb5 := zbs_bd hE n
  have hq6 := zpow6 n hn
  refine zM.of (lv0 := [(0, _), (1, _)]) (by decide) (Nat.le_of_ble_eq_true rfl) rfl (fun X C => ?_)
  refine z_aload_n (pc := 0) C dX10_cheer_0 rfl 0 rfl ?_
  refine z_iload_n (pc := 1) C dX10_cheer_1 rfl 1 rfl ?_
  refine z_Vi (pc := 2) C (c_X10_isHouse l G _ n _ s1 (by omega) hn) ml_X10_149 yw_X10_isHouse dX10_cheer_2 (by first | rfl | assumption) (by omega) rfl rfl rfl (Nat.le_of_ble_eq_true rfl) ⟨by decide, by decide⟩ (fun r2 t2 h2 q2 => ?_)
  obtain ⟨w2, rfl⟩ := q2
  refine z_if_ne (pc := 5) (tgt := 11) C dX10_cheer_5 (by decide) (by omega) (fun c5 => ?_) (fun c5 => ?_)
  · obtain ⟨i, rfl⟩ : ∃ i : Nat, p = i := ⟨p.toNat, by omega⟩
    have hi : i < n := by omega
    have hri := hr i
    have hA := sA i hi
    refine z_aload_n (pc := 11) C dX10_cheer_11 rfl 0 rfl ?_
    refine z_iload_n (pc := 12) C dX10_cheer_12 rfl 1 rfl ?_
    refine z_Vv (pc := 13) C (c_X10_goCheer l G _ n y K R V E h hr hn i _ rfl hi) ml_X10_164 yw_X10_goCheer dX10_cheer_13 (by first | rfl | assumption) (by omega) rfl rfl rfl (Nat.le_of_ble_eq_true rfl) ⟨by decide, by decide⟩ (fun t13 q13 => ?_)
    obtain ⟨u13, f13⟩ := q13
    have e13 := (u13.2.2.2 i hi).2.2
    refine z_aload_n (pc := 16) C dX10_cheer_16 rfl 0 rfl ?_
    refine z_getR (pc := 17) C (111) fl_X10_16 dX10_cheer_17 (by first | rfl | assumption) (by omega) rfl (Or.inl rfl) ?_
    refine z_iload_n (pc := 20) C dX10_cheer_20 rfl 1 rfl ?_
    refine z_iaload (pc := 21) C (i) dX10_cheer_21 (by first | rfl | assumption) (by omega) rfl (by omega) (fun g21 => ?_)
    have e22 : t13 111 i = if 0 < V i - 2 then V i - 2 else 0 := by rw [e13]; unfold zcv1 zup; rw [if_pos rfl]
    refine z_iret (pc := 22) C dX10_cheer_22 ?_
    exact ⟨_, rfl, by assumption, by rw [zaCheer, e22]; exact (if_pos (by omega)).symm, Or.inl ⟨by omega, by omega, u13, f13⟩⟩
  · refine z_bipush (pc := 8) C dX10_cheer_8 (by decide +kernel) ?_
    refine z_iret (pc := 10) C dX10_cheer_10 ?_
    exact ⟨_, rfl, by omega, by rw [zaCheer, if_neg (by omega)], Or.inr ⟨by omega, rfl⟩⟩
set_option maxHeartbeats 4000000 in
set_option maxRecDepth 100000 in
theorem c_X10_comb (l : Launch) (G : zGt) (σ : zMem) (n : Nat) (y : Int) (K R V E : Nat → Int) (h : zMl σ n y K R V E) (hr : zLr K R V E) (hn : n ≤ 6) (p : Int) (hp : zR p) : zN l G yX10_comb cX10_comb 2 (some .int) 2 [.ref (zB G + 108), .int (zI p)] σ (zPi (fun x τ => x = zaComb n R E p ∧ ((0 ≤ p ∧ p < n ∧ (E p.toNat = 0 ∧ 2 ≤ R p.toNat) ∧ zMl τ n y K (zup R p.toNat (R p.toNat - 2)) V (zup E p.toNat 1) ∧ zKg σ τ) ∨ (¬ (0 ≤ p ∧ p < n ∧ E p.toNat = 0 ∧ 2 ≤ R p.toNat) ∧ σ = τ)))) := by
  obtain ⟨s1, s6, s5, sA⟩ := id h
  have l109 : zl 109 = 6 := by decide
  have l110 : zl 110 = 6 := by decide
  have l111 : zl 111 = 6 := by decide
  have hE : ∀ j, 0 ≤ E j ∧ E j ≤ 1 := fun j => (hr j).2.2.2
  have hb5 := zbs_bd hE n
  have hq6 := zpow6 n hn
  refine zM.of (lv0 := [(0, _), (1, _)]) (by decide) (Nat.le_of_ble_eq_true rfl) rfl (fun X C => ?_)
  refine z_aload_n (pc := 0) C dX10_comb_0 rfl 0 rfl ?_
  refine z_iload_n (pc := 1) C dX10_comb_1 rfl 1 rfl ?_
  refine z_Vi (pc := 2) C (c_X10_isHouse l G _ n _ s1 (by omega) hn) ml_X10_149 yw_X10_isHouse dX10_comb_2 (by first | rfl | assumption) (by omega) rfl rfl rfl (Nat.le_of_ble_eq_true rfl) ⟨by decide, by decide⟩ (fun r2 t2 h2 q2 => ?_)
  obtain ⟨w2, rfl⟩ := q2
  refine z_if_ne (pc := 5) (tgt := 11) C dX10_comb_5 (by decide) (by omega) (fun c5 => ?_) (fun c5 => ?_)
  · obtain ⟨i, rfl⟩ : ∃ i : Nat, p = i := ⟨p.toNat, by omega⟩
    have hi : i < n := by omega
    have hri := hr i
    have hA := sA i hi
    have hz : (i : Int).toNat = i := rfl
    refine z_aload_n (pc := 11) C dX10_comb_11 rfl 0 rfl ?_
    refine z_iload_n (pc := 12) C dX10_comb_12 rfl 1 rfl ?_
    refine z_Vi (pc := 13) C (c_X10_mayComb l G _ n y K R V E h hr hn i _ rfl hi) ml_X10_168 yw_X10_mayComb dX10_comb_13 (by first | rfl | assumption) (by omega) rfl rfl rfl (Nat.le_of_ble_eq_true rfl) ⟨by decide, by decide⟩ (fun r13 t13 h13 q13 => ?_)
    obtain ⟨w13, rfl⟩ := q13
    refine z_if_ne (pc := 16) (tgt := 22) C dX10_comb_16 (by decide) (by omega) (fun c16 => ?_) (fun c16 => ?_)
    · refine z_aload_n (pc := 22) C dX10_comb_22 rfl 0 rfl ?_
      refine z_iload_n (pc := 23) C dX10_comb_23 rfl 1 rfl ?_
      refine z_Vv (pc := 24) C (c_X10_goComb l G _ n y K R V E h hr hn i _ rfl hi (by omega)) ml_X10_171 yw_X10_goComb dX10_comb_24 (by first | rfl | assumption) (by omega) rfl rfl rfl (Nat.le_of_ble_eq_true rfl) ⟨by decide, by decide⟩ (fun t24 q24 => ?_)
      obtain ⟨u24, f24⟩ := q24
      have e24 := (u24.2.2.2 i hi).2.1
      refine z_aload_n (pc := 27) C dX10_comb_27 rfl 0 rfl ?_
      refine z_getR (pc := 28) C (110) fl_X10_13 dX10_comb_28 (by first | rfl | assumption) (by omega) rfl (Or.inl rfl) ?_
      refine z_iload_n (pc := 31) C dX10_comb_31 rfl 1 rfl ?_
      refine z_iaload (pc := 32) C (i) dX10_comb_32 (by first | rfl | assumption) (by omega) rfl (by omega) (fun g32 => ?_)
      have e32 : t24 110 i = R i - 2 := by rw [e24]; unfold zup; rw [if_pos rfl]
      refine z_iret (pc := 33) C dX10_comb_33 ?_
      exact ⟨_, rfl, by assumption, by rw [zaComb, if_pos (by omega), hz, if_pos (by omega)]; exact e32, Or.inl ⟨by omega, by omega, by rw [hz]; omega, u24, f24⟩⟩
    · refine z_bipush (pc := 19) C dX10_comb_19 (by decide +kernel) ?_
      refine z_iret (pc := 21) C dX10_comb_21 ?_
      exact ⟨_, rfl, by omega, by rw [zaComb, if_pos (by omega), hz, if_neg (by omega)], Or.inr ⟨by rw [hz]; omega, rfl⟩⟩
  · refine z_bipush (pc := 8) C dX10_comb_8 (by decide +kernel) ?_
    refine z_iret (pc := 10) C dX10_comb_10 ?_
    exact ⟨_, rfl, by omega, by rw [zaComb, if_neg (by omega)], Or.inr ⟨by omega, rfl⟩⟩
set_option maxHeartbeats 4000000 in
set_option maxRecDepth 100000 in
theorem c_X10_move (l : Launch) (G : zGt) (σ : zMem) (n : Nat) (y : Int) (K R V E : Nat → Int) (h : zMl σ n y K R V E) (hr : zLr K R V E) (hn : n ≤ 6) (p k v : Int) (hp : zR p) (hk : zR k) (hv : zR v) : zN l G yX10_move cX10_move 5 (some .int) 2 [.ref (zB G + 108), .int (zI p), .int (zI k), .int (zI v)] σ (zPi (fun x τ => x = zaMove n K p k v ∧ ((0 ≤ p ∧ p < n ∧ ((0 ≤ k ∧ k ≤ 4) ∧ 0 ≤ v ∧ v ≤ 9) ∧ zMl τ n y (zup K p.toNat k) R (zup V p.toNat v) E ∧ ∀ o j, o ≠ 109 → o ≠ 111 → τ o j = σ o j) ∨ (¬ (0 ≤ p ∧ p < n ∧ (0 ≤ k ∧ k ≤ 4) ∧ 0 ≤ v ∧ v ≤ 9) ∧ σ = τ)))) := by
  obtain ⟨s1, s6, s5, sA⟩ := id h
  have l109 : zl 109 = 6 := by decide
  have l110 : zl 110 = 6 := by decide
  have l111 : zl 111 = 6 := by decide
  have hE : ∀ j, 0 ≤ E j ∧ E j ≤ 1 := fun j => (hr j).2.2.2
  have hb5 := zbs_bd hE n
  have hq6 := zpow6 n hn
  refine zM.of (lv0 := [(0, _), (1, _), (2, _), (3, _)]) (by decide) (Nat.le_of_ble_eq_true rfl) rfl (fun X C => ?_)
  refine z_aload_n (pc := 0) C dX10_move_0 rfl 0 rfl ?_
  refine z_iload_n (pc := 1) C dX10_move_1 rfl 1 rfl ?_
  refine z_Vi (pc := 2) C (c_X10_isHouse l G _ n _ s1 (by omega) hn) ml_X10_149 yw_X10_isHouse dX10_move_2 (by first | rfl | assumption) (by omega) rfl rfl rfl (Nat.le_of_ble_eq_true rfl) ⟨by decide, by decide⟩ (fun r2 t2 h2 q2 => ?_)
  obtain ⟨w2, rfl⟩ := q2
  refine z_if_ne (pc := 5) (tgt := 11) C dX10_move_5 (by decide) (by omega) (fun c5 => ?_) (fun c5 => ?_)
  · refine z_iload_n (pc := 11) C dX10_move_11 rfl 2 rfl ?_
    refine z_iconst (pc := 12) C dX10_move_12 ?_
    refine z_iconst (pc := 13) C dX10_move_13 ?_
    refine z_Si (pc := 14) C (c_X10_within l G _ _ _ _ (by first | assumption | omega | decide) (by first | assumption | omega | decide) (by first | assumption | omega | decide)) ml_X10_71 ys_X10_within dX10_move_14 rfl rfl (Nat.le_of_ble_eq_true rfl) ⟨by decide, by decide⟩ (fun r14 t14 h14 q14 => ?_)
    obtain ⟨w14, rfl⟩ := q14
    refine z_if_eq (pc := 17) (tgt := 30) C dX10_move_17 (by decide) (by omega) (fun c17 => ?_) (fun c17 => ?_)
    · refine z_bipush (pc := 30) C dX10_move_30 (by decide +kernel) ?_
      refine z_iret (pc := 32) C dX10_move_32 ?_
      exact ⟨_, rfl, by omega, by rw [zaMove, if_pos (by omega), if_neg (by omega)], Or.inr ⟨by omega, rfl⟩⟩
    · refine z_iload_n (pc := 20) C dX10_move_20 rfl 3 rfl ?_
      refine z_iconst (pc := 21) C dX10_move_21 ?_
      refine z_bipush (pc := 22) C dX10_move_22 (by decide +kernel) ?_
      refine z_Si (pc := 24) C (c_X10_within l G _ _ _ _ (by first | assumption | omega | decide) (by first | assumption | omega | decide) (by first | assumption | omega | decide)) ml_X10_71 ys_X10_within dX10_move_24 rfl rfl (Nat.le_of_ble_eq_true rfl) ⟨by decide, by decide⟩ (fun r24 t24 h24 q24 => ?_)
      obtain ⟨w24, rfl⟩ := q24
      refine z_if_ne (pc := 27) (tgt := 33) C dX10_move_27 (by decide) (by omega) (fun c27 => ?_) (fun c27 => ?_)
      · obtain ⟨i, rfl⟩ : ∃ i : Nat, p = i := ⟨p.toNat, by omega⟩
        have hi : i < n := by omega
        have hri := hr i
        have hA := sA i hi
        refine z_aload_n (pc := 33) C dX10_move_33 rfl 0 rfl ?_
        refine z_getR (pc := 34) C (109) fl_X10_7 dX10_move_34 (by first | rfl | assumption) (by omega) rfl (Or.inl rfl) ?_
        refine z_iload_n (pc := 37) C dX10_move_37 rfl 1 rfl ?_
        refine z_iaload (pc := 38) C (i) dX10_move_38 (by first | rfl | assumption) (by omega) rfl (by omega) (fun g38 => ?_)
        refine z_istore (pc := 39) (lv' := [(4, _), (0, _), (1, _), (2, _), (3, _)]) C dX10_move_39 (by decide) rfl ?_
        refine z_aload_n (pc := 41) C dX10_move_41 rfl 1 rfl ?_
        refine z_getR (pc := 42) C (109) fl_X10_7 dX10_move_42 (by first | rfl | assumption) (by omega) rfl (Or.inl rfl) ?_
        refine z_iload_n (pc := 45) C dX10_move_45 rfl 2 rfl ?_
        refine z_iload_n (pc := 46) C dX10_move_46 rfl 3 rfl ?_
        refine z_iastoree (pc := 47) C (i) dX10_move_47 (by first | rfl | assumption) (by omega) rfl (by omega) (by omega) (fun m47 em47 => ?_)
        refine z_aload_n (pc := 48) C dX10_move_48 rfl 1 rfl ?_
        refine z_getR (pc := 49) C (111) fl_X10_16 dX10_move_49 (by first | rfl | assumption) (by omega) rfl (Or.inl rfl) ?_
        refine z_iload_n (pc := 52) C dX10_move_52 rfl 2 rfl ?_
        refine z_iload_n (pc := 53) C dX10_move_53 rfl 4 rfl ?_
        refine z_iastoree (pc := 54) C (i) dX10_move_54 (by first | rfl | assumption) (by omega) rfl (by omega) (by omega) (fun m54 em54 => ?_)
        refine z_iload (pc := 55) C dX10_move_55 0 rfl ?_
        refine z_iret (pc := 57) C dX10_move_57 ?_
        exact ⟨_, rfl, by assumption, by rw [zaMove, if_pos (by omega), if_pos (by omega)]; exact hA.1, Or.inl ⟨by omega, by omega, by omega, by rw [em54, em47]; exact h.putK.putV, fun o j h1 h2 => by rw [em54, em47, zU_o h2, zU_o h1]⟩⟩
      · refine z_bipush (pc := 30) C dX10_move_30 (by decide +kernel) ?_
        refine z_iret (pc := 32) C dX10_move_32 ?_
        exact ⟨_, rfl, by omega, by rw [zaMove, if_pos (by omega), if_neg (by omega)], Or.inr ⟨by omega, rfl⟩⟩
  · refine z_bipush (pc := 8) C dX10_move_8 (by decide +kernel) ?_
    refine z_iret (pc := 10) C dX10_move_10 ?_
    exact ⟨_, rfl, by omega, by rw [zaMove, if_neg (by omega)], Or.inr ⟨by omega, rfl⟩⟩
set_option maxHeartbeats 4000000 in
set_option maxRecDepth 100000 in
theorem c_X10_dryNow (l : Launch) (G : zGt) (σ : zMem) (n : Nat) (y : Int) (K R V E : Nat → Int) (h : zMl σ n y K R V E) (hr : zLr K R V E) (hn : n ≤ 6) (i : Nat) (p rain : Int) (hp : p = i) (hi : i < n) (hx : 0 ≤ rain ∧ rain ≤ 1000) (hy : 0 ≤ y ∧ y ≤ 90000) : zN l G yX10_dryNow cX10_dryNow 4 (some .int) 4 [.ref (zB G + 108), .int (zI p), .int (zI rain)] σ (zPi (fun x τ => x = zfs (fun k => zwp (zRy K R V E y k) rain i) 41 0 ∧ zMl τ n y K R V E ∧ zKp σ τ)) := by
  obtain ⟨s1, s6, s5, sA⟩ := id h
  have l109 : zl 109 = 6 := by decide
  have l110 : zl 110 = 6 := by decide
  have l111 : zl 111 = 6 := by decide
  have hE : ∀ j, 0 ≤ E j ∧ E j ≤ 1 := fun j => (hr j).2.2.2
  have hb5 := zbs_bd hE n
  have hq6 := zpow6 n hn
  subst hp
  refine zM.of (lv0 := [(0, _), (1, _), (2, _)]) (by decide) (Nat.le_of_ble_eq_true rfl) rfl (fun X C => ?_)
  have L6 : ∀ (fuel : Nat) (k : Nat) (τ : zMem), 41 - k < fuel → (k ≤ 41 ∧ zMl τ n (y + (k : Int)) K (zRy K R V E y k) V (zEy E k) ∧ zSv τ n y R V E ∧ zKp σ τ ∧ zfs (fun k => zwp (zRy K R V E y k) rain i) (41 - k) k = zfs (fun k => zwp (zRy K R V E y k) rain i) 41 0) → zg G X true 4 129 0 0 6 [(0, .ref (zB G + 108)), (1, .int (zI (i : Int))), (2, .int (zI rain)), (3, .int (zI (k : Int)))] [] τ := by
    intro fuel
    induction fuel with
    | zero => intro k τ hm; exact absurd hm (Nat.not_lt_zero _)
    | succ fuel ih =>
      intro k τ hms hinv
      obtain ⟨h1, h2, h3, h5, h4⟩ := hinv
      refine z_iload_n (pc := 6) C dX10_dryNow_6 rfl 3 rfl ?_
      refine z_bipush (pc := 7) C dX10_dryNow_7 (by decide +kernel) ?_
      refine z_icmp_gt (pc := 9) (tgt := 34) C dX10_dryNow_9 (by decide) ⟨by omega, by omega⟩ (fun c9 => ?_) (fun c9 => ?_)
      · have hzw := zwp_bd (zRy K R V E y k) rain i
        refine z_aload_n (pc := 34) C dX10_dryNow_34 rfl 0 rfl ?_
        refine z_Vv (pc := 35) C (c_X10_load l G _ n y _ K R V E _ _ _ h2 h3 hr hn (by omega)) ml_X10_183 yw_X10_load dX10_dryNow_35 (by first | rfl | assumption) (by omega) rfl rfl rfl (Nat.le_of_ble_eq_true rfl) ⟨by decide, by decide⟩ (fun t35 q35 => ?_)
        obtain ⟨u35, v35, f35⟩ := q35
        refine z_iload_n (pc := 38) C dX10_dryNow_38 rfl 3 rfl ?_
        refine z_bipush (pc := 39) C dX10_dryNow_39 (by decide +kernel) ?_
        refine z_icmp_le (pc := 41) (tgt := 48) C dX10_dryNow_41 (by decide) ⟨by omega, by omega⟩ (fun c41 => ?_) (fun c41 => ?_)
        · refine z_iload_n (pc := 48) C dX10_dryNow_48 rfl 3 rfl ?_
          refine z_iret (pc := 49) C dX10_dryNow_49 ?_
          have hz : (if 40 < k then -1 else (k : Int)) = zfs (fun k => zwp (zRy K R V E y k) rain i) 41 0 := by
            refine Eq.trans ?_ h4
            by_cases hk : 40 < k
            · rw [if_pos hk, show 41 - k = 0 by omega]; rfl
            · rw [if_neg hk, show 41 - k = (41 - (k + 1)) + 1 by omega, zfs, if_pos (by omega)]
          first
            | (exfalso; omega)
            | exact ⟨_, rfl, by omega, by rw [← hz, if_pos (by omega)], u35, h5.tr f35.kp⟩
            | exact ⟨_, rfl, by omega, by rw [← hz, if_neg (by omega)], u35, h5.tr f35.kp⟩
        · refine z_iconst (pc := 44) C dX10_dryNow_44 ?_
          refine z_goto (pc := 45) (tgt := 49) C dX10_dryNow_45 (by decide) ?_
          refine z_iret (pc := 49) C dX10_dryNow_49 ?_
          have hz : (if 40 < k then -1 else (k : Int)) = zfs (fun k => zwp (zRy K R V E y k) rain i) 41 0 := by
            refine Eq.trans ?_ h4
            by_cases hk : 40 < k
            · rw [if_pos hk, show 41 - k = 0 by omega]; rfl
            · rw [if_neg hk, show 41 - k = (41 - (k + 1)) + 1 by omega, zfs, if_pos (by omega)]
          first
            | (exfalso; omega)
            | exact ⟨_, rfl, by omega, by rw [← hz, if_pos (by omega)], u35, h5.tr f35.kp⟩
            | exact ⟨_, rfl, by omega, by rw [← hz, if_neg (by omega)], u35, h5.tr f35.kp⟩
      · refine z_aload_n (pc := 12) C dX10_dryNow_12 rfl 0 rfl ?_
        refine z_iload_n (pc := 13) C dX10_dryNow_13 rfl 2 rfl ?_
        refine z_Vi (pc := 14) C (c_X10_wetBy l G _ n _ K _ _ _ h2 (zRy_r hr k) hn rain hx) ml_X10_137 yw_X10_wetBy dX10_dryNow_14 (by first | rfl | assumption) (by omega) rfl rfl rfl (Nat.le_of_ble_eq_true rfl) ⟨by decide, by decide⟩ (fun r14 t14 h14 q14 => ?_)
        obtain ⟨rfl, rfl⟩ := q14
        have hbb := zbs_bd (zwp_bd (zRy K R V E y k) rain) n
        refine z_iload_n (pc := 17) C dX10_dryNow_17 rfl 1 rfl ?_
        refine z_Si (pc := 18) C (c_isInV l G _ _ (zwp (zRy K R V E y k) rain i) i _ rfl (by omega) (by omega) (zbs_bit (zwp_bd _ rain) n i hi)) ml_X10_122 ys_X10_isIn dX10_dryNow_18 rfl rfl (Nat.le_of_ble_eq_true rfl) ⟨by decide, by decide⟩ (fun r18 t18 h18 q18 => ?_)
        obtain ⟨rfl, rfl⟩ := q18
        refine z_if_ne (pc := 21) (tgt := 34) C dX10_dryNow_21 (by decide) (by omega) (fun c21 => ?_) (fun c21 => ?_)
        · have hzw := zwp_bd (zRy K R V E y k) rain i
          refine z_aload_n (pc := 34) C dX10_dryNow_34 rfl 0 rfl ?_
          refine z_Vv (pc := 35) C (c_X10_load l G _ n y _ K R V E _ _ _ h2 h3 hr hn (by omega)) ml_X10_183 yw_X10_load dX10_dryNow_35 (by first | rfl | assumption) (by omega) rfl rfl rfl (Nat.le_of_ble_eq_true rfl) ⟨by decide, by decide⟩ (fun t35 q35 => ?_)
          obtain ⟨u35, v35, f35⟩ := q35
          refine z_iload_n (pc := 38) C dX10_dryNow_38 rfl 3 rfl ?_
          refine z_bipush (pc := 39) C dX10_dryNow_39 (by decide +kernel) ?_
          refine z_icmp_le (pc := 41) (tgt := 48) C dX10_dryNow_41 (by decide) ⟨by omega, by omega⟩ (fun c41 => ?_) (fun c41 => ?_)
          · refine z_iload_n (pc := 48) C dX10_dryNow_48 rfl 3 rfl ?_
            refine z_iret (pc := 49) C dX10_dryNow_49 ?_
            have hz : (if 40 < k then -1 else (k : Int)) = zfs (fun k => zwp (zRy K R V E y k) rain i) 41 0 := by
              refine Eq.trans ?_ h4
              by_cases hk : 40 < k
              · rw [if_pos hk, show 41 - k = 0 by omega]; rfl
              · rw [if_neg hk, show 41 - k = (41 - (k + 1)) + 1 by omega, zfs, if_pos (by omega)]
            first
              | (exfalso; omega)
              | exact ⟨_, rfl, by omega, by rw [← hz, if_pos (by omega)], u35, h5.tr f35.kp⟩
              | exact ⟨_, rfl, by omega, by rw [← hz, if_neg (by omega)], u35, h5.tr f35.kp⟩
          · refine z_iconst (pc := 44) C dX10_dryNow_44 ?_
            refine z_goto (pc := 45) (tgt := 49) C dX10_dryNow_45 (by decide) ?_
            refine z_iret (pc := 49) C dX10_dryNow_49 ?_
            have hz : (if 40 < k then -1 else (k : Int)) = zfs (fun k => zwp (zRy K R V E y k) rain i) 41 0 := by
              refine Eq.trans ?_ h4
              by_cases hk : 40 < k
              · rw [if_pos hk, show 41 - k = 0 by omega]; rfl
              · rw [if_neg hk, show 41 - k = (41 - (k + 1)) + 1 by omega, zfs, if_pos (by omega)]
            first
              | (exfalso; omega)
              | exact ⟨_, rfl, by omega, by rw [← hz, if_pos (by omega)], u35, h5.tr f35.kp⟩
              | exact ⟨_, rfl, by omega, by rw [← hz, if_neg (by omega)], u35, h5.tr f35.kp⟩
        · have hzw := zwp_bd (zRy K R V E y k) rain i
          refine z_aload_n (pc := 24) C dX10_dryNow_24 rfl 0 rfl ?_
          refine z_Vv (pc := 25) C (c_X10_goYear l G _ n _ K _ _ _ h2 (zRy_r hr k) hn (by omega)) ml_X10_158 yw_X10_goYear dX10_dryNow_25 (by first | rfl | assumption) (by omega) rfl rfl rfl (Nat.le_of_ble_eq_true rfl) ⟨by decide, by decide⟩ (fun t25 q25 => ?_)
          obtain ⟨u25, f25⟩ := q25
          refine z_iinc (pc := 28) (lv' := [(3, _), (0, _), (1, _), (2, _)]) C dX10_dryNow_28 3 rfl (by decide) rfl ?_
          refine z_goto (pc := 31) (tgt := 6) C dX10_dryNow_31 (by decide) ?_
          refine z_sub C [1, 2, 3, 0] rfl ?_
          exact ih (k + 1) _ (by omega) ⟨by omega, u25.ext (by omega) (fun j hj => ⟨rfl, by rw [zRy_s], rfl, by unfold zEy; rw [if_neg (by omega)]⟩), h3.kg f25, h5.tr f25.kp, by rw [← h4, show 41 - k = (41 - (k + 1)) + 1 by omega, zfs, if_neg (by omega)]⟩
  refine z_aload_n (pc := 0) C dX10_dryNow_0 rfl 0 rfl ?_
  refine z_Vv (pc := 1) C (c_X10_save l G _ n y K R V E h hr hn ) ml_X10_180 yw_X10_save dX10_dryNow_1 (by first | rfl | assumption) (by omega) rfl rfl rfl (Nat.le_of_ble_eq_true rfl) ⟨by decide, by decide⟩ (fun t1 q1 => ?_)
  obtain ⟨u1, v1, f1⟩ := q1
  refine z_iconst (pc := 4) C dX10_dryNow_4 ?_
  refine z_istore_n (pc := 5) (lv' := [(3, _), (0, _), (1, _), (2, _)]) C dX10_dryNow_5 rfl (by decide) rfl ?_
  refine z_sub C [1, 2, 3, 0] rfl ?_
  exact L6 _ 0 _ (Nat.lt_succ_self _) ⟨by omega, u1.ext (by simp) (fun j hj => ⟨rfl, rfl, rfl, rfl⟩), v1, fun o k ho => f1 o k (by omega) (by omega) (by omega), rfl⟩
set_option maxHeartbeats 4000000 in
set_option maxRecDepth 100000 in
theorem c_X10_dry (l : Launch) (G : zGt) (σ : zMem) (n : Nat) (y : Int) (K R V E : Nat → Int) (h : zMl σ n y K R V E) (hr : zLr K R V E) (hn : n ≤ 6) (p rain : Int) (hp : zR p) (hx : zR rain) (hy : 0 ≤ y ∧ y ≤ 90000) : zN l G yX10_dry cX10_dry 3 (some .int) 5 [.ref (zB G + 108), .int (zI p), .int (zI rain)] σ (zPi (fun x τ => x = zaDry n y K R V E p rain ∧ zMl τ n y K R V E ∧ zKp σ τ)) := by
  obtain ⟨s1, s6, s5, sA⟩ := id h
  have l109 : zl 109 = 6 := by decide
  have l110 : zl 110 = 6 := by decide
  have l111 : zl 111 = 6 := by decide
  have hE : ∀ j, 0 ≤ E j ∧ E j ≤ 1 := fun j => (hr j).2.2.2
  have hb5 := zbs_bd hE n
  have hq6 := zpow6 n hn
  refine zM.of (lv0 := [(0, _), (1, _), (2, _)]) (by decide) (Nat.le_of_ble_eq_true rfl) rfl (fun X C => ?_)
  refine z_aload_n (pc := 0) C dX10_dry_0 rfl 0 rfl ?_
  refine z_iload_n (pc := 1) C dX10_dry_1 rfl 1 rfl ?_
  refine z_Vi (pc := 2) C (c_X10_isHouse l G _ n _ s1 (by omega) hn) ml_X10_149 yw_X10_isHouse dX10_dry_2 (by first | rfl | assumption) (by omega) rfl rfl rfl (Nat.le_of_ble_eq_true rfl) ⟨by decide, by decide⟩ (fun r2 t2 h2 q2 => ?_)
  obtain ⟨w2, rfl⟩ := q2
  refine z_if_ne (pc := 5) (tgt := 11) C dX10_dry_5 (by decide) (by omega) (fun c5 => ?_) (fun c5 => ?_)
  · obtain ⟨i, rfl⟩ : ∃ i : Nat, p = i := ⟨p.toNat, by omega⟩
    have hi : i < n := by omega
    have hri := hr i
    have hA := sA i hi
    refine z_iload_n (pc := 11) C dX10_dry_11 rfl 2 rfl ?_
    refine z_Si (pc := 12) C (c_X10_isRain l G _ _ (by first | assumption | omega | decide)) ml_X10_155 ys_X10_isRain dX10_dry_12 rfl rfl (Nat.le_of_ble_eq_true rfl) ⟨by decide, by decide⟩ (fun r12 t12 h12 q12 => ?_)
    obtain ⟨w12, rfl⟩ := q12
    refine z_if_eq (pc := 15) (tgt := 27) C dX10_dry_15 (by decide) (by omega) (fun c15 => ?_) (fun c15 => ?_)
    · refine z_bipush (pc := 27) C dX10_dry_27 (by decide +kernel) ?_
      refine z_iret (pc := 29) C dX10_dry_29 ?_
      first
        | exact ⟨_, rfl, by assumption, by rw [zaDry, if_pos (by omega), if_pos (by omega)]; rfl, u21, f21⟩
        | exact ⟨_, rfl, by omega, by rw [zaDry, if_pos (by omega), if_neg (by omega)], h, zKp.rf⟩
    · refine z_aload_n (pc := 18) C dX10_dry_18 rfl 0 rfl ?_
      refine z_iload_n (pc := 19) C dX10_dry_19 rfl 1 rfl ?_
      refine z_iload_n (pc := 20) C dX10_dry_20 rfl 2 rfl ?_
      refine z_Vi (pc := 21) C (c_X10_dryNow l G _ n y K R V E h hr hn i _ rain rfl hi (by omega) hy) ml_X10_186 yw_X10_dryNow dX10_dry_21 (by first | rfl | assumption) (by omega) rfl rfl rfl (Nat.le_of_ble_eq_true rfl) ⟨by decide, by decide⟩ (fun r21 t21 h21 q21 => ?_)
      obtain ⟨rfl, u21, f21⟩ := q21
      refine z_goto (pc := 24) (tgt := 29) C dX10_dry_24 (by decide) ?_
      refine z_iret (pc := 29) C dX10_dry_29 ?_
      first
        | exact ⟨_, rfl, by assumption, by rw [zaDry, if_pos (by omega), if_pos (by omega)]; rfl, u21, f21⟩
        | exact ⟨_, rfl, by omega, by rw [zaDry, if_pos (by omega), if_neg (by omega)], h, zKp.rf⟩
  · refine z_bipush (pc := 8) C dX10_dry_8 (by decide +kernel) ?_
    refine z_iret (pc := 10) C dX10_dry_10 ?_
    exact ⟨_, rfl, by omega, by rw [zaDry, if_neg (by omega)], h, zKp.rf⟩
set_option maxHeartbeats 4000000 in
set_option maxRecDepth 100000 in
theorem c_X10_oddsNow (l : Launch) (G : zGt) (σ : zMem) (n : Nat) (y : Int) (K R V E : Nat → Int) (h : zMl σ n y K R V E) (hr : zLr K R V E) (hn : n ≤ 6) (i N : Nat) (p q what : Int) (hp : p = i) (hq : q = N) (hi : i < n) (hN : 1 ≤ N ∧ N ≤ 7) (hw : 0 ≤ what ∧ what ≤ 1) (hy : 0 ≤ y ∧ y ≤ 90000) : zN l G yX10_oddsNow cX10_oddsNow 9 (some .int) 4 [.ref (zB G + 108), .int (zI p), .int (zI q), .int (zI what)] σ (zPi (fun x τ => x = (if what = 0 then zlt (zab1 K R V E y i N) (10 ^ N) else zlt (10 ^ N) (zab1 K R V E y i N)) ∧ zMl τ n y K R V E ∧ zKp σ τ)) := by
  obtain ⟨s1, s6, s5, sA⟩ := id h
  have l109 : zl 109 = 6 := by decide
  have l110 : zl 110 = 6 := by decide
  have l111 : zl 111 = 6 := by decide
  have hE : ∀ j, 0 ≤ E j ∧ E j ≤ 1 := fun j => (hr j).2.2.2
  have hb5 := zbs_bd hE n
  have hq6 := zpow6 n hn
  subst hp
  subst hq
  refine zM.of (lv0 := [(0, _), (1, _), (2, _), (3, _)]) (by decide) (Nat.le_of_ble_eq_true rfl) rfl (fun X C => ?_)
  have L29 : ∀ (fuel : Nat) (k : Nat) (u v : Int) (τ2 : zMem) (_ : zMl τ2 n (y + ((k + 1 : Nat) : Int)) K (zRy K R V E y (k + 1)) V (zEy E (k + 1))) (_ : ∀ (d : Int), (d = zdr (zRy K R V E y (k + 1)) i 10) → zg G X true 9 129 0 0 65 [(0, .ref (zB G + 108)), (1, .int (zI (i : Int))), (2, .int (zI (N : Int))), (3, .int (zI what)), (4, .int (zI u)), (5, .int (zI v)), (6, .int (zI (k : Int))), (7, .int (zI d))] [] τ2) (j : Nat) (d : Int), 10 - j < fuel → (j ≤ 10 ∧ d = zdr (zRy K R V E y (k + 1)) i j) → zg G X true 9 129 0 0 29 [(0, .ref (zB G + 108)), (1, .int (zI (i : Int))), (2, .int (zI (N : Int))), (3, .int (zI what)), (4, .int (zI u)), (5, .int (zI v)), (6, .int (zI (k : Int))), (7, .int (zI d)), (8, .int (zI (j : Int)))] [] τ2 := by
    intro fuel
    induction fuel with
    | zero => intro k u v τ2 h2 kk29 j d hm; exact absurd hm (Nat.not_lt_zero _)
    | succ fuel ih =>
      intro k u v τ2 h2 kk29 j d hms hinv
      obtain ⟨j1, hd⟩ := hinv
      refine z_iload (pc := 29) C dX10_oddsNow_29 8 rfl ?_
      refine z_bipush (pc := 31) C dX10_oddsNow_31 (by decide +kernel) ?_
      refine z_icmp_ge (pc := 33) (tgt := 65) C dX10_oddsNow_33 (by decide) ⟨by omega, by omega⟩ (fun c33 => ?_) (fun c33 => ?_)
      · refine z_sub C [0, 1, 2, 3, 4, 5, 6, 7] rfl ?_
        exact kk29 d (by rw [hd, show j = 10 by omega])
      · refine z_iload (pc := 36) C dX10_oddsNow_36 7 rfl ?_
        refine z_aload_n (pc := 38) C dX10_oddsNow_38 rfl 0 rfl ?_
        refine z_iload (pc := 39) C dX10_oddsNow_39 8 rfl ?_
        refine z_Vi (pc := 41) C (c_X10_wetBy l G _ n _ K _ _ _ h2 (zRy_r hr (k + 1)) hn (j : Int) (by omega)) ml_X10_137 yw_X10_wetBy dX10_oddsNow_41 (by first | rfl | assumption) (by omega) rfl rfl rfl (Nat.le_of_ble_eq_true rfl) ⟨by decide, by decide⟩ (fun r41 t41 h41 q41 => ?_)
        obtain ⟨rfl, rfl⟩ := q41
        have hbb := zbs_bd (zwp_bd (zRy K R V E y (k + 1)) (j : Int)) n
        have hzw := zwp_bd (zRy K R V E y (k + 1)) (j : Int) i
        refine z_iload_n (pc := 44) C dX10_oddsNow_44 rfl 1 rfl ?_
        refine z_Si (pc := 45) C (c_isInV l G _ _ (zwp (zRy K R V E y (k + 1)) (j : Int) i) i _ rfl (by omega) (by omega) (zbs_bit (zwp_bd _ (j : Int)) n i hi)) ml_X10_122 ys_X10_isIn dX10_oddsNow_45 rfl rfl (Nat.le_of_ble_eq_true rfl) ⟨by decide, by decide⟩ (fun r45 t45 h45 q45 => ?_)
        obtain ⟨rfl, rfl⟩ := q45
        refine z_if_eq (pc := 48) (tgt := 55) C dX10_oddsNow_48 (by decide) (by omega) (fun c48 => ?_) (fun c48 => ?_)
        · refine z_iconst (pc := 55) C dX10_oddsNow_55 ?_
          refine z_iadd (pc := 56) C dX10_oddsNow_56 ?_
          refine z_istore (pc := 57) (lv' := [(7, _), (0, _), (1, _), (2, _), (3, _), (4, _), (5, _), (6, _), (8, _)]) C dX10_oddsNow_57 (by decide) rfl ?_
          refine z_iinc (pc := 59) (lv' := [(8, _), (7, _), (0, _), (1, _), (2, _), (3, _), (4, _), (5, _), (6, _)]) C dX10_oddsNow_59 8 rfl (by decide) rfl ?_
          refine z_goto (pc := 62) (tgt := 29) C dX10_oddsNow_62 (by decide) ?_
          refine z_sub C [2, 3, 4, 5, 6, 7, 8, 1, 0] rfl ?_
          have hd1 : zdr (zRy K R V E y (k + 1)) i (j + 1) = zdr (zRy K R V E y (k + 1)) i j + (1 - zwp (zRy K R V E y (k + 1)) (j : Int) i) := rfl
          exact ih k u v τ2 h2 kk29 (j + 1) _ (by omega) ⟨by omega, by rw [hd1, hd]; omega⟩
        · refine z_iconst (pc := 51) C dX10_oddsNow_51 ?_
          refine z_goto (pc := 52) (tgt := 56) C dX10_oddsNow_52 (by decide) ?_
          refine z_iadd (pc := 56) C dX10_oddsNow_56 ?_
          refine z_istore (pc := 57) (lv' := [(7, _), (0, _), (1, _), (2, _), (3, _), (4, _), (5, _), (6, _), (8, _)]) C dX10_oddsNow_57 (by decide) rfl ?_
          refine z_iinc (pc := 59) (lv' := [(8, _), (7, _), (0, _), (1, _), (2, _), (3, _), (4, _), (5, _), (6, _)]) C dX10_oddsNow_59 8 rfl (by decide) rfl ?_
          refine z_goto (pc := 62) (tgt := 29) C dX10_oddsNow_62 (by decide) ?_
          refine z_sub C [2, 3, 4, 5, 6, 7, 8, 1, 0] rfl ?_
          have hd1 : zdr (zRy K R V E y (k + 1)) i (j + 1) = zdr (zRy K R V E y (k + 1)) i j + (1 - zwp (zRy K R V E y (k + 1)) (j : Int) i) := rfl
          exact ih k u v τ2 h2 kk29 (j + 1) _ (by omega) ⟨by omega, by rw [hd1, hd]; omega⟩
  have L13 : ∀ (fuel : Nat) (k : Nat) (u v : Int) (τ : zMem), N - k < fuel → (k ≤ N ∧ zMl τ n (y + (k : Int)) K (zRy K R V E y k) V (zEy E k) ∧ zSv τ n y R V E ∧ zKp σ τ ∧ u = zab1 K R V E y i k ∧ v = 10 ^ k) → zg G X true 9 129 0 0 13 [(0, .ref (zB G + 108)), (1, .int (zI (i : Int))), (2, .int (zI (N : Int))), (3, .int (zI what)), (4, .int (zI u)), (5, .int (zI v)), (6, .int (zI (k : Int)))] [] τ := by
    intro fuel
    induction fuel with
    | zero => intro k u v τ hm; exact absurd hm (Nat.not_lt_zero _)
    | succ fuel ih =>
      intro k u v τ hms hinv
      obtain ⟨h1, h2, h3, h5, hu, hv⟩ := hinv
      refine z_iload (pc := 13) C dX10_oddsNow_13 6 rfl ?_
      refine z_iload_n (pc := 15) C dX10_oddsNow_15 rfl 2 rfl ?_
      refine z_icmp_ge (pc := 16) (tgt := 85) C dX10_oddsNow_16 (by decide) ⟨by omega, by omega⟩ (fun c16 => ?_) (fun c16 => ?_)
      · obtain rfl : N = k := by omega
        have hub := zab1_bd K R V E y i N
        have h10 := zp10 N (by omega)
        obtain ⟨B, hB⟩ : ∃ B : Nat, u = B := ⟨u.toNat, by omega⟩
        have hv2 : v = ((10 ^ N : Nat) : Int) := by rw [hv, Int.natCast_pow]; rfl
        have h10p : 1 ≤ 10 ^ N := Nat.one_le_pow _ _ (by omega)
        have hgp : 0 < Nat.gcd B (10 ^ N) := Nat.gcd_pos_of_pos_right _ h10p
        have hgl : Nat.gcd B (10 ^ N) ≤ 10 ^ N := Nat.le_of_dvd h10p (Nat.gcd_dvd_right _ _)
        refine z_aload_n (pc := 85) C dX10_oddsNow_85 rfl 0 rfl ?_
        refine z_Vv (pc := 86) C (c_X10_load l G _ n y _ K R V E _ _ _ h2 h3 hr hn (by omega)) ml_X10_183 yw_X10_load dX10_oddsNow_86 (by first | rfl | assumption) (by omega) rfl rfl rfl (Nat.le_of_ble_eq_true rfl) ⟨by decide, by decide⟩ (fun t86 q86 => ?_)
        obtain ⟨u86, v86, f86⟩ := q86
        refine z_iload (pc := 89) C dX10_oddsNow_89 4 rfl ?_
        refine z_iload (pc := 91) C dX10_oddsNow_91 5 rfl ?_
        refine z_Si (pc := 93) C (c_X10_divisor l G _ B (10 ^ N) _ _ hB hv2 (by omega) (by omega)) ml_X10_231 ys_X10_divisor dX10_oddsNow_93 rfl rfl (Nat.le_of_ble_eq_true rfl) ⟨by decide, by decide⟩ (fun r93 t93 h93 q93 => ?_)
        obtain ⟨rfl, rfl⟩ := q93
        refine z_istore (pc := 96) (lv' := [(6, _), (0, _), (1, _), (2, _), (3, _), (4, _), (5, _)]) C dX10_oddsNow_96 (by decide) rfl ?_
        refine z_iload_n (pc := 98) C dX10_oddsNow_98 rfl 4 rfl ?_
        refine z_if_ne (pc := 99) (tgt := 110) C dX10_oddsNow_99 (by decide) (by omega) (fun c99 => ?_) (fun c99 => ?_)
        · refine z_iload (pc := 110) C dX10_oddsNow_110 6 rfl ?_
          refine z_iload (pc := 112) C dX10_oddsNow_112 0 rfl ?_
          refine z_idiv (pc := 114) C dX10_oddsNow_114 ⟨⟨by omega, by omega⟩, by omega, by omega⟩ ?_
          refine z_iret (pc := 115) C dX10_oddsNow_115 ?_
          first
            | (exfalso; omega)
            | exact ⟨_, rfl, by have := Int.ediv_nonneg (a := u) (b := (Nat.gcd B (10 ^ N) : Nat)) (by omega) (by omega); have := Int.ediv_le_self (a := u) (Nat.gcd B (10 ^ N) : Nat) (by omega); omega, by rw [if_pos (by assumption), ← hu, ← hv, hB, hv2]; rfl, u86, h5.tr f86.kp⟩
            | exact ⟨_, rfl, by have := Int.ediv_nonneg (a := v) (b := (Nat.gcd B (10 ^ N) : Nat)) (by omega) (by omega); have := Int.ediv_le_self (a := v) (Nat.gcd B (10 ^ N) : Nat) (by omega); omega, by rw [if_neg (by omega), ← hu, ← hv, hB, hv2, Nat.gcd_comm]; rfl, u86, h5.tr f86.kp⟩
        · refine z_iload (pc := 102) C dX10_oddsNow_102 5 rfl ?_
          refine z_iload (pc := 104) C dX10_oddsNow_104 0 rfl ?_
          refine z_idiv (pc := 106) C dX10_oddsNow_106 ⟨⟨by omega, by omega⟩, by omega, by omega⟩ ?_
          refine z_goto (pc := 107) (tgt := 115) C dX10_oddsNow_107 (by decide) ?_
          refine z_iret (pc := 115) C dX10_oddsNow_115 ?_
          first
            | (exfalso; omega)
            | exact ⟨_, rfl, by have := Int.ediv_nonneg (a := u) (b := (Nat.gcd B (10 ^ N) : Nat)) (by omega) (by omega); have := Int.ediv_le_self (a := u) (Nat.gcd B (10 ^ N) : Nat) (by omega); omega, by rw [if_pos (by assumption), ← hu, ← hv, hB, hv2]; rfl, u86, h5.tr f86.kp⟩
            | exact ⟨_, rfl, by have := Int.ediv_nonneg (a := v) (b := (Nat.gcd B (10 ^ N) : Nat)) (by omega) (by omega); have := Int.ediv_le_self (a := v) (Nat.gcd B (10 ^ N) : Nat) (by omega); omega, by rw [if_neg (by omega), ← hu, ← hv, hB, hv2, Nat.gcd_comm]; rfl, u86, h5.tr f86.kp⟩
      · refine z_aload_n (pc := 19) C dX10_oddsNow_19 rfl 0 rfl ?_
        refine z_Vv (pc := 20) C (c_X10_goYear l G _ n _ K _ _ _ h2 (zRy_r hr k) hn (by omega)) ml_X10_158 yw_X10_goYear dX10_oddsNow_20 (by first | rfl | assumption) (by omega) rfl rfl rfl (Nat.le_of_ble_eq_true rfl) ⟨by decide, by decide⟩ (fun t20 q20 => ?_)
        obtain ⟨u20, f20⟩ := q20
        have v20 : zMl t20 n (y + ((k + 1 : Nat) : Int)) K (zRy K R V E y (k + 1)) V (zEy E (k + 1)) := u20.ext (by omega) (fun j hj => ⟨rfl, by rw [zRy_s], rfl, by unfold zEy; rw [if_neg (by omega)]⟩)
        refine z_iconst (pc := 23) C dX10_oddsNow_23 ?_
        refine z_istore (pc := 24) (lv' := [(7, _), (0, _), (1, _), (2, _), (3, _), (4, _), (5, _), (6, _)]) C dX10_oddsNow_24 (by decide) rfl ?_
        refine z_iconst (pc := 26) C dX10_oddsNow_26 ?_
        refine z_istore (pc := 27) (lv' := [(8, _), (7, _), (0, _), (1, _), (2, _), (3, _), (4, _), (5, _), (6, _)]) C dX10_oddsNow_27 (by decide) rfl ?_
        refine z_sub C [2, 3, 4, 5, 6, 7, 8, 1, 0] rfl ?_
        refine L29 _ k u v _ v20 ?_ 0 0 (Nat.lt_succ_self _) ⟨by omega, rfl⟩
        intro d hd
        refine z_iload (pc := 65) C dX10_oddsNow_65 4 rfl ?_
        refine z_iload (pc := 67) C dX10_oddsNow_67 7 rfl ?_
        refine z_imul (pc := 69) C dX10_oddsNow_69 ?_
        refine z_istore (pc := 70) (lv' := [(4, _), (0, _), (1, _), (2, _), (3, _), (5, _), (6, _), (7, _)]) C dX10_oddsNow_70 (by decide) rfl ?_
        refine z_iload (pc := 72) C dX10_oddsNow_72 5 rfl ?_
        refine z_bipush (pc := 74) C dX10_oddsNow_74 (by decide +kernel) ?_
        refine z_imul (pc := 76) C dX10_oddsNow_76 ?_
        refine z_istore (pc := 77) (lv' := [(5, _), (4, _), (0, _), (1, _), (2, _), (3, _), (6, _), (7, _)]) C dX10_oddsNow_77 (by decide) rfl ?_
        refine z_iinc (pc := 79) (lv' := [(6, _), (5, _), (4, _), (0, _), (1, _), (2, _), (3, _), (7, _)]) C dX10_oddsNow_79 6 rfl (by decide) rfl ?_
        refine z_goto (pc := 82) (tgt := 13) C dX10_oddsNow_82 (by decide) ?_
        refine z_sub C [3, 4, 5, 6, 2, 1, 0] rfl ?_
        exact ih (k + 1) _ _ _ (by omega) ⟨by omega, v20, h3.kg f20, h5.tr f20.kp, by rw [hu, hd]; rfl, by rw [hv]; exact (Int.pow_succ _ _).symm⟩
  refine z_aload_n (pc := 0) C dX10_oddsNow_0 rfl 0 rfl ?_
  refine z_Vv (pc := 1) C (c_X10_save l G _ n y K R V E h hr hn ) ml_X10_180 yw_X10_save dX10_oddsNow_1 (by first | rfl | assumption) (by omega) rfl rfl rfl (Nat.le_of_ble_eq_true rfl) ⟨by decide, by decide⟩ (fun t1 q1 => ?_)
  obtain ⟨u1, v1, f1⟩ := q1
  refine z_iconst (pc := 4) C dX10_oddsNow_4 ?_
  refine z_istore (pc := 5) (lv' := [(4, _), (0, _), (1, _), (2, _), (3, _)]) C dX10_oddsNow_5 (by decide) rfl ?_
  refine z_iconst (pc := 7) C dX10_oddsNow_7 ?_
  refine z_istore (pc := 8) (lv' := [(5, _), (4, _), (0, _), (1, _), (2, _), (3, _)]) C dX10_oddsNow_8 (by decide) rfl ?_
  refine z_iconst (pc := 10) C dX10_oddsNow_10 ?_
  refine z_istore (pc := 11) (lv' := [(6, _), (5, _), (4, _), (0, _), (1, _), (2, _), (3, _)]) C dX10_oddsNow_11 (by decide) rfl ?_
  refine z_sub C [3, 4, 5, 6, 2, 1, 0] rfl ?_
  exact L13 _ 0 1 1 _ (Nat.lt_succ_self _) ⟨by omega, u1.ext (by simp) (fun j hj => ⟨rfl, rfl, rfl, rfl⟩), v1, fun o k ho => f1 o k (by omega) (by omega) (by omega), rfl, rfl⟩
set_option maxHeartbeats 4000000 in
set_option maxRecDepth 100000 in
theorem c_X10_odds (l : Launch) (G : zGt) (σ : zMem) (n : Nat) (y : Int) (K R V E : Nat → Int) (h : zMl σ n y K R V E) (hr : zLr K R V E) (hn : n ≤ 6) (p q what : Int) (hp : zR p) (hq : zR q) (hw : zR what) (hy : 0 ≤ y ∧ y ≤ 90000) : zN l G yX10_odds cX10_odds 4 (some .int) 5 [.ref (zB G + 108), .int (zI p), .int (zI q), .int (zI what)] σ (zPi (fun x τ => x = zaOdds n y K R V E p q what ∧ zMl τ n y K R V E ∧ zKp σ τ)) := by
  obtain ⟨s1, s6, s5, sA⟩ := id h
  have l109 : zl 109 = 6 := by decide
  have l110 : zl 110 = 6 := by decide
  have l111 : zl 111 = 6 := by decide
  have hE : ∀ j, 0 ≤ E j ∧ E j ≤ 1 := fun j => (hr j).2.2.2
  have hb5 := zbs_bd hE n
  have hq6 := zpow6 n hn
  refine zM.of (lv0 := [(0, _), (1, _), (2, _), (3, _)]) (by decide) (Nat.le_of_ble_eq_true rfl) rfl (fun X C => ?_)
  refine z_aload_n (pc := 0) C dX10_odds_0 rfl 0 rfl ?_
  refine z_iload_n (pc := 1) C dX10_odds_1 rfl 1 rfl ?_
  refine z_Vi (pc := 2) C (c_X10_isHouse l G _ n _ s1 (by omega) hn) ml_X10_149 yw_X10_isHouse dX10_odds_2 (by first | rfl | assumption) (by omega) rfl rfl rfl (Nat.le_of_ble_eq_true rfl) ⟨by decide, by decide⟩ (fun r2 t2 h2 q2 => ?_)
  obtain ⟨w2, rfl⟩ := q2
  refine z_if_ne (pc := 5) (tgt := 11) C dX10_odds_5 (by decide) (by omega) (fun c5 => ?_) (fun c5 => ?_)
  · obtain ⟨i, rfl⟩ : ∃ i : Nat, p = i := ⟨p.toNat, by omega⟩
    have hi : i < n := by omega
    have hri := hr i
    have hA := sA i hi
    refine z_iload_n (pc := 11) C dX10_odds_11 rfl 2 rfl ?_
    refine z_iconst (pc := 12) C dX10_odds_12 ?_
    refine z_bipush (pc := 13) C dX10_odds_13 (by decide +kernel) ?_
    refine z_Si (pc := 15) C (c_X10_within l G _ _ _ _ (by first | assumption | omega | decide) (by first | assumption | omega | decide) (by first | assumption | omega | decide)) ml_X10_71 ys_X10_within dX10_odds_15 rfl rfl (Nat.le_of_ble_eq_true rfl) ⟨by decide, by decide⟩ (fun r15 t15 h15 q15 => ?_)
    obtain ⟨w15, rfl⟩ := q15
    refine z_if_eq (pc := 18) (tgt := 40) C dX10_odds_18 (by decide) (by omega) (fun c18 => ?_) (fun c18 => ?_)
    · refine z_bipush (pc := 40) C dX10_odds_40 (by decide +kernel) ?_
      refine z_iret (pc := 42) C dX10_odds_42 ?_
      first
        | exact ⟨_, rfl, by assumption, by rw [zaOdds, if_pos (by omega), if_pos (by omega)]; exact e34, u34, f34⟩
        | exact ⟨_, rfl, by omega, by rw [zaOdds, if_pos (by omega), if_neg (by omega)], h, zKp.rf⟩
    · refine z_iload_n (pc := 21) C dX10_odds_21 rfl 3 rfl ?_
      refine z_iconst (pc := 22) C dX10_odds_22 ?_
      refine z_iconst (pc := 23) C dX10_odds_23 ?_
      refine z_Si (pc := 24) C (c_X10_within l G _ _ _ _ (by first | assumption | omega | decide) (by first | assumption | omega | decide) (by first | assumption | omega | decide)) ml_X10_71 ys_X10_within dX10_odds_24 rfl rfl (Nat.le_of_ble_eq_true rfl) ⟨by decide, by decide⟩ (fun r24 t24 h24 q24 => ?_)
      obtain ⟨w24, rfl⟩ := q24
      refine z_if_eq (pc := 27) (tgt := 40) C dX10_odds_27 (by decide) (by omega) (fun c27 => ?_) (fun c27 => ?_)
      · refine z_bipush (pc := 40) C dX10_odds_40 (by decide +kernel) ?_
        refine z_iret (pc := 42) C dX10_odds_42 ?_
        first
          | exact ⟨_, rfl, by assumption, by rw [zaOdds, if_pos (by omega), if_pos (by omega)]; exact e34, u34, f34⟩
          | exact ⟨_, rfl, by omega, by rw [zaOdds, if_pos (by omega), if_neg (by omega)], h, zKp.rf⟩
      · obtain ⟨N, rfl⟩ : ∃ N : Nat, q = N := ⟨q.toNat, by omega⟩
        refine z_aload_n (pc := 30) C dX10_odds_30 rfl 0 rfl ?_
        refine z_iload_n (pc := 31) C dX10_odds_31 rfl 1 rfl ?_
        refine z_iload_n (pc := 32) C dX10_odds_32 rfl 2 rfl ?_
        refine z_iload_n (pc := 33) C dX10_odds_33 rfl 3 rfl ?_
        refine z_Vi (pc := 34) C (c_X10_oddsNow l G _ n y K R V E h hr hn i N _ _ what rfl rfl hi (by omega) (by omega) hy) ml_X10_234 yw_X10_oddsNow dX10_odds_34 (by first | rfl | assumption) (by omega) rfl rfl rfl (Nat.le_of_ble_eq_true rfl) ⟨by decide, by decide⟩ (fun r34 t34 h34 q34 => ?_)
        obtain ⟨e34, u34, f34⟩ := q34
        refine z_goto (pc := 37) (tgt := 42) C dX10_odds_37 (by decide) ?_
        refine z_iret (pc := 42) C dX10_odds_42 ?_
        first
          | exact ⟨_, rfl, by assumption, by rw [zaOdds, if_pos (by omega), if_pos (by omega)]; exact e34, u34, f34⟩
          | exact ⟨_, rfl, by omega, by rw [zaOdds, if_pos (by omega), if_neg (by omega)], h, zKp.rf⟩
  · refine z_bipush (pc := 8) C dX10_odds_8 (by decide +kernel) ?_
    refine z_iret (pc := 10) C dX10_odds_10 ?_
    exact ⟨_, rfl, by omega, by rw [zaOdds, if_neg (by omega)], h, zKp.rf⟩
