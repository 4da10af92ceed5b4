set_option maxHeartbeats 4000000 in
set_option maxRecDepth 100000 in
theorem c_X9_within (l : Launch) (G : zGt) (σ : zMem) (a lo hi : Int) (ha : zR a) (hl : zR lo) (hh : zR hi) : zN l G yX9_within cX9_within 3 (some .boolean) 0 [.int (zI a), .int (zI lo), .int (zI hi)] σ (zPi (fun x τ => x = (if lo ≤ a ∧ a ≤ hi then 1 else 0) ∧ σ = τ)) := by
  refine zM.of (lv0 := [(0, _), (1, _), (2, _)]) (by decide) (Nat.le_of_ble_eq_true rfl) rfl (fun X C => ?_)
  refine z_iload_n (pc := 0) C dX9_within_0 rfl 0 rfl ?_
  refine z_iload_n (pc := 1) C dX9_within_1 rfl 1 rfl ?_
  refine z_icmp_lt (pc := 2) (tgt := 14) C dX9_within_2 (by decide) ⟨by omega, by omega⟩ (fun c2 => ?_) (fun c2 => ?_)
  · refine z_iconst (pc := 14) C dX9_within_14 ?_
    refine z_zret (pc := 15) C dX9_within_15 (by omega) ?_
    exact ⟨_, rfl, by omega, by split <;> omega, rfl⟩
  · refine z_iload_n (pc := 5) C dX9_within_5 rfl 0 rfl ?_
    refine z_iload_n (pc := 6) C dX9_within_6 rfl 2 rfl ?_
    refine z_icmp_gt (pc := 7) (tgt := 14) C dX9_within_7 (by decide) ⟨by omega, by omega⟩ (fun c7 => ?_) (fun c7 => ?_)
    · refine z_iconst (pc := 14) C dX9_within_14 ?_
      refine z_zret (pc := 15) C dX9_within_15 (by omega) ?_
      exact ⟨_, rfl, by omega, by split <;> omega, rfl⟩
    · refine z_iconst (pc := 10) C dX9_within_10 ?_
      refine z_goto (pc := 11) (tgt := 15) C dX9_within_11 (by decide) ?_
      refine z_zret (pc := 15) C dX9_within_15 (by omega) ?_
      exact ⟨_, rfl, by omega, by split <;> omega, rfl⟩
set_option maxHeartbeats 4000000 in
set_option maxRecDepth 100000 in
theorem c_X9_isOfKind (l : Launch) (G : zGt) (σ : zMem) (k q : Int) (hk : 0 ≤ k ∧ k ≤ 4) (hq : 0 ≤ q ∧ q ≤ 4) : zN l G yX9_isOfKind cX9_isOfKind 2 (some .boolean) 0 [.int (zI k), .int (zI q)] σ (zPi (fun x τ => x = (if q = 0 ∨ k = q ∨ (q = 1 ∧ k = 4) then 1 else 0) ∧ σ = τ)) := by
  refine zM.of (lv0 := [(0, _), (1, _)]) (by decide) (Nat.le_of_ble_eq_true rfl) rfl (fun X C => ?_)
  refine z_iload_n (pc := 0) C dX9_isOfKind_0 rfl 1 rfl ?_
  refine z_if_eq (pc := 1) (tgt := 19) C dX9_isOfKind_1 (by decide) (by omega) (fun c1 => ?_) (fun c1 => ?_)
  · refine z_iconst (pc := 19) C dX9_isOfKind_19 ?_
    refine z_goto (pc := 20) (tgt := 24) C dX9_isOfKind_20 (by decide) ?_
    refine z_zret (pc := 24) C dX9_isOfKind_24 (by omega) ?_
    exact ⟨_, rfl, by omega, by split <;> omega, rfl⟩
  · refine z_iload_n (pc := 4) C dX9_isOfKind_4 rfl 1 rfl ?_
    refine z_iload_n (pc := 5) C dX9_isOfKind_5 rfl 0 rfl ?_
    refine z_icmp_eq (pc := 6) (tgt := 19) C dX9_isOfKind_6 (by decide) ⟨by omega, by omega⟩ (fun c6 => ?_) (fun c6 => ?_)
    · refine z_iconst (pc := 19) C dX9_isOfKind_19 ?_
      refine z_goto (pc := 20) (tgt := 24) C dX9_isOfKind_20 (by decide) ?_
      refine z_zret (pc := 24) C dX9_isOfKind_24 (by omega) ?_
      exact ⟨_, rfl, by omega, by split <;> omega, rfl⟩
    · refine z_iload_n (pc := 9) C dX9_isOfKind_9 rfl 1 rfl ?_
      refine z_iconst (pc := 10) C dX9_isOfKind_10 ?_
      refine z_icmp_ne (pc := 11) (tgt := 23) C dX9_isOfKind_11 (by decide) ⟨by omega, by omega⟩ (fun c11 => ?_) (fun c11 => ?_)
      · refine z_iconst (pc := 23) C dX9_isOfKind_23 ?_
        refine z_zret (pc := 24) C dX9_isOfKind_24 (by omega) ?_
        exact ⟨_, rfl, by omega, by split <;> omega, rfl⟩
      · refine z_iload_n (pc := 14) C dX9_isOfKind_14 rfl 0 rfl ?_
        refine z_iconst (pc := 15) C dX9_isOfKind_15 ?_
        refine z_icmp_ne (pc := 16) (tgt := 23) C dX9_isOfKind_16 (by decide) ⟨by omega, by omega⟩ (fun c16 => ?_) (fun c16 => ?_)
        · refine z_iconst (pc := 23) C dX9_isOfKind_23 ?_
          refine z_zret (pc := 24) C dX9_isOfKind_24 (by omega) ?_
          exact ⟨_, rfl, by omega, by split <;> omega, rfl⟩
        · refine z_iconst (pc := 19) C dX9_isOfKind_19 ?_
          refine z_goto (pc := 20) (tgt := 24) C dX9_isOfKind_20 (by decide) ?_
          refine z_zret (pc := 24) C dX9_isOfKind_24 (by omega) ?_
          exact ⟨_, rfl, by omega, by split <;> omega, rfl⟩
set_option maxHeartbeats 4000000 in
set_option maxRecDepth 100000 in
theorem c_X9_rainBehind (l : Launch) (G : zGt) (σ : zMem) (a s : Int) (ha : 0 ≤ a ∧ a ≤ 1000) (hs : 0 ≤ s ∧ s ≤ 1000) : zN l G yX9_rainBehind cX9_rainBehind 3 (some .int) 0 [.int (zI a), .int (zI s)] σ (zPi (fun x τ => x = zrb a s ∧ σ = τ)) := by
  refine zM.of (lv0 := [(0, _), (1, _)]) (by decide) (Nat.le_of_ble_eq_true rfl) rfl (fun X C => ?_)
  refine z_iload_n (pc := 0) C dX9_rainBehind_0 rfl 0 rfl ?_
  refine z_iconst (pc := 1) C dX9_rainBehind_1 ?_
  refine z_iload_n (pc := 2) C dX9_rainBehind_2 rfl 1 rfl ?_
  refine z_imul (pc := 3) C dX9_rainBehind_3 ?_
  refine z_isub (pc := 4) C dX9_rainBehind_4 ?_
  refine z_istore_n (pc := 5) (lv' := [(2, _), (0, _), (1, _)]) C dX9_rainBehind_5 rfl (by decide) rfl ?_
  refine z_iload_n (pc := 6) C dX9_rainBehind_6 rfl 0 rfl ?_
  refine z_if_ge (pc := 7) (tgt := 14) C dX9_rainBehind_7 (by decide) (by omega) (fun c7 => ?_) (fun c7 => ?_)
  · refine z_iload_n (pc := 14) C dX9_rainBehind_14 rfl 0 rfl ?_
    refine z_iret (pc := 15) C dX9_rainBehind_15 ?_
    exact ⟨_, rfl, by omega, by unfold zrb; split <;> omega, rfl⟩
  · refine z_iconst (pc := 10) C dX9_rainBehind_10 ?_
    refine z_goto (pc := 11) (tgt := 15) C dX9_rainBehind_11 (by decide) ?_
    refine z_iret (pc := 15) C dX9_rainBehind_15 ?_
    exact ⟨_, rfl, by omega, by unfold zrb; split <;> omega, rfl⟩
set_option maxHeartbeats 4000000 in
set_option maxRecDepth 100000 in
theorem c_X9_mix (l : Launch) (G : zGt) (σ : zMem) (a b : Int) : zN l G yX9_mix cX9_mix 4 (some .long) 0 [.long (zJ (a)), .long (zJ (b))] σ (zPl (fun x τ => x = 31 * a + b ∧ σ = τ)) := by
  refine zM.of (lv0 := [(0, _), (2, _)]) (by decide) (Nat.le_of_ble_eq_true rfl) rfl (fun X C => ?_)
  refine z_ldc2 (pc := 0) (n := 31) C dX9_mix_0 cw_X9_294 rfl ?_
  refine z_lload_n (pc := 3) C dX9_mix_3 rfl 0 rfl ?_
  refine z_lmul (pc := 4) C dX9_mix_4 ?_
  refine z_lload_n (pc := 5) C dX9_mix_5 rfl 1 rfl ?_
  refine z_ladd (pc := 6) C dX9_mix_6 ?_
  refine z_lret (pc := 7) C dX9_mix_7 ?_
  exact ⟨_, rfl, rfl, rfl⟩
set_option maxHeartbeats 4000000 in
set_option maxRecDepth 100000 in
theorem c_X9_grown (l : Launch) (G : zGt) (σ : zMem) (k r v e y : Int) (hk : 0 ≤ k ∧ k ≤ 4) (hr : 0 ≤ r ∧ r ≤ 1000) (hv : 0 ≤ v ∧ v ≤ 1000) (he : 0 ≤ e ∧ e ≤ 1) (hy : 0 ≤ y ∧ y ≤ 1000000) : zN l G yX9_grown cX9_grown 8 (some .int) 0 [.int (zI k), .int (zI r), .int (zI v), .int (zI e), .int (zI y)] σ (zPi (fun x τ => x = zgr k r v e y ∧ σ = τ)) := by
  refine zM.of (lv0 := [(0, _), (1, _), (2, _), (3, _), (4, _)]) (by decide) (Nat.le_of_ble_eq_true rfl) rfl (fun X C => ?_)
  have J85 : ∀ (more : Int), (more = zmo k v y) → zg G X true 8 129 0 0 85 [(0, .int (zI k)), (1, .int (zI r)), (2, .int (zI v)), (3, .int (zI e)), (4, .int (zI y)), (6, .int (zI more))] [] σ := by
    intro more hm
    have hb := zmo_bd (k := k) (y := y) hv
    refine z_iload_n (pc := 85) C dX9_grown_85 rfl 1 rfl ?_
    refine z_iload (pc := 86) C dX9_grown_86 5 rfl ?_
    refine z_iadd (pc := 88) C dX9_grown_88 ?_
    refine z_iconst (pc := 89) C dX9_grown_89 ?_
    refine z_iload_n (pc := 90) C dX9_grown_90 rfl 3 rfl ?_
    refine z_imul (pc := 91) C dX9_grown_91 ?_
    refine z_iadd (pc := 92) C dX9_grown_92 ?_
    refine z_istore (pc := 93) (lv' := [(7, _), (0, _), (1, _), (2, _), (3, _), (4, _), (6, _)]) C dX9_grown_93 (by decide) rfl ?_
    refine z_iload (pc := 95) C dX9_grown_95 0 rfl ?_
    refine z_if_ge (pc := 97) (tgt := 102) C dX9_grown_97 (by decide) (by omega) (fun c97 => ?_) (fun c97 => ?_)
    · refine z_iload (pc := 102) C dX9_grown_102 0 rfl ?_
      refine z_bipush (pc := 104) C dX9_grown_104 (by decide +kernel) ?_
      refine z_icmp_le (pc := 106) (tgt := 114) C dX9_grown_106 (by decide) ⟨by omega, by omega⟩ (fun c106 => ?_) (fun c106 => ?_)
      · refine z_iload (pc := 114) C dX9_grown_114 0 rfl ?_
        refine z_iret (pc := 116) C dX9_grown_116 ?_
        exact ⟨_, rfl, by omega, by unfold zgr zcl; rw [← hm, if_neg (by omega)]; split <;> omega, rfl⟩
      · refine z_bipush (pc := 109) C dX9_grown_109 (by decide +kernel) ?_
        refine z_goto (pc := 111) (tgt := 116) C dX9_grown_111 (by decide) ?_
        refine z_iret (pc := 116) C dX9_grown_116 ?_
        exact ⟨_, rfl, by omega, by unfold zgr zcl; rw [← hm, if_neg (by omega)]; split <;> omega, rfl⟩
    · refine z_iconst (pc := 100) C dX9_grown_100 ?_
      refine z_iret (pc := 101) C dX9_grown_101 ?_
      exact ⟨_, rfl, by omega, by unfold zgr zcl; rw [← hm, if_pos (by omega)], rfl⟩
  refine z_iconst (pc := 0) C dX9_grown_0 ?_
  refine z_iload_n (pc := 1) C dX9_grown_1 rfl 2 rfl ?_
  refine z_iconst (pc := 2) C dX9_grown_2 ?_
  refine z_idiv (pc := 3) C dX9_grown_3 ⟨⟨by omega, by omega⟩, by omega, by omega⟩ ?_
  refine z_isub (pc := 4) C dX9_grown_4 ?_
  refine z_istore (pc := 5) (lv' := [(5, _), (0, _), (1, _), (2, _), (3, _), (4, _)]) C dX9_grown_5 (by decide) rfl ?_
  refine z_iload_n (pc := 7) C dX9_grown_7 rfl 1 rfl ?_
  by_cases w8 : (k) < 1 ∨ 4 < (k)
  · refine z_tableOut (pc := 8) (tgt := 81) C dX9_grown_8 (by omega) (by omega) (by decide) ?_
    refine z_iload (pc := 81) C dX9_grown_81 0 rfl ?_
    refine z_istore (pc := 83) (lv' := [(6, _), (5, _), (0, _), (1, _), (2, _), (3, _), (4, _)]) C dX9_grown_83 (by decide) rfl ?_
    refine z_sub C [2, 3, 4, 5, 6, 0] rfl ?_
    exact J85 _ (by symm; first | exact zmo_1 (by assumption) | exact zmo_40 (by assumption) (by assumption) | exact zmo_41 (by assumption) (by assumption) | exact zmo_2 (by assumption) | exact zmo_3 (by assumption) | exact zmo_0 (by assumption))
  by_cases w8_1 : (k) = 1
  · refine z_tableIn (pc := 8) (off := 32) (tgt := 40) C dX9_grown_8 (by omega) (by omega) (by omega) (by rw [show ((k) - (1)).toNat = 0 by omega]; rfl) (by decide) ?_
    refine z_iconst (pc := 40) C dX9_grown_40 ?_
    refine z_istore (pc := 41) (lv' := [(6, _), (5, _), (0, _), (1, _), (2, _), (3, _), (4, _)]) C dX9_grown_41 (by decide) rfl ?_
    refine z_goto (pc := 43) (tgt := 85) C dX9_grown_43 (by decide) ?_
    refine z_sub C [2, 3, 4, 5, 6, 0] rfl ?_
    exact J85 _ (by symm; first | exact zmo_1 (by assumption) | exact zmo_40 (by assumption) (by assumption) | exact zmo_41 (by assumption) (by assumption) | exact zmo_2 (by assumption) | exact zmo_3 (by assumption) | exact zmo_0 (by assumption))
  by_cases w8_2 : (k) = 2
  · refine z_tableIn (pc := 8) (off := 55) (tgt := 63) C dX9_grown_8 (by omega) (by omega) (by omega) (by rw [show ((k) - (1)).toNat = 1 by omega]; rfl) (by decide) ?_
    refine z_iload (pc := 63) C dX9_grown_63 0 rfl ?_
    refine z_iconst (pc := 65) C dX9_grown_65 ?_
    refine z_isub (pc := 66) C dX9_grown_66 ?_
    refine z_istore (pc := 67) (lv' := [(6, _), (5, _), (0, _), (1, _), (2, _), (3, _), (4, _)]) C dX9_grown_67 (by decide) rfl ?_
    refine z_goto (pc := 69) (tgt := 85) C dX9_grown_69 (by decide) ?_
    refine z_sub C [2, 3, 4, 5, 6, 0] rfl ?_
    exact J85 _ (by symm; first | exact zmo_1 (by assumption) | exact zmo_40 (by assumption) (by assumption) | exact zmo_41 (by assumption) (by assumption) | exact zmo_2 (by assumption) | exact zmo_3 (by assumption) | exact zmo_0 (by assumption))
  by_cases w8_3 : (k) = 3
  · refine z_tableIn (pc := 8) (off := 64) (tgt := 72) C dX9_grown_8 (by omega) (by omega) (by omega) (by rw [show ((k) - (1)).toNat = 2 by omega]; rfl) (by decide) ?_
    refine z_iload (pc := 72) C dX9_grown_72 0 rfl ?_
    refine z_iconst (pc := 74) C dX9_grown_74 ?_
    refine z_iadd (pc := 75) C dX9_grown_75 ?_
    refine z_istore (pc := 76) (lv' := [(6, _), (5, _), (0, _), (1, _), (2, _), (3, _), (4, _)]) C dX9_grown_76 (by decide) rfl ?_
    refine z_goto (pc := 78) (tgt := 85) C dX9_grown_78 (by decide) ?_
    refine z_sub C [2, 3, 4, 5, 6, 0] rfl ?_
    exact J85 _ (by symm; first | exact zmo_1 (by assumption) | exact zmo_40 (by assumption) (by assumption) | exact zmo_41 (by assumption) (by assumption) | exact zmo_2 (by assumption) | exact zmo_3 (by assumption) | exact zmo_0 (by assumption))
  have w8_4 : (k) = 4 := by omega
  refine z_tableIn (pc := 8) (off := 38) (tgt := 46) C dX9_grown_8 (by omega) (by omega) (by omega) (by rw [show ((k) - (1)).toNat = 3 by omega]; rfl) (by decide) ?_
  refine z_iload (pc := 46) C dX9_grown_46 5 rfl ?_
  refine z_iconst (pc := 48) C dX9_grown_48 ?_
  refine z_irem (pc := 49) C dX9_grown_49 ⟨⟨by omega, by omega⟩, by omega, by omega⟩ ?_
  refine z_if_ne (pc := 50) (tgt := 57) C dX9_grown_50 (by decide) (by omega) (fun c50 => ?_) (fun c50 => ?_)
  · refine z_iconst (pc := 57) C dX9_grown_57 ?_
    refine z_istore (pc := 58) (lv' := [(6, _), (5, _), (0, _), (1, _), (2, _), (3, _), (4, _)]) C dX9_grown_58 (by decide) rfl ?_
    refine z_goto (pc := 60) (tgt := 85) C dX9_grown_60 (by decide) ?_
    refine z_sub C [2, 3, 4, 5, 6, 0] rfl ?_
    exact J85 _ (by symm; first | exact zmo_1 (by assumption) | exact zmo_40 (by assumption) (by assumption) | exact zmo_41 (by assumption) (by assumption) | exact zmo_2 (by assumption) | exact zmo_3 (by assumption) | exact zmo_0 (by assumption))
  · refine z_iconst (pc := 53) C dX9_grown_53 ?_
    refine z_goto (pc := 54) (tgt := 58) C dX9_grown_54 (by decide) ?_
    refine z_istore (pc := 58) (lv' := [(6, _), (5, _), (0, _), (1, _), (2, _), (3, _), (4, _)]) C dX9_grown_58 (by decide) rfl ?_
    refine z_goto (pc := 60) (tgt := 85) C dX9_grown_60 (by decide) ?_
    refine z_sub C [2, 3, 4, 5, 6, 0] rfl ?_
    exact J85 _ (by symm; first | exact zmo_1 (by assumption) | exact zmo_40 (by assumption) (by assumption) | exact zmo_41 (by assumption) (by assumption) | exact zmo_2 (by assumption) | exact zmo_3 (by assumption) | exact zmo_0 (by assumption))
