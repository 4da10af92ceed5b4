set_option maxHeartbeats 4000000 in
set_option maxRecDepth 100000 in
theorem c_X9_letter (l : Launch) (G : zGt) (σ : zMem) (m : Nat) (P : Nat → Int) (hg : zPg σ m P) (hpr : zPr0 P) (hm : m ≤ 26) (p : Int) (hp : zR p) : zN l G yX9_letter cX9_letter 2 (some .int) 2 [.ref (zB G + 0), .int (zI p)] σ (zPi (fun x τ => (x = if 32 ≤ p ∧ p ≤ 126 then (if 26 ≤ m then -104 else (m : Int) + 1) else -102) ∧ ((32 ≤ p ∧ p ≤ 126 ∧ m < 26 ∧ zPg τ (m + 1) (zup P m p) ∧ zFr 1 4 σ τ) ∨ (¬ (32 ≤ p ∧ p ≤ 126 ∧ m < 26) ∧ σ = τ)))) := by
  obtain ⟨g1, gP⟩ := id hg
  refine zM.of (lv0 := [(0, _), (1, _)]) (by decide) (Nat.le_of_ble_eq_true rfl) rfl (fun X C => ?_)
  refine z_iload_n (pc := 0) C dX9_letter_0 rfl 1 rfl ?_
  refine z_bipush (pc := 1) C dX9_letter_1 (by decide +kernel) ?_
  refine z_bipush (pc := 3) C dX9_letter_3 (by decide +kernel) ?_
  refine z_Si (pc := 5) C (c_withinD l G _ _ _ _ (by first | assumption | omega | decide) (by first | assumption | omega | decide) (by first | assumption | omega | decide)) ml_X9_82 ys_X9_within dX9_letter_5 rfl rfl (Nat.le_of_ble_eq_true rfl) ⟨by decide, by decide⟩ (fun r5 t5 h5 q5 => ?_)
  obtain ⟨w5, rfl⟩ := q5
  refine z_if_ne (pc := 8) (tgt := 14) C dX9_letter_8 (by decide) (by omega) (fun c8 => ?_) (fun c8 => ?_)
  · refine z_aload_n (pc := 14) C dX9_letter_14 rfl 0 rfl ?_
    refine z_getR (pc := 15) C (1) fl_X9_10 dX9_letter_15 (by first | rfl | assumption) (by omega) rfl (Or.inl rfl) ?_
    refine z_getI (pc := 18) C fl_X9_86 dX9_letter_18 (by first | rfl | assumption) (by omega) (fun g18 => ?_)
    refine z_bipush (pc := 21) C dX9_letter_21 (by decide +kernel) ?_
    refine z_icmp_lt (pc := 23) (tgt := 29) C dX9_letter_23 (by decide) ⟨by omega, by omega⟩ (fun c23 => ?_) (fun c23 => ?_)
    · refine z_aload_n (pc := 29) C dX9_letter_29 rfl 0 rfl ?_
      refine z_getR (pc := 30) C (1) fl_X9_10 dX9_letter_30 (by first | rfl | assumption) (by omega) rfl (Or.inl rfl) ?_
      refine z_iload_n (pc := 33) C dX9_letter_33 rfl 1 rfl ?_
      refine z_Vv (pc := 34) C (c_X2_add l G _ m P hg hpr hm p (by omega) (by omega)) ml_X9_89 yw_X2_add dX9_letter_34 (by first | rfl | assumption) (by omega) rfl rfl rfl (Nat.le_of_ble_eq_true rfl) ⟨by decide, by decide⟩ (fun t34 q34 => ?_)
      obtain ⟨u34, f34⟩ := q34
      have e34 := u34.1
      refine z_aload_n (pc := 37) C dX9_letter_37 rfl 0 rfl ?_
      refine z_getR (pc := 38) C (1) fl_X9_10 dX9_letter_38 (by first | rfl | assumption) (by omega) rfl (Or.inl rfl) ?_
      refine z_getI (pc := 41) C fl_X9_86 dX9_letter_41 (by first | rfl | assumption) (by omega) (fun g41 => ?_)
      refine z_iret (pc := 44) C dX9_letter_44 ?_
      exact ⟨_, rfl, by omega, by rw [if_pos (by omega), if_neg (by omega)]; omega, Or.inl ⟨by omega, by omega, by omega, u34, f34⟩⟩
    · refine z_bipush (pc := 26) C dX9_letter_26 (by decide +kernel) ?_
      refine z_iret (pc := 28) C dX9_letter_28 ?_
      exact ⟨_, rfl, by omega, by rw [if_pos (by omega), if_pos (by omega)], Or.inr ⟨by omega, rfl⟩⟩
  · refine z_bipush (pc := 11) C dX9_letter_11 (by decide +kernel) ?_
    refine z_iret (pc := 13) C dX9_letter_13 ?_
    exact ⟨_, rfl, by omega, by rw [if_neg (by omega)], Or.inr ⟨by omega, rfl⟩⟩
set_option maxHeartbeats 4000000 in
set_option maxRecDepth 100000 in
theorem c_X9_blank (l : Launch) (G : zGt) (σ : zMem) (m : Nat) (P : Nat → Int) (hg : zPg σ m P) (hpr : zPr0 P) (hm : m ≤ 26) : zN l G yX9_blank cX9_blank 2 (some .int) 0 [.ref (zB G + 0)] σ (zPi (fun x τ => x = m ∧ τ = zU σ 1 1 0)) := by
  obtain ⟨g1, gP⟩ := id hg
  refine zM.of (lv0 := [(0, _)]) (by decide) (Nat.le_of_ble_eq_true rfl) rfl (fun X C => ?_)
  refine z_aload_n (pc := 0) C dX9_blank_0 rfl 0 rfl ?_
  refine z_getR (pc := 1) C (1) fl_X9_10 dX9_blank_1 (by first | rfl | assumption) (by omega) rfl (Or.inl rfl) ?_
  refine z_getI (pc := 4) C fl_X9_86 dX9_blank_4 (by first | rfl | assumption) (by omega) (fun g4 => ?_)
  refine z_istore_n (pc := 7) (lv' := [(1, _), (0, _)]) C dX9_blank_7 rfl (by decide) rfl ?_
  refine z_aload_n (pc := 8) C dX9_blank_8 rfl 1 rfl ?_
  refine z_getR (pc := 9) C (1) fl_X9_10 dX9_blank_9 (by first | rfl | assumption) (by omega) rfl (Or.inl rfl) ?_
  refine z_iconst (pc := 12) C dX9_blank_12 ?_
  refine z_putIe (pc := 13) C fl_X9_86 dX9_blank_13 (by first | rfl | assumption) (by omega) (by omega) (fun m13 em13 => ?_)
  refine z_iload_n (pc := 16) C dX9_blank_16 rfl 0 rfl ?_
  refine z_iret (pc := 17) C dX9_blank_17 ?_
  exact ⟨_, rfl, by omega, by rw [g1], em13⟩
set_option maxHeartbeats 4000000 in
set_option maxRecDepth 100000 in
theorem c_X9_fault (l : Launch) (G : zGt) (σ : zMem) (m : Nat) (P : Nat → Int) (hg : zPg σ m P) (hpr : zPr0 P) (hm : m ≤ 26) : zN l G yX9_fault cX9_fault 1 (some .int) 11 [.ref (zB G + 0)] σ (zPi (fun x τ => x = zff P m ∧ σ = τ)) := by
  have hf := zff_le P m
  refine zM.of (lv0 := [(0, _)]) (by decide) (Nat.le_of_ble_eq_true rfl) rfl (fun X C => ?_)
  refine z_aload_n (pc := 0) C dX9_fault_0 rfl 0 rfl ?_
  refine z_getR (pc := 1) C (1) fl_X9_10 dX9_fault_1 (by first | rfl | assumption) (by omega) rfl (Or.inl rfl) ?_
  refine z_Vi (pc := 4) C (c_X2_firstFault l G _ m P hg hpr hm) ml_X9_93 yw_X2_firstFault dX9_fault_4 (by first | rfl | assumption) (by omega) rfl rfl rfl (Nat.le_of_ble_eq_true rfl) ⟨by decide, by decide⟩ (fun r4 t4 h4 q4 => ?_)
  obtain ⟨rfl, rfl⟩ := q4
  refine z_iret (pc := 7) C dX9_fault_7 ?_
  exact ⟨_, rfl, by omega, rfl, rfl⟩
set_option maxHeartbeats 4000000 in
set_option maxRecDepth 100000 in
theorem c_X9_house (l : Launch) (G : zGt) (σ : zMem) (n : Nat) (y w : Int) (K R V E : Nat → Int) (h : zLa σ 4 n y w K R V E) (hr : zLr K R V E) (hn : n ≤ 6) (c : Nat) (A Y Q : Nat → Int) (hs : zSgt σ 13 c A Y Q) (hsr : zSr A Y Q) (hc : c ≤ 6) (p what : Int) (hp : zR p) (hw : zR what) (hy : 0 ≤ y ∧ y ≤ 90000) : zN l G yX9_house cX9_house 3 (some .int) 4 [.ref (zB G + 0), .int (zI p), .int (zI what)] σ (zPi (fun x τ => x = zaHouse n y K R V E c A Y Q p what ∧ zFr 36 108 σ τ)) := by
  have hL4 : zLane 4 := by decide
  obtain ⟨s4, s5, s6, sA⟩ := id h
  refine zM.of (lv0 := [(0, _), (1, _), (2, _)]) (by decide) (Nat.le_of_ble_eq_true rfl) rfl (fun X C => ?_)
  refine z_aload_n (pc := 0) C dX9_house_0 rfl 0 rfl ?_
  refine z_getR (pc := 1) C (4) fl_X9_19 dX9_house_1 (by first | rfl | assumption) (by omega) rfl (Or.inl rfl) ?_
  refine z_iload_n (pc := 4) C dX9_house_4 rfl 1 rfl ?_
  refine z_Vi (pc := 5) C (c_hasD l G _ _ _ _ (hL4) (s4) (by first | assumption | omega | decide) (by first | assumption | omega | decide)) ml_X9_123 yw_X1_has dX9_house_5 (by first | rfl | assumption) (by omega) rfl rfl rfl (Nat.le_of_ble_eq_true rfl) ⟨by decide, by decide⟩ (fun r5 t5 h5 q5 => ?_)
  obtain ⟨w5, rfl⟩ := q5
  refine z_if_ne (pc := 8) (tgt := 14) C dX9_house_8 (by decide) (by omega) (fun c8 => ?_) (fun c8 => ?_)
  · refine z_iload_n (pc := 14) C dX9_house_14 rfl 2 rfl ?_
    obtain ⟨i, rfl⟩ : ∃ i : Nat, p = i := ⟨p.toNat, by omega⟩
    have hi : i < n := by omega
    have hri := hr i
    have hA := sA i hi
    by_cases w15 : (what) < 0 ∨ 6 < (what)
    · refine z_tableOut (pc := 15) (tgt := 147) C dX9_house_15 (by omega) (by omega) (by decide) ?_
      refine z_bipush (pc := 147) C dX9_house_147 (by decide +kernel) ?_
      refine z_iret (pc := 149) C dX9_house_149 ?_
      exact ⟨_, rfl, by omega, by rw [zaHouse, if_pos (by omega), if_neg (by omega), if_neg (by omega), if_neg (by omega), if_neg (by omega), if_neg (by omega), if_neg (by omega), if_neg (by omega)], zFr.rf⟩
    by_cases w15_0 : (what) = 0
    · refine z_tableIn (pc := 15) (off := 41) (tgt := 56) C dX9_house_15 (by omega) (by omega) (by omega) (by rw [show ((what) - (0)).toNat = 0 by omega]; rfl) (by decide) ?_
      refine z_aload_n (pc := 56) C dX9_house_56 rfl 0 rfl ?_
      refine z_getR (pc := 57) C (4) fl_X9_19 dX9_house_57 (by first | rfl | assumption) (by omega) rfl (Or.inl rfl) ?_
      refine z_getR (pc := 60) C (5) fl_X9_127 dX9_house_60 (by first | rfl | assumption) (by omega) rfl (Or.inl rfl) ?_
      refine z_iload_n (pc := 63) C dX9_house_63 rfl 1 rfl ?_
      refine z_Vi (pc := 64) C (c_X6_atv l G _ _ (6) (i) _ (K i) (by first | assumption | omega | decide) rfl (by first | assumption | omega | decide) (hA.1)) ml_X9_131 yw_X6_at dX9_house_64 (by first | rfl | assumption) (by omega) rfl rfl rfl (Nat.le_of_ble_eq_true rfl) ⟨by decide, by decide⟩ (fun r64 t64 h64 q64 => ?_)
      obtain ⟨rfl, rfl⟩ := q64
      refine z_iret (pc := 67) C dX9_house_67 ?_
      exact ⟨_, rfl, by assumption, by rw [zaHouse, if_pos (by omega), if_pos (by omega)]; rfl, zFr.rf⟩
    by_cases w15_1 : (what) = 1
    · refine z_tableIn (pc := 15) (off := 53) (tgt := 68) C dX9_house_15 (by omega) (by omega) (by omega) (by rw [show ((what) - (0)).toNat = 1 by omega]; rfl) (by decide) ?_
      refine z_aload_n (pc := 68) C dX9_house_68 rfl 0 rfl ?_
      refine z_getR (pc := 69) C (4) fl_X9_19 dX9_house_69 (by first | rfl | assumption) (by omega) rfl (Or.inl rfl) ?_
      refine z_getR (pc := 72) C (7) fl_X9_136 dX9_house_72 (by first | rfl | assumption) (by omega) rfl (Or.inl rfl) ?_
      refine z_iload_n (pc := 75) C dX9_house_75 rfl 1 rfl ?_
      refine z_Vi (pc := 76) C (c_X6_atv l G _ _ (6) (i) _ (R i) (by first | assumption | omega | decide) rfl (by first | assumption | omega | decide) (hA.2.1)) ml_X9_131 yw_X6_at dX9_house_76 (by first | rfl | assumption) (by omega) rfl rfl rfl (Nat.le_of_ble_eq_true rfl) ⟨by decide, by decide⟩ (fun r76 t76 h76 q76 => ?_)
      obtain ⟨rfl, rfl⟩ := q76
      refine z_iret (pc := 79) C dX9_house_79 ?_
      exact ⟨_, rfl, by assumption, by rw [zaHouse, if_pos (by omega), if_neg (by omega), if_pos (by omega)]; rfl, zFr.rf⟩
    by_cases w15_2 : (what) = 2
    · refine z_tableIn (pc := 15) (off := 65) (tgt := 80) C dX9_house_15 (by omega) (by omega) (by omega) (by rw [show ((what) - (0)).toNat = 2 by omega]; rfl) (by decide) ?_
      refine z_aload_n (pc := 80) C dX9_house_80 rfl 0 rfl ?_
      refine z_getR (pc := 81) C (4) fl_X9_19 dX9_house_81 (by first | rfl | assumption) (by omega) rfl (Or.inl rfl) ?_
      refine z_getR (pc := 84) C (9) fl_X9_139 dX9_house_84 (by first | rfl | assumption) (by omega) rfl (Or.inl rfl) ?_
      refine z_iload_n (pc := 87) C dX9_house_87 rfl 1 rfl ?_
      refine z_Vi (pc := 88) C (c_X6_atv l G _ _ (6) (i) _ (V i) (by first | assumption | omega | decide) rfl (by first | assumption | omega | decide) (hA.2.2.1)) ml_X9_131 yw_X6_at dX9_house_88 (by first | rfl | assumption) (by omega) rfl rfl rfl (Nat.le_of_ble_eq_true rfl) ⟨by decide, by decide⟩ (fun r88 t88 h88 q88 => ?_)
      obtain ⟨rfl, rfl⟩ := q88
      refine z_iret (pc := 91) C dX9_house_91 ?_
      exact ⟨_, rfl, by assumption, by rw [zaHouse, if_pos (by omega), if_neg (by omega), if_neg (by omega), if_pos (by omega)]; rfl, zFr.rf⟩
    by_cases w15_3 : (what) = 3
    · refine z_tableIn (pc := 15) (off := 77) (tgt := 92) C dX9_house_15 (by omega) (by omega) (by omega) (by rw [show ((what) - (0)).toNat = 3 by omega]; rfl) (by decide) ?_
      refine z_aload_n (pc := 92) C dX9_house_92 rfl 0 rfl ?_
      refine z_getR (pc := 93) C (4) fl_X9_19 dX9_house_93 (by first | rfl | assumption) (by omega) rfl (Or.inl rfl) ?_
      refine z_getR (pc := 96) C (11) fl_X9_142 dX9_house_96 (by first | rfl | assumption) (by omega) rfl (Or.inl rfl) ?_
      refine z_iload_n (pc := 99) C dX9_house_99 rfl 1 rfl ?_
      refine z_Vi (pc := 100) C (c_X6_atv l G _ _ (6) (i) _ (E i) (by first | assumption | omega | decide) rfl (by first | assumption | omega | decide) (hA.2.2.2)) ml_X9_131 yw_X6_at dX9_house_100 (by first | rfl | assumption) (by omega) rfl rfl rfl (Nat.le_of_ble_eq_true rfl) ⟨by decide, by decide⟩ (fun r100 t100 h100 q100 => ?_)
      obtain ⟨rfl, rfl⟩ := q100
      refine z_iret (pc := 103) C dX9_house_103 ?_
      exact ⟨_, rfl, by assumption, by rw [zaHouse, if_pos (by omega), if_neg (by omega), if_neg (by omega), if_neg (by omega), if_pos (by omega)]; rfl, zFr.rf⟩
    by_cases w15_4 : (what) = 4
    · refine z_tableIn (pc := 15) (off := 89) (tgt := 104) C dX9_house_15 (by omega) (by omega) (by omega) (by rw [show ((what) - (0)).toNat = 4 by omega]; rfl) (by decide) ?_
      refine z_aload_n (pc := 104) C dX9_house_104 rfl 0 rfl ?_
      refine z_getR (pc := 105) C (4) fl_X9_19 dX9_house_105 (by first | rfl | assumption) (by omega) rfl (Or.inl rfl) ?_
      refine z_iload_n (pc := 108) C dX9_house_108 rfl 1 rfl ?_
      refine z_Vi (pc := 109) C (c_X1_reedBehindYear l G _ 4 n y w K R V E hL4 h hr hn i _ rfl hi (by omega)) ml_X9_145 yw_X1_reedBehindYear dX9_house_109 (by first | rfl | assumption) (by omega) rfl rfl rfl (Nat.le_of_ble_eq_true rfl) ⟨by decide, by decide⟩ (fun r109 t109 h109 q109 => ?_)
      obtain ⟨rfl, rfl⟩ := q109
      refine z_iret (pc := 112) C dX9_house_112 ?_
      exact ⟨_, rfl, by assumption, by rw [zaHouse, if_pos (by omega), if_neg (by omega), if_neg (by omega), if_neg (by omega), if_neg (by omega), if_pos (by omega)]; rfl, zFr.rf⟩
    by_cases w15_5 : (what) = 5
    · refine z_tableIn (pc := 15) (off := 98) (tgt := 113) C dX9_house_15 (by omega) (by omega) (by omega) (by rw [show ((what) - (0)).toNat = 5 by omega]; rfl) (by decide) ?_
      refine z_aload_n (pc := 113) C dX9_house_113 rfl 0 rfl ?_
      refine z_getR (pc := 114) C (45) fl_X9_42 dX9_house_114 (by first | rfl | assumption) (by omega) rfl (Or.inl rfl) ?_
      refine z_aload_n (pc := 117) C dX9_house_117 rfl 0 rfl ?_
      refine z_getR (pc := 118) C (4) fl_X9_19 dX9_house_118 (by first | rfl | assumption) (by omega) rfl (Or.inl rfl) ?_
      refine z_aload_n (pc := 121) C dX9_house_121 rfl 0 rfl ?_
      refine z_getR (pc := 122) C (13) fl_X9_26 dX9_house_122 (by first | rfl | assumption) (by omega) rfl (Or.inl rfl) ?_
      refine z_iload_n (pc := 125) C dX9_house_125 rfl 1 rfl ?_
      refine z_Vi (pc := 126) C (c_X7_worriesLeft l G _ 4 n y w K R V E hL4 h hr hn i _ rfl hi c A Y Q 13 (by decide) hs hsr hc (by omega) (by omega) (by omega)) ml_X9_148 yw_X7_worriesLeft dX9_house_126 (by first | rfl | assumption) (by omega) rfl rfl rfl (Nat.le_of_ble_eq_true rfl) ⟨by decide, by decide⟩ (fun r126 t126 h126 q126 => ?_)
      obtain ⟨rfl, w126, f126⟩ := q126
      refine z_iret (pc := 129) C dX9_house_129 ?_
      exact ⟨_, rfl, by assumption, by rw [zaHouse, if_pos (by omega), if_neg (by omega), if_neg (by omega), if_neg (by omega), if_neg (by omega), if_neg (by omega), if_pos (by omega)]; rfl, f126.mono (by omega) (by omega)⟩
    have w15_6 : (what) = 6 := by omega
    refine z_tableIn (pc := 15) (off := 115) (tgt := 130) C dX9_house_15 (by omega) (by omega) (by omega) (by rw [show ((what) - (0)).toNat = 6 by omega]; rfl) (by decide) ?_
    refine z_aload_n (pc := 130) C dX9_house_130 rfl 0 rfl ?_
    refine z_getR (pc := 131) C (45) fl_X9_42 dX9_house_131 (by first | rfl | assumption) (by omega) rfl (Or.inl rfl) ?_
    refine z_aload_n (pc := 134) C dX9_house_134 rfl 0 rfl ?_
    refine z_getR (pc := 135) C (4) fl_X9_19 dX9_house_135 (by first | rfl | assumption) (by omega) rfl (Or.inl rfl) ?_
    refine z_aload_n (pc := 138) C dX9_house_138 rfl 0 rfl ?_
    refine z_getR (pc := 139) C (13) fl_X9_26 dX9_house_139 (by first | rfl | assumption) (by omega) rfl (Or.inl rfl) ?_
    refine z_iload_n (pc := 142) C dX9_house_142 rfl 1 rfl ?_
    refine z_Vi (pc := 143) C (c_X7_whenToLook l G _ 4 n y w K R V E hL4 h hr hn i _ rfl hi c A Y Q 13 (by decide) hs hsr hc (by omega) (by omega) (by omega)) ml_X9_152 yw_X7_whenToLook dX9_house_143 (by first | rfl | assumption) (by omega) rfl rfl rfl (Nat.le_of_ble_eq_true rfl) ⟨by decide, by decide⟩ (fun r143 t143 h143 q143 => ?_)
    obtain ⟨rfl, f143⟩ := q143
    refine z_iret (pc := 146) C dX9_house_146 ?_
    exact ⟨_, rfl, by assumption, by rw [zaHouse, if_pos (by omega), if_neg (by omega), if_neg (by omega), if_neg (by omega), if_neg (by omega), if_neg (by omega), if_neg (by omega), if_pos (by omega)]; rfl, f143.mono (by omega) (by omega)⟩
  · refine z_bipush (pc := 11) C dX9_house_11 (by decide +kernel) ?_
    refine z_iret (pc := 13) C dX9_house_13 ?_
    exact ⟨_, rfl, by omega, by rw [zaHouse, if_neg (by omega)], zFr.rf⟩
set_option maxHeartbeats 4000000 in
set_option maxRecDepth 100000 in
theorem c_X9_as (l : Launch) (G : zGt) (σ : zMem) (n : Nat) (y w : Int) (K R V E : Nat → Int) (h : zLa σ 4 n y w K R V E) (hr : zLr K R V E) (hn : n ≤ 6) (p k : Int) (hp : zR p) (hk : zR k) : zN l G yX9_as cX9_as 3 (some .int) 1 [.ref (zB G + 0), .int (zI p), .int (zI k)] σ (zPi (fun x τ => x = zaAs n K p k ∧ σ = τ)) := by
  have hL4 : zLane 4 := by decide
  obtain ⟨s4, s5, s6, sA⟩ := id h
  refine zM.of (lv0 := [(0, _), (1, _), (2, _)]) (by decide) (Nat.le_of_ble_eq_true rfl) rfl (fun X C => ?_)
  refine z_aload_n (pc := 0) C dX9_as_0 rfl 0 rfl ?_
  refine z_getR (pc := 1) C (4) fl_X9_19 dX9_as_1 (by first | rfl | assumption) (by omega) rfl (Or.inl rfl) ?_
  refine z_iload_n (pc := 4) C dX9_as_4 rfl 1 rfl ?_
  refine z_Vi (pc := 5) C (c_hasD l G _ _ _ _ (hL4) (s4) (by first | assumption | omega | decide) (by first | assumption | omega | decide)) ml_X9_123 yw_X1_has dX9_as_5 (by first | rfl | assumption) (by omega) rfl rfl rfl (Nat.le_of_ble_eq_true rfl) ⟨by decide, by decide⟩ (fun r5 t5 h5 q5 => ?_)
  obtain ⟨w5, rfl⟩ := q5
  refine z_if_ne (pc := 8) (tgt := 14) C dX9_as_8 (by decide) (by omega) (fun c8 => ?_) (fun c8 => ?_)
  · refine z_iload_n (pc := 14) C dX9_as_14 rfl 2 rfl ?_
    refine z_iconst (pc := 15) C dX9_as_15 ?_
    refine z_iconst (pc := 16) C dX9_as_16 ?_
    refine z_Si (pc := 17) C (c_withinD l G _ _ _ _ (by first | assumption | omega | decide) (by first | assumption | omega | decide) (by first | assumption | omega | decide)) ml_X9_82 ys_X9_within dX9_as_17 rfl rfl (Nat.le_of_ble_eq_true rfl) ⟨by decide, by decide⟩ (fun r17 t17 h17 q17 => ?_)
    obtain ⟨w17, rfl⟩ := q17
    refine z_if_ne (pc := 20) (tgt := 26) C dX9_as_20 (by decide) (by omega) (fun c20 => ?_) (fun c20 => ?_)
    · refine z_aload_n (pc := 26) C dX9_as_26 rfl 0 rfl ?_
      obtain ⟨i, rfl⟩ : ∃ i : Nat, p = i := ⟨p.toNat, by omega⟩
      have hi : i < n := by omega
      have hri := hr i
      have hA := sA i hi
      refine z_getR (pc := 27) C (4) fl_X9_19 dX9_as_27 (by first | rfl | assumption) (by omega) rfl (Or.inl rfl) ?_
      refine z_getR (pc := 30) C (5) fl_X9_127 dX9_as_30 (by first | rfl | assumption) (by omega) rfl (Or.inl rfl) ?_
      refine z_iload_n (pc := 33) C dX9_as_33 rfl 1 rfl ?_
      refine z_Vi (pc := 34) C (c_X6_atv l G _ _ (6) (i) _ (K i) (by first | assumption | omega | decide) rfl (by first | assumption | omega | decide) (hA.1)) ml_X9_131 yw_X6_at dX9_as_34 (by first | rfl | assumption) (by omega) rfl rfl rfl (Nat.le_of_ble_eq_true rfl) ⟨by decide, by decide⟩ (fun r34 t34 h34 q34 => ?_)
      obtain ⟨rfl, rfl⟩ := q34
      refine z_iload_n (pc := 37) C dX9_as_37 rfl 2 rfl ?_
      refine z_Si (pc := 38) C (c_X9_isOfKind l G _ _ _ (by first | assumption | omega | decide) (by first | assumption | omega | decide)) ml_X9_155 ys_X9_isOfKind dX9_as_38 rfl rfl (Nat.le_of_ble_eq_true rfl) ⟨by decide, by decide⟩ (fun r38 t38 h38 q38 => ?_)
      obtain ⟨i38, rfl⟩ := q38
      refine z_if_eq (pc := 41) (tgt := 48) C dX9_as_41 (by decide) (by omega) (fun c41 => ?_) (fun c41 => ?_)
      · refine z_iconst (pc := 48) C dX9_as_48 ?_
        refine z_iret (pc := 49) C dX9_as_49 ?_
        have hz : (K ((i : Int).toNat)) = K i := rfl
        by_cases hq : k = 0 ∨ K i = k ∨ (k = 1 ∧ K i = 4)
        · rw [if_pos hq] at i38
          first
            | (exfalso; omega)
            | exact ⟨_, rfl, by omega, by rw [zaAs, if_pos (by omega), if_pos (by omega), hz, if_pos hq], rfl⟩
        · rw [if_neg hq] at i38
          first
            | (exfalso; omega)
            | exact ⟨_, rfl, by omega, by rw [zaAs, if_pos (by omega), if_pos (by omega), hz, if_neg hq], rfl⟩
      · refine z_iload_n (pc := 44) C dX9_as_44 rfl 1 rfl ?_
        refine z_goto (pc := 45) (tgt := 49) C dX9_as_45 (by decide) ?_
        refine z_iret (pc := 49) C dX9_as_49 ?_
        have hz : (K ((i : Int).toNat)) = K i := rfl
        by_cases hq : k = 0 ∨ K i = k ∨ (k = 1 ∧ K i = 4)
        · rw [if_pos hq] at i38
          first
            | (exfalso; omega)
            | exact ⟨_, rfl, by omega, by rw [zaAs, if_pos (by omega), if_pos (by omega), hz, if_pos hq], rfl⟩
        · rw [if_neg hq] at i38
          first
            | (exfalso; omega)
            | exact ⟨_, rfl, by omega, by rw [zaAs, if_pos (by omega), if_pos (by omega), hz, if_neg hq], rfl⟩
    · refine z_bipush (pc := 23) C dX9_as_23 (by decide +kernel) ?_
      refine z_iret (pc := 25) C dX9_as_25 ?_
      exact ⟨_, rfl, by omega, by rw [zaAs, if_pos (by omega), if_neg (by omega)], rfl⟩
  · refine z_bipush (pc := 11) C dX9_as_11 (by decide +kernel) ?_
    refine z_iret (pc := 13) C dX9_as_13 ?_
    exact ⟨_, rfl, by omega, by rw [zaAs, if_neg (by omega)], rfl⟩
set_option maxHeartbeats 4000000 in
set_option maxRecDepth 100000 in
theorem c_X9_reaches (l : Launch) (G : zGt) (σ : zMem) (n : Nat) (y w : Int) (K R V E : Nat → Int) (h : zLa σ 4 n y w K R V E) (hr : zLr K R V E) (hn : n ≤ 6) (p rain : Int) (hp : zR p) (hx : zR rain) : zN l G yX9_reaches cX9_reaches 3 (some .int) 2 [.ref (zB G + 0), .int (zI p), .int (zI rain)] σ (zPi (fun x τ => x = zaReach n R p rain ∧ σ = τ)) := by
  have hL4 : zLane 4 := by decide
  obtain ⟨s4, s5, s6, sA⟩ := id h
  refine zM.of (lv0 := [(0, _), (1, _), (2, _)]) (by decide) (Nat.le_of_ble_eq_true rfl) rfl (fun X C => ?_)
  refine z_aload_n (pc := 0) C dX9_reaches_0 rfl 0 rfl ?_
  refine z_getR (pc := 1) C (4) fl_X9_19 dX9_reaches_1 (by first | rfl | assumption) (by omega) rfl (Or.inl rfl) ?_
  refine z_iload_n (pc := 4) C dX9_reaches_4 rfl 1 rfl ?_
  refine z_Vi (pc := 5) C (c_hasD l G _ _ _ _ (hL4) (s4) (by first | assumption | omega | decide) (by first | assumption | omega | decide)) ml_X9_123 yw_X1_has dX9_reaches_5 (by first | rfl | assumption) (by omega) rfl rfl rfl (Nat.le_of_ble_eq_true rfl) ⟨by decide, by decide⟩ (fun r5 t5 h5 q5 => ?_)
  obtain ⟨w5, rfl⟩ := q5
  refine z_if_ne (pc := 8) (tgt := 14) C dX9_reaches_8 (by decide) (by omega) (fun c8 => ?_) (fun c8 => ?_)
  · refine z_iload_n (pc := 14) C dX9_reaches_14 rfl 2 rfl ?_
    refine z_iconst (pc := 15) C dX9_reaches_15 ?_
    refine z_bipush (pc := 16) C dX9_reaches_16 (by decide +kernel) ?_
    refine z_Si (pc := 18) C (c_withinD l G _ _ _ _ (by first | assumption | omega | decide) (by first | assumption | omega | decide) (by first | assumption | omega | decide)) ml_X9_82 ys_X9_within dX9_reaches_18 rfl rfl (Nat.le_of_ble_eq_true rfl) ⟨by decide, by decide⟩ (fun r18 t18 h18 q18 => ?_)
    obtain ⟨w18, rfl⟩ := q18
    refine z_if_ne (pc := 21) (tgt := 27) C dX9_reaches_21 (by decide) (by omega) (fun c21 => ?_) (fun c21 => ?_)
    · refine z_aload_n (pc := 27) C dX9_reaches_27 rfl 0 rfl ?_
      obtain ⟨i, rfl⟩ : ∃ i : Nat, p = i := ⟨p.toNat, by omega⟩
      have hi : i < n := by omega
      have hri := hr i
      have hA := sA i hi
      refine z_getR (pc := 28) C (4) fl_X9_19 dX9_reaches_28 (by first | rfl | assumption) (by omega) rfl (Or.inl rfl) ?_
      refine z_iload_n (pc := 31) C dX9_reaches_31 rfl 1 rfl ?_
      refine z_iload_n (pc := 32) C dX9_reaches_32 rfl 2 rfl ?_
      refine z_Vi (pc := 33) C (c_X1_reachOf l G _ 4 n y w K R V E hL4 h hr hn i _ rain rfl (by omega) (by omega)) ml_X9_159 yw_X1_reachOf dX9_reaches_33 (by first | rfl | assumption) (by omega) rfl rfl rfl (Nat.le_of_ble_eq_true rfl) ⟨by decide, by decide⟩ (fun r33 t33 h33 q33 => ?_)
      obtain ⟨rfl, rfl⟩ := q33
      refine z_iret (pc := 36) C dX9_reaches_36 ?_
      exact ⟨_, rfl, by assumption, by rw [zaReach, if_pos (by omega), if_pos (by omega)]; rfl, rfl⟩
    · refine z_bipush (pc := 24) C dX9_reaches_24 (by decide +kernel) ?_
      refine z_iret (pc := 26) C dX9_reaches_26 ?_
      exact ⟨_, rfl, by omega, by rw [zaReach, if_pos (by omega), if_neg (by omega)], rfl⟩
  · refine z_bipush (pc := 11) C dX9_reaches_11 (by decide +kernel) ?_
    refine z_iret (pc := 13) C dX9_reaches_13 ?_
    exact ⟨_, rfl, by omega, by rw [zaReach, if_neg (by omega)], rfl⟩
set_option maxHeartbeats 4000000 in
set_option maxRecDepth 100000 in
theorem c_X9_wet (l : Launch) (G : zGt) (σ : zMem) (n : Nat) (y w : Int) (K R V E : Nat → Int) (h : zLa σ 4 n y w K R V E) (hr : zLr K R V E) (hn : n ≤ 6) (rain : Int) (hx : zR rain) : zN l G yX9_wet cX9_wet 2 (some .int) 2 [.ref (zB G + 0), .int (zI rain)] σ (zPi (fun x τ => x = zaWet n R rain ∧ σ = τ)) := by
  have hL4 : zLane 4 := by decide
  obtain ⟨s4, s5, s6, sA⟩ := id h
  refine zM.of (lv0 := [(0, _), (1, _)]) (by decide) (Nat.le_of_ble_eq_true rfl) rfl (fun X C => ?_)
  refine z_iload_n (pc := 0) C dX9_wet_0 rfl 1 rfl ?_
  refine z_iconst (pc := 1) C dX9_wet_1 ?_
  refine z_bipush (pc := 2) C dX9_wet_2 (by decide +kernel) ?_
  refine z_Si (pc := 4) C (c_withinD l G _ _ _ _ (by first | assumption | omega | decide) (by first | assumption | omega | decide) (by first | assumption | omega | decide)) ml_X9_82 ys_X9_within dX9_wet_4 rfl rfl (Nat.le_of_ble_eq_true rfl) ⟨by decide, by decide⟩ (fun r4 t4 h4 q4 => ?_)
  obtain ⟨w4, rfl⟩ := q4
  refine z_if_ne (pc := 7) (tgt := 13) C dX9_wet_7 (by decide) (by omega) (fun c7 => ?_) (fun c7 => ?_)
  · refine z_aload_n (pc := 13) C dX9_wet_13 rfl 0 rfl ?_
    refine z_getR (pc := 14) C (4) fl_X9_19 dX9_wet_14 (by first | rfl | assumption) (by omega) rfl (Or.inl rfl) ?_
    refine z_getI (pc := 17) C fl_X9_107 dX9_wet_17 (by first | rfl | assumption) (by omega) (fun g17 => ?_)
    refine z_if_ne (pc := 20) (tgt := 26) C dX9_wet_20 (by decide) (by omega) (fun c20 => ?_) (fun c20 => ?_)
    · refine z_aload_n (pc := 26) C dX9_wet_26 rfl 0 rfl ?_
      refine z_getR (pc := 27) C (4) fl_X9_19 dX9_wet_27 (by first | rfl | assumption) (by omega) rfl (Or.inl rfl) ?_
      refine z_iload_n (pc := 30) C dX9_wet_30 rfl 1 rfl ?_
      refine z_Vi (pc := 31) C (c_X1_wetBits l G _ 4 n y w K R V E hL4 h hr hn rain (by omega)) ml_X9_163 yw_X1_wetBits dX9_wet_31 (by first | rfl | assumption) (by omega) rfl rfl rfl (Nat.le_of_ble_eq_true rfl) ⟨by decide, by decide⟩ (fun r31 t31 h31 q31 => ?_)
      obtain ⟨rfl, rfl⟩ := q31
      refine z_iret (pc := 34) C dX9_wet_34 ?_
      exact ⟨_, rfl, by assumption, by rw [zaWet, if_pos (by omega), if_neg (by omega)], rfl⟩
    · refine z_bipush (pc := 23) C dX9_wet_23 (by decide +kernel) ?_
      refine z_iret (pc := 25) C dX9_wet_25 ?_
      exact ⟨_, rfl, by omega, by rw [zaWet, if_pos (by omega), if_pos (by omega)], rfl⟩
  · refine z_bipush (pc := 10) C dX9_wet_10 (by decide +kernel) ?_
    refine z_iret (pc := 12) C dX9_wet_12 ?_
    exact ⟨_, rfl, by omega, by rw [zaWet, if_neg (by omega)], rfl⟩
set_option maxHeartbeats 4000000 in
set_option maxRecDepth 100000 in
theorem c_X9_year (l : Launch) (G : zGt) (σ : zMem) (n : Nat) (y w : Int) (K R V E : Nat → Int) (h : zLa σ 4 n y w K R V E) (hr : zLr K R V E) (hn : n ≤ 6) (hy : 0 ≤ y ∧ y ≤ 999) : zN l G yX9_year cX9_year 1 (some .int) 2 [.ref (zB G + 0)] σ (zPi (fun x τ => x = zaYear n y ∧ ((n ≠ 0 ∧ y < 999 ∧ zLa τ 4 n (y + 1) w K (fun j => zgr (K j) (R j) (V j) (E j) (y + 1)) V (fun _ => 0) ∧ zFr 4 13 σ τ) ∨ (¬ (n ≠ 0 ∧ y < 999) ∧ σ = τ)))) := by
  have hL4 : zLane 4 := by decide
  obtain ⟨s4, s5, s6, sA⟩ := id h
  refine zM.of (lv0 := [(0, _)]) (by decide) (Nat.le_of_ble_eq_true rfl) rfl (fun X C => ?_)
  refine z_aload_n (pc := 0) C dX9_year_0 rfl 0 rfl ?_
  refine z_getR (pc := 1) C (4) fl_X9_19 dX9_year_1 (by first | rfl | assumption) (by omega) rfl (Or.inl rfl) ?_
  refine z_getI (pc := 4) C fl_X9_107 dX9_year_4 (by first | rfl | assumption) (by omega) (fun g4 => ?_)
  refine z_if_ne (pc := 7) (tgt := 13) C dX9_year_7 (by decide) (by omega) (fun c7 => ?_) (fun c7 => ?_)
  · refine z_aload_n (pc := 13) C dX9_year_13 rfl 0 rfl ?_
    refine z_getR (pc := 14) C (4) fl_X9_19 dX9_year_14 (by first | rfl | assumption) (by omega) rfl (Or.inl rfl) ?_
    refine z_getI (pc := 17) C fl_X9_166 dX9_year_17 (by first | rfl | assumption) (by omega) (fun g17 => ?_)
    refine z_sipush (pc := 20) C dX9_year_20 (by decide +kernel) ?_
    refine z_icmp_lt (pc := 23) (tgt := 29) C dX9_year_23 (by decide) ⟨by omega, by omega⟩ (fun c23 => ?_) (fun c23 => ?_)
    · refine z_aload_n (pc := 29) C dX9_year_29 rfl 0 rfl ?_
      refine z_getR (pc := 30) C (4) fl_X9_19 dX9_year_30 (by first | rfl | assumption) (by omega) rfl (Or.inl rfl) ?_
      refine z_Vv (pc := 33) C (c_X1_passYear l G _ 4 n y w K R V E hL4 h hr hn (by omega)) ml_X9_169 yw_X1_passYear dX9_year_33 (by first | rfl | assumption) (by omega) rfl rfl rfl (Nat.le_of_ble_eq_true rfl) ⟨by decide, by decide⟩ (fun t33 q33 => ?_)
      obtain ⟨u33, f33⟩ := q33
      have e33 := u33.2.1
      refine z_aload_n (pc := 36) C dX9_year_36 rfl 0 rfl ?_
      refine z_getR (pc := 37) C (4) fl_X9_19 dX9_year_37 (by first | rfl | assumption) (by omega) rfl (Or.inl rfl) ?_
      refine z_getI (pc := 40) C fl_X9_166 dX9_year_40 (by first | rfl | assumption) (by omega) (fun g40 => ?_)
      refine z_iret (pc := 43) C dX9_year_43 ?_
      exact ⟨_, rfl, by omega, by rw [zaYear, if_neg (by omega), if_neg (by omega)]; exact e33, Or.inl ⟨by omega, by omega, u33, f33⟩⟩
    · refine z_bipush (pc := 26) C dX9_year_26 (by decide +kernel) ?_
      refine z_iret (pc := 28) C dX9_year_28 ?_
      exact ⟨_, rfl, by omega, by rw [zaYear, if_neg (by omega), if_pos (by omega)], Or.inr ⟨by omega, rfl⟩⟩
  · refine z_bipush (pc := 10) C dX9_year_10 (by decide +kernel) ?_
    refine z_iret (pc := 12) C dX9_year_12 ?_
    exact ⟨_, rfl, by omega, by rw [zaYear, if_pos (by omega)], Or.inr ⟨by omega, rfl⟩⟩
set_option maxHeartbeats 4000000 in
set_option maxRecDepth 100000 in
theorem c_X9_rain (l : Launch) (G : zGt) (σ : zMem) (n : Nat) (y w : Int) (K R V E : Nat → Int) (h : zLa σ 4 n y w K R V E) (hr : zLr K R V E) (hn : n ≤ 6) (rain : Int) (hx : zR rain) (hw : 0 ≤ w ∧ w ≤ 9100) : zN l G yX9_rain cX9_rain 2 (some .int) 3 [.ref (zB G + 0), .int (zI rain)] σ (zPi (fun x τ => x = zaRain n w R rain ∧ (((0 ≤ rain ∧ rain ≤ 20) ∧ n ≠ 0 ∧ w < 9000 ∧ zLa τ 4 n y (w + zsum (zwp R rain) n) K R (zrV R V rain) E ∧ zFr 4 13 σ τ) ∨ (¬ ((0 ≤ rain ∧ rain ≤ 20) ∧ n ≠ 0 ∧ w < 9000) ∧ σ = τ)))) := by
  have hL4 : zLane 4 := by decide
  obtain ⟨s4, s5, s6, sA⟩ := id h
  refine zM.of (lv0 := [(0, _), (1, _)]) (by decide) (Nat.le_of_ble_eq_true rfl) rfl (fun X C => ?_)
  refine z_iload_n (pc := 0) C dX9_rain_0 rfl 1 rfl ?_
  refine z_iconst (pc := 1) C dX9_rain_1 ?_
  refine z_bipush (pc := 2) C dX9_rain_2 (by decide +kernel) ?_
  refine z_Si (pc := 4) C (c_withinD l G _ _ _ _ (by first | assumption | omega | decide) (by first | assumption | omega | decide) (by first | assumption | omega | decide)) ml_X9_82 ys_X9_within dX9_rain_4 rfl rfl (Nat.le_of_ble_eq_true rfl) ⟨by decide, by decide⟩ (fun r4 t4 h4 q4 => ?_)
  obtain ⟨w4, rfl⟩ := q4
  refine z_if_ne (pc := 7) (tgt := 13) C dX9_rain_7 (by decide) (by omega) (fun c7 => ?_) (fun c7 => ?_)
  · refine z_aload_n (pc := 13) C dX9_rain_13 rfl 0 rfl ?_
    refine z_getR (pc := 14) C (4) fl_X9_19 dX9_rain_14 (by first | rfl | assumption) (by omega) rfl (Or.inl rfl) ?_
    refine z_getI (pc := 17) C fl_X9_107 dX9_rain_17 (by first | rfl | assumption) (by omega) (fun g17 => ?_)
    refine z_if_ne (pc := 20) (tgt := 26) C dX9_rain_20 (by decide) (by omega) (fun c20 => ?_) (fun c20 => ?_)
    · refine z_aload_n (pc := 26) C dX9_rain_26 rfl 0 rfl ?_
      refine z_getR (pc := 27) C (4) fl_X9_19 dX9_rain_27 (by first | rfl | assumption) (by omega) rfl (Or.inl rfl) ?_
      refine z_getI (pc := 30) C fl_X9_172 dX9_rain_30 (by first | rfl | assumption) (by omega) (fun g30 => ?_)
      refine z_sipush (pc := 33) C dX9_rain_33 (by decide +kernel) ?_
      refine z_icmp_lt (pc := 36) (tgt := 42) C dX9_rain_36 (by decide) ⟨by omega, by omega⟩ (fun c36 => ?_) (fun c36 => ?_)
      · refine z_aload_n (pc := 42) C dX9_rain_42 rfl 0 rfl ?_
        refine z_getR (pc := 43) C (4) fl_X9_19 dX9_rain_43 (by first | rfl | assumption) (by omega) rfl (Or.inl rfl) ?_
        refine z_iload_n (pc := 46) C dX9_rain_46 rfl 1 rfl ?_
        refine z_Vi (pc := 47) C (c_X1_rainOn l G _ 4 n y w K R V E hL4 h hr hn rain (by omega) (by omega)) ml_X9_175 yw_X1_rainOn dX9_rain_47 (by first | rfl | assumption) (by omega) rfl rfl rfl (Nat.le_of_ble_eq_true rfl) ⟨by decide, by decide⟩ (fun r47 t47 h47 q47 => ?_)
        obtain ⟨rfl, u47, f47⟩ := q47
        refine z_iret (pc := 50) C dX9_rain_50 ?_
        exact ⟨_, rfl, by assumption, by rw [zaRain, if_pos (by omega), if_neg (by omega), if_neg (by omega)], Or.inl ⟨by omega, by omega, by omega, u47, f47⟩⟩
      · refine z_bipush (pc := 39) C dX9_rain_39 (by decide +kernel) ?_
        refine z_iret (pc := 41) C dX9_rain_41 ?_
        exact ⟨_, rfl, by omega, by rw [zaRain, if_pos (by omega), if_neg (by omega), if_pos (by omega)], Or.inr ⟨by omega, rfl⟩⟩
    · refine z_bipush (pc := 23) C dX9_rain_23 (by decide +kernel) ?_
      refine z_iret (pc := 25) C dX9_rain_25 ?_
      exact ⟨_, rfl, by omega, by rw [zaRain, if_pos (by omega), if_pos (by omega)], Or.inr ⟨by omega, rfl⟩⟩
  · refine z_bipush (pc := 10) C dX9_rain_10 (by decide +kernel) ?_
    refine z_iret (pc := 12) C dX9_rain_12 ?_
    exact ⟨_, rfl, by omega, by rw [zaRain, if_neg (by omega)], Or.inr ⟨by omega, rfl⟩⟩
set_option maxHeartbeats 4000000 in
set_option maxRecDepth 100000 in
theorem c_X9_cheer (l : Launch) (G : zGt) (σ : zMem) (n : Nat) (y w : Int) (K R V E : Nat → Int) (h : zLa σ 4 n y w K R V E) (hr : zLr K R V E) (hn : n ≤ 6) (p : Int) (hp : zR p) : zN l G yX9_cheer cX9_cheer 2 (some .int) 2 [.ref (zB G + 0), .int (zI p)] σ (zPi (fun x τ => x = zaCheer n V p ∧ ((0 ≤ p ∧ p < n ∧ zLa τ 4 n y w K R (zcv1 V p.toNat) E ∧ zFr 4 13 σ τ) ∨ (¬ (0 ≤ p ∧ p < n) ∧ σ = τ)))) := by
  have hL4 : zLane 4 := by decide
  obtain ⟨s4, s5, s6, sA⟩ := id h
  refine zM.of (lv0 := [(0, _), (1, _)]) (by decide) (Nat.le_of_ble_eq_true rfl) rfl (fun X C => ?_)
  refine z_aload_n (pc := 0) C dX9_cheer_0 rfl 0 rfl ?_
  refine z_getR (pc := 1) C (4) fl_X9_19 dX9_cheer_1 (by first | rfl | assumption) (by omega) rfl (Or.inl rfl) ?_
  refine z_iload_n (pc := 4) C dX9_cheer_4 rfl 1 rfl ?_
  refine z_Vi (pc := 5) C (c_hasD l G _ _ _ _ (hL4) (s4) (by first | assumption | omega | decide) (by first | assumption | omega | decide)) ml_X9_123 yw_X1_has dX9_cheer_5 (by first | rfl | assumption) (by omega) rfl rfl rfl (Nat.le_of_ble_eq_true rfl) ⟨by decide, by decide⟩ (fun r5 t5 h5 q5 => ?_)
  obtain ⟨w5, rfl⟩ := q5
  refine z_if_ne (pc := 8) (tgt := 14) C dX9_cheer_8 (by decide) (by omega) (fun c8 => ?_) (fun c8 => ?_)
  · refine z_aload_n (pc := 14) C dX9_cheer_14 rfl 0 rfl ?_
    obtain ⟨i, rfl⟩ : ∃ i : Nat, p = i := ⟨p.toNat, by omega⟩
    have hi : i < n := by omega
    have hri := hr i
    have hA := sA i hi
    refine z_getR (pc := 15) C (4) fl_X9_19 dX9_cheer_15 (by first | rfl | assumption) (by omega) rfl (Or.inl rfl) ?_
    refine z_iload_n (pc := 18) C dX9_cheer_18 rfl 1 rfl ?_
    refine z_Vv (pc := 19) C (c_X1_cheerUp l G _ 4 n y w K R V E hL4 h hr hn i _ rfl hi) ml_X9_178 yw_X1_cheerUp dX9_cheer_19 (by first | rfl | assumption) (by omega) rfl rfl rfl (Nat.le_of_ble_eq_true rfl) ⟨by decide, by decide⟩ (fun t19 q19 => ?_)
    obtain ⟨u19, f19⟩ := q19
    refine z_aload_n (pc := 22) C dX9_cheer_22 rfl 0 rfl ?_
    refine z_getR (pc := 23) C (4) fl_X9_19 dX9_cheer_23 (by first | rfl | assumption) (by omega) rfl (Or.inl rfl) ?_
    refine z_getR (pc := 26) C (9) fl_X9_139 dX9_cheer_26 (by first | rfl | assumption) (by omega) rfl (Or.inl rfl) ?_
    refine z_iload_n (pc := 29) C dX9_cheer_29 rfl 1 rfl ?_
    refine z_Vi (pc := 30) C (c_X6_atv l G _ _ (6) (i) _ (if 0 < V i - 2 then V i - 2 else 0) (by first | assumption | omega | decide) rfl (by first | assumption | omega | decide) (by have := (u19.2.2.2 i hi).2.2.1; rw [show zup V i (if 0 < V i - 2 then V i - 2 else 0) i = (if 0 < V i - 2 then V i - 2 else 0) by simp [zup]] at this; exact this)) ml_X9_131 yw_X6_at dX9_cheer_30 (by first | rfl | assumption) (by omega) rfl rfl rfl (Nat.le_of_ble_eq_true rfl) ⟨by decide, by decide⟩ (fun r30 t30 h30 q30 => ?_)
    obtain ⟨rfl, rfl⟩ := q30
    refine z_iret (pc := 33) C dX9_cheer_33 ?_
    exact ⟨_, rfl, by assumption, by rw [zaCheer]; exact (if_pos (by omega)).symm, Or.inl ⟨by omega, by omega, u19, f19⟩⟩
  · refine z_bipush (pc := 11) C dX9_cheer_11 (by decide +kernel) ?_
    refine z_iret (pc := 13) C dX9_cheer_13 ?_
    exact ⟨_, rfl, by omega, by rw [zaCheer, if_neg (by omega)], Or.inr ⟨by omega, rfl⟩⟩
set_option maxHeartbeats 4000000 in
set_option maxRecDepth 100000 in
theorem c_X9_comb (l : Launch) (G : zGt) (σ : zMem) (n : Nat) (y w : Int) (K R V E : Nat → Int) (h : zLa σ 4 n y w K R V E) (hr : zLr K R V E) (hn : n ≤ 6) (p : Int) (hp : zR p) : zN l G yX9_comb cX9_comb 2 (some .int) 2 [.ref (zB G + 0), .int (zI p)] σ (zPi (fun x τ => x = zaComb n R E p ∧ ((0 ≤ p ∧ p < n ∧ (E p.toNat = 0 ∧ 2 ≤ R p.toNat) ∧ zLa τ 4 n y w K (zup R p.toNat (R p.toNat - 2)) V (zup E p.toNat 1) ∧ zFr 4 13 σ τ) ∨ (¬ (0 ≤ p ∧ p < n ∧ E p.toNat = 0 ∧ 2 ≤ R p.toNat) ∧ σ = τ)))) := by
  have hL4 : zLane 4 := by decide
  obtain ⟨s4, s5, s6, sA⟩ := id h
  refine zM.of (lv0 := [(0, _), (1, _)]) (by decide) (Nat.le_of_ble_eq_true rfl) rfl (fun X C => ?_)
  refine z_aload_n (pc := 0) C dX9_comb_0 rfl 0 rfl ?_
  refine z_getR (pc := 1) C (4) fl_X9_19 dX9_comb_1 (by first | rfl | assumption) (by omega) rfl (Or.inl rfl) ?_
  refine z_iload_n (pc := 4) C dX9_comb_4 rfl 1 rfl ?_
  refine z_Vi (pc := 5) C (c_hasD l G _ _ _ _ (hL4) (s4) (by first | assumption | omega | decide) (by first | assumption | omega | decide)) ml_X9_123 yw_X1_has dX9_comb_5 (by first | rfl | assumption) (by omega) rfl rfl rfl (Nat.le_of_ble_eq_true rfl) ⟨by decide, by decide⟩ (fun r5 t5 h5 q5 => ?_)
  obtain ⟨w5, rfl⟩ := q5
  refine z_if_ne (pc := 8) (tgt := 14) C dX9_comb_8 (by decide) (by omega) (fun c8 => ?_) (fun c8 => ?_)
  · refine z_aload_n (pc := 14) C dX9_comb_14 rfl 0 rfl ?_
    obtain ⟨i, rfl⟩ : ∃ i : Nat, p = i := ⟨p.toNat, by omega⟩
    have hi : i < n := by omega
    have hri := hr i
    have hA := sA i hi
    have hz : (i : Int).toNat = i := rfl
    refine z_getR (pc := 15) C (4) fl_X9_19 dX9_comb_15 (by first | rfl | assumption) (by omega) rfl (Or.inl rfl) ?_
    refine z_iload_n (pc := 18) C dX9_comb_18 rfl 1 rfl ?_
    refine z_Vi (pc := 19) C (c_X1_canBeCombed l G _ 4 n y w K R V E hL4 h hr hn i _ rfl hi) ml_X9_181 yw_X1_canBeCombed dX9_comb_19 (by first | rfl | assumption) (by omega) rfl rfl rfl (Nat.le_of_ble_eq_true rfl) ⟨by decide, by decide⟩ (fun r19 t19 h19 q19 => ?_)
    obtain ⟨i19, rfl⟩ := q19
    have hcc : (r19 = 1 ∧ E i = 0 ∧ 2 ≤ R i) ∨ (r19 = 0 ∧ ¬ (E i = 0 ∧ 2 ≤ R i)) := by rw [i19]; split <;> omega
    refine z_if_ne (pc := 22) (tgt := 28) C dX9_comb_22 (by decide) (by omega) (fun c22 => ?_) (fun c22 => ?_)
    · refine z_aload_n (pc := 28) C dX9_comb_28 rfl 0 rfl ?_
      refine z_getR (pc := 29) C (4) fl_X9_19 dX9_comb_29 (by first | rfl | assumption) (by omega) rfl (Or.inl rfl) ?_
      refine z_iload_n (pc := 32) C dX9_comb_32 rfl 1 rfl ?_
      refine z_Vv (pc := 33) C (c_X1_combOut l G _ 4 n y w K R V E hL4 h hr hn i _ rfl hi) ml_X9_184 yw_X1_combOut dX9_comb_33 (by first | rfl | assumption) (by omega) rfl rfl rfl (Nat.le_of_ble_eq_true rfl) ⟨by decide, by decide⟩ (fun t33 q33 => ?_)
      obtain ⟨u33, f33⟩ := q33
      refine z_aload_n (pc := 36) C dX9_comb_36 rfl 0 rfl ?_
      refine z_getR (pc := 37) C (4) fl_X9_19 dX9_comb_37 (by first | rfl | assumption) (by omega) rfl (Or.inl rfl) ?_
      refine z_getR (pc := 40) C (7) fl_X9_136 dX9_comb_40 (by first | rfl | assumption) (by omega) rfl (Or.inl rfl) ?_
      refine z_iload_n (pc := 43) C dX9_comb_43 rfl 1 rfl ?_
      refine z_Vi (pc := 44) C (c_X6_atv l G _ _ (6) (i) _ (R i - 2) (by first | assumption | omega | decide) rfl (by first | assumption | omega | decide) (by have := (u33.2.2.2 i hi).2.1; rw [show zup R i (R i - 2) i = R i - 2 by simp [zup]] at this; exact this)) ml_X9_131 yw_X6_at dX9_comb_44 (by first | rfl | assumption) (by omega) rfl rfl rfl (Nat.le_of_ble_eq_true rfl) ⟨by decide, by decide⟩ (fun r44 t44 h44 q44 => ?_)
      obtain ⟨rfl, rfl⟩ := q44
      refine z_iret (pc := 47) C dX9_comb_47 ?_
      exact ⟨_, rfl, by assumption, by rw [zaComb, if_pos (by omega), hz, if_pos (by omega)], Or.inl ⟨by omega, by omega, by rw [hz]; omega, u33, f33⟩⟩
    · refine z_bipush (pc := 25) C dX9_comb_25 (by decide +kernel) ?_
      refine z_iret (pc := 27) C dX9_comb_27 ?_
      exact ⟨_, rfl, by omega, by rw [zaComb, if_pos (by omega), hz, if_neg (by omega)], Or.inr ⟨by rw [hz]; omega, rfl⟩⟩
  · refine z_bipush (pc := 11) C dX9_comb_11 (by decide +kernel) ?_
    refine z_iret (pc := 13) C dX9_comb_13 ?_
    exact ⟨_, rfl, by omega, by rw [zaComb, if_neg (by omega)], Or.inr ⟨by omega, rfl⟩⟩
set_option maxHeartbeats 4000000 in
set_option maxRecDepth 100000 in
theorem c_X9_move (l : Launch) (G : zGt) (σ : zMem) (n : Nat) (y w : Int) (K R V E : Nat → Int) (h : zLa σ 4 n y w K R V E) (hr : zLr K R V E) (hn : n ≤ 6) (p k v : Int) (hp : zR p) (hk : zR k) (hv : zR v) : zN l G yX9_move cX9_move 5 (some .int) 1 [.ref (zB G + 0), .int (zI p), .int (zI k), .int (zI v)] σ (zPi (fun x τ => x = zaMove n K p k v ∧ ((0 ≤ p ∧ p < n ∧ ((0 ≤ k ∧ k ≤ 4) ∧ 0 ≤ v ∧ v ≤ 9) ∧ zLa τ 4 n y w (zup K p.toNat k) R (zup V p.toNat v) E ∧ zFr 4 13 σ τ) ∨ (¬ (0 ≤ p ∧ p < n ∧ (0 ≤ k ∧ k ≤ 4) ∧ 0 ≤ v ∧ v ≤ 9) ∧ σ = τ)))) := by
  have hL4 : zLane 4 := by decide
  obtain ⟨s4, s5, s6, sA⟩ := id h
  refine zM.of (lv0 := [(0, _), (1, _), (2, _), (3, _)]) (by decide) (Nat.le_of_ble_eq_true rfl) rfl (fun X C => ?_)
  refine z_aload_n (pc := 0) C dX9_move_0 rfl 0 rfl ?_
  refine z_getR (pc := 1) C (4) fl_X9_19 dX9_move_1 (by first | rfl | assumption) (by omega) rfl (Or.inl rfl) ?_
  refine z_iload_n (pc := 4) C dX9_move_4 rfl 1 rfl ?_
  refine z_Vi (pc := 5) C (c_hasD l G _ _ _ _ (hL4) (s4) (by first | assumption | omega | decide) (by first | assumption | omega | decide)) ml_X9_123 yw_X1_has dX9_move_5 (by first | rfl | assumption) (by omega) rfl rfl rfl (Nat.le_of_ble_eq_true rfl) ⟨by decide, by decide⟩ (fun r5 t5 h5 q5 => ?_)
  obtain ⟨w5, rfl⟩ := q5
  refine z_if_ne (pc := 8) (tgt := 14) C dX9_move_8 (by decide) (by omega) (fun c8 => ?_) (fun c8 => ?_)
  · refine z_iload_n (pc := 14) C dX9_move_14 rfl 2 rfl ?_
    refine z_iconst (pc := 15) C dX9_move_15 ?_
    refine z_iconst (pc := 16) C dX9_move_16 ?_
    refine z_Si (pc := 17) C (c_withinD l G _ _ _ _ (by first | assumption | omega | decide) (by first | assumption | omega | decide) (by first | assumption | omega | decide)) ml_X9_82 ys_X9_within dX9_move_17 rfl rfl (Nat.le_of_ble_eq_true rfl) ⟨by decide, by decide⟩ (fun r17 t17 h17 q17 => ?_)
    obtain ⟨w17, rfl⟩ := q17
    refine z_if_eq (pc := 20) (tgt := 33) C dX9_move_20 (by decide) (by omega) (fun c20 => ?_) (fun c20 => ?_)
    · refine z_bipush (pc := 33) C dX9_move_33 (by decide +kernel) ?_
      refine z_iret (pc := 35) C dX9_move_35 ?_
      exact ⟨_, rfl, by omega, by rw [zaMove, if_pos (by omega), if_neg (by omega)], Or.inr ⟨by omega, rfl⟩⟩
    · refine z_iload_n (pc := 23) C dX9_move_23 rfl 3 rfl ?_
      refine z_iconst (pc := 24) C dX9_move_24 ?_
      refine z_bipush (pc := 25) C dX9_move_25 (by decide +kernel) ?_
      refine z_Si (pc := 27) C (c_withinD l G _ _ _ _ (by first | assumption | omega | decide) (by first | assumption | omega | decide) (by first | assumption | omega | decide)) ml_X9_82 ys_X9_within dX9_move_27 rfl rfl (Nat.le_of_ble_eq_true rfl) ⟨by decide, by decide⟩ (fun r27 t27 h27 q27 => ?_)
      obtain ⟨w27, rfl⟩ := q27
      refine z_if_ne (pc := 30) (tgt := 36) C dX9_move_30 (by decide) (by omega) (fun c30 => ?_) (fun c30 => ?_)
      · refine z_aload_n (pc := 36) C dX9_move_36 rfl 0 rfl ?_
        obtain ⟨i, rfl⟩ : ∃ i : Nat, p = i := ⟨p.toNat, by omega⟩
        have hi : i < n := by omega
        have hri := hr i
        have hA := sA i hi
        refine z_getR (pc := 37) C (4) fl_X9_19 dX9_move_37 (by first | rfl | assumption) (by omega) rfl (Or.inl rfl) ?_
        refine z_getR (pc := 40) C (5) fl_X9_127 dX9_move_40 (by first | rfl | assumption) (by omega) rfl (Or.inl rfl) ?_
        refine z_iload_n (pc := 43) C dX9_move_43 rfl 1 rfl ?_
        refine z_Vi (pc := 44) C (c_X6_atv l G _ _ (6) (i) _ (K i) (by first | assumption | omega | decide) rfl (by first | assumption | omega | decide) (hA.1)) ml_X9_131 yw_X6_at dX9_move_44 (by first | rfl | assumption) (by omega) rfl rfl rfl (Nat.le_of_ble_eq_true rfl) ⟨by decide, by decide⟩ (fun r44 t44 h44 q44 => ?_)
        obtain ⟨rfl, rfl⟩ := q44
        refine z_istore (pc := 47) (lv' := [(4, _), (0, _), (1, _), (2, _), (3, _)]) C dX9_move_47 (by decide) rfl ?_
        refine z_aload_n (pc := 49) C dX9_move_49 rfl 1 rfl ?_
        refine z_getR (pc := 50) C (4) fl_X9_19 dX9_move_50 (by first | rfl | assumption) (by omega) rfl (Or.inl rfl) ?_
        refine z_getR (pc := 53) C (5) fl_X9_127 dX9_move_53 (by first | rfl | assumption) (by omega) rfl (Or.inl rfl) ?_
        refine z_iload_n (pc := 56) C dX9_move_56 rfl 2 rfl ?_
        refine z_iload_n (pc := 57) C dX9_move_57 rfl 3 rfl ?_
        refine z_Vv (pc := 58) C (c_X6_put l G _ _ (6) (i) _ _ (by first | assumption | omega | decide) (rfl) (by first | assumption | omega | decide) (by first | assumption | omega | decide)) ml_X9_187 yw_X6_put dX9_move_58 (by first | rfl | assumption) (by omega) rfl rfl rfl (Nat.le_of_ble_eq_true rfl) ⟨by decide, by decide⟩ (fun t58 q58 => ?_)
        obtain rfl := q58
        refine z_aload_n (pc := 61) C dX9_move_61 rfl 1 rfl ?_
        refine z_getR (pc := 62) C (4) fl_X9_19 dX9_move_62 (by first | rfl | assumption) (by omega) rfl (Or.inl rfl) ?_
        refine z_getR (pc := 65) C (9) fl_X9_139 dX9_move_65 (by first | rfl | assumption) (by omega) rfl (Or.inl rfl) ?_
        refine z_iload_n (pc := 68) C dX9_move_68 rfl 2 rfl ?_
        refine z_iload_n (pc := 69) C dX9_move_69 rfl 4 rfl ?_
        refine z_Vv (pc := 70) C (c_X6_put l G _ _ (6) (i) _ _ (by first | assumption | omega | decide) (rfl) (by first | assumption | omega | decide) (by first | assumption | omega | decide)) ml_X9_187 yw_X6_put dX9_move_70 (by first | rfl | assumption) (by omega) rfl rfl rfl (Nat.le_of_ble_eq_true rfl) ⟨by decide, by decide⟩ (fun t70 q70 => ?_)
        obtain rfl := q70
        refine z_iload (pc := 73) C dX9_move_73 0 rfl ?_
        refine z_iret (pc := 75) C dX9_move_75 ?_
        exact ⟨_, rfl, by assumption, by rw [zaMove, if_pos (by omega), if_pos (by omega)]; rfl, Or.inl ⟨by omega, by omega, by omega, h.putK.putV, (zFr.rf.put (by omega) (by omega)).put (by omega) (by omega)⟩⟩
      · refine z_bipush (pc := 33) C dX9_move_33 (by decide +kernel) ?_
        refine z_iret (pc := 35) C dX9_move_35 ?_
        exact ⟨_, rfl, by omega, by rw [zaMove, if_pos (by omega), if_neg (by omega)], Or.inr ⟨by omega, rfl⟩⟩
  · refine z_bipush (pc := 11) C dX9_move_11 (by decide +kernel) ?_
    refine z_iret (pc := 13) C dX9_move_13 ?_
    exact ⟨_, rfl, by omega, by rw [zaMove, if_neg (by omega)], Or.inr ⟨by omega, rfl⟩⟩
set_option maxHeartbeats 4000000 in
set_option maxRecDepth 100000 in
theorem c_X9_see (l : Launch) (G : zGt) (σ : zMem) (n : Nat) (h4 : σ 4 4 = n) (hn : n ≤ 6) (c : Nat) (A Y Q : Nat → Int) (hs : zSgt σ 13 c A Y Q) (hsr : zSr A Y Q) (hc : c ≤ 6) (p q x : Int) (hp : zR p) (hq : zR q) (hx : zR x) : zN l G yX9_see cX9_see 4 (some .int) 2 [.ref (zB G + 0), .int (zI p), .int (zI q), .int (zI x)] σ (zPi (fun z τ => (z = if 0 ≤ p ∧ p < n then (if (1 ≤ q ∧ q ≤ 9) ∧ 0 ≤ x ∧ x ≤ 20 then (if 6 ≤ c then -104 else (c : Int) + 1) else -102) else -101) ∧ (((0 ≤ p ∧ p < n) ∧ (1 ≤ q ∧ q ≤ 9) ∧ (0 ≤ x ∧ x ≤ 20) ∧ c < 6 ∧ zSgt τ 13 (c + 1) (zup A c p) (zup Y c q) (zup Q c x) ∧ zFr 13 20 σ τ) ∨ (¬ ((0 ≤ p ∧ p < n) ∧ (1 ≤ q ∧ q ≤ 9) ∧ (0 ≤ x ∧ x ≤ 20) ∧ c < 6) ∧ σ = τ)))) := by
  have hL4 : zLane 4 := by decide
  have s4 := h4
  have s3 := hs.1
  refine zM.of (lv0 := [(0, _), (1, _), (2, _), (3, _)]) (by decide) (Nat.le_of_ble_eq_true rfl) rfl (fun X C => ?_)
  refine z_aload_n (pc := 0) C dX9_see_0 rfl 0 rfl ?_
  refine z_getR (pc := 1) C (4) fl_X9_19 dX9_see_1 (by first | rfl | assumption) (by omega) rfl (Or.inl rfl) ?_
  refine z_iload_n (pc := 4) C dX9_see_4 rfl 1 rfl ?_
  refine z_Vi (pc := 5) C (c_hasD l G _ _ _ _ (hL4) (s4) (by first | assumption | omega | decide) (by first | assumption | omega | decide)) ml_X9_123 yw_X1_has dX9_see_5 (by first | rfl | assumption) (by omega) rfl rfl rfl (Nat.le_of_ble_eq_true rfl) ⟨by decide, by decide⟩ (fun r5 t5 h5 q5 => ?_)
  obtain ⟨w5, rfl⟩ := q5
  refine z_if_ne (pc := 8) (tgt := 14) C dX9_see_8 (by decide) (by omega) (fun c8 => ?_) (fun c8 => ?_)
  · refine z_iload_n (pc := 14) C dX9_see_14 rfl 2 rfl ?_
    refine z_iconst (pc := 15) C dX9_see_15 ?_
    refine z_bipush (pc := 16) C dX9_see_16 (by decide +kernel) ?_
    refine z_Si (pc := 18) C (c_withinD l G _ _ _ _ (by first | assumption | omega | decide) (by first | assumption | omega | decide) (by first | assumption | omega | decide)) ml_X9_82 ys_X9_within dX9_see_18 rfl rfl (Nat.le_of_ble_eq_true rfl) ⟨by decide, by decide⟩ (fun r18 t18 h18 q18 => ?_)
    obtain ⟨w18, rfl⟩ := q18
    refine z_if_eq (pc := 21) (tgt := 34) C dX9_see_21 (by decide) (by omega) (fun c21 => ?_) (fun c21 => ?_)
    · refine z_bipush (pc := 34) C dX9_see_34 (by decide +kernel) ?_
      refine z_iret (pc := 36) C dX9_see_36 ?_
      exact ⟨_, rfl, by omega, by rw [if_pos (by omega), if_neg (by omega)], Or.inr ⟨by omega, rfl⟩⟩
    · refine z_iload_n (pc := 24) C dX9_see_24 rfl 3 rfl ?_
      refine z_iconst (pc := 25) C dX9_see_25 ?_
      refine z_bipush (pc := 26) C dX9_see_26 (by decide +kernel) ?_
      refine z_Si (pc := 28) C (c_withinD l G _ _ _ _ (by first | assumption | omega | decide) (by first | assumption | omega | decide) (by first | assumption | omega | decide)) ml_X9_82 ys_X9_within dX9_see_28 rfl rfl (Nat.le_of_ble_eq_true rfl) ⟨by decide, by decide⟩ (fun r28 t28 h28 q28 => ?_)
      obtain ⟨w28, rfl⟩ := q28
      refine z_if_ne (pc := 31) (tgt := 37) C dX9_see_31 (by decide) (by omega) (fun c31 => ?_) (fun c31 => ?_)
      · refine z_aload_n (pc := 37) C dX9_see_37 rfl 0 rfl ?_
        refine z_getR (pc := 38) C (13) fl_X9_26 dX9_see_38 (by first | rfl | assumption) (by omega) rfl (Or.inl rfl) ?_
        refine z_getI (pc := 41) C fl_X9_122 dX9_see_41 (by first | rfl | assumption) (by omega) (fun g41 => ?_)
        refine z_bipush (pc := 44) C dX9_see_44 (by decide +kernel) ?_
        refine z_icmp_lt (pc := 46) (tgt := 52) C dX9_see_46 (by decide) ⟨by omega, by omega⟩ (fun c46 => ?_) (fun c46 => ?_)
        · refine z_aload_n (pc := 52) C dX9_see_52 rfl 0 rfl ?_
          refine z_getR (pc := 53) C (13) fl_X9_26 dX9_see_53 (by first | rfl | assumption) (by omega) rfl (Or.inl rfl) ?_
          refine z_iload_n (pc := 56) C dX9_see_56 rfl 1 rfl ?_
          refine z_iload_n (pc := 57) C dX9_see_57 rfl 2 rfl ?_
          refine z_iload_n (pc := 58) C dX9_see_58 rfl 3 rfl ?_
          refine z_Vv (pc := 59) C (c_X8_add l G _ 13 c A Y Q p q x (by decide) hs (by omega) hp hq hx) ml_X9_229 yw_X8_add dX9_see_59 (by first | rfl | assumption) (by omega) rfl rfl rfl (Nat.le_of_ble_eq_true rfl) ⟨by decide, by decide⟩ (fun t59 q59 => ?_)
          obtain ⟨u59, f59⟩ := q59
          have e59 := u59.1
          refine z_aload_n (pc := 62) C dX9_see_62 rfl 0 rfl ?_
          refine z_getR (pc := 63) C (13) fl_X9_26 dX9_see_63 (by first | rfl | assumption) (by omega) rfl (Or.inl rfl) ?_
          refine z_getI (pc := 66) C fl_X9_122 dX9_see_66 (by first | rfl | assumption) (by omega) (fun g66 => ?_)
          refine z_iret (pc := 69) C dX9_see_69 ?_
          exact ⟨_, rfl, by omega, by rw [if_pos (by omega), if_pos (by omega), if_neg (by omega)]; omega, Or.inl ⟨by omega, by omega, by omega, by omega, u59, f59⟩⟩
        · refine z_bipush (pc := 49) C dX9_see_49 (by decide +kernel) ?_
          refine z_iret (pc := 51) C dX9_see_51 ?_
          exact ⟨_, rfl, by omega, by rw [if_pos (by omega), if_pos (by omega), if_pos (by omega)], Or.inr ⟨by omega, rfl⟩⟩
      · refine z_bipush (pc := 34) C dX9_see_34 (by decide +kernel) ?_
        refine z_iret (pc := 36) C dX9_see_36 ?_
        exact ⟨_, rfl, by omega, by rw [if_pos (by omega), if_neg (by omega)], Or.inr ⟨by omega, rfl⟩⟩
  · refine z_bipush (pc := 11) C dX9_see_11 (by decide +kernel) ?_
    refine z_iret (pc := 13) C dX9_see_13 ?_
    exact ⟨_, rfl, by omega, by rw [if_neg (by omega)], Or.inr ⟨by omega, rfl⟩⟩
set_option maxHeartbeats 4000000 in
set_option maxRecDepth 100000 in
theorem c_X9_forget (l : Launch) (G : zGt) (σ : zMem) (c : Nat) (h3 : σ 13 3 = c) (hc : c ≤ 6) : zN l G yX9_forget cX9_forget 2 (some .int) 0 [.ref (zB G + 0)] σ (zPi (fun x τ => x = c ∧ τ = zU σ 13 3 0)) := by
  refine zM.of (lv0 := [(0, _)]) (by decide) (Nat.le_of_ble_eq_true rfl) rfl (fun X C => ?_)
  refine z_aload_n (pc := 0) C dX9_forget_0 rfl 0 rfl ?_
  refine z_getR (pc := 1) C (13) fl_X9_26 dX9_forget_1 (by first | rfl | assumption) (by omega) rfl (Or.inl rfl) ?_
  refine z_getI (pc := 4) C fl_X9_122 dX9_forget_4 (by first | rfl | assumption) (by omega) (fun g4 => ?_)
  refine z_istore_n (pc := 7) (lv' := [(1, _), (0, _)]) C dX9_forget_7 rfl (by decide) rfl ?_
  refine z_aload_n (pc := 8) C dX9_forget_8 rfl 1 rfl ?_
  refine z_getR (pc := 9) C (13) fl_X9_26 dX9_forget_9 (by first | rfl | assumption) (by omega) rfl (Or.inl rfl) ?_
  refine z_iconst (pc := 12) C dX9_forget_12 ?_
  refine z_putIe (pc := 13) C fl_X9_122 dX9_forget_13 (by first | rfl | assumption) (by omega) (by omega) (fun m13 em13 => ?_)
  refine z_iload_n (pc := 16) C dX9_forget_16 rfl 0 rfl ?_
  refine z_iret (pc := 17) C dX9_forget_17 ?_
  exact ⟨_, rfl, by omega, h3, em13⟩
