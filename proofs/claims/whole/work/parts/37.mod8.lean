/-- where only the table of TWOS changes -/
def zKt (σ τ : zMem) : Prop := ∀ o k, o ≠ 118 → o ≠ 119 → τ o k = σ o k
theorem zKt.kp {σ τ : zMem} (h : zKt σ τ) : zKp σ τ := fun o k hk => h o k (by omega) (by omega)
theorem zKt.ml {σ τ : zMem} {n : Nat} {y : Int} {K R V E : Nat → Int} (h : zKt σ τ) (h2 : zMl σ n y K R V E) : zMl τ n y K R V E := h2.fr fun o k ho => h o k (by omega) (by omega)
set_option maxHeartbeats 4000000 in
set_option maxRecDepth 100000 in
theorem c_X10_layTwos (l : Launch) (G : zGt) (σ : zMem) (n : Nat) (y : Int) (K R V E : Nat → Int) (h : zMl σ n y K R V E) (hr : zLr K R V E) (hn : n ≤ 6) (hn1 : 1 ≤ n) : zN l G yX10_layTwos cX10_layTwos 5 (some .int) 3 [.ref (zB G + 108)] σ (zPi (fun x τ => x = zLf R n 6 (2 ^ n - 1) ∧ (∀ i, i < 6 → τ 119 i = zAf R n 6 (2 ^ n - 1) (fun _ => -1) i) ∧ zKt σ τ)) := by
  obtain ⟨s1, s6, s5, sA⟩ := id h
  have l109 : zl 109 = 6 := by decide
  have l110 : zl 110 = 6 := by decide
  have l111 : zl 111 = 6 := by decide
  have hE : ∀ j, 0 ≤ E j ∧ E j ≤ 1 := fun j => (hr j).2.2.2
  have hb5 := zbs_bd hE n
  have hq6 := zpow6 n hn
  have l118 : zl 118 = 64 := by decide
  have l119 : zl 119 = 6 := by decide
  have h2n := zpow6 n hn
  have h2m := z2n hn
  have hp1 : 1 ≤ 2 ^ n := Nat.one_le_pow _ _ (by decide)
  have hR : ∀ i, 0 ≤ R i ∧ R i ≤ 20 := fun i => (hr i).2.1
  have hcst : ((2 : Int) ^ n) = ((2 ^ n : Nat) : Int) := by rw [Int.natCast_pow]; rfl
  refine zM.of (lv0 := [(0, _)]) (by decide) (Nat.le_of_ble_eq_true rfl) rfl (fun X C => ?_)
  have L63 : ∀ (fuel : Nat) (S : Nat) (A : Nat → Int) (τ : zMem), S < fuel → (S < 2 ^ n ∧ (∀ T, T < 2 ^ n → τ 118 T = zLf R n 6 T) ∧ (∀ j, j < 6 → zbt S j = true → A j = -1) ∧ (∀ j, j < 6 → τ 119 j = A j) ∧ zAf R n 6 S A = zAf R n 6 (2 ^ n - 1) (fun _ => -1) ∧ zKt σ τ) → zg G X true 5 129 0 0 63 [(0, .ref (zB G + 108)), (1, .int (zI ((2 ^ n - 1 : Nat) : Int))), (2, .int (zI (S : Int)))] [] τ := by
    intro fuel
    induction fuel with
    | zero => intro S A τ hm; exact absurd hm (Nat.not_lt_zero _)
    | succ fuel ih =>
      intro S A τ hms hinv
      obtain ⟨h1, h3, h6, h4, h7, h5⟩ := hinv
      refine z_iload_n (pc := 63) C dX10_layTwos_63 rfl 2 rfl ?_
      refine z_if_eq (pc := 64) (tgt := 121) C dX10_layTwos_64 (by decide) (by omega) (fun c64 => ?_) (fun c64 => ?_)
      · refine z_aload_n (pc := 121) C dX10_layTwos_121 rfl 0 rfl ?_
        refine z_getR (pc := 122) C (118) fl_X10_38 dX10_layTwos_122 (by first | rfl | assumption) (by omega) rfl (Or.inl rfl) ?_
        refine z_iload_n (pc := 125) C dX10_layTwos_125 rfl 1 rfl ?_
        refine z_iaload (pc := 126) C (2 ^ n - 1) dX10_layTwos_126 (by first | rfl | assumption) (by omega) rfl (by omega) (fun g126 => ?_)
        refine z_iret (pc := 127) C dX10_layTwos_127 ?_
        have e118 := h3 (2 ^ n - 1) (by omega)
        obtain rfl : S = 0 := by omega
        refine ⟨_, rfl, by assumption, e118, fun i hi => ?_, h5⟩
        rw [h4 i hi, ← h7]; rfl
      · have hS0 : S ≠ 0 := by omega
        have hS2 : S < 64 := by omega
        obtain ⟨x1, x2, x3⟩ := zlow_bt S hS2 hS0
        obtain ⟨q1, q2, q3⟩ := zrm_bt S hS2 _ x1 x2
        have hpx := Nat.two_pow_pos (zlow S)
        have hxn := zbt_lt n hn S h1 _ x1 x2
        have hsub : ∀ j, j < 6 → zbt (S - 2 ^ zlow S) j = true → zbt S j = true := fun j hj q => ((zrest S hS2 hS0 j hj).mp q).2
        refine z_iload_n (pc := 67) C dX10_layTwos_67 rfl 2 rfl ?_
        refine z_Si (pc := 68) C (c_X10_lowest l G _ S _ rfl hS2 hS0) ml_X10_209 ys_X10_lowest dX10_layTwos_68 rfl rfl (Nat.le_of_ble_eq_true rfl) ⟨by decide, by decide⟩ (fun r68 t68 h68 q68 => ?_)
        obtain ⟨rfl, rfl⟩ := q68
        refine z_istore_n (pc := 71) (lv' := [(3, _), (0, _), (1, _), (2, _)]) C dX10_layTwos_71 rfl (by decide) rfl ?_
        refine z_aload_n (pc := 72) C dX10_layTwos_72 rfl 1 rfl ?_
        refine z_iload_n (pc := 73) C dX10_layTwos_73 rfl 3 rfl ?_
        refine z_Vi (pc := 74) C (c_X10_partnerIn l G _ n y K R V E (h5.ml h) hr hn S _ rfl h1 hS0 h3) ml_X10_218 yw_X10_partnerIn dX10_layTwos_74 (by first | rfl | assumption) (by omega) rfl rfl rfl (Nat.le_of_ble_eq_true rfl) ⟨by decide, by decide⟩ (fun r74 t74 h74 q74 => ?_)
        obtain ⟨w74, rfl⟩ := q74
        refine z_istore (pc := 77) (lv' := [(4, _), (3, _), (0, _), (1, _), (2, _)]) C dX10_layTwos_77 (by decide) rfl ?_
        refine z_iload_n (pc := 79) C dX10_layTwos_79 rfl 4 rfl ?_
        refine z_iconst (pc := 80) C dX10_layTwos_80 ?_
        refine z_iload_n (pc := 81) C dX10_layTwos_81 rfl 1 rfl ?_
        refine z_ishl (pc := 82) (r := 2 ^ zlow S) C dX10_layTwos_82 (zshl_n (zlow S) (by omega)) ?_
        refine z_iconst (pc := 83) C dX10_layTwos_83 ?_
        refine z_ixor (pc := 84) (r := -(2 ^ zlow S) - 1) C dX10_layTwos_84 (zxor_n (zlow S) x1) ?_
        refine z_iand (pc := 85) (r := (S - 2 ^ zlow S : Nat)) C dX10_layTwos_85 (zclr_n S hS2 (zlow S) x1 x2) ?_
        refine z_istore_n (pc := 86) (lv' := [(2, _), (4, _), (3, _), (0, _), (1, _)]) C dX10_layTwos_86 rfl (by decide) rfl ?_
        refine z_iload (pc := 87) C dX10_layTwos_87 1 rfl ?_
        refine z_iconst (pc := 89) C dX10_layTwos_89 ?_
        refine z_icmp_eq (pc := 90) (tgt := 118) C dX10_layTwos_90 (by decide) ⟨by omega, by omega⟩ (fun c90 => ?_) (fun c90 => ?_)
        · refine z_goto (pc := 118) (tgt := 63) C dX10_layTwos_118 (by decide) ?_
          refine z_sub C [3, 4, 0] rfl ?_
          first
            | (obtain ⟨wz, we⟩ : zodd S = true ∧ zLf R n 6 (S - 2 ^ zlow S) = zLf R n 6 S := by
                 rcases w74 with q | ⟨h2, q, -⟩
                 · exact q.2
                 · exfalso; omega
               have hA1 : zAf R n 6 (S - 2 ^ zlow S) A = zAf R n 6 (2 ^ n - 1) (fun _ => -1) := by
                 rw [← h7, zA_rec hn h1 hS0, zAm_none wz (by rw [we]; exact zL_rec hn h1 hS0) (Nat.le_refl n)]
                 congr 1
                 funext j
                 unfold zup
                 by_cases e : j = zlow S
                 · rw [if_pos e, e]; exact h6 _ x1 x2
                 · rw [if_neg e]
               exact ih (S - 2 ^ zlow S) A _ (by omega) ⟨by omega, h3, fun j hj q => h6 j hj (hsub j hj q), h4, hA1, h5⟩)
            | (have hA2 : zAf R n 6 (S - 2 ^ zlow S - 2 ^ h2) (zup (zup A (zlow S) (h2 : Int)) h2 (zlow S : Int)) = zAf R n 6 (2 ^ n - 1) (fun _ => -1) := by
                 rw [← h7, zA_rec hn h1 hS0, zAm_at (by omega) k1 k2 k3 (by rw [← hrec]; exact k4) (fun j a b c => by rw [← hrec]; exact k5 j a b c) (fun a => by rw [← hrec]; exact k6 a) k1 (Nat.le_refl n)]
               have hbits : ∀ j, j < 6 → zbt (S - 2 ^ zlow S - 2 ^ h2) j = true → zup (zup A (zlow S) (h2 : Int)) h2 (zlow S : Int) j = -1 := by
                 intro j hj q
                 rw [y2 j hj] at q
                 by_cases e : j = h2
                 · rw [if_pos e] at q; cases q
                 · rw [if_neg e, q2 j hj] at q
                   by_cases e2 : j = zlow S
                   · rw [if_pos e2] at q; cases q
                   · rw [if_neg e2] at q
                     unfold zup
                     rw [if_neg e, if_neg e2]; exact h6 j hj q
               have hcell : ∀ j, j < 6 → m108 119 j = zup (zup A (zlow S) (h2 : Int)) h2 (zlow S : Int) j := by
                 intro j hj
                 rw [em108, em100]
                 unfold zup
                 by_cases e : j = h2
                 · rw [e, zU_at, if_pos rfl]
                 · rw [zU_k e, if_neg e]
                   by_cases e2 : j = zlow S
                   · rw [e2, zU_at, if_pos rfl]
                   · rw [zU_k e2, if_neg e2]; exact h4 j hj
               exact ih (S - 2 ^ zlow S - 2 ^ h2) (zup (zup A (zlow S) (h2 : Int)) h2 (zlow S : Int)) _ (by omega) ⟨by omega, fun T hT => by rw [em108, zU_o (by omega), em100, zU_o (by omega)]; exact h3 T hT, hbits, hcell, hA2, fun o k a b => by rw [em108, zU_o b, em100, zU_o b]; exact h5 o k a b⟩)
        · obtain ⟨h2, rfl, k1, k2, k3, k4, k5, k6⟩ : ∃ h2 : Nat, r74 = h2 ∧ h2 < n ∧ zlow S < h2 ∧ zbt S h2 = true ∧ zLf R n 6 (S - 2 ^ zlow S - 2 ^ h2) + zab (R (zlow S)) (R h2) = zLf R n 6 S ∧ (∀ j, j < h2 → zlow S < j → zbt S j = true → zLf R n 6 (S - 2 ^ zlow S - 2 ^ j) + zab (R (zlow S)) (R j) ≠ zLf R n 6 S) ∧ (zodd S = true → zLf R n 6 (S - 2 ^ zlow S) ≠ zLf R n 6 S) := by
            rcases w74 with q | q
            · exfalso; omega
            · exact q
          have hbk := (zrest S hS2 hS0 h2 (by omega)).mpr ⟨k2, k3⟩
          obtain ⟨y1, y2, y3⟩ := zrm_bt (S - 2 ^ zlow S) (by omega) h2 (by omega) hbk
          have hph := Nat.two_pow_pos h2
          have hLS := zLv hn hR h1
          have hrec := zL_rec (R := R) hn h1 hS0
          refine z_aload_n (pc := 93) C dX10_layTwos_93 rfl 3 rfl ?_
          refine z_getR (pc := 94) C (119) fl_X10_41 dX10_layTwos_94 (by first | rfl | assumption) (by omega) rfl (Or.inl rfl) ?_
          refine z_iload_n (pc := 97) C dX10_layTwos_97 rfl 2 rfl ?_
          refine z_iload (pc := 98) C dX10_layTwos_98 1 rfl ?_
          refine z_iastoree (pc := 100) C (zlow S) dX10_layTwos_100 (by first | rfl | assumption) (by omega) rfl (by omega) (by omega) (fun m100 em100 => ?_)
          refine z_aload_n (pc := 101) C dX10_layTwos_101 rfl 3 rfl ?_
          refine z_getR (pc := 102) C (119) fl_X10_41 dX10_layTwos_102 (by first | rfl | assumption) (by omega) rfl (Or.inl rfl) ?_
          refine z_iload (pc := 105) C dX10_layTwos_105 1 rfl ?_
          refine z_iload_n (pc := 107) C dX10_layTwos_107 rfl 2 rfl ?_
          refine z_iastoree (pc := 108) C (h2) dX10_layTwos_108 (by first | rfl | assumption) (by omega) rfl (by omega) (by omega) (fun m108 em108 => ?_)
          refine z_iload_n (pc := 109) C dX10_layTwos_109 rfl 0 rfl ?_
          refine z_iconst (pc := 110) C dX10_layTwos_110 ?_
          refine z_iload (pc := 111) C dX10_layTwos_111 1 rfl ?_
          refine z_ishl (pc := 113) (r := 2 ^ h2) C dX10_layTwos_113 (zshl_n h2 (by omega)) ?_
          refine z_iconst (pc := 114) C dX10_layTwos_114 ?_
          refine z_ixor (pc := 115) (r := -(2 ^ h2) - 1) C dX10_layTwos_115 (zxor_n h2 (by omega)) ?_
          refine z_iand (pc := 116) (r := (S - 2 ^ zlow S - 2 ^ h2 : Nat)) C dX10_layTwos_116 (zclr_n (S - 2 ^ zlow S) (by omega) h2 (by omega) hbk) ?_
          refine z_istore_n (pc := 117) (lv' := [(2, _), (4, _), (3, _), (0, _), (1, _)]) C dX10_layTwos_117 rfl (by decide) rfl ?_
          refine z_goto (pc := 118) (tgt := 63) C dX10_layTwos_118 (by decide) ?_
          refine z_sub C [3, 4, 0] rfl ?_
          first
            | (obtain ⟨wz, we⟩ : zodd S = true ∧ zLf R n 6 (S - 2 ^ zlow S) = zLf R n 6 S := by
                 rcases w74 with q | ⟨h2, q, -⟩
                 · exact q.2
                 · exfalso; omega
               have hA1 : zAf R n 6 (S - 2 ^ zlow S) A = zAf R n 6 (2 ^ n - 1) (fun _ => -1) := by
                 rw [← h7, zA_rec hn h1 hS0, zAm_none wz (by rw [we]; exact zL_rec hn h1 hS0) (Nat.le_refl n)]
                 congr 1
                 funext j
                 unfold zup
                 by_cases e : j = zlow S
                 · rw [if_pos e, e]; exact h6 _ x1 x2
                 · rw [if_neg e]
               exact ih (S - 2 ^ zlow S) A _ (by omega) ⟨by omega, h3, fun j hj q => h6 j hj (hsub j hj q), h4, hA1, h5⟩)
            | (have hA2 : zAf R n 6 (S - 2 ^ zlow S - 2 ^ h2) (zup (zup A (zlow S) (h2 : Int)) h2 (zlow S : Int)) = zAf R n 6 (2 ^ n - 1) (fun _ => -1) := by
                 rw [← h7, zA_rec hn h1 hS0, zAm_at (by omega) k1 k2 k3 (by rw [← hrec]; exact k4) (fun j a b c => by rw [← hrec]; exact k5 j a b c) (fun a => by rw [← hrec]; exact k6 a) k1 (Nat.le_refl n)]
               have hbits : ∀ j, j < 6 → zbt (S - 2 ^ zlow S - 2 ^ h2) j = true → zup (zup A (zlow S) (h2 : Int)) h2 (zlow S : Int) j = -1 := by
                 intro j hj q
                 rw [y2 j hj] at q
                 by_cases e : j = h2
                 · rw [if_pos e] at q; cases q
                 · rw [if_neg e, q2 j hj] at q
                   by_cases e2 : j = zlow S
                   · rw [if_pos e2] at q; cases q
                   · rw [if_neg e2] at q
                     unfold zup
                     rw [if_neg e, if_neg e2]; exact h6 j hj q
               have hcell : ∀ j, j < 6 → m108 119 j = zup (zup A (zlow S) (h2 : Int)) h2 (zlow S : Int) j := by
                 intro j hj
                 rw [em108, em100]
                 unfold zup
                 by_cases e : j = h2
                 · rw [e, zU_at, if_pos rfl]
                 · rw [zU_k e, if_neg e]
                   by_cases e2 : j = zlow S
                   · rw [e2, zU_at, if_pos rfl]
                   · rw [zU_k e2, if_neg e2]; exact h4 j hj
               exact ih (S - 2 ^ zlow S - 2 ^ h2) (zup (zup A (zlow S) (h2 : Int)) h2 (zlow S : Int)) _ (by omega) ⟨by omega, fun T hT => by rw [em108, zU_o (by omega), em100, zU_o (by omega)]; exact h3 T hT, hbits, hcell, hA2, fun o k a b => by rw [em108, zU_o b, em100, zU_o b]; exact h5 o k a b⟩)
  have L42 : ∀ (fuel : Nat) (i : Nat) (τ : zMem), 6 - i < fuel → (i ≤ 6 ∧ (∀ T, T < 2 ^ n → τ 118 T = zLf R n 6 T) ∧ (∀ j, j < i → τ 119 j = -1) ∧ zKt σ τ) → zg G X true 5 129 0 0 42 [(0, .ref (zB G + 108)), (1, .int (zI ((2 ^ n - 1 : Nat) : Int))), (2, .int (zI (i : Int)))] [] τ := by
    intro fuel
    induction fuel with
    | zero => intro i τ hm; exact absurd hm (Nat.not_lt_zero _)
    | succ fuel ih =>
      intro i τ hms hinv
      obtain ⟨h1, h3, h4, h5⟩ := hinv
      refine z_iload_n (pc := 42) C dX10_layTwos_42 rfl 2 rfl ?_
      refine z_bipush (pc := 43) C dX10_layTwos_43 (by decide +kernel) ?_
      refine z_icmp_ge (pc := 45) (tgt := 61) C dX10_layTwos_45 (by decide) ⟨by omega, by omega⟩ (fun c45 => ?_) (fun c45 => ?_)
      · refine z_iload_n (pc := 61) C dX10_layTwos_61 rfl 1 rfl ?_
        refine z_istore_n (pc := 62) (lv' := [(2, _), (0, _), (1, _)]) C dX10_layTwos_62 rfl (by decide) rfl ?_
        refine z_sub C [1, 2, 0] rfl ?_
        exact L63 _ (2 ^ n - 1) (fun _ => -1) _ (Nat.lt_succ_self _) ⟨by omega, h3, fun j _ _ => rfl, fun j hj => h4 j (by omega), rfl, h5⟩
      · refine z_aload_n (pc := 48) C dX10_layTwos_48 rfl 0 rfl ?_
        refine z_getR (pc := 49) C (119) fl_X10_41 dX10_layTwos_49 (by first | rfl | assumption) (by omega) rfl (Or.inl rfl) ?_
        refine z_iload_n (pc := 52) C dX10_layTwos_52 rfl 2 rfl ?_
        refine z_iconst (pc := 53) C dX10_layTwos_53 ?_
        refine z_iastoree (pc := 54) C (i) dX10_layTwos_54 (by first | rfl | assumption) (by omega) rfl (by omega) (by omega) (fun m54 em54 => ?_)
        refine z_iinc (pc := 55) (lv' := [(2, _), (0, _), (1, _)]) C dX10_layTwos_55 2 rfl (by decide) rfl ?_
        refine z_goto (pc := 58) (tgt := 42) C dX10_layTwos_58 (by decide) ?_
        refine z_sub C [1, 2, 0] rfl ?_
        exact ih (i + 1) _ (by omega) ⟨by omega, fun T hT => by rw [em54, zU_o (by omega)]; exact h3 T hT, fun j hj => (show j < i ∨ j = i by omega).elim (fun q => by rw [em54, zU_k (by omega)]; exact h4 j q) (fun q => by rw [em54, q, zU_at]), fun o k a b => by rw [em54, zU_o b]; exact h5 o k a b⟩
  have L18 : ∀ (fuel : Nat) (s : Nat) (τ : zMem), 2 ^ n - s < fuel → ((1 ≤ s ∧ s ≤ 2 ^ n) ∧ (∀ T, T < s → τ 118 T = zLf R n 6 T) ∧ zKt σ τ) → zg G X true 5 129 0 0 18 [(0, .ref (zB G + 108)), (1, .int (zI ((2 ^ n - 1 : Nat) : Int))), (2, .int (zI (s : Int)))] [] τ := by
    intro fuel
    induction fuel with
    | zero => intro s τ hm; exact absurd hm (Nat.not_lt_zero _)
    | succ fuel ih =>
      intro s τ hms hinv
      obtain ⟨h1, h3, h5⟩ := hinv
      refine z_iload_n (pc := 18) C dX10_layTwos_18 rfl 2 rfl ?_
      refine z_iload_n (pc := 19) C dX10_layTwos_19 rfl 1 rfl ?_
      refine z_icmp_gt (pc := 20) (tgt := 40) C dX10_layTwos_20 (by decide) ⟨by omega, by omega⟩ (fun c20 => ?_) (fun c20 => ?_)
      · refine z_iconst (pc := 40) C dX10_layTwos_40 ?_
        refine z_istore_n (pc := 41) (lv' := [(2, _), (0, _), (1, _)]) C dX10_layTwos_41 rfl (by decide) rfl ?_
        refine z_sub C [1, 2, 0] rfl ?_
        exact L42 _ 0 _ (Nat.lt_succ_self _) ⟨by omega, fun T hT => h3 T (by omega), fun j hj => by omega, h5⟩
      · refine z_aload_n (pc := 23) C dX10_layTwos_23 rfl 0 rfl ?_
        refine z_getR (pc := 24) C (118) fl_X10_38 dX10_layTwos_24 (by first | rfl | assumption) (by omega) rfl (Or.inl rfl) ?_
        refine z_iload_n (pc := 27) C dX10_layTwos_27 rfl 2 rfl ?_
        refine z_aload_n (pc := 28) C dX10_layTwos_28 rfl 0 rfl ?_
        refine z_iload_n (pc := 29) C dX10_layTwos_29 rfl 2 rfl ?_
        have hS0 : s ≠ 0 := by omega
        refine z_Vi (pc := 30) C (c_X10_leastOf l G _ n y K R V E (h5.ml h) hr hn s _ rfl (by omega) hS0 h3) ml_X10_215 yw_X10_leastOf dX10_layTwos_30 (by first | rfl | assumption) (by omega) rfl rfl rfl (Nat.le_of_ble_eq_true rfl) ⟨by decide, by decide⟩ (fun r30 t30 h30 q30 => ?_)
        obtain ⟨rfl, rfl⟩ := q30
        refine z_iastoree (pc := 33) C (s) dX10_layTwos_33 (by first | rfl | assumption) (by omega) rfl (by omega) (by omega) (fun m33 em33 => ?_)
        refine z_iinc (pc := 34) (lv' := [(2, _), (0, _), (1, _)]) C dX10_layTwos_34 2 rfl (by decide) rfl ?_
        refine z_goto (pc := 37) (tgt := 18) C dX10_layTwos_37 (by decide) ?_
        refine z_sub C [1, 2, 0] rfl ?_
        exact ih (s + 1) _ (by omega) ⟨by omega, fun T hT => (show T < s ∨ T = s by omega).elim (fun q => by rw [em33, zU_k (by omega)]; exact h3 T q) (fun q => by rw [em33, q, zU_at]), fun o k a b => by rw [em33, zU_o a]; exact h5 o k a b⟩
  refine z_iconst (pc := 0) C dX10_layTwos_0 ?_
  refine z_aload_n (pc := 1) C dX10_layTwos_1 rfl 0 rfl ?_
  refine z_getI (pc := 2) C fl_X10_101 dX10_layTwos_2 (by first | rfl | assumption) (by omega) (fun g2 => ?_)
  rw [s1]
  refine z_ishl (pc := 5) (r := ((2 ^ n : Nat) : Int)) C dX10_layTwos_5 (by rw [← hcst]; exact zshl_n n (by omega)) ?_
  refine z_iconst (pc := 6) C dX10_layTwos_6 ?_
  refine z_isub (pc := 7) C dX10_layTwos_7 ?_
  rw [show ((2 ^ n : Nat) : Int) - 1 = ((2 ^ n - 1 : Nat) : Int) by omega]
  refine z_istore_n (pc := 8) (lv' := [(1, _), (0, _)]) C dX10_layTwos_8 rfl (by decide) rfl ?_
  refine z_aload_n (pc := 9) C dX10_layTwos_9 rfl 1 rfl ?_
  refine z_getR (pc := 10) C (118) fl_X10_38 dX10_layTwos_10 (by first | rfl | assumption) (by omega) rfl (Or.inl rfl) ?_
  refine z_iconst (pc := 13) C dX10_layTwos_13 ?_
  refine z_iconst (pc := 14) C dX10_layTwos_14 ?_
  refine z_iastoree (pc := 15) C (0) dX10_layTwos_15 (by first | rfl | assumption) (by omega) rfl (by omega) (by omega) (fun m15 em15 => ?_)
  refine z_iconst (pc := 16) C dX10_layTwos_16 ?_
  refine z_istore_n (pc := 17) (lv' := [(2, _), (1, _), (0, _)]) C dX10_layTwos_17 rfl (by decide) rfl ?_
  refine z_sub C [2, 1, 0] rfl ?_
  exact L18 _ 1 _ (Nat.lt_succ_self _) ⟨by omega, fun T hT => by rw [em15, show T = 0 by omega, zU_at]; rfl, fun o k a b => by rw [em15, zU_o a]⟩
