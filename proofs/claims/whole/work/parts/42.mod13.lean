/-! the kept lane, by the model -/
def zMk (σ : zMem) (n : Nat) (y w : Int) (K R V E : Nat → Int) (c : Nat) (A Y Q : Nat → Int) : Prop := σ 108 31 = zbs E n ∧ σ 108 32 = y ∧ σ 108 33 = w ∧ σ 108 34 = c ∧ (∀ i, i < n → σ 123 i = K i ∧ σ 124 i = R i ∧ σ 125 i = V i) ∧ ∀ i, i < c → σ 126 i = A i ∧ σ 127 i = Y i ∧ σ 128 i = Q i
theorem zMk.fr {σ τ : zMem} {n : Nat} {y w : Int} {K R V E : Nat → Int} {c : Nat} {A Y Q : Nat → Int} (h : zMk σ n y w K R V E c A Y Q) (hf : ∀ o k, (o = 108 ∧ 31 ≤ k ∧ k ≤ 34) ∨ 123 ≤ o → τ o k = σ o k) : zMk τ n y w K R V E c A Y Q :=
  ⟨(hf _ _ (by omega)).trans h.1, (hf _ _ (by omega)).trans h.2.1, (hf _ _ (by omega)).trans h.2.2.1, (hf _ _ (by omega)).trans h.2.2.2.1, fun i hi => by rw [hf 123 i (by omega), hf 124 i (by omega), hf 125 i (by omega)]; exact h.2.2.2.2.1 i hi, fun i hi => by rw [hf 126 i (by omega), hf 127 i (by omega), hf 128 i (by omega)]; exact h.2.2.2.2.2 i hi⟩
/-- six rows are copied, one place after the other -/
def zcp (σ τ : zMem) (a b i : Nat) : Prop := ∀ j, j < i → τ b j = σ a j
set_option maxHeartbeats 4000000 in
set_option maxRecDepth 100000 in
theorem c_X10_image (l : Launch) (G : zGt) (σ : zMem) (n : Nat) (y : Int) (K R V E : Nat → Int) (h : zMl σ n y K R V E) (hr : zLr K R V E) (hn : n ≤ 6) (c : Nat) (A Y Q : Nat → Int) (hs : zMs σ c A Y Q) (hsr : zSr A Y Q) (hc : c ≤ 6) (w : Int) (hw7 : σ 108 7 = w) (hww : zR w) (hy : zR y) (lr : Int) (hlr : σ 108 0 = lr) (hlb : zR lr) : zN l G yX10_image cX10_image 2 (some .int) 0 [.ref (zB G + 108)] σ (zPi (fun x τ => x = (if n = 0 then -103 else y) ∧ ((n ≠ 0 ∧ τ 108 29 = 1 ∧ τ 108 30 = lr ∧ zMk τ n y w K R V E c A Y Q ∧ (∀ o k, o < 123 → (o ≠ 108 ∨ k < 29 ∨ 34 < k) → τ o k = σ o k)) ∨ (n = 0 ∧ σ = τ)))) := by
  obtain ⟨s1, s6, s5, sA⟩ := id h
  have l109 : zl 109 = 6 := by decide
  have l110 : zl 110 = 6 := by decide
  have l111 : zl 111 = 6 := by decide
  have hE : ∀ j, 0 ≤ E j ∧ E j ≤ 1 := fun j => (hr j).2.2.2
  have hb5 := zbs_bd hE n
  have hq6 := zpow6 n hn
  obtain ⟨d8, dA⟩ := id hs
  have l112 : zl 112 = 6 := by decide
  have l113 : zl 113 = 6 := by decide
  have l114 : zl 114 = 6 := by decide
  have l123 : zl 123 = 6 := by decide
  have l124 : zl 124 = 6 := by decide
  have l125 : zl 125 = 6 := by decide
  have l126 : zl 126 = 6 := by decide
  have l127 : zl 127 = 6 := by decide
  have l128 : zl 128 = 6 := by decide
  refine zM.of (lv0 := [(0, _)]) (by decide) (Nat.le_of_ble_eq_true rfl) rfl (fun X C => ?_)
  have L57 : ∀ (fuel : Nat) (i : Nat) (τ : zMem), 6 - i < fuel → (i ≤ 6 ∧ (zcp σ τ 109 123 i ∧ zcp σ τ 110 124 i ∧ zcp σ τ 111 125 i ∧ zcp σ τ 112 126 i ∧ zcp σ τ 113 127 i ∧ zcp σ τ 114 128 i) ∧ (τ 108 29 = 1 ∧ τ 108 30 = lr ∧ τ 108 31 = zbs E n ∧ τ 108 32 = y ∧ τ 108 33 = w ∧ τ 108 34 = c) ∧ n ≠ 0 ∧ (∀ o k, o < 123 → (o ≠ 108 ∨ k < 29 ∨ 34 < k) → τ o k = σ o k)) → zg G X true 2 129 0 0 57 [(0, .ref (zB G + 108)), (1, .int (zI (i : Int)))] [] τ := by
    intro fuel
    induction fuel with
    | zero => intro i τ hm; exact absurd hm (Nat.not_lt_zero _)
    | succ fuel ih =>
      intro i τ hms hinv
      obtain ⟨h1, ⟨p1, p2, p3, p4, p5, p6⟩, ⟨k1, k2, k3, k4, k5, k6⟩, hn0, h5⟩ := hinv
      refine z_iload_n (pc := 57) C dX10_image_57 rfl 1 rfl ?_
      refine z_bipush (pc := 58) C dX10_image_58 (by decide +kernel) ?_
      refine z_icmp_ge (pc := 60) (tgt := 141) C dX10_image_60 (by decide) ⟨by omega, by omega⟩ (fun c60 => ?_) (fun c60 => ?_)
      · refine z_aload_n (pc := 141) C dX10_image_141 rfl 0 rfl ?_
        refine z_getI (pc := 142) C fl_X10_107 dX10_image_142 (by first | rfl | assumption) (by omega) (fun g142 => ?_)
        refine z_iret (pc := 145) C dX10_image_145 ?_
        obtain rfl : i = 6 := by omega
        have e6 : τ 108 6 = y := (h5 108 6 (by omega) (by omega)).trans s6
        exact ⟨_, rfl, by omega, by rw [if_neg hn0]; exact e6, Or.inl ⟨hn0, k1, k2, ⟨k3, k4, k5, k6, fun j hj => by rw [p1 j (by omega), p2 j (by omega), p3 j (by omega)]; exact sA j hj, fun j hj => by rw [p4 j (by omega), p5 j (by omega), p6 j (by omega)]; exact dA j hj⟩, h5⟩⟩
      · refine z_aload_n (pc := 63) C dX10_image_63 rfl 0 rfl ?_
        refine z_getR (pc := 64) C (123) fl_X10_53 dX10_image_64 (by first | rfl | assumption) (by omega) rfl (Or.inl rfl) ?_
        refine z_iload_n (pc := 67) C dX10_image_67 rfl 1 rfl ?_
        refine z_aload_n (pc := 68) C dX10_image_68 rfl 0 rfl ?_
        refine z_getR (pc := 69) C (109) fl_X10_7 dX10_image_69 (by first | rfl | assumption) (by omega) rfl (Or.inl rfl) ?_
        refine z_iload_n (pc := 72) C dX10_image_72 rfl 1 rfl ?_
        refine z_iaload (pc := 73) C (i) dX10_image_73 (by first | rfl | assumption) (by omega) rfl (by omega) (fun g73 => ?_)
        refine z_iastoree (pc := 74) C (i) dX10_image_74 (by first | rfl | assumption) (by omega) rfl (by omega) (by omega) (fun m74 em74 => ?_)
        refine z_aload_n (pc := 75) C dX10_image_75 rfl 0 rfl ?_
        refine z_getR (pc := 76) C (124) fl_X10_56 dX10_image_76 (by first | rfl | assumption) (by omega) rfl (Or.inl rfl) ?_
        refine z_iload_n (pc := 79) C dX10_image_79 rfl 1 rfl ?_
        refine z_aload_n (pc := 80) C dX10_image_80 rfl 0 rfl ?_
        refine z_getR (pc := 81) C (110) fl_X10_13 dX10_image_81 (by first | rfl | assumption) (by omega) rfl (Or.inl rfl) ?_
        refine z_iload_n (pc := 84) C dX10_image_84 rfl 1 rfl ?_
        refine z_iaload (pc := 85) C (i) dX10_image_85 (by first | rfl | assumption) (by omega) rfl (by omega) (fun g85 => ?_)
        refine z_iastoree (pc := 86) C (i) dX10_image_86 (by first | rfl | assumption) (by omega) rfl (by omega) (by omega) (fun m86 em86 => ?_)
        refine z_aload_n (pc := 87) C dX10_image_87 rfl 0 rfl ?_
        refine z_getR (pc := 88) C (125) fl_X10_59 dX10_image_88 (by first | rfl | assumption) (by omega) rfl (Or.inl rfl) ?_
        refine z_iload_n (pc := 91) C dX10_image_91 rfl 1 rfl ?_
        refine z_aload_n (pc := 92) C dX10_image_92 rfl 0 rfl ?_
        refine z_getR (pc := 93) C (111) fl_X10_16 dX10_image_93 (by first | rfl | assumption) (by omega) rfl (Or.inl rfl) ?_
        refine z_iload_n (pc := 96) C dX10_image_96 rfl 1 rfl ?_
        refine z_iaload (pc := 97) C (i) dX10_image_97 (by first | rfl | assumption) (by omega) rfl (by omega) (fun g97 => ?_)
        refine z_iastoree (pc := 98) C (i) dX10_image_98 (by first | rfl | assumption) (by omega) rfl (by omega) (by omega) (fun m98 em98 => ?_)
        refine z_aload_n (pc := 99) C dX10_image_99 rfl 0 rfl ?_
        refine z_getR (pc := 100) C (126) fl_X10_62 dX10_image_100 (by first | rfl | assumption) (by omega) rfl (Or.inl rfl) ?_
        refine z_iload_n (pc := 103) C dX10_image_103 rfl 1 rfl ?_
        refine z_aload_n (pc := 104) C dX10_image_104 rfl 0 rfl ?_
        refine z_getR (pc := 105) C (112) fl_X10_19 dX10_image_105 (by first | rfl | assumption) (by omega) rfl (Or.inl rfl) ?_
        refine z_iload_n (pc := 108) C dX10_image_108 rfl 1 rfl ?_
        refine z_iaload (pc := 109) C (i) dX10_image_109 (by first | rfl | assumption) (by omega) rfl (by omega) (fun g109 => ?_)
        refine z_iastoree (pc := 110) C (i) dX10_image_110 (by first | rfl | assumption) (by omega) rfl (by omega) (by omega) (fun m110 em110 => ?_)
        refine z_aload_n (pc := 111) C dX10_image_111 rfl 0 rfl ?_
        refine z_getR (pc := 112) C (127) fl_X10_65 dX10_image_112 (by first | rfl | assumption) (by omega) rfl (Or.inl rfl) ?_
        refine z_iload_n (pc := 115) C dX10_image_115 rfl 1 rfl ?_
        refine z_aload_n (pc := 116) C dX10_image_116 rfl 0 rfl ?_
        refine z_getR (pc := 117) C (113) fl_X10_22 dX10_image_117 (by first | rfl | assumption) (by omega) rfl (Or.inl rfl) ?_
        refine z_iload_n (pc := 120) C dX10_image_120 rfl 1 rfl ?_
        refine z_iaload (pc := 121) C (i) dX10_image_121 (by first | rfl | assumption) (by omega) rfl (by omega) (fun g121 => ?_)
        refine z_iastoree (pc := 122) C (i) dX10_image_122 (by first | rfl | assumption) (by omega) rfl (by omega) (by omega) (fun m122 em122 => ?_)
        refine z_aload_n (pc := 123) C dX10_image_123 rfl 0 rfl ?_
        refine z_getR (pc := 124) C (128) fl_X10_68 dX10_image_124 (by first | rfl | assumption) (by omega) rfl (Or.inl rfl) ?_
        refine z_iload_n (pc := 127) C dX10_image_127 rfl 1 rfl ?_
        refine z_aload_n (pc := 128) C dX10_image_128 rfl 0 rfl ?_
        refine z_getR (pc := 129) C (114) fl_X10_25 dX10_image_129 (by first | rfl | assumption) (by omega) rfl (Or.inl rfl) ?_
        refine z_iload_n (pc := 132) C dX10_image_132 rfl 1 rfl ?_
        refine z_iaload (pc := 133) C (i) dX10_image_133 (by first | rfl | assumption) (by omega) rfl (by omega) (fun g133 => ?_)
        refine z_iastoree (pc := 134) C (i) dX10_image_134 (by first | rfl | assumption) (by omega) rfl (by omega) (by omega) (fun m134 em134 => ?_)
        refine z_iinc (pc := 135) (lv' := [(1, _), (0, _)]) C dX10_image_135 1 rfl (by decide) rfl ?_
        refine z_goto (pc := 138) (tgt := 57) C dX10_image_138 (by decide) ?_
        refine z_sub C [1, 0] rfl ?_
        have hf : ∀ o k, o < 123 → m134 o k = τ o k := fun o k a => by rw [em134, zU_o (by omega), em122, zU_o (by omega), em110, zU_o (by omega), em98, zU_o (by omega), em86, zU_o (by omega), em74, zU_o (by omega)]
        have hs2 : ∀ o j, 109 ≤ o → o < 115 → τ o j = σ o j := fun o j a b => h5 o j (by omega) (by omega)
        have q1 : zcp σ m134 109 123 (i + 1) := fun j hj => by
          rw [em134, zU_o (by omega), em122, zU_o (by omega), em110, zU_o (by omega), em98, zU_o (by omega), em86, zU_o (by omega), em74]
          by_cases e : j = i
          · rw [e, zU_at]; exact hs2 109 i (by omega) (by omega)
          · rw [zU_k e]; exact p1 j (by omega)
        have q2 : zcp σ m134 110 124 (i + 1) := fun j hj => by
          rw [em134, zU_o (by omega), em122, zU_o (by omega), em110, zU_o (by omega), em98, zU_o (by omega), em86]
          by_cases e : j = i
          · rw [e, zU_at]; rw [em74, zU_o (by omega)]; exact hs2 110 i (by omega) (by omega)
          · rw [zU_k e, em74, zU_o (by omega)]; exact p2 j (by omega)
        have q3 : zcp σ m134 111 125 (i + 1) := fun j hj => by
          rw [em134, zU_o (by omega), em122, zU_o (by omega), em110, zU_o (by omega), em98]
          by_cases e : j = i
          · rw [e, zU_at]; rw [em86, zU_o (by omega), em74, zU_o (by omega)]; exact hs2 111 i (by omega) (by omega)
          · rw [zU_k e, em86, zU_o (by omega), em74, zU_o (by omega)]; exact p3 j (by omega)
        have q4 : zcp σ m134 112 126 (i + 1) := fun j hj => by
          rw [em134, zU_o (by omega), em122, zU_o (by omega), em110]
          by_cases e : j = i
          · rw [e, zU_at]; rw [em98, zU_o (by omega), em86, zU_o (by omega), em74, zU_o (by omega)]; exact hs2 112 i (by omega) (by omega)
          · rw [zU_k e, em98, zU_o (by omega), em86, zU_o (by omega), em74, zU_o (by omega)]; exact p4 j (by omega)
        have q5 : zcp σ m134 113 127 (i + 1) := fun j hj => by
          rw [em134, zU_o (by omega), em122]
          by_cases e : j = i
          · rw [e, zU_at]; rw [em110, zU_o (by omega), em98, zU_o (by omega), em86, zU_o (by omega), em74, zU_o (by omega)]; exact hs2 113 i (by omega) (by omega)
          · rw [zU_k e, em110, zU_o (by omega), em98, zU_o (by omega), em86, zU_o (by omega), em74, zU_o (by omega)]; exact p5 j (by omega)
        have q6 : zcp σ m134 114 128 (i + 1) := fun j hj => by
          rw [em134]
          by_cases e : j = i
          · rw [e, zU_at]; rw [em122, zU_o (by omega), em110, zU_o (by omega), em98, zU_o (by omega), em86, zU_o (by omega), em74, zU_o (by omega)]; exact hs2 114 i (by omega) (by omega)
          · rw [zU_k e, em122, zU_o (by omega), em110, zU_o (by omega), em98, zU_o (by omega), em86, zU_o (by omega), em74, zU_o (by omega)]; exact p6 j (by omega)
        exact ih (i + 1) _ (by omega) ⟨by omega, ⟨q1, q2, q3, q4, q5, q6⟩, ⟨(hf 108 29 (by omega)).trans k1, (hf 108 30 (by omega)).trans k2, (hf 108 31 (by omega)).trans k3, (hf 108 32 (by omega)).trans k4, (hf 108 33 (by omega)).trans k5, (hf 108 34 (by omega)).trans k6⟩, hn0, fun o k a b => (hf o k a).trans (h5 o k a b)⟩
  refine z_aload_n (pc := 0) C dX10_image_0 rfl 0 rfl ?_
  refine z_getI (pc := 1) C fl_X10_101 dX10_image_1 (by first | rfl | assumption) (by omega) (fun g1 => ?_)
  refine z_if_ne (pc := 4) (tgt := 10) C dX10_image_4 (by decide) (by omega) (fun c4 => ?_) (fun c4 => ?_)
  · refine z_aload_n (pc := 10) C dX10_image_10 rfl 0 rfl ?_
    refine z_iconst (pc := 11) C dX10_image_11 ?_
    refine z_putZe (pc := 12) C fl_X10_261 dX10_image_12 (by first | rfl | assumption) (by omega) (by omega) (fun m12 em12 => ?_)
    refine z_aload_n (pc := 15) C dX10_image_15 rfl 0 rfl ?_
    refine z_aload_n (pc := 16) C dX10_image_16 rfl 0 rfl ?_
    refine z_getI (pc := 17) C fl_X10_113 dX10_image_17 (by first | rfl | assumption) (by omega) (fun g17 => ?_)
    refine z_putIe (pc := 20) C fl_X10_264 dX10_image_20 (by first | rfl | assumption) (by omega) (by omega) (fun m20 em20 => ?_)
    refine z_aload_n (pc := 23) C dX10_image_23 rfl 0 rfl ?_
    refine z_aload_n (pc := 24) C dX10_image_24 rfl 0 rfl ?_
    refine z_getI (pc := 25) C fl_X10_104 dX10_image_25 (by first | rfl | assumption) (by omega) (fun g25 => ?_)
    refine z_putIe (pc := 28) C fl_X10_267 dX10_image_28 (by first | rfl | assumption) (by omega) (by omega) (fun m28 em28 => ?_)
    refine z_aload_n (pc := 31) C dX10_image_31 rfl 0 rfl ?_
    refine z_aload_n (pc := 32) C dX10_image_32 rfl 0 rfl ?_
    refine z_getI (pc := 33) C fl_X10_107 dX10_image_33 (by first | rfl | assumption) (by omega) (fun g33 => ?_)
    refine z_putIe (pc := 36) C fl_X10_270 dX10_image_36 (by first | rfl | assumption) (by omega) (by omega) (fun m36 em36 => ?_)
    refine z_aload_n (pc := 39) C dX10_image_39 rfl 0 rfl ?_
    refine z_aload_n (pc := 40) C dX10_image_40 rfl 0 rfl ?_
    refine z_getI (pc := 41) C fl_X10_110 dX10_image_41 (by first | rfl | assumption) (by omega) (fun g41 => ?_)
    refine z_putIe (pc := 44) C fl_X10_273 dX10_image_44 (by first | rfl | assumption) (by omega) (by omega) (fun m44 em44 => ?_)
    refine z_aload_n (pc := 47) C dX10_image_47 rfl 0 rfl ?_
    refine z_aload_n (pc := 48) C dX10_image_48 rfl 0 rfl ?_
    refine z_getI (pc := 49) C fl_X10_116 dX10_image_49 (by first | rfl | assumption) (by omega) (fun g49 => ?_)
    refine z_putIe (pc := 52) C fl_X10_276 dX10_image_52 (by first | rfl | assumption) (by omega) (by omega) (fun m52 em52 => ?_)
    refine z_iconst (pc := 55) C dX10_image_55 ?_
    refine z_istore_n (pc := 56) (lv' := [(1, _), (0, _)]) C dX10_image_56 rfl (by decide) rfl ?_
    refine z_sub C [1, 0] rfl ?_
    have hcell : ∀ o k, (o ≠ 108 ∨ k < 29 ∨ 34 < k) → m52 o k = σ o k := fun o k hk => by
      rw [em52, em44, em36, em28, em20, em12]
      unfold zU
      rw [if_neg (by omega), if_neg (by omega), if_neg (by omega), if_neg (by omega), if_neg (by omega), if_neg (by omega)]
    have hfr : ∀ o k, o < 123 → (o ≠ 108 ∨ k < 29 ∨ 34 < k) → m52 o k = σ o k := fun o k _ hk => hcell o k hk
    have e29 : m52 108 29 = 1 := by rw [em52, zU_k (by omega), em44, zU_k (by omega), em36, zU_k (by omega), em28, zU_k (by omega), em20, zU_k (by omega), em12, zU_at]
    have e30 : m52 108 30 = lr := by rw [em52, zU_k (by omega), em44, zU_k (by omega), em36, zU_k (by omega), em28, zU_k (by omega), em20, zU_at, em12, zU_k (by omega)]; exact hlr
    have e31 : m52 108 31 = zbs E n := by rw [em52, zU_k (by omega), em44, zU_k (by omega), em36, zU_k (by omega), em28, zU_at, em20, zU_k (by omega), em12, zU_k (by omega)]; exact s5
    have e32 : m52 108 32 = y := by rw [em52, zU_k (by omega), em44, zU_k (by omega), em36, zU_at, em28, zU_k (by omega), em20, zU_k (by omega), em12, zU_k (by omega)]; exact s6
    have e33 : m52 108 33 = w := by rw [em52, zU_k (by omega), em44, zU_at, em36, zU_k (by omega), em28, zU_k (by omega), em20, zU_k (by omega), em12, zU_k (by omega)]; exact hw7
    have e34 : m52 108 34 = c := by rw [em52, zU_at, em44, zU_k (by omega), em36, zU_k (by omega), em28, zU_k (by omega), em20, zU_k (by omega), em12, zU_k (by omega)]; exact d8
    exact L57 _ 0 _ (Nat.lt_succ_self _) ⟨by omega, ⟨fun j hj => by omega, fun j hj => by omega, fun j hj => by omega, fun j hj => by omega, fun j hj => by omega, fun j hj => by omega⟩, ⟨e29, e30, e31, e32, e33, e34⟩, by omega, hfr⟩
  · refine z_bipush (pc := 7) C dX10_image_7 (by decide +kernel) ?_
    refine z_iret (pc := 9) C dX10_image_9 ?_
    exact ⟨_, rfl, by omega, by rw [if_pos (by omega)], Or.inr ⟨by omega, rfl⟩⟩
set_option maxHeartbeats 4000000 in
set_option maxRecDepth 100000 in
theorem c_X10_restore (l : Launch) (G : zGt) (σ : zMem) (n : Nat) (y w : Int) (K R V E : Nat → Int) (c : Nat) (A Y Q : Nat → Int) (h1 : σ 108 1 = n) (hn : n ≤ 6) (hc : c ≤ 6) (b : Int) (hb : (b ≠ 0 ∧ (σ 108 29 ≠ 0 ∧ σ 108 30 = σ 108 0) ∧ zMk σ n y w K R V E c A Y Q) ∨ (b = 0 ∧ ¬ (σ 108 29 ≠ 0 ∧ σ 108 30 = σ 108 0))) : zN l G yX10_restore cX10_restore 2 (some .int) 0 [.ref (zB G + 108)] σ (zPi (fun x τ => x = (if b = 0 then -103 else y) ∧ ((b ≠ 0 ∧ zMl τ n y K R V E ∧ τ 108 7 = w ∧ zMs τ c A Y Q ∧ (∀ o k, (o < 109 ∨ 114 < o) → (o ≠ 108 ∨ (k ≠ 5 ∧ k ≠ 6 ∧ k ≠ 7 ∧ k ≠ 8)) → τ o k = σ o k)) ∨ (b = 0 ∧ σ = τ)))) := by
  have l109 : zl 109 = 6 := by decide
  have l110 : zl 110 = 6 := by decide
  have l111 : zl 111 = 6 := by decide
  have l112 : zl 112 = 6 := by decide
  have l113 : zl 113 = 6 := by decide
  have l114 : zl 114 = 6 := by decide
  have l123 : zl 123 = 6 := by decide
  have l124 : zl 124 = 6 := by decide
  have l125 : zl 125 = 6 := by decide
  have l126 : zl 126 = 6 := by decide
  have l127 : zl 127 = 6 := by decide
  have l128 : zl 128 = 6 := by decide
  refine zM.of (lv0 := [(0, _)]) (by decide) (Nat.le_of_ble_eq_true rfl) rfl (fun X C => ?_)
  have L55 : ∀ (fuel : Nat) (i : Nat) (τ : zMem), 6 - i < fuel → (i ≤ 6 ∧ (zcp σ τ 123 109 i ∧ zcp σ τ 124 110 i ∧ zcp σ τ 125 111 i ∧ zcp σ τ 126 112 i ∧ zcp σ τ 127 113 i ∧ zcp σ τ 128 114 i) ∧ (τ 108 1 = n ∧ τ 108 5 = zbs E n ∧ τ 108 6 = y ∧ τ 108 7 = w ∧ τ 108 8 = c) ∧ (b ≠ 0 ∧ zMk σ n y w K R V E c A Y Q) ∧ (∀ o k, (o < 109 ∨ 114 < o) → (o ≠ 108 ∨ (k ≠ 5 ∧ k ≠ 6 ∧ k ≠ 7 ∧ k ≠ 8)) → τ o k = σ o k)) → zg G X true 2 129 0 0 55 [(0, .ref (zB G + 108)), (1, .int (zI (i : Int)))] [] τ := by
    intro fuel
    induction fuel with
    | zero => intro i τ hm; exact absurd hm (Nat.not_lt_zero _)
    | succ fuel ih =>
      intro i τ hms hinv
      obtain ⟨j1, ⟨p1, p2, p3, p4, p5, p6⟩, ⟨k1, k2, k3, k4, k5⟩, ⟨hb0, z1, z2, z3, z4, zA, zC⟩, h5⟩ := hinv
      refine z_iload_n (pc := 55) C dX10_restore_55 rfl 1 rfl ?_
      refine z_bipush (pc := 56) C dX10_restore_56 (by decide +kernel) ?_
      refine z_icmp_ge (pc := 58) (tgt := 139) C dX10_restore_58 (by decide) ⟨by omega, by omega⟩ (fun c58 => ?_) (fun c58 => ?_)
      · refine z_aload_n (pc := 139) C dX10_restore_139 rfl 0 rfl ?_
        refine z_getI (pc := 140) C fl_X10_107 dX10_restore_140 (by first | rfl | assumption) (by omega) (fun g140 => ?_)
        refine z_iret (pc := 143) C dX10_restore_143 ?_
        obtain rfl : i = 6 := by omega
        exact ⟨_, rfl, by omega, by rw [if_neg hb0]; exact k3, Or.inl ⟨hb0, ⟨k1, k3, k2, fun j hj => by rw [p1 j (by omega), p2 j (by omega), p3 j (by omega)]; exact zA j hj⟩, k4, ⟨k5, fun j hj => by rw [p4 j (by omega), p5 j (by omega), p6 j (by omega)]; exact zC j hj⟩, h5⟩⟩
      · refine z_aload_n (pc := 61) C dX10_restore_61 rfl 0 rfl ?_
        refine z_getR (pc := 62) C (109) fl_X10_7 dX10_restore_62 (by first | rfl | assumption) (by omega) rfl (Or.inl rfl) ?_
        refine z_iload_n (pc := 65) C dX10_restore_65 rfl 1 rfl ?_
        refine z_aload_n (pc := 66) C dX10_restore_66 rfl 0 rfl ?_
        refine z_getR (pc := 67) C (123) fl_X10_53 dX10_restore_67 (by first | rfl | assumption) (by omega) rfl (Or.inl rfl) ?_
        refine z_iload_n (pc := 70) C dX10_restore_70 rfl 1 rfl ?_
        refine z_iaload (pc := 71) C (i) dX10_restore_71 (by first | rfl | assumption) (by omega) rfl (by omega) (fun g71 => ?_)
        refine z_iastoree (pc := 72) C (i) dX10_restore_72 (by first | rfl | assumption) (by omega) rfl (by omega) (by omega) (fun m72 em72 => ?_)
        refine z_aload_n (pc := 73) C dX10_restore_73 rfl 0 rfl ?_
        refine z_getR (pc := 74) C (110) fl_X10_13 dX10_restore_74 (by first | rfl | assumption) (by omega) rfl (Or.inl rfl) ?_
        refine z_iload_n (pc := 77) C dX10_restore_77 rfl 1 rfl ?_
        refine z_aload_n (pc := 78) C dX10_restore_78 rfl 0 rfl ?_
        refine z_getR (pc := 79) C (124) fl_X10_56 dX10_restore_79 (by first | rfl | assumption) (by omega) rfl (Or.inl rfl) ?_
        refine z_iload_n (pc := 82) C dX10_restore_82 rfl 1 rfl ?_
        refine z_iaload (pc := 83) C (i) dX10_restore_83 (by first | rfl | assumption) (by omega) rfl (by omega) (fun g83 => ?_)
        refine z_iastoree (pc := 84) C (i) dX10_restore_84 (by first | rfl | assumption) (by omega) rfl (by omega) (by omega) (fun m84 em84 => ?_)
        refine z_aload_n (pc := 85) C dX10_restore_85 rfl 0 rfl ?_
        refine z_getR (pc := 86) C (111) fl_X10_16 dX10_restore_86 (by first | rfl | assumption) (by omega) rfl (Or.inl rfl) ?_
        refine z_iload_n (pc := 89) C dX10_restore_89 rfl 1 rfl ?_
        refine z_aload_n (pc := 90) C dX10_restore_90 rfl 0 rfl ?_
        refine z_getR (pc := 91) C (125) fl_X10_59 dX10_restore_91 (by first | rfl | assumption) (by omega) rfl (Or.inl rfl) ?_
        refine z_iload_n (pc := 94) C dX10_restore_94 rfl 1 rfl ?_
        refine z_iaload (pc := 95) C (i) dX10_restore_95 (by first | rfl | assumption) (by omega) rfl (by omega) (fun g95 => ?_)
        refine z_iastoree (pc := 96) C (i) dX10_restore_96 (by first | rfl | assumption) (by omega) rfl (by omega) (by omega) (fun m96 em96 => ?_)
        refine z_aload_n (pc := 97) C dX10_restore_97 rfl 0 rfl ?_
        refine z_getR (pc := 98) C (112) fl_X10_19 dX10_restore_98 (by first | rfl | assumption) (by omega) rfl (Or.inl rfl) ?_
        refine z_iload_n (pc := 101) C dX10_restore_101 rfl 1 rfl ?_
        refine z_aload_n (pc := 102) C dX10_restore_102 rfl 0 rfl ?_
        refine z_getR (pc := 103) C (126) fl_X10_62 dX10_restore_103 (by first | rfl | assumption) (by omega) rfl (Or.inl rfl) ?_
        refine z_iload_n (pc := 106) C dX10_restore_106 rfl 1 rfl ?_
        refine z_iaload (pc := 107) C (i) dX10_restore_107 (by first | rfl | assumption) (by omega) rfl (by omega) (fun g107 => ?_)
        refine z_iastoree (pc := 108) C (i) dX10_restore_108 (by first | rfl | assumption) (by omega) rfl (by omega) (by omega) (fun m108 em108 => ?_)
        refine z_aload_n (pc := 109) C dX10_restore_109 rfl 0 rfl ?_
        refine z_getR (pc := 110) C (113) fl_X10_22 dX10_restore_110 (by first | rfl | assumption) (by omega) rfl (Or.inl rfl) ?_
        refine z_iload_n (pc := 113) C dX10_restore_113 rfl 1 rfl ?_
        refine z_aload_n (pc := 114) C dX10_restore_114 rfl 0 rfl ?_
        refine z_getR (pc := 115) C (127) fl_X10_65 dX10_restore_115 (by first | rfl | assumption) (by omega) rfl (Or.inl rfl) ?_
        refine z_iload_n (pc := 118) C dX10_restore_118 rfl 1 rfl ?_
        refine z_iaload (pc := 119) C (i) dX10_restore_119 (by first | rfl | assumption) (by omega) rfl (by omega) (fun g119 => ?_)
        refine z_iastoree (pc := 120) C (i) dX10_restore_120 (by first | rfl | assumption) (by omega) rfl (by omega) (by omega) (fun m120 em120 => ?_)
        refine z_aload_n (pc := 121) C dX10_restore_121 rfl 0 rfl ?_
        refine z_getR (pc := 122) C (114) fl_X10_25 dX10_restore_122 (by first | rfl | assumption) (by omega) rfl (Or.inl rfl) ?_
        refine z_iload_n (pc := 125) C dX10_restore_125 rfl 1 rfl ?_
        refine z_aload_n (pc := 126) C dX10_restore_126 rfl 0 rfl ?_
        refine z_getR (pc := 127) C (128) fl_X10_68 dX10_restore_127 (by first | rfl | assumption) (by omega) rfl (Or.inl rfl) ?_
        refine z_iload_n (pc := 130) C dX10_restore_130 rfl 1 rfl ?_
        refine z_iaload (pc := 131) C (i) dX10_restore_131 (by first | rfl | assumption) (by omega) rfl (by omega) (fun g131 => ?_)
        refine z_iastoree (pc := 132) C (i) dX10_restore_132 (by first | rfl | assumption) (by omega) rfl (by omega) (by omega) (fun m132 em132 => ?_)
        refine z_iinc (pc := 133) (lv' := [(1, _), (0, _)]) C dX10_restore_133 1 rfl (by decide) rfl ?_
        refine z_goto (pc := 136) (tgt := 55) C dX10_restore_136 (by decide) ?_
        refine z_sub C [1, 0] rfl ?_
        have hf : ∀ o k, (o < 109 ∨ 114 < o) → m132 o k = τ o k := fun o k a => by rw [em132, zU_o (by omega), em120, zU_o (by omega), em108, zU_o (by omega), em96, zU_o (by omega), em84, zU_o (by omega), em72, zU_o (by omega)]
        have hs2 : ∀ o j, 123 ≤ o → τ o j = σ o j := fun o j a => h5 o j (by omega) (by omega)
        have q1 : zcp σ m132 123 109 (i + 1) := fun j hj => by
          rw [em132, zU_o (by omega), em120, zU_o (by omega), em108, zU_o (by omega), em96, zU_o (by omega), em84, zU_o (by omega), em72]
          by_cases e : j = i
          · rw [e, zU_at]; exact hs2 123 i (by omega)
          · rw [zU_k e]; exact p1 j (by omega)
        have q2 : zcp σ m132 124 110 (i + 1) := fun j hj => by
          rw [em132, zU_o (by omega), em120, zU_o (by omega), em108, zU_o (by omega), em96, zU_o (by omega), em84]
          by_cases e : j = i
          · rw [e, zU_at]; rw [em72, zU_o (by omega)]; exact hs2 124 i (by omega)
          · rw [zU_k e, em72, zU_o (by omega)]; exact p2 j (by omega)
        have q3 : zcp σ m132 125 111 (i + 1) := fun j hj => by
          rw [em132, zU_o (by omega), em120, zU_o (by omega), em108, zU_o (by omega), em96]
          by_cases e : j = i
          · rw [e, zU_at]; rw [em84, zU_o (by omega), em72, zU_o (by omega)]; exact hs2 125 i (by omega)
          · rw [zU_k e, em84, zU_o (by omega), em72, zU_o (by omega)]; exact p3 j (by omega)
        have q4 : zcp σ m132 126 112 (i + 1) := fun j hj => by
          rw [em132, zU_o (by omega), em120, zU_o (by omega), em108]
          by_cases e : j = i
          · rw [e, zU_at]; rw [em96, zU_o (by omega), em84, zU_o (by omega), em72, zU_o (by omega)]; exact hs2 126 i (by omega)
          · rw [zU_k e, em96, zU_o (by omega), em84, zU_o (by omega), em72, zU_o (by omega)]; exact p4 j (by omega)
        have q5 : zcp σ m132 127 113 (i + 1) := fun j hj => by
          rw [em132, zU_o (by omega), em120]
          by_cases e : j = i
          · rw [e, zU_at]; rw [em108, zU_o (by omega), em96, zU_o (by omega), em84, zU_o (by omega), em72, zU_o (by omega)]; exact hs2 127 i (by omega)
          · rw [zU_k e, em108, zU_o (by omega), em96, zU_o (by omega), em84, zU_o (by omega), em72, zU_o (by omega)]; exact p5 j (by omega)
        have q6 : zcp σ m132 128 114 (i + 1) := fun j hj => by
          rw [em132]
          by_cases e : j = i
          · rw [e, zU_at]; rw [em120, zU_o (by omega), em108, zU_o (by omega), em96, zU_o (by omega), em84, zU_o (by omega), em72, zU_o (by omega)]; exact hs2 128 i (by omega)
          · rw [zU_k e, em120, zU_o (by omega), em108, zU_o (by omega), em96, zU_o (by omega), em84, zU_o (by omega), em72, zU_o (by omega)]; exact p6 j (by omega)
        exact ih (i + 1) _ (by omega) ⟨by omega, ⟨q1, q2, q3, q4, q5, q6⟩, ⟨(hf 108 1 (by omega)).trans k1, (hf 108 5 (by omega)).trans k2, (hf 108 6 (by omega)).trans k3, (hf 108 7 (by omega)).trans k4, (hf 108 8 (by omega)).trans k5⟩, ⟨hb0, z1, z2, z3, z4, zA, zC⟩, fun o k a b => (hf o k a).trans (h5 o k a b)⟩
  refine z_aload_n (pc := 0) C dX10_restore_0 rfl 0 rfl ?_
  refine z_getZ (pc := 1) C fl_X10_261 dX10_restore_1 (by first | rfl | assumption) (by omega) (fun g1 => ?_)
  refine z_if_eq (pc := 4) (tgt := 18) C dX10_restore_4 (by decide) (by omega) (fun c4 => ?_) (fun c4 => ?_)
  · refine z_bipush (pc := 18) C dX10_restore_18 (by decide +kernel) ?_
    refine z_iret (pc := 20) C dX10_restore_20 ?_
    have hb0 : b = 0 := by rcases hb with q | q; (exfalso; omega); exact q.1
    exact ⟨_, rfl, by omega, by rw [if_pos hb0], Or.inr ⟨hb0, rfl⟩⟩
  · refine z_aload_n (pc := 7) C dX10_restore_7 rfl 0 rfl ?_
    refine z_getI (pc := 8) C fl_X10_264 dX10_restore_8 (by first | rfl | assumption) (by omega) (fun g8 => ?_)
    refine z_aload_n (pc := 11) C dX10_restore_11 rfl 0 rfl ?_
    refine z_getI (pc := 12) C fl_X10_113 dX10_restore_12 (by first | rfl | assumption) (by omega) (fun g12 => ?_)
    refine z_icmp_eq (pc := 15) (tgt := 21) C dX10_restore_15 (by decide) ⟨by omega, by omega⟩ (fun c15 => ?_) (fun c15 => ?_)
    · obtain ⟨hb0, z1, z2, z3, z4, zA, zC⟩ : b ≠ 0 ∧ zMk σ n y w K R V E c A Y Q := by rcases hb with q | q; exact ⟨q.1, q.2.2⟩; (exfalso; omega)
      refine z_aload_n (pc := 21) C dX10_restore_21 rfl 0 rfl ?_
      refine z_aload_n (pc := 22) C dX10_restore_22 rfl 0 rfl ?_
      refine z_getI (pc := 23) C fl_X10_267 dX10_restore_23 (by first | rfl | assumption) (by omega) (fun g23 => ?_)
      refine z_putIe (pc := 26) C fl_X10_104 dX10_restore_26 (by first | rfl | assumption) (by omega) (by omega) (fun m26 em26 => ?_)
      refine z_aload_n (pc := 29) C dX10_restore_29 rfl 0 rfl ?_
      refine z_aload_n (pc := 30) C dX10_restore_30 rfl 0 rfl ?_
      refine z_getI (pc := 31) C fl_X10_270 dX10_restore_31 (by first | rfl | assumption) (by omega) (fun g31 => ?_)
      refine z_putIe (pc := 34) C fl_X10_107 dX10_restore_34 (by first | rfl | assumption) (by omega) (by omega) (fun m34 em34 => ?_)
      refine z_aload_n (pc := 37) C dX10_restore_37 rfl 0 rfl ?_
      refine z_aload_n (pc := 38) C dX10_restore_38 rfl 0 rfl ?_
      refine z_getI (pc := 39) C fl_X10_273 dX10_restore_39 (by first | rfl | assumption) (by omega) (fun g39 => ?_)
      refine z_putIe (pc := 42) C fl_X10_110 dX10_restore_42 (by first | rfl | assumption) (by omega) (by omega) (fun m42 em42 => ?_)
      refine z_aload_n (pc := 45) C dX10_restore_45 rfl 0 rfl ?_
      refine z_aload_n (pc := 46) C dX10_restore_46 rfl 0 rfl ?_
      refine z_getI (pc := 47) C fl_X10_276 dX10_restore_47 (by first | rfl | assumption) (by omega) (fun g47 => ?_)
      refine z_putIe (pc := 50) C fl_X10_116 dX10_restore_50 (by first | rfl | assumption) (by omega) (by omega) (fun m50 em50 => ?_)
      refine z_iconst (pc := 53) C dX10_restore_53 ?_
      refine z_istore_n (pc := 54) (lv' := [(1, _), (0, _)]) C dX10_restore_54 rfl (by decide) rfl ?_
      refine z_sub C [1, 0] rfl ?_
      have hfr : ∀ o k, (o < 109 ∨ 114 < o) → (o ≠ 108 ∨ (k ≠ 5 ∧ k ≠ 6 ∧ k ≠ 7 ∧ k ≠ 8)) → m50 o k = σ o k := fun o k _ hk => by
        rw [em50, em42, em34, em26]
        unfold zU
        rw [if_neg (by omega), if_neg (by omega), if_neg (by omega), if_neg (by omega)]
      have e1 : m50 108 1 = n := (hfr 108 1 (by omega) (by omega)).trans h1
      have e5 : m50 108 5 = zbs E n := by rw [em50, zU_k (by omega), em42, zU_k (by omega), em34, zU_k (by omega), em26, zU_at]; exact z1
      have e6 : m50 108 6 = y := by rw [em50, zU_k (by omega), em42, zU_k (by omega), em34, zU_at, em26, zU_k (by omega)]; exact z2
      have e7 : m50 108 7 = w := by rw [em50, zU_k (by omega), em42, zU_at, em34, zU_k (by omega), em26, zU_k (by omega)]; exact z3
      have e8 : m50 108 8 = c := by rw [em50, zU_at, em42, zU_k (by omega), em34, zU_k (by omega), em26, zU_k (by omega)]; exact z4
      exact L55 _ 0 _ (Nat.lt_succ_self _) ⟨by omega, ⟨fun j hj => by omega, fun j hj => by omega, fun j hj => by omega, fun j hj => by omega, fun j hj => by omega, fun j hj => by omega⟩, ⟨e1, e5, e6, e7, e8⟩, ⟨hb0, z1, z2, z3, z4, zA, zC⟩, hfr⟩
    · refine z_bipush (pc := 18) C dX10_restore_18 (by decide +kernel) ?_
      refine z_iret (pc := 20) C dX10_restore_20 ?_
      have hb0 : b = 0 := by rcases hb with q | q; (exfalso; omega); exact q.1
      exact ⟨_, rfl, by omega, by rw [if_pos hb0], Or.inr ⟨hb0, rfl⟩⟩
set_option maxHeartbeats 4000000 in
set_option maxRecDepth 100000 in
theorem c_X10_howMany (l : Launch) (G : zGt) (σ : zMem) (n : Nat) (y : Int) (K R V E : Nat → Int) (h : zMl σ n y K R V E) (hr : zLr K R V E) (hn : n ≤ 6) (c : Nat) (hs8 : σ 108 8 = c) (hc : c ≤ 6) (m : Nat) (hg : σ 108 12 = m) (hm : m ≤ 26) (w : Int) (hw7 : σ 108 7 = w) (lr : Int) (hlr : σ 108 0 = lr) (what : Int) (hw : zR what) (hy : zR y) : zN l G yX10_howMany cX10_howMany 2 (some .int) 2 [.ref (zB G + 108), .int (zI what)] σ (zPi (fun x τ => x = zaCount n y w R V E c m lr what ∧ σ = τ)) := by
  obtain ⟨s1, s6, s5, sA⟩ := id h
  have l109 : zl 109 = 6 := by decide
  have l110 : zl 110 = 6 := by decide
  have l111 : zl 111 = 6 := by decide
  have hE : ∀ j, 0 ≤ E j ∧ E j ≤ 1 := fun j => (hr j).2.2.2
  have hb5 := zbs_bd hE n
  have hq6 := zpow6 n hn
  refine zM.of (lv0 := [(0, _), (1, _)]) (by decide) (Nat.le_of_ble_eq_true rfl) rfl (fun X C => ?_)
  refine z_iload_n (pc := 0) C dX10_howMany_0 rfl 1 rfl ?_
  by_cases w1 : (what) < 0 ∨ 9 < (what)
  · refine z_tableOut (pc := 1) (tgt := 109) C dX10_howMany_1 (by omega) (by omega) (by decide) ?_
    refine z_bipush (pc := 109) C dX10_howMany_109 (by decide +kernel) ?_
    refine z_iret (pc := 111) C dX10_howMany_111 ?_
    exact ⟨_, rfl, by first | assumption | omega, by rw [zaCount, if_neg (by omega), if_neg (by omega), if_neg (by omega), if_neg (by omega), if_neg (by omega), if_neg (by omega), if_neg (by omega), if_neg (by omega), if_neg (by omega), if_neg (by omega)], rfl⟩
  by_cases w1_0 : (what) = 0
  · refine z_tableIn (pc := 1) (off := 55) (tgt := 56) C dX10_howMany_1 (by omega) (by omega) (by omega) (by rw [show ((what) - (0)).toNat = 0 by omega]; rfl) (by decide) ?_
    refine z_aload_n (pc := 56) C dX10_howMany_56 rfl 0 rfl ?_
    refine z_getI (pc := 57) C fl_X10_101 dX10_howMany_57 (by first | rfl | assumption) (by omega) (fun g57 => ?_)
    refine z_iret (pc := 60) C dX10_howMany_60 ?_
    exact ⟨_, rfl, by first | assumption | omega, by rw [zaCount, if_pos (by omega)]; try first | rfl | assumption, rfl⟩
  by_cases w1_1 : (what) = 1
  · refine z_tableIn (pc := 1) (off := 60) (tgt := 61) C dX10_howMany_1 (by omega) (by omega) (by omega) (by rw [show ((what) - (0)).toNat = 1 by omega]; rfl) (by decide) ?_
    refine z_aload_n (pc := 61) C dX10_howMany_61 rfl 0 rfl ?_
    refine z_Vi (pc := 62) C (c_X10_reedAll l G _ n y K R V E h hr hn ) ml_X10_196 yw_X10_reedAll dX10_howMany_62 (by first | rfl | assumption) (by omega) rfl rfl rfl (Nat.le_of_ble_eq_true rfl) ⟨by decide, by decide⟩ (fun r62 t62 h62 q62 => ?_)
    obtain ⟨rfl, rfl⟩ := q62
    refine z_iret (pc := 65) C dX10_howMany_65 ?_
    exact ⟨_, rfl, by first | assumption | omega, by rw [zaCount, if_neg (by omega), if_pos (by omega)]; try first | rfl | assumption, rfl⟩
  by_cases w1_2 : (what) = 2
  · refine z_tableIn (pc := 1) (off := 65) (tgt := 66) C dX10_howMany_1 (by omega) (by omega) (by omega) (by rw [show ((what) - (0)).toNat = 2 by omega]; rfl) (by decide) ?_
    refine z_aload_n (pc := 66) C dX10_howMany_66 rfl 0 rfl ?_
    refine z_Vi (pc := 67) C (c_X10_worryAll l G _ n y K R V E h hr hn ) ml_X10_279 yw_X10_worryAll dX10_howMany_67 (by first | rfl | assumption) (by omega) rfl rfl rfl (Nat.le_of_ble_eq_true rfl) ⟨by decide, by decide⟩ (fun r67 t67 h67 q67 => ?_)
    obtain ⟨rfl, rfl⟩ := q67
    refine z_iret (pc := 70) C dX10_howMany_70 ?_
    exact ⟨_, rfl, by first | assumption | omega, by rw [zaCount, if_neg (by omega), if_neg (by omega), if_pos (by omega)]; try first | rfl | assumption, rfl⟩
  by_cases w1_3 : (what) = 3
  · refine z_tableIn (pc := 1) (off := 70) (tgt := 71) C dX10_howMany_1 (by omega) (by omega) (by omega) (by rw [show ((what) - (0)).toNat = 3 by omega]; rfl) (by decide) ?_
    refine z_aload_n (pc := 71) C dX10_howMany_71 rfl 0 rfl ?_
    refine z_getI (pc := 72) C fl_X10_104 dX10_howMany_72 (by first | rfl | assumption) (by omega) (fun g72 => ?_)
    rw [s5]
    have hsz := zsum_b10 (p := E) hE (n := n) (by omega)
    refine z_Si (pc := 75) C (c_sizeV l G _ (zbs E n) (zsum E n) (by omega) hsz) ml_X10_140 ys_X10_size dX10_howMany_75 rfl rfl (Nat.le_of_ble_eq_true rfl) ⟨by decide, by decide⟩ (fun r75 t75 h75 q75 => ?_)
    obtain ⟨rfl, rfl⟩ := q75
    refine z_iret (pc := 78) C dX10_howMany_78 ?_
    exact ⟨_, rfl, by first | assumption | omega, by rw [zaCount, if_neg (by omega), if_neg (by omega), if_neg (by omega), if_pos (by omega)]; try first | rfl | assumption, rfl⟩
  by_cases w1_4 : (what) = 4
  · refine z_tableIn (pc := 1) (off := 78) (tgt := 79) C dX10_howMany_1 (by omega) (by omega) (by omega) (by rw [show ((what) - (0)).toNat = 4 by omega]; rfl) (by decide) ?_
    refine z_aload_n (pc := 79) C dX10_howMany_79 rfl 0 rfl ?_
    refine z_Vi (pc := 80) C (c_X10_thick l G _ n y K R V E h hr hn ) ml_X10_282 yw_X10_thick dX10_howMany_80 (by first | rfl | assumption) (by omega) rfl rfl rfl (Nat.le_of_ble_eq_true rfl) ⟨by decide, by decide⟩ (fun r80 t80 h80 q80 => ?_)
    obtain ⟨rfl, rfl⟩ := q80
    refine z_iret (pc := 83) C dX10_howMany_83 ?_
    exact ⟨_, rfl, by first | assumption | omega, by rw [zaCount, if_neg (by omega), if_neg (by omega), if_neg (by omega), if_neg (by omega), if_pos (by omega)]; try first | rfl | assumption, rfl⟩
  by_cases w1_5 : (what) = 5
  · refine z_tableIn (pc := 1) (off := 83) (tgt := 84) C dX10_howMany_1 (by omega) (by omega) (by omega) (by rw [show ((what) - (0)).toNat = 5 by omega]; rfl) (by decide) ?_
    refine z_aload_n (pc := 84) C dX10_howMany_84 rfl 0 rfl ?_
    refine z_getI (pc := 85) C fl_X10_107 dX10_howMany_85 (by first | rfl | assumption) (by omega) (fun g85 => ?_)
    refine z_iret (pc := 88) C dX10_howMany_88 ?_
    exact ⟨_, rfl, by first | assumption | omega, by rw [zaCount, if_neg (by omega), if_neg (by omega), if_neg (by omega), if_neg (by omega), if_neg (by omega), if_pos (by omega)]; try first | rfl | assumption, rfl⟩
  by_cases w1_6 : (what) = 6
  · refine z_tableIn (pc := 1) (off := 88) (tgt := 89) C dX10_howMany_1 (by omega) (by omega) (by omega) (by rw [show ((what) - (0)).toNat = 6 by omega]; rfl) (by decide) ?_
    refine z_aload_n (pc := 89) C dX10_howMany_89 rfl 0 rfl ?_
    refine z_getI (pc := 90) C fl_X10_110 dX10_howMany_90 (by first | rfl | assumption) (by omega) (fun g90 => ?_)
    refine z_iret (pc := 93) C dX10_howMany_93 ?_
    exact ⟨_, rfl, by first | assumption | omega, by rw [zaCount, if_neg (by omega), if_neg (by omega), if_neg (by omega), if_neg (by omega), if_neg (by omega), if_neg (by omega), if_pos (by omega)]; try first | rfl | assumption, rfl⟩
  by_cases w1_7 : (what) = 7
  · refine z_tableIn (pc := 1) (off := 93) (tgt := 94) C dX10_howMany_1 (by omega) (by omega) (by omega) (by rw [show ((what) - (0)).toNat = 7 by omega]; rfl) (by decide) ?_
    refine z_aload_n (pc := 94) C dX10_howMany_94 rfl 0 rfl ?_
    refine z_getI (pc := 95) C fl_X10_116 dX10_howMany_95 (by first | rfl | assumption) (by omega) (fun g95 => ?_)
    refine z_iret (pc := 98) C dX10_howMany_98 ?_
    exact ⟨_, rfl, by first | assumption | omega, by rw [zaCount, if_neg (by omega), if_neg (by omega), if_neg (by omega), if_neg (by omega), if_neg (by omega), if_neg (by omega), if_neg (by omega), if_pos (by omega)]; try first | rfl | assumption, rfl⟩
  by_cases w1_8 : (what) = 8
  · refine z_tableIn (pc := 1) (off := 98) (tgt := 99) C dX10_howMany_1 (by omega) (by omega) (by omega) (by rw [show ((what) - (0)).toNat = 8 by omega]; rfl) (by decide) ?_
    refine z_aload_n (pc := 99) C dX10_howMany_99 rfl 0 rfl ?_
    refine z_getI (pc := 100) C fl_X10_75 dX10_howMany_100 (by first | rfl | assumption) (by omega) (fun g100 => ?_)
    refine z_iret (pc := 103) C dX10_howMany_103 ?_
    exact ⟨_, rfl, by first | assumption | omega, by rw [zaCount, if_neg (by omega), if_neg (by omega), if_neg (by omega), if_neg (by omega), if_neg (by omega), if_neg (by omega), if_neg (by omega), if_neg (by omega), if_pos (by omega)]; try first | rfl | assumption, rfl⟩
  have w1_9 : (what) = 9 := by omega
  refine z_tableIn (pc := 1) (off := 103) (tgt := 104) C dX10_howMany_1 (by omega) (by omega) (by omega) (by rw [show ((what) - (0)).toNat = 9 by omega]; rfl) (by decide) ?_
  refine z_aload_n (pc := 104) C dX10_howMany_104 rfl 0 rfl ?_
  refine z_getI (pc := 105) C fl_X10_113 dX10_howMany_105 (by first | rfl | assumption) (by omega) (fun g105 => ?_)
  refine z_iret (pc := 108) C dX10_howMany_108 ?_
  exact ⟨_, rfl, by first | assumption | omega, by rw [zaCount, if_neg (by omega), if_neg (by omega), if_neg (by omega), if_neg (by omega), if_neg (by omega), if_neg (by omega), if_neg (by omega), if_neg (by omega), if_neg (by omega), if_pos (by omega)]; try first | rfl | assumption, rfl⟩
set_option maxHeartbeats 4000000 in
set_option maxRecDepth 100000 in
theorem c_X10_count (l : Launch) (G : zGt) (σ : zMem) (n : Nat) (y : Int) (K R V E : Nat → Int) (h : zMl σ n y K R V E) (hr : zLr K R V E) (hn : n ≤ 6) (c : Nat) (hs8 : σ 108 8 = c) (hc : c ≤ 6) (m : Nat) (hg : σ 108 12 = m) (hm : m ≤ 26) (w : Int) (hw7 : σ 108 7 = w) (lr : Int) (hlr : σ 108 0 = lr) (what : Int) (hw : zR what) (hy : zR y) : zN l G yX10_count cX10_count 2 (some .int) 3 [.ref (zB G + 108), .int (zI what)] σ (zPi (fun x τ => x = zaCount n y w R V E c m lr what ∧ σ = τ)) := by
  obtain ⟨s1, s6, s5, sA⟩ := id h
  have l109 : zl 109 = 6 := by decide
  have l110 : zl 110 = 6 := by decide
  have l111 : zl 111 = 6 := by decide
  have hE : ∀ j, 0 ≤ E j ∧ E j ≤ 1 := fun j => (hr j).2.2.2
  have hb5 := zbs_bd hE n
  have hq6 := zpow6 n hn
  refine zM.of (lv0 := [(0, _), (1, _)]) (by decide) (Nat.le_of_ble_eq_true rfl) rfl (fun X C => ?_)
  refine z_aload_n (pc := 0) C dX10_count_0 rfl 0 rfl ?_
  refine z_iload_n (pc := 1) C dX10_count_1 rfl 1 rfl ?_
  refine z_Vi (pc := 2) C (c_X10_howMany l G _ n y K R V E h hr hn c hs8 hc m hg hm w hw7 lr hlr what hw hy) ml_X10_285 yw_X10_howMany dX10_count_2 (by first | rfl | assumption) (by omega) rfl rfl rfl (Nat.le_of_ble_eq_true rfl) ⟨by decide, by decide⟩ (fun r2 t2 h2 q2 => ?_)
  obtain ⟨rfl, rfl⟩ := q2
  refine z_iret (pc := 5) C dX10_count_5 ?_
  exact ⟨_, rfl, by assumption, rfl, rfl⟩
