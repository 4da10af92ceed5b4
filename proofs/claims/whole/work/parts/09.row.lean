set_option maxHeartbeats 4000000 in
set_option maxRecDepth 100000 in
theorem c_X6_at (l : Launch) (G : zGt) (σ : zMem) (r n i : Nat) (p : Int) (hr : zRow r n) (hp : p = i) (hi : i < n) : zN l G yX6_at cX6_at 2 (some .int) 0 [.ref (zB G + r), .int (zI p)] σ (zPi (fun x τ => x = σ (r + 1) i ∧ σ = τ)) := by
  obtain ⟨k0, k1, k2, k3⟩ := hr
  refine zM.of (lv0 := [(0, _), (1, _)]) (by decide) (Nat.le_of_ble_eq_true rfl) rfl (fun X C => ?_)
  have hl := zl_le (r + 1)
  refine z_iload_n (pc := 0) C dX6_at_0 rfl 1 rfl ?_
  refine z_if_lt (pc := 1) (tgt := 22) C dX6_at_1 (by decide) (by omega) (fun c1 => by exfalso; omega) (fun c1 => ?_)
  refine z_iload_n (pc := 4) C dX6_at_4 rfl 1 rfl ?_
  refine z_aload_n (pc := 5) C dX6_at_5 rfl 0 rfl ?_
  refine z_getR (pc := 6) C (r + 1) fl_X6_7 dX6_at_6 (by first | rfl | assumption) (by omega) rfl (Or.inl rfl) ?_
  refine z_alen (pc := 9) (n := (n : Int)) C dX6_at_9 (by first | exact Or.inl rfl | exact Or.inl (by assumption) | exact Or.inr rfl) (by omega) (by omega) ?_
  refine z_icmp_ge (pc := 10) (tgt := 22) C dX6_at_10 (by decide) ⟨by omega, by omega⟩ (fun c10 => by exfalso; omega) (fun c10 => ?_)
  refine z_aload_n (pc := 13) C dX6_at_13 rfl 0 rfl ?_
  refine z_getR (pc := 14) C (r + 1) fl_X6_7 dX6_at_14 (by first | rfl | assumption) (by omega) rfl (Or.inl rfl) ?_
  refine z_iload_n (pc := 17) C dX6_at_17 rfl 1 rfl ?_
  refine z_iaload (pc := 18) C (i) dX6_at_18 (by first | rfl | assumption) (by omega) hp (by omega) (fun g18 => ?_)
  refine z_goto (pc := 19) (tgt := 23) C dX6_at_19 (by decide) ?_
  refine z_iret (pc := 23) C dX6_at_23 ?_
  exact ⟨_, rfl, g18, rfl, rfl⟩
set_option maxHeartbeats 4000000 in
set_option maxRecDepth 100000 in
theorem c_X6_put (l : Launch) (G : zGt) (σ : zMem) (r n i : Nat) (p x : Int) (hr : zRow r n) (hp : p = i) (hi : i < n) (hx : zR x) : zN l G yX6_put cX6_put 3 (none) 0 [.ref (zB G + r), .int (zI p), .int (zI x)] σ (zPv (fun τ => τ = zU σ (r + 1) i x)) := by
  obtain ⟨k0, k1, k2, k3⟩ := hr
  refine zM.of (lv0 := [(0, _), (1, _), (2, _)]) (by decide) (Nat.le_of_ble_eq_true rfl) rfl (fun X C => ?_)
  have hl := zl_le (r + 1)
  refine z_iload_n (pc := 0) C dX6_put_0 rfl 1 rfl ?_
  refine z_if_lt (pc := 1) (tgt := 20) C dX6_put_1 (by decide) (by omega) (fun c1 => by exfalso; omega) (fun c1 => ?_)
  refine z_iload_n (pc := 4) C dX6_put_4 rfl 1 rfl ?_
  refine z_aload_n (pc := 5) C dX6_put_5 rfl 0 rfl ?_
  refine z_getR (pc := 6) C (r + 1) fl_X6_7 dX6_put_6 (by first | rfl | assumption) (by omega) rfl (Or.inl rfl) ?_
  refine z_alen (pc := 9) (n := (n : Int)) C dX6_put_9 (by first | exact Or.inl rfl | exact Or.inl (by assumption) | exact Or.inr rfl) (by omega) (by omega) ?_
  refine z_icmp_ge (pc := 10) (tgt := 20) C dX6_put_10 (by decide) ⟨by omega, by omega⟩ (fun c10 => by exfalso; omega) (fun c10 => ?_)
  refine z_aload_n (pc := 13) C dX6_put_13 rfl 0 rfl ?_
  refine z_getR (pc := 14) C (r + 1) fl_X6_7 dX6_put_14 (by first | rfl | assumption) (by omega) rfl (Or.inl rfl) ?_
  refine z_iload_n (pc := 17) C dX6_put_17 rfl 1 rfl ?_
  refine z_iload_n (pc := 18) C dX6_put_18 rfl 2 rfl ?_
  refine z_iastoree (pc := 19) C (i) dX6_put_19 (by first | rfl | assumption) (by omega) hp (by omega) (by omega) (fun m19 em19 => ?_)
  refine z_vret (pc := 20) C dX6_put_20 ?_
  exact ⟨rfl, em19⟩
set_option maxHeartbeats 4000000 in
set_option maxRecDepth 100000 in
theorem c_X6_fill (l : Launch) (G : zGt) (σ : zMem) (r n : Nat) (x : Int) (hr : zRow r n) (hx : zR x) : zN l G yX6_fill cX6_fill 3 (none) 0 [.ref (zB G + r), .int (zI x)] σ (zPv (fun τ => ∀ a k, τ a k = if a = r + 1 ∧ k < n then x else σ a k)) := by
  obtain ⟨k0, k1, k2, k3⟩ := hr
  refine zM.of (lv0 := [(0, _), (1, _)]) (by decide) (Nat.le_of_ble_eq_true rfl) rfl (fun X C => ?_)
  have hl := zl_le (r + 1)
  have L2 : ∀ (fuel : Nat) (i : Nat) (τ : zMem), n - i < fuel → (i ≤ n ∧ ∀ a k, τ a k = if a = r + 1 ∧ k < i then x else σ a k) → zg G X true 3 129 0 0 2 [(0, .ref (zB G + r)), (1, .int (zI x)), (2, .int (zI (i : Int)))] [] τ := by
    intro fuel
    induction fuel with
    | zero => intro i τ hm; exact absurd hm (Nat.not_lt_zero _)
    | succ fuel ih =>
      intro i τ hms hinv
      obtain ⟨h1, h2⟩ := hinv
      refine z_iload_n (pc := 2) C dX6_fill_2 rfl 2 rfl ?_
      refine z_aload_n (pc := 3) C dX6_fill_3 rfl 0 rfl ?_
      refine z_getR (pc := 4) C (r + 1) fl_X6_7 dX6_fill_4 (by first | rfl | assumption) (by omega) rfl (Or.inl rfl) ?_
      refine z_alen (pc := 7) (n := (n : Int)) C dX6_fill_7 (by first | exact Or.inl rfl | exact Or.inl (by assumption) | exact Or.inr rfl) (by omega) (by omega) ?_
      refine z_icmp_ge (pc := 8) (tgt := 24) C dX6_fill_8 (by decide) ⟨by omega, by omega⟩ (fun c8 => ?_) (fun c8 => ?_)
      · refine z_vret (pc := 24) C dX6_fill_24 ?_
        exact ⟨rfl, fun a k => by rw [h2 a k, show i = n by omega]⟩
      · refine z_aload_n (pc := 11) C dX6_fill_11 rfl 0 rfl ?_
        refine z_getR (pc := 12) C (r + 1) fl_X6_7 dX6_fill_12 (by first | rfl | assumption) (by omega) rfl (Or.inl rfl) ?_
        refine z_iload_n (pc := 15) C dX6_fill_15 rfl 2 rfl ?_
        refine z_iload_n (pc := 16) C dX6_fill_16 rfl 1 rfl ?_
        refine z_iastoree (pc := 17) C (_) dX6_fill_17 (by first | rfl | assumption) (by omega) rfl (by omega) (by omega) (fun m17 em17 => ?_)
        refine z_iinc (pc := 18) (lv' := [(2, _), (0, _), (1, _)]) C dX6_fill_18 2 rfl (by decide) rfl ?_
        refine z_goto (pc := 21) (tgt := 2) C dX6_fill_21 (by decide) ?_
        refine z_sub C [1, 2, 0] rfl ?_
        exact ih (i + 1) _ (by omega) ⟨by omega, fun a k => by rw [em17]; unfold zU; rw [h2 a k]; by_cases e1 : a = r + 1 <;> by_cases e2 : k = i <;> by_cases e3 : k < i <;> simp [e1, e2, e3] <;> omega⟩
  refine z_iconst (pc := 0) C dX6_fill_0 ?_
  refine z_istore_n (pc := 1) (lv' := [(2, _), (0, _), (1, _)]) C dX6_fill_1 rfl (by decide) rfl ?_
  refine z_sub C [1, 2, 0] rfl ?_
  exact L2 _ 0 σ (Nat.lt_succ_self _) ⟨by omega, fun a k => by simp⟩
set_option maxHeartbeats 4000000 in
set_option maxRecDepth 100000 in
theorem c_X6_take (l : Launch) (G : zGt) (σ : zMem) (r n r2 : Nat) (hr : zRow r n) (hr2 : zRow r2 n) (hne : r ≠ r2) : zN l G yX6_take cX6_take 3 (none) 0 [.ref (zB G + r), .ref (zB G + r2)] σ (zPv (fun τ => ∀ a k, τ a k = if a = r + 1 ∧ k < n then σ (r2 + 1) k else σ a k)) := by
  obtain ⟨k0, k1, k2, k3⟩ := hr
  obtain ⟨j0, j1, j2, j3⟩ := hr2
  refine zM.of (lv0 := [(0, _), (1, _)]) (by decide) (Nat.le_of_ble_eq_true rfl) rfl (fun X C => ?_)
  have hl := zl_le (r + 1)
  have L2 : ∀ (fuel : Nat) (i : Nat) (τ : zMem), n - i < fuel → (i ≤ n ∧ ∀ a k, τ a k = if a = r + 1 ∧ k < i then σ (r2 + 1) k else σ a k) → zg G X true 3 129 0 0 2 [(0, .ref (zB G + r)), (1, .ref (zB G + r2)), (2, .int (zI (i : Int)))] [] τ := by
    intro fuel
    induction fuel with
    | zero => intro i τ hm; exact absurd hm (Nat.not_lt_zero _)
    | succ fuel ih =>
      intro i τ hms hinv
      obtain ⟨h1, h2⟩ := hinv
      refine z_iload_n (pc := 2) C dX6_take_2 rfl 2 rfl ?_
      refine z_aload_n (pc := 3) C dX6_take_3 rfl 0 rfl ?_
      refine z_getR (pc := 4) C (r + 1) fl_X6_7 dX6_take_4 (by first | rfl | assumption) (by omega) rfl (Or.inl rfl) ?_
      refine z_alen (pc := 7) (n := (n : Int)) C dX6_take_7 (by first | exact Or.inl rfl | exact Or.inl (by assumption) | exact Or.inr rfl) (by omega) (by omega) ?_
      refine z_icmp_ge (pc := 8) (tgt := 38) C dX6_take_8 (by decide) ⟨by omega, by omega⟩ (fun c8 => ?_) (fun c8 => ?_)
      · refine z_vret (pc := 38) C dX6_take_38 ?_
        exact ⟨rfl, fun a k => by rw [h2 a k, show i = n by omega]⟩
      · refine z_iload_n (pc := 11) C dX6_take_11 rfl 2 rfl ?_
        refine z_aload_n (pc := 12) C dX6_take_12 rfl 1 rfl ?_
        refine z_getR (pc := 13) C (r2 + 1) fl_X6_7 dX6_take_13 (by first | rfl | assumption) (by omega) rfl (Or.inl rfl) ?_
        refine z_alen (pc := 16) (n := (n : Int)) C dX6_take_16 (by first | exact Or.inl rfl | exact Or.inl (by assumption) | exact Or.inr rfl) (by omega) (by omega) ?_
        refine z_icmp_ge (pc := 17) (tgt := 38) C dX6_take_17 (by decide) ⟨by omega, by omega⟩ (fun c17 => by exfalso; omega) (fun c17 => ?_)
        refine z_aload_n (pc := 20) C dX6_take_20 rfl 0 rfl ?_
        refine z_getR (pc := 21) C (r + 1) fl_X6_7 dX6_take_21 (by first | rfl | assumption) (by omega) rfl (Or.inl rfl) ?_
        refine z_iload_n (pc := 24) C dX6_take_24 rfl 2 rfl ?_
        refine z_aload_n (pc := 25) C dX6_take_25 rfl 1 rfl ?_
        refine z_getR (pc := 26) C (r2 + 1) fl_X6_7 dX6_take_26 (by first | rfl | assumption) (by omega) rfl (Or.inl rfl) ?_
        refine z_iload_n (pc := 29) C dX6_take_29 rfl 2 rfl ?_
        refine z_iaload (pc := 30) C (i) dX6_take_30 (by first | rfl | assumption) (by omega) rfl (by omega) (fun g30 => ?_)
        refine z_iastoree (pc := 31) C (i) dX6_take_31 (by first | rfl | assumption) (by omega) rfl (by omega) (by omega) (fun m31 em31 => ?_)
        refine z_iinc (pc := 32) (lv' := [(2, _), (0, _), (1, _)]) C dX6_take_32 2 rfl (by decide) rfl ?_
        refine z_goto (pc := 35) (tgt := 2) C dX6_take_35 (by decide) ?_
        refine z_sub C [1, 2, 0] rfl ?_
        exact ih (i + 1) _ (by omega) ⟨by omega, fun a k => by rw [em31]; unfold zU; rw [h2 a k, h2 (r2 + 1) i, if_neg (by omega : ¬ (r2 + 1 = r + 1 ∧ i < i))]; by_cases e1 : a = r + 1 <;> by_cases e2 : k = i <;> by_cases e3 : k < i <;> simp [e1, e2, e3] <;> omega⟩
  refine z_iconst (pc := 0) C dX6_take_0 ?_
  refine z_istore_n (pc := 1) (lv' := [(2, _), (0, _), (1, _)]) C dX6_take_1 rfl (by decide) rfl ?_
  refine z_sub C [1, 2, 0] rfl ?_
  exact L2 _ 0 σ (Nat.lt_succ_self _) ⟨by omega, fun a k => by simp⟩
set_option maxHeartbeats 4000000 in
set_option maxRecDepth 100000 in
theorem c_X6_sumOfFirst (l : Launch) (G : zGt) (σ : zMem) (r n m : Nat) (p : Int) (hr : zRow r n) (hp : p = m) (hm : m ≤ n) (hb : ∀ i, i < m → 0 ≤ σ (r + 1) i ∧ σ (r + 1) i ≤ 1000) : zN l G yX6_sumOfFirst cX6_sumOfFirst 4 (some .int) 0 [.ref (zB G + r), .int (zI p)] σ (zPi (fun x τ => x = zsum (σ (r + 1)) m ∧ σ = τ)) := by
  obtain ⟨k0, k1, k2, k3⟩ := hr
  refine zM.of (lv0 := [(0, _), (1, _)]) (by decide) (Nat.le_of_ble_eq_true rfl) rfl (fun X C => ?_)
  have hl := zl_le (r + 1)
  have L4 : ∀ (fuel : Nat) (i : Nat), m - i < fuel → (i ≤ m) → zg G X true 4 129 0 0 4 [(0, .ref (zB G + r)), (1, .int (zI p)), (2, .int (zI (zsum (σ (r + 1)) i))), (3, .int (zI (i : Int)))] [] σ := by
    intro fuel
    induction fuel with
    | zero => intro i hm; exact absurd hm (Nat.not_lt_zero _)
    | succ fuel ih =>
      intro i hms h1
      refine z_iload_n (pc := 4) C dX6_sumOfFirst_4 rfl 3 rfl ?_
      refine z_iload_n (pc := 5) C dX6_sumOfFirst_5 rfl 1 rfl ?_
      refine z_icmp_ge (pc := 6) (tgt := 33) C dX6_sumOfFirst_6 (by decide) ⟨by omega, by omega⟩ (fun c6 => ?_) (fun c6 => ?_)
      · refine z_iload_n (pc := 33) C dX6_sumOfFirst_33 rfl 2 rfl ?_
        refine z_iret (pc := 34) C dX6_sumOfFirst_34 ?_
        obtain rfl : i = m := by omega
        have h3 := zsum_bd (f := σ (r + 1)) (c := 1000) (n := i) hb
        exact ⟨_, rfl, by omega, rfl, rfl⟩
      · refine z_iload_n (pc := 9) C dX6_sumOfFirst_9 rfl 3 rfl ?_
        refine z_aload_n (pc := 10) C dX6_sumOfFirst_10 rfl 0 rfl ?_
        refine z_getR (pc := 11) C (r + 1) fl_X6_7 dX6_sumOfFirst_11 (by first | rfl | assumption) (by omega) rfl (Or.inl rfl) ?_
        refine z_alen (pc := 14) (n := (n : Int)) C dX6_sumOfFirst_14 (by first | exact Or.inl rfl | exact Or.inl (by assumption) | exact Or.inr rfl) (by omega) (by omega) ?_
        refine z_icmp_ge (pc := 15) (tgt := 33) C dX6_sumOfFirst_15 (by decide) ⟨by omega, by omega⟩ (fun c15 => by exfalso; omega) (fun c15 => ?_)
        refine z_iload_n (pc := 18) C dX6_sumOfFirst_18 rfl 2 rfl ?_
        refine z_aload_n (pc := 19) C dX6_sumOfFirst_19 rfl 0 rfl ?_
        refine z_getR (pc := 20) C (r + 1) fl_X6_7 dX6_sumOfFirst_20 (by first | rfl | assumption) (by omega) rfl (Or.inl rfl) ?_
        refine z_iload_n (pc := 23) C dX6_sumOfFirst_23 rfl 3 rfl ?_
        refine z_iaload (pc := 24) C (_) dX6_sumOfFirst_24 (by first | rfl | assumption) (by omega) rfl (by omega) (fun g24 => ?_)
        refine z_iadd (pc := 25) C dX6_sumOfFirst_25 ?_
        refine z_istore_n (pc := 26) (lv' := [(2, _), (0, _), (1, _), (3, _)]) C dX6_sumOfFirst_26 rfl (by decide) rfl ?_
        refine z_iinc (pc := 27) (lv' := [(3, _), (2, _), (0, _), (1, _)]) C dX6_sumOfFirst_27 3 rfl (by decide) rfl ?_
        refine z_goto (pc := 30) (tgt := 4) C dX6_sumOfFirst_30 (by decide) ?_
        refine z_sub C [2, 3, 1, 0] rfl ?_
        exact ih (i + 1) (by omega) (by omega)
  refine z_iconst (pc := 0) C dX6_sumOfFirst_0 ?_
  refine z_istore_n (pc := 1) (lv' := [(2, _), (0, _), (1, _)]) C dX6_sumOfFirst_1 rfl (by decide) rfl ?_
  refine z_iconst (pc := 2) C dX6_sumOfFirst_2 ?_
  refine z_istore_n (pc := 3) (lv' := [(3, _), (2, _), (0, _), (1, _)]) C dX6_sumOfFirst_3 rfl (by decide) rfl ?_
  refine z_sub C [2, 3, 1, 0] rfl ?_
  exact L4 _ 0 (Nat.lt_succ_self _) (by omega)
