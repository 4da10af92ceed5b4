set_option maxHeartbeats 4000000 in
set_option maxRecDepth 100000 in
theorem c_X3_firstFree (l : Launch) (G : zGt) (σ : zMem) (o n : Nat) (y w : Int) (K R V E : Nat → Int) (S fr : Nat) (A : Nat → Int) (p : Int) (hL : zLane o) (h : zLa σ o n y w K R V E) (hn : n ≤ 6) (hp : p = fr) (hS : S < 2 ^ n) (hf : fr ≤ n) (h0 : ∀ j, j < fr → zbt S j = false) (hA : ∀ h, h < 6 → -1 ≤ A h ∧ A h ≤ 5) (hW : zWi σ S A) : zN l G yX3_firstFree cX3_firstFree 4 (some .int) 1 [.ref (zB G + 101), .ref (zB G + o), .int (zI p)] σ (zPi (fun x τ => x = (if S = 0 then (n : Int) else (zlow S : Int)) ∧ σ = τ)) := by
  obtain ⟨k0, -⟩ := id hL
  have s4 := h.1
  have hS2 : S < 64 := by have : (2 : Nat) ^ n ≤ 2 ^ 6 := Nat.pow_le_pow_right (by omega) hn; omega
  have b102 : zRow 102 6 := by decide
  have b104 : zRow 104 6 := by decide
  refine zM.of (lv0 := [(0, _), (1, _), (2, _)]) (by decide) (Nat.le_of_ble_eq_true rfl) rfl (fun X C => ?_)
  have L2 : ∀ (fuel : Nat) (i : Nat), n - i < fuel → (i ≤ n ∧ ∀ j, j < i → zbt S j = false) → zg G X true 4 129 0 0 2 [(0, .ref (zB G + 101)), (1, .ref (zB G + o)), (2, .int (zI p)), (3, .int (zI (i : Int)))] [] σ := by
    intro fuel
    induction fuel with
    | zero => intro i hm; exact absurd hm (Nat.not_lt_zero _)
    | succ fuel ih =>
      intro i hms hinv
      obtain ⟨h1, h2⟩ := hinv
      refine z_iload_n (pc := 2) C dX3_firstFree_2 rfl 3 rfl ?_
      refine z_aload_n (pc := 3) C dX3_firstFree_3 rfl 1 rfl ?_
      refine z_getI (pc := 4) C fl_X3_30 dX3_firstFree_4 (by first | rfl | assumption) (by omega) (fun g4 => ?_)
      refine z_icmp_ge (pc := 7) (tgt := 31) C dX3_firstFree_7 (by decide) ⟨by omega, by omega⟩ (fun c7 => ?_) (fun c7 => ?_)
      · refine z_aload_n (pc := 31) C dX3_firstFree_31 rfl 1 rfl ?_
        refine z_getI (pc := 32) C fl_X3_30 dX3_firstFree_32 (by first | rfl | assumption) (by omega) (fun g32 => ?_)
        refine z_iret (pc := 35) C dX3_firstFree_35 ?_
        have e0 : S = 0 := zbt_0 n hn S hS (fun j hj => h2 j (by omega))
        exact ⟨_, rfl, by omega, by rw [if_pos e0]; exact s4, rfl⟩
      · have hWi := hW i (by omega)
        have hAi := hA i (by omega)
        refine z_aload_n (pc := 10) C dX3_firstFree_10 rfl 0 rfl ?_
        refine z_getR (pc := 11) C (102) fl_X3_14 dX3_firstFree_11 (by first | rfl | assumption) (by omega) rfl (Or.inl rfl) ?_
        refine z_iload_n (pc := 14) C dX3_firstFree_14 rfl 3 rfl ?_
        refine z_Vi (pc := 15) C (c_X6_atv l G _ _ _ (i) _ (σ 103 i) (by first | assumption | omega | decide) rfl (by first | assumption | omega | decide) (rfl)) ml_X3_54 yw_X6_at dX3_firstFree_15 (by first | rfl | assumption) (by omega) rfl rfl rfl (Nat.le_of_ble_eq_true rfl) ⟨by decide, by decide⟩ (fun r15 t15 h15 q15 => ?_)
        obtain ⟨rfl, rfl⟩ := q15
        refine z_bipush (pc := 18) C dX3_firstFree_18 (by decide +kernel) ?_
        refine z_icmp_ne (pc := 20) (tgt := 25) C dX3_firstFree_20 (by decide) ⟨by omega, by omega⟩ (fun c20 => ?_) (fun c20 => ?_)
        · refine z_iinc (pc := 25) (lv' := [(3, _), (0, _), (1, _), (2, _)]) C dX3_firstFree_25 3 rfl (by decide) rfl ?_
          refine z_goto (pc := 28) (tgt := 2) C dX3_firstFree_28 (by decide) ?_
          refine z_sub C [1, 2, 3, 0] rfl ?_
          exact ih (i + 1) (by omega) ⟨by omega, fun j hj => by rcases Nat.lt_or_ge j i with q | q; exact h2 j q; rw [show j = i by omega]; cases hb : zbt S i; rfl; exact absurd (hWi.trans (if_pos hb)) c20⟩
        · refine z_iload_n (pc := 23) C dX3_firstFree_23 rfl 3 rfl ?_
          refine z_iret (pc := 24) C dX3_firstFree_24 ?_
          have hb : zbt S i = true := by
            cases hb : zbt S i
            · rw [hb] at hWi; simp at hWi; omega
            · rfl
          have e := zlow_of S hS2 i (by omega) hb h2
          have e0 : S ≠ 0 := by intro q; rw [q, zbt_z] at hb; cases hb
          exact ⟨_, rfl, by omega, by rw [if_neg e0, e], rfl⟩
  refine z_iload_n (pc := 0) C dX3_firstFree_0 rfl 2 rfl ?_
  refine z_istore_n (pc := 1) (lv' := [(3, _), (0, _), (1, _), (2, _)]) C dX3_firstFree_1 rfl (by decide) rfl ?_
  refine z_sub C [1, 2, 3, 0] rfl ?_
  subst hp
  exact L2 _ fr (Nat.lt_succ_self _) ⟨hf, h0⟩
set_option maxHeartbeats 4000000 in
set_option maxRecDepth 100000 in
theorem c_X3_weigh (l : Launch) (G : zGt) (σ : zMem) (t : Int) (A : Nat → Int) (b : zBs) (ht : zR t) (hW : ∀ h, h < 6 → σ 103 h = A h) (hb : zBt σ b) : zN l G yX3_weigh cX3_weigh 2 (none) 1 [.ref (zB G + 101), .int (zI t)] σ (zPv (fun τ => zBt τ (zwg t A b) ∧ (∀ h, h < 6 → τ 103 h = σ 103 h) ∧ zFr 101 106 σ τ)) := by
  obtain ⟨b1, b2⟩ := id hb
  have b102 : zRow 102 6 := by decide
  have b104 : zRow 104 6 := by decide
  refine zM.of (lv0 := [(0, _), (1, _)]) (by decide) (Nat.le_of_ble_eq_true rfl) rfl (fun X C => ?_)
  refine z_iload_n (pc := 0) C dX3_weigh_0 rfl 1 rfl ?_
  refine z_aload_n (pc := 1) C dX3_weigh_1 rfl 0 rfl ?_
  refine z_getI (pc := 2) C fl_X3_23 dX3_weigh_2 (by first | rfl | assumption) (by omega) (fun g2 => ?_)
  refine z_icmp_ge (pc := 5) (tgt := 24) C dX3_weigh_5 (by decide) ⟨by omega, by omega⟩ (fun c5 => ?_) (fun c5 => ?_)
  · refine z_vret (pc := 24) C dX3_weigh_24 ?_
    first
      | exact ⟨rfl, by rw [zwg, if_neg (by omega)]; exact hb, fun _ _ => rfl, zFr.rf⟩
      | exact ⟨rfl, by rw [zwg, if_pos (by omega)]; exact ⟨by rw [q21, if_neg (by omega), em10]; exact zU_at, fun h hh => by rw [q21, if_pos ⟨rfl, hh⟩, em10, zU_o (by omega)]; exact hW h hh⟩, fun h hh => by rw [q21, if_neg (by omega), em10, zU_o (by omega)], fun a k ha => by rw [q21, if_neg (by omega), em10, zU_o (by omega)]⟩
  · refine z_aload_n (pc := 8) C dX3_weigh_8 rfl 0 rfl ?_
    refine z_iload_n (pc := 9) C dX3_weigh_9 rfl 1 rfl ?_
    refine z_putIe (pc := 10) C fl_X3_23 dX3_weigh_10 (by first | rfl | assumption) (by omega) (by omega) (fun m10 em10 => ?_)
    refine z_aload_n (pc := 13) C dX3_weigh_13 rfl 0 rfl ?_
    refine z_getR (pc := 14) C (104) fl_X3_20 dX3_weigh_14 (by first | rfl | assumption) (by omega) rfl (Or.inl rfl) ?_
    refine z_aload_n (pc := 17) C dX3_weigh_17 rfl 0 rfl ?_
    refine z_getR (pc := 18) C (102) fl_X3_14 dX3_weigh_18 (by first | rfl | assumption) (by omega) rfl (Or.inl rfl) ?_
    refine z_Vv (pc := 21) C (c_X6_take l G _ _ _ _ (by first | assumption | omega | decide) (by first | assumption | omega | decide) (by first | assumption | omega | decide)) ml_X3_70 yw_X6_take dX3_weigh_21 (by first | rfl | assumption) (by omega) rfl rfl rfl (Nat.le_of_ble_eq_true rfl) ⟨by decide, by decide⟩ (fun t21 q21 => ?_)
    refine z_vret (pc := 24) C dX3_weigh_24 ?_
    first
      | exact ⟨rfl, by rw [zwg, if_neg (by omega)]; exact hb, fun _ _ => rfl, zFr.rf⟩
      | exact ⟨rfl, by rw [zwg, if_pos (by omega)]; exact ⟨by rw [q21, if_neg (by omega), em10]; exact zU_at, fun h hh => by rw [q21, if_pos ⟨rfl, hh⟩, em10, zU_o (by omega)]; exact hW h hh⟩, fun h hh => by rw [q21, if_neg (by omega), em10, zU_o (by omega)], fun a k ha => by rw [q21, if_neg (by omega), em10, zU_o (by omega)]⟩
set_option maxHeartbeats 4000000 in
set_option maxRecDepth 100000 in
theorem c_leave_open (l : Launch) (G : zGt) (f : Nat) (ih : zPair l G f) (σ : zMem) (o n : Nat) (y w : Int) (K R V E : Nat → Int) (S x : Nat) (A : Nat → Int) (t : Int) (b : zBs) (hL : zLane o) (h : zLa σ o n y w K R V E) (hr : zLr K R V E) (hn : n ≤ 6) (ho : o + 9 ≤ 101) (hS : S < 2 ^ n) (hx : x < n) (hnf : n ≤ x + 1 + f) (h0 : ∀ j, j < x → zbt S j = false) (hxb : zbt S x = true) (ht : 0 ≤ t ∧ t + 20 * (f + 1 : Nat) ≤ 200) (hf6 : f + 1 ≤ 6) (hA : ∀ h, h < 6 → -1 ≤ A h ∧ A h ≤ 5) (hW : zWi σ S A) (hb : zBt σ b) (hod : zodd S = true) :
    zN l G yX3_leave cX3_leave 4 none (3 + 2 * f) [.ref (zB G + 101), .ref (zB G + o), .int (zI (x : Int)), .int (zI t)] σ (zPv (fun τ => zBt τ (zpp R n f (S - 2 ^ x) (zup A x (-1)) t b) ∧ (∀ h, h < 6 → τ 103 h = σ 103 h) ∧ zFr 101 106 σ τ)) := by
  have px := fun k => Nat.two_pow_pos k
  have hS2 : S < 64 := by have : (2 : Nat) ^ n ≤ 2 ^ 6 := Nat.pow_le_pow_right (by omega) hn; omega
  obtain ⟨k0, b1, b3, b5, b7, k8⟩ := id hL
  have s4 := h.1
  have b102 : zRow 102 6 := by decide
  have b104 : zRow 104 6 := by decide
  have px1 := px x
  obtain ⟨x1, x2, x3⟩ := zrm_bt S hS2 x (by omega) hxb
  refine zM.of (lv0 := [(0, _), (1, _), (2, _), (3, _)]) (by decide) (Nat.le_of_ble_eq_true rfl) rfl (fun X C => ?_)
  refine z_aload_n (pc := 0) C dX3_leave_0 rfl 0 rfl ?_
  refine z_getR (pc := 1) C (102) fl_X3_14 dX3_leave_1 (by first | rfl | assumption) (by omega) rfl (Or.inl rfl) ?_
  refine z_iload_n (pc := 4) C dX3_leave_4 rfl 2 rfl ?_
  refine z_iconst (pc := 5) C dX3_leave_5 ?_
  refine z_Vv (pc := 6) C (c_X6_put l G _ _ _ (x) _ _ (by first | assumption | omega | decide) (rfl) (by first | assumption | omega | decide) (by first | assumption | omega | decide)) ml_X3_35 yw_X6_put dX3_leave_6 (by first | rfl | assumption) (by omega) rfl rfl rfl (Nat.le_of_ble_eq_true rfl) ⟨by omega, by decide⟩ (fun t6 q6 => ?_)
  obtain rfl := q6
  have hl : zLa (zU σ (102 + 1) x (-1)) o n y w K R V E := h.fr (zFr.rf.put (Nat.le_refl 103) (show 103 < 104 by omega)) (by omega)
  have hA2 : ∀ h, h < 6 → -1 ≤ zup A x (-1) h ∧ zup A x (-1) h ≤ 5 := fun i hi => by unfold zup; split; omega; exact hA i hi
  have hj : ∀ j, j < x + 1 → zbt (S - 2 ^ x) j = false := fun j hj => by rw [x2 j (by omega)]; split; rfl; exact h0 j (by omega)
  have hW2 : zWi (zU σ (102 + 1) x (-1)) (S - 2 ^ x) (zup A x (-1)) := fun i hi => by
    rw [x2 i hi]
    unfold zup
    by_cases e : i = x
    · rw [e, if_pos rfl, if_pos rfl]; exact zU_at
    · rw [if_neg e, if_neg e]; exact (zU_k e).trans (hW i hi)
  have hb2 : zBt (zU σ (102 + 1) x (-1)) b := ⟨(zU_o (by omega)).trans hb.1, fun i hi => (zU_o (by omega)).trans (hb.2 i hi)⟩
  refine z_aload_n (pc := 9) C dX3_leave_9 rfl 0 rfl ?_
  refine z_aload_n (pc := 10) C dX3_leave_10 rfl 1 rfl ?_
  refine z_iload_n (pc := 11) C dX3_leave_11 rfl 2 rfl ?_
  refine z_iconst (pc := 12) C dX3_leave_12 ?_
  refine z_iadd (pc := 13) C dX3_leave_13 ?_
  refine z_iload_n (pc := 14) C dX3_leave_14 rfl 3 rfl ?_
  refine z_iconst (pc := 15) C dX3_leave_15 ?_
  refine z_Vv (pc := 16) C (ih _ o n y w K R V E (S - 2 ^ x) (x + 1) (zup A x (-1)) t 0 b hL hl hr hn ho (by omega) (by omega) (by omega) hj (by omega) (by omega) hA2 (by rw [x3, hod]; rfl) hW2 hb2) ml_X3_39 yw_X3_pairFrom dX3_leave_16 (by first | rfl | assumption) (by omega) rfl rfl rfl (Nat.le_of_ble_eq_true rfl) ⟨by omega, by decide⟩ (fun t16 q16 => ?_)
  obtain ⟨u16, w16, f16⟩ := q16
  refine z_aload_n (pc := 19) C dX3_leave_19 rfl 0 rfl ?_
  refine z_getR (pc := 20) C (102) fl_X3_14 dX3_leave_20 (by first | rfl | assumption) (by omega) rfl (Or.inl rfl) ?_
  refine z_iload_n (pc := 23) C dX3_leave_23 rfl 2 rfl ?_
  refine z_bipush (pc := 24) C dX3_leave_24 (by decide +kernel) ?_
  refine z_Vv (pc := 26) C (c_X6_put l G _ _ _ (x) _ _ (by first | assumption | omega | decide) (rfl) (by first | assumption | omega | decide) (by first | assumption | omega | decide)) ml_X3_35 yw_X6_put dX3_leave_26 (by first | rfl | assumption) (by omega) rfl rfl rfl (Nat.le_of_ble_eq_true rfl) ⟨by omega, by decide⟩ (fun t26 q26 => ?_)
  obtain rfl := q26
  refine z_vret (pc := 29) C dX3_leave_29 ?_
  refine ⟨rfl, ⟨(zU_o (by omega)).trans u16.1, fun i hi => (zU_o (by omega)).trans (u16.2 i hi)⟩, fun i hi => ?_, fun a k ha => (zU_o (by omega)).trans ((f16 a k ha).trans (zU_o (by omega)))⟩
  by_cases e : i = x
  · rw [e, hW x (by omega), if_pos hxb]; exact zU_at
  · exact (zU_k e).trans ((w16 i hi).trans (zU_k e))
set_option maxHeartbeats 4000000 in
set_option maxRecDepth 100000 in
theorem c_couple_open (l : Launch) (G : zGt) (f : Nat) (ih : zPair l G f) (σ : zMem) (o n : Nat) (y w : Int) (K R V E : Nat → Int) (S x : Nat) (A : Nat → Int) (t : Int) (b : zBs) (hL : zLane o) (h : zLa σ o n y w K R V E) (hr : zLr K R V E) (hn : n ≤ 6) (ho : o + 9 ≤ 101) (hS : S < 2 ^ n) (hx : x < n) (hnf : n ≤ x + 1 + f) (h0 : ∀ j, j < x → zbt S j = false) (hxb : zbt S x = true) (ht : 0 ≤ t ∧ t + 20 * (f + 1 : Nat) ≤ 200) (hf6 : f + 1 ≤ 6) (hA : ∀ h, h < 6 → -1 ≤ A h ∧ A h ≤ 5) (hW : zWi σ S A) (hb : zBt σ b) (q : Nat) (hq : x < q ∧ q < n) (hqb : zbt S q = true) (mb : Int) (hmb : mb = if zodd S then 1 else 0) :
    zN l G yX3_couple cX3_couple 7 none (3 + 2 * f) [.ref (zB G + 101), .ref (zB G + o), .int (zI (x : Int)), .int (zI (q : Int)), .int (zI t), .int (zI mb)] σ (zPv (fun τ => zBt τ (zpp R n f (S - 2 ^ x - 2 ^ q) (zup (zup A x (q : Int)) q (x : Int)) (t + zab (R x) (R q)) b) ∧ (∀ h, h < 6 → τ 103 h = σ 103 h) ∧ zFr 101 106 σ τ)) := by
  have px := fun k => Nat.two_pow_pos k
  have hS2 : S < 64 := by have : (2 : Nat) ^ n ≤ 2 ^ 6 := Nat.pow_le_pow_right (by omega) hn; omega
  obtain ⟨k0, b1, b3, b5, b7, k8⟩ := id hL
  have s4 := h.1
  have b102 : zRow 102 6 := by decide
  have b104 : zRow 104 6 := by decide
  have px1 := px x
  obtain ⟨x1, x2, x3⟩ := zrm_bt S hS2 x (by omega) hxb
  have px2 := px q
  have hqb2 : zbt (S - 2 ^ x) q = true := by rw [x2 q (by omega), if_neg (by omega)]; exact hqb
  obtain ⟨y1, y2, y3⟩ := zrm_bt (S - 2 ^ x) (by omega) q (by omega) hqb2
  have kk3 := b3.1
  have hrx := hr x
  have hrq := hr q
  have gx := (h.2.2.2 x (by omega)).2.1
  have gq := (h.2.2.2 q (by omega)).2.1
  refine zM.of (lv0 := [(0, _), (1, _), (2, _), (3, _), (4, _), (5, _)]) (by decide) (Nat.le_of_ble_eq_true rfl) rfl (fun X C => ?_)
  refine z_aload_n (pc := 0) C dX3_couple_0 rfl 1 rfl ?_
  refine z_getR (pc := 1) C (o + 3) fl_X3_62 dX3_couple_1 (by first | rfl | assumption) (by omega) rfl (Or.inl rfl) ?_
  refine z_iload_n (pc := 4) C dX3_couple_4 rfl 2 rfl ?_
  refine z_Vi (pc := 5) C (c_X6_atv l G _ _ _ (x) _ (R x) (by first | assumption | omega | decide) rfl (by first | assumption | omega | decide) (gx)) ml_X3_54 yw_X6_at dX3_couple_5 (by first | rfl | assumption) (by omega) rfl rfl rfl (Nat.le_of_ble_eq_true rfl) ⟨by omega, by decide⟩ (fun r5 t5 h5 q5 => ?_)
  obtain ⟨rfl, rfl⟩ := q5
  refine z_aload_n (pc := 8) C dX3_couple_8 rfl 1 rfl ?_
  refine z_getR (pc := 9) C (o + 3) fl_X3_62 dX3_couple_9 (by first | rfl | assumption) (by omega) rfl (Or.inl rfl) ?_
  refine z_iload_n (pc := 12) C dX3_couple_12 rfl 3 rfl ?_
  refine z_Vi (pc := 13) C (c_X6_atv l G _ _ _ (q) _ (R q) (by first | assumption | omega | decide) rfl (by first | assumption | omega | decide) (gq)) ml_X3_54 yw_X6_at dX3_couple_13 (by first | rfl | assumption) (by omega) rfl rfl rfl (Nat.le_of_ble_eq_true rfl) ⟨by omega, by decide⟩ (fun r13 t13 h13 q13 => ?_)
  obtain ⟨rfl, rfl⟩ := q13
  refine z_isub (pc := 16) C dX3_couple_16 ?_
  refine z_abs (pc := 17) C ml_X3_65 jw_abs dX3_couple_17 ⟨⟨by omega, Nat.le_trans (m := 64) (Nat.le_of_ble_eq_true rfl) (by omega)⟩, by decide, by decide⟩ (by omega) ?_
  rw [show (if 0 ≤ R x - R q then R x - R q else 0 - (R x - R q)) = zab (R x) (R q) from rfl]
  have hab : 0 ≤ zab (R x) (R q) ∧ zab (R x) (R q) ≤ 20 := by unfold zab; split <;> omega
  refine z_istore (pc := 20) (lv' := [(6, _), (0, _), (1, _), (2, _), (3, _), (4, _), (5, _)]) C dX3_couple_20 (by decide) rfl ?_
  refine z_aload_n (pc := 22) C dX3_couple_22 rfl 1 rfl ?_
  refine z_getR (pc := 23) C (102) fl_X3_14 dX3_couple_23 (by first | rfl | assumption) (by omega) rfl (Or.inl rfl) ?_
  refine z_iload_n (pc := 26) C dX3_couple_26 rfl 3 rfl ?_
  refine z_iload_n (pc := 27) C dX3_couple_27 rfl 4 rfl ?_
  refine z_Vv (pc := 28) C (c_X6_put l G _ _ _ (x) _ _ (by first | assumption | omega | decide) (rfl) (by first | assumption | omega | decide) (by first | assumption | omega | decide)) ml_X3_35 yw_X6_put dX3_couple_28 (by first | rfl | assumption) (by omega) rfl rfl rfl (Nat.le_of_ble_eq_true rfl) ⟨by omega, by decide⟩ (fun t28 q28 => ?_)
  obtain rfl := q28
  refine z_aload_n (pc := 31) C dX3_couple_31 rfl 1 rfl ?_
  refine z_getR (pc := 32) C (102) fl_X3_14 dX3_couple_32 (by first | rfl | assumption) (by omega) rfl (Or.inl rfl) ?_
  refine z_iload_n (pc := 35) C dX3_couple_35 rfl 4 rfl ?_
  refine z_iload_n (pc := 36) C dX3_couple_36 rfl 3 rfl ?_
  refine z_Vv (pc := 37) C (c_X6_put l G _ _ _ (q) _ _ (by first | assumption | omega | decide) (rfl) (by first | assumption | omega | decide) (by first | assumption | omega | decide)) ml_X3_35 yw_X6_put dX3_couple_37 (by first | rfl | assumption) (by omega) rfl rfl rfl (Nat.le_of_ble_eq_true rfl) ⟨by omega, by decide⟩ (fun t37 q37 => ?_)
  obtain rfl := q37
  have hl : zLa (zU (zU σ (102 + 1) x (q : Int)) (102 + 1) q (x : Int)) o n y w K R V E := h.fr ((zFr.rf.put (Nat.le_refl 103) (show 103 < 104 by omega)).put (Nat.le_refl 103) (show 103 < 104 by omega)) (by omega)
  have hA2 : ∀ h, h < 6 → -1 ≤ zup (zup A x (q : Int)) q (x : Int) h ∧ zup (zup A x (q : Int)) q (x : Int) h ≤ 5 := fun i hi => by unfold zup; split; omega; split; omega; exact hA i hi
  have hj : ∀ j, j < x + 1 → zbt (S - 2 ^ x - 2 ^ q) j = false := fun j hj => by rw [y2 j (by omega), x2 j (by omega), if_neg (by omega)]; split; rfl; exact h0 j (by omega)
  have hW2 : zWi (zU (zU σ (102 + 1) x (q : Int)) (102 + 1) q (x : Int)) (S - 2 ^ x - 2 ^ q) (zup (zup A x (q : Int)) q (x : Int)) := fun i hi => by
    rw [y2 i hi, x2 i hi]
    unfold zup
    by_cases e : i = q
    · rw [e, if_pos rfl, if_pos rfl]; exact zU_at
    · rw [if_neg e, if_neg e]
      by_cases e2 : i = x
      · rw [e2, if_pos rfl, if_pos rfl]; exact (zU_k (by omega)).trans zU_at
      · rw [if_neg e2, if_neg e2]; exact (zU_k e).trans ((zU_k e2).trans (hW i hi))
  have hb2 : zBt (zU (zU σ (102 + 1) x (q : Int)) (102 + 1) q (x : Int)) b := ⟨(zU_o (by omega)).trans ((zU_o (by omega)).trans hb.1), fun i hi => (zU_o (by omega)).trans ((zU_o (by omega)).trans (hb.2 i hi))⟩
  refine z_aload_n (pc := 40) C dX3_couple_40 rfl 1 rfl ?_
  refine z_aload_n (pc := 41) C dX3_couple_41 rfl 2 rfl ?_
  refine z_iload_n (pc := 42) C dX3_couple_42 rfl 3 rfl ?_
  refine z_iconst (pc := 43) C dX3_couple_43 ?_
  refine z_iadd (pc := 44) C dX3_couple_44 ?_
  refine z_iload (pc := 45) C dX3_couple_45 5 rfl ?_
  refine z_iload (pc := 47) C dX3_couple_47 0 rfl ?_
  refine z_iadd (pc := 49) C dX3_couple_49 ?_
  refine z_iload (pc := 50) C dX3_couple_50 6 rfl ?_
  refine z_Vv (pc := 52) C (ih _ o n y w K R V E (S - 2 ^ x - 2 ^ q) (x + 1) (zup (zup A x (q : Int)) q (x : Int)) (t + zab (R x) (R q)) mb b hL hl hr hn ho (by omega) (by omega) (by omega) hj (by omega) (by omega) hA2 (by rw [y3, x3, hmb]; cases zodd S <;> rfl) hW2 hb2) ml_X3_39 yw_X3_pairFrom dX3_couple_52 (by first | rfl | assumption) (by omega) rfl rfl rfl (Nat.le_of_ble_eq_true rfl) ⟨by omega, by decide⟩ (fun t52 q52 => ?_)
  obtain ⟨u52, w52, f52⟩ := q52
  refine z_aload_n (pc := 55) C dX3_couple_55 rfl 1 rfl ?_
  refine z_getR (pc := 56) C (102) fl_X3_14 dX3_couple_56 (by first | rfl | assumption) (by omega) rfl (Or.inl rfl) ?_
  refine z_iload_n (pc := 59) C dX3_couple_59 rfl 3 rfl ?_
  refine z_bipush (pc := 60) C dX3_couple_60 (by decide +kernel) ?_
  refine z_Vv (pc := 62) C (c_X6_put l G _ _ _ (x) _ _ (by first | assumption | omega | decide) (rfl) (by first | assumption | omega | decide) (by first | assumption | omega | decide)) ml_X3_35 yw_X6_put dX3_couple_62 (by first | rfl | assumption) (by omega) rfl rfl rfl (Nat.le_of_ble_eq_true rfl) ⟨by omega, by decide⟩ (fun t62 q62 => ?_)
  obtain rfl := q62
  refine z_aload_n (pc := 65) C dX3_couple_65 rfl 1 rfl ?_
  refine z_getR (pc := 66) C (102) fl_X3_14 dX3_couple_66 (by first | rfl | assumption) (by omega) rfl (Or.inl rfl) ?_
  refine z_iload_n (pc := 69) C dX3_couple_69 rfl 4 rfl ?_
  refine z_bipush (pc := 70) C dX3_couple_70 (by decide +kernel) ?_
  refine z_Vv (pc := 72) C (c_X6_put l G _ _ _ (q) _ _ (by first | assumption | omega | decide) (rfl) (by first | assumption | omega | decide) (by first | assumption | omega | decide)) ml_X3_35 yw_X6_put dX3_couple_72 (by first | rfl | assumption) (by omega) rfl rfl rfl (Nat.le_of_ble_eq_true rfl) ⟨by omega, by decide⟩ (fun t72 q72 => ?_)
  obtain rfl := q72
  refine z_vret (pc := 75) C dX3_couple_75 ?_
  refine ⟨rfl, ⟨(zU_o (by omega)).trans ((zU_o (by omega)).trans u52.1), fun i hi => (zU_o (by omega)).trans ((zU_o (by omega)).trans (u52.2 i hi))⟩, fun i hi => ?_, fun a k ha => (zU_o (by omega)).trans ((zU_o (by omega)).trans ((f52 a k ha).trans ((zU_o (by omega)).trans (zU_o (by omega)))))⟩
  by_cases e : i = q
  · rw [e, hW q (by omega), if_pos hqb]; exact zU_at
  · refine (zU_k e).trans ?_
    by_cases e2 : i = x
    · rw [e2, hW x (by omega), if_pos hxb]; exact zU_at
    · exact (zU_k e2).trans ((w52 i hi).trans ((zU_k e).trans (zU_k e2)))
set_option maxHeartbeats 4000000 in
set_option maxRecDepth 100000 in
theorem c_pair_0 (l : Launch) (G : zGt) : zPair l G 0 := by
  intro σ o n y w K R V E S fr A t mb b hL h hr hn ho hS hf hnf h0 ht hf6 hA hmb hW hb
  have px := fun k => Nat.two_pow_pos k
  have hS2 : S < 64 := by have : (2 : Nat) ^ n ≤ 2 ^ 6 := Nat.pow_le_pow_right (by omega) hn; omega
  obtain ⟨k0, b1, b3, b5, b7, k8⟩ := id hL
  have s4 := h.1
  have hz : S = 0 := zbt_0 n hn S hS (fun j hj => h0 j (by omega))
  refine zM.of (lv0 := [(0, _), (1, _), (2, _), (3, _), (4, _)]) (by decide) (Nat.le_of_ble_eq_true rfl) rfl (fun X C => ?_)
  refine z_aload_n (pc := 0) C dX3_pairFrom_0 rfl 0 rfl ?_
  refine z_aload_n (pc := 1) C dX3_pairFrom_1 rfl 1 rfl ?_
  refine z_iload_n (pc := 2) C dX3_pairFrom_2 rfl 2 rfl ?_
  refine z_Vi (pc := 3) C (c_X3_firstFree l G _ o n y w K R V E S fr A _ hL h hn rfl hS hf h0 hA hW) ml_X3_43 yw_X3_firstFree dX3_pairFrom_3 (by first | rfl | assumption) (by omega) rfl rfl rfl (Nat.le_of_ble_eq_true rfl) ⟨by omega, by decide⟩ (fun r3 t3 h3 q3 => ?_)
  obtain ⟨rfl, rfl⟩ := q3
  rw [if_pos hz]
  refine z_istore (pc := 6) (lv' := [(5, _), (0, _), (1, _), (2, _), (3, _), (4, _)]) C dX3_pairFrom_6 (by decide) rfl ?_
  refine z_iload (pc := 8) C dX3_pairFrom_8 0 rfl ?_
  refine z_aload_n (pc := 10) C dX3_pairFrom_10 rfl 2 rfl ?_
  refine z_getI (pc := 11) C fl_X3_30 dX3_pairFrom_11 (by first | rfl | assumption) (by omega) (fun g11 => ?_)
  refine z_icmp_lt (pc := 14) (tgt := 23) C dX3_pairFrom_14 (by decide) ⟨by omega, by omega⟩ (fun c14 => by exfalso; omega) (fun c14 => ?_)
  refine z_aload_n (pc := 17) C dX3_pairFrom_17 rfl 1 rfl ?_
  refine z_iload_n (pc := 18) C dX3_pairFrom_18 rfl 4 rfl ?_
  refine z_Vv (pc := 19) C (c_X3_weigh l G _ t A b (by omega) (fun i hi => by rw [hW i hi, hz, zbt_z]; rfl) hb) ml_X3_47 yw_X3_weigh dX3_pairFrom_19 (by first | rfl | assumption) (by omega) rfl rfl rfl (Nat.le_of_ble_eq_true rfl) ⟨by omega, by decide⟩ (fun t19 q19 => ?_)
  obtain ⟨u19, w19, f19⟩ := q19
  refine z_vret (pc := 22) C dX3_pairFrom_22 ?_
  exact ⟨rfl, u19, w19, f19⟩
set_option maxHeartbeats 4000000 in
set_option maxRecDepth 100000 in
theorem c_pair_s (l : Launch) (G : zGt) (f : Nat) (ihf : zPair l G f) : zPair l G (f + 1) := by
  intro σ o n y w K R V E S fr A t mb b hL h hr hn ho hS hf hnf h0 ht hf6 hA hmb hW hb
  have px := fun k => Nat.two_pow_pos k
  have hS2 : S < 64 := by have : (2 : Nat) ^ n ≤ 2 ^ 6 := Nat.pow_le_pow_right (by omega) hn; omega
  obtain ⟨k0, b1, b3, b5, b7, k8⟩ := id hL
  have s4 := h.1
  have b102 : zRow 102 6 := by decide
  have b104 : zRow 104 6 := by decide
  refine zM.of (lv0 := [(0, _), (1, _), (2, _), (3, _), (4, _)]) (by decide) (Nat.le_of_ble_eq_true rfl) rfl (fun X C => ?_)
  have L42 : ∀ (fuel : Nat) (x q : Nat) (τ : zMem), n - q < fuel → ((S ≠ 0 ∧ x = zlow S ∧ x < n ∧ zbt S x = true ∧ ∀ j, j < x → zbt S j = false) ∧ x < q ∧ q ≤ n ∧ zBt τ (zpi (zpp R n f) R S x A t q (if zodd S then zpp R n f (S - 2 ^ x) (zup A x (-1)) t b else b)) ∧ (∀ h, h < 6 → τ 103 h = σ 103 h) ∧ zFr 101 106 σ τ) → zg G X true 7 129 0 0 42 [(0, .ref (zB G + 101)), (1, .ref (zB G + o)), (3, .int (zI t)), (4, .int (zI mb)), (5, .int (zI (x : Int))), (6, .int (zI (q : Int)))] [] τ := by
    intro fuel
    induction fuel with
    | zero => intro x q τ hm; exact absurd hm (Nat.not_lt_zero _)
    | succ fuel ih =>
      intro x q τ hms hinv
      obtain ⟨⟨hz, hxl, hxn, hxb, hx0⟩, h1, h5, h2, h3, h4⟩ := hinv
      have hl := h.fr h4 (by omega)
      have s42 := hl.1
      have hfx : fr ≤ x := Nat.le_of_not_lt (fun q => by have := h0 x q; rw [hxb] at this; cases this)
      refine z_iload (pc := 42) C dX3_pairFrom_42 5 rfl ?_
      refine z_aload_n (pc := 44) C dX3_pairFrom_44 rfl 1 rfl ?_
      refine z_getI (pc := 45) C fl_X3_30 dX3_pairFrom_45 (by first | rfl | assumption) (by omega) (fun g45 => ?_)
      refine z_icmp_ge (pc := 48) (tgt := 83) C dX3_pairFrom_48 (by decide) ⟨by omega, by omega⟩ (fun c48 => ?_) (fun c48 => ?_)
      · refine z_vret (pc := 83) C dX3_pairFrom_83 ?_
        exact ⟨rfl, by rw [zpp, if_neg hz, ← hxl]; rw [show q = n by omega] at h2; exact h2, h3, h4⟩
      · have hWq := (hW.keep h3) q (by omega)
        have hAq := hA q (by omega)
        refine z_aload_n (pc := 51) C dX3_pairFrom_51 rfl 0 rfl ?_
        refine z_getR (pc := 52) C (102) fl_X3_14 dX3_pairFrom_52 (by first | rfl | assumption) (by omega) rfl (Or.inl rfl) ?_
        refine z_iload (pc := 55) C dX3_pairFrom_55 5 rfl ?_
        refine z_Vi (pc := 57) C (c_X6_atv l G _ _ _ (q) _ (τ 103 q) (by first | assumption | omega | decide) rfl (by first | assumption | omega | decide) (rfl)) ml_X3_54 yw_X6_at dX3_pairFrom_57 (by first | rfl | assumption) (by omega) rfl rfl rfl (Nat.le_of_ble_eq_true rfl) ⟨by omega, by decide⟩ (fun r57 t57 h57 q57 => ?_)
        obtain ⟨rfl, rfl⟩ := q57
        refine z_bipush (pc := 60) C dX3_pairFrom_60 (by decide +kernel) ?_
        refine z_icmp_ne (pc := 62) (tgt := 77) C dX3_pairFrom_62 (by decide) ⟨by omega, by omega⟩ (fun c62 => ?_) (fun c62 => ?_)
        · refine z_iinc (pc := 77) (lv' := [(6, _), (0, _), (1, _), (3, _), (4, _), (5, _)]) C dX3_pairFrom_77 5 rfl (by decide) rfl ?_
          refine z_goto (pc := 80) (tgt := 42) C dX3_pairFrom_80 (by decide) ?_
          refine z_sub C [1, 2, 3, 4, 5, 0] rfl ?_
          exact ih x (q + 1) _ (by omega) (by first | exact ⟨⟨hz, hxl, hxn, hxb, hx0⟩, by omega, by omega, by rw [zpi, if_pos ⟨h1, hqb⟩]; exact u74, fun i hi => (w74 i hi).trans (h3 i hi), h4.tr f74⟩ | exact ⟨⟨hz, hxl, hxn, hxb, hx0⟩, by omega, by omega, by rw [zpi, if_neg (fun z => by rw [z.2] at hWq; simp at hWq; omega)]; exact h2, h3, h4⟩)
        · have hqb : zbt S q = true := by
            cases hb2 : zbt S q
            · rw [hb2] at hWq; simp at hWq; omega
            · rfl
          refine z_aload_n (pc := 65) C dX3_pairFrom_65 rfl 0 rfl ?_
          refine z_aload_n (pc := 66) C dX3_pairFrom_66 rfl 1 rfl ?_
          refine z_iload (pc := 67) C dX3_pairFrom_67 4 rfl ?_
          refine z_iload (pc := 69) C dX3_pairFrom_69 5 rfl ?_
          refine z_iload_n (pc := 71) C dX3_pairFrom_71 rfl 2 rfl ?_
          refine z_iload (pc := 72) C dX3_pairFrom_72 3 rfl ?_
          refine z_Vv (pc := 74) C (c_couple_open l G f ihf τ o n y w K R V E S x A t (zpi (zpp R n f) R S x A t q (if zodd S then zpp R n f (S - 2 ^ x) (zup A x (-1)) t b else b)) hL hl hr hn ho hS hxn (by omega) hx0 hxb (by omega) hf6 hA (hW.keep h3) h2 q ⟨by omega, by omega⟩ hqb mb hmb) ml_X3_58 yw_X3_couple dX3_pairFrom_74 (by first | rfl | assumption) (by omega) rfl rfl rfl (Nat.le_of_ble_eq_true rfl) ⟨by omega, by decide⟩ (fun t74 q74 => ?_)
          obtain ⟨u74, w74, f74⟩ := q74
          refine z_iinc (pc := 77) (lv' := [(6, _), (0, _), (1, _), (3, _), (4, _), (5, _)]) C dX3_pairFrom_77 5 rfl (by decide) rfl ?_
          refine z_goto (pc := 80) (tgt := 42) C dX3_pairFrom_80 (by decide) ?_
          refine z_sub C [1, 2, 3, 4, 5, 0] rfl ?_
          exact ih x (q + 1) _ (by omega) (by first | exact ⟨⟨hz, hxl, hxn, hxb, hx0⟩, by omega, by omega, by rw [zpi, if_pos ⟨h1, hqb⟩]; exact u74, fun i hi => (w74 i hi).trans (h3 i hi), h4.tr f74⟩ | exact ⟨⟨hz, hxl, hxn, hxb, hx0⟩, by omega, by omega, by rw [zpi, if_neg (fun z => by rw [z.2] at hWq; simp at hWq; omega)]; exact h2, h3, h4⟩)
  refine z_aload_n (pc := 0) C dX3_pairFrom_0 rfl 0 rfl ?_
  refine z_aload_n (pc := 1) C dX3_pairFrom_1 rfl 1 rfl ?_
  refine z_iload_n (pc := 2) C dX3_pairFrom_2 rfl 2 rfl ?_
  refine z_Vi (pc := 3) C (c_X3_firstFree l G _ o n y w K R V E S fr A _ hL h hn rfl hS hf h0 hA hW) ml_X3_43 yw_X3_firstFree dX3_pairFrom_3 (by first | rfl | assumption) (by omega) rfl rfl rfl (Nat.le_of_ble_eq_true rfl) ⟨by omega, by decide⟩ (fun r3 t3 h3 q3 => ?_)
  obtain ⟨rfl, rfl⟩ := q3
  obtain ⟨x, hx, hx2⟩ : ∃ x : Nat, (if S = 0 then (n : Int) else (zlow S : Int)) = x ∧ ((S = 0 ∧ x = n) ∨ (S ≠ 0 ∧ x = zlow S ∧ x < n ∧ zbt S x = true ∧ ∀ j, j < x → zbt S j = false)) := by
    by_cases hz : S = 0
    · exact ⟨n, if_pos hz, Or.inl ⟨hz, rfl⟩⟩
    · obtain ⟨z1, z2, z3⟩ := zlow_bt S hS2 hz
      exact ⟨zlow S, if_neg hz, Or.inr ⟨hz, rfl, zbt_lt n hn S hS _ z1 z2, z2, z3⟩⟩
  rw [hx]
  refine z_istore (pc := 6) (lv' := [(5, _), (0, _), (1, _), (2, _), (3, _), (4, _)]) C dX3_pairFrom_6 (by decide) rfl ?_
  refine z_iload (pc := 8) C dX3_pairFrom_8 0 rfl ?_
  refine z_aload_n (pc := 10) C dX3_pairFrom_10 rfl 2 rfl ?_
  refine z_getI (pc := 11) C fl_X3_30 dX3_pairFrom_11 (by first | rfl | assumption) (by omega) (fun g11 => ?_)
  refine z_icmp_lt (pc := 14) (tgt := 23) C dX3_pairFrom_14 (by decide) ⟨by omega, by omega⟩ (fun c14 => ?_) (fun c14 => ?_)
  · obtain ⟨hz, hxl, hxn, hxb, hx0⟩ := hx2.resolve_left (by omega)
    have hfx : fr ≤ x := Nat.le_of_not_lt (fun q => by have := h0 x q; rw [hxb] at this; cases this)
    refine z_iload (pc := 23) C dX3_pairFrom_23 5 rfl ?_
    refine z_if_eq (pc := 25) (tgt := 36) C dX3_pairFrom_25 (by decide) (by omega) (fun c25 => ?_) (fun c25 => ?_)
    · refine z_iload (pc := 36) C dX3_pairFrom_36 0 rfl ?_
      refine z_iconst (pc := 38) C dX3_pairFrom_38 ?_
      refine z_iadd (pc := 39) C dX3_pairFrom_39 ?_
      refine z_istore (pc := 40) (lv' := [(6, _), (5, _), (0, _), (1, _), (2, _), (3, _), (4, _)]) C dX3_pairFrom_40 (by decide) rfl ?_
      refine z_sub C [2, 3, 5, 6, 1, 0] rfl ?_
      exact L42 _ x (x + 1) _ (Nat.lt_succ_self _) (by first | exact ⟨⟨hz, hxl, hxn, hxb, hx0⟩, by omega, by omega, by rw [zpi_le (by omega), if_pos hod]; exact u33, w33, f33⟩ | exact ⟨⟨hz, hxl, hxn, hxb, hx0⟩, by omega, by omega, by rw [zpi_le (by omega), if_neg (fun q => by rw [q] at hmb; simp at hmb; omega)]; exact hb, fun _ _ => rfl, zFr.rf⟩)
    · have hod : zodd S = true := by
        cases hb2 : zodd S
        · rw [hb2] at hmb; simp at hmb; omega
        · rfl
      refine z_aload_n (pc := 28) C dX3_pairFrom_28 rfl 1 rfl ?_
      refine z_aload_n (pc := 29) C dX3_pairFrom_29 rfl 2 rfl ?_
      refine z_iload (pc := 30) C dX3_pairFrom_30 0 rfl ?_
      refine z_iload_n (pc := 32) C dX3_pairFrom_32 rfl 4 rfl ?_
      refine z_Vv (pc := 33) C (c_leave_open l G f ihf _ o n y w K R V E S x A t b hL h hr hn ho hS hxn (by omega) hx0 hxb (by omega) hf6 hA hW hb hod) ml_X3_50 yw_X3_leave dX3_pairFrom_33 (by first | rfl | assumption) (by omega) rfl rfl rfl (Nat.le_of_ble_eq_true rfl) ⟨by omega, by decide⟩ (fun t33 q33 => ?_)
      obtain ⟨u33, w33, f33⟩ := q33
      refine z_iload (pc := 36) C dX3_pairFrom_36 0 rfl ?_
      refine z_iconst (pc := 38) C dX3_pairFrom_38 ?_
      refine z_iadd (pc := 39) C dX3_pairFrom_39 ?_
      refine z_istore (pc := 40) (lv' := [(6, _), (5, _), (0, _), (1, _), (2, _), (3, _), (4, _)]) C dX3_pairFrom_40 (by decide) rfl ?_
      refine z_sub C [2, 3, 5, 6, 1, 0] rfl ?_
      exact L42 _ x (x + 1) _ (Nat.lt_succ_self _) (by first | exact ⟨⟨hz, hxl, hxn, hxb, hx0⟩, by omega, by omega, by rw [zpi_le (by omega), if_pos hod]; exact u33, w33, f33⟩ | exact ⟨⟨hz, hxl, hxn, hxb, hx0⟩, by omega, by omega, by rw [zpi_le (by omega), if_neg (fun q => by rw [q] at hmb; simp at hmb; omega)]; exact hb, fun _ _ => rfl, zFr.rf⟩)
  · obtain ⟨hz, hxn⟩ : S = 0 ∧ x = n := by
      rcases hx2 with q | q
      · exact q
      · omega
    refine z_aload_n (pc := 17) C dX3_pairFrom_17 rfl 1 rfl ?_
    refine z_iload_n (pc := 18) C dX3_pairFrom_18 rfl 4 rfl ?_
    refine z_Vv (pc := 19) C (c_X3_weigh l G _ t A b (by omega) (fun i hi => by rw [hW i hi, hz, zbt_z]; rfl) hb) ml_X3_47 yw_X3_weigh dX3_pairFrom_19 (by first | rfl | assumption) (by omega) rfl rfl rfl (Nat.le_of_ble_eq_true rfl) ⟨by omega, by decide⟩ (fun t19 q19 => ?_)
    obtain ⟨u19, w19, f19⟩ := q19
    refine z_vret (pc := 22) C dX3_pairFrom_22 ?_
    exact ⟨rfl, by rw [zpp, if_pos hz]; exact u19, w19, f19⟩
theorem c_pair (l : Launch) (G : zGt) : ∀ f, zPair l G f
  | 0 => c_pair_0 l G
  | f + 1 => c_pair_s l G f (c_pair l G f)
set_option maxRecDepth 100000 in
theorem zfull : ∀ n, n ≤ 6 → (2 ^ n - 1 < 2 ^ n) ∧ (∀ h, h < 6 → zbt (2 ^ n - 1) h = decide (h < n)) ∧ zodd (2 ^ n - 1) = decide (n % 2 = 1) := by decide +kernel
set_option maxHeartbeats 4000000 in
set_option maxRecDepth 100000 in
theorem c_X3_search (l : Launch) (G : zGt) (σ : zMem) (o n : Nat) (y w : Int) (K R V E : Nat → Int) (hL : zLane o) (h : zLa σ o n y w K R V E) (hr : zLr K R V E) (hn : n ≤ 6) (ho : o + 9 ≤ 101) : zN l G yX3_search cX3_search 3 (none) 16 [.ref (zB G + 101), .ref (zB G + o)] σ (zPv (fun τ => zBt τ (zpp R n 6 (2 ^ n - 1) (fun _ => -1) 0 (121, fun h => σ 105 h)) ∧ zFr 101 106 σ τ)) := by
  obtain ⟨k0, b1, b3, b5, b7, k8⟩ := id hL
  have s4 := h.1
  have b102 : zRow 102 6 := by decide
  have b104 : zRow 104 6 := by decide
  obtain ⟨z1, z2, z3⟩ := zfull n hn
  refine zM.of (lv0 := [(0, _), (1, _)]) (by decide) (Nat.le_of_ble_eq_true rfl) rfl (fun X C => ?_)
  have L16 : ∀ (fuel : Nat) (i : Nat) (τ : zMem), n - i < fuel → (i ≤ n ∧ (∀ h, h < 6 → τ 103 h = if h < i then -2 else -1) ∧ τ 101 2 = 121 ∧ (∀ h, h < 6 → τ 105 h = σ 105 h) ∧ zFr 101 106 σ τ) → zg G X true 3 129 0 0 16 [(0, .ref (zB G + 101)), (1, .ref (zB G + o)), (2, .int (zI (i : Int)))] [] τ := by
    intro fuel
    induction fuel with
    | zero => intro i τ hm; exact absurd hm (Nat.not_lt_zero _)
    | succ fuel ih =>
      intro i τ hms hinv
      obtain ⟨h1, h2, h3, h4, h5⟩ := hinv
      have hl := h.fr h5 (by omega)
      have s42 := hl.1
      refine z_iload_n (pc := 16) C dX3_search_16 rfl 2 rfl ?_
      refine z_aload_n (pc := 17) C dX3_search_17 rfl 1 rfl ?_
      refine z_getI (pc := 18) C fl_X3_30 dX3_search_18 (by first | rfl | assumption) (by omega) (fun g18 => ?_)
      refine z_icmp_ge (pc := 21) (tgt := 40) C dX3_search_21 (by decide) ⟨by omega, by omega⟩ (fun c21 => ?_) (fun c21 => ?_)
      · have hW2 : zWi τ (2 ^ n - 1) (fun _ => -1) := fun h hh => by rw [h2 h hh, z2 h hh]; by_cases e : h < n; (rw [if_pos (by omega), if_pos (by simp [e])]); rw [if_neg (by omega), if_neg (by simp [e])]
        have hb2 : zBt τ (121, fun h => σ 105 h) := ⟨h3, h4⟩
        refine z_aload_n (pc := 40) C dX3_search_40 rfl 0 rfl ?_
        refine z_aload_n (pc := 41) C dX3_search_41 rfl 1 rfl ?_
        refine z_iconst (pc := 42) C dX3_search_42 ?_
        refine z_iconst (pc := 43) C dX3_search_43 ?_
        refine z_aload_n (pc := 44) C dX3_search_44 rfl 1 rfl ?_
        refine z_getI (pc := 45) C fl_X3_30 dX3_search_45 (by first | rfl | assumption) (by omega) (fun g45 => ?_)
        refine z_iconst (pc := 48) C dX3_search_48 ?_
        refine z_irem (pc := 49) C dX3_search_49 ⟨⟨by omega, by omega⟩, by omega, by omega⟩ ?_
        refine z_iconst (pc := 50) C dX3_search_50 ?_
        refine z_icmp_ne (pc := 51) (tgt := 58) C dX3_search_51 (by decide) ⟨by omega, by omega⟩ (fun c51 => ?_) (fun c51 => ?_)
        · refine z_iconst (pc := 58) C dX3_search_58 ?_
          refine z_Vv (pc := 59) C (c_pair l G 6 τ o n y w K R V E (2 ^ n - 1) 0 (fun _ => -1) 0 _ (121, fun h => σ 105 h) hL hl hr hn (by omega) z1 (by omega) (by omega) (fun j hj => by omega) (by omega) (by omega) (fun _ _ => by omega) (by rw [z3]; first | rw [decide_eq_true (by omega : n % 2 = 1)]; rfl | rw [decide_eq_false (by omega : ¬ n % 2 = 1)]; rfl) hW2 hb2) ml_X3_39 yw_X3_pairFrom dX3_search_59 (by first | rfl | assumption) (by omega) rfl rfl rfl (Nat.le_of_ble_eq_true rfl) ⟨by omega, by decide⟩ (fun t59 q59 => ?_)
          obtain ⟨u59, w59, f59⟩ := q59
          refine z_vret (pc := 62) C dX3_search_62 ?_
          exact ⟨rfl, u59, h5.tr f59⟩
        · refine z_iconst (pc := 54) C dX3_search_54 ?_
          refine z_goto (pc := 55) (tgt := 59) C dX3_search_55 (by decide) ?_
          refine z_Vv (pc := 59) C (c_pair l G 6 τ o n y w K R V E (2 ^ n - 1) 0 (fun _ => -1) 0 _ (121, fun h => σ 105 h) hL hl hr hn (by omega) z1 (by omega) (by omega) (fun j hj => by omega) (by omega) (by omega) (fun _ _ => by omega) (by rw [z3]; first | rw [decide_eq_true (by omega : n % 2 = 1)]; rfl | rw [decide_eq_false (by omega : ¬ n % 2 = 1)]; rfl) hW2 hb2) ml_X3_39 yw_X3_pairFrom dX3_search_59 (by first | rfl | assumption) (by omega) rfl rfl rfl (Nat.le_of_ble_eq_true rfl) ⟨by omega, by decide⟩ (fun t59 q59 => ?_)
          obtain ⟨u59, w59, f59⟩ := q59
          refine z_vret (pc := 62) C dX3_search_62 ?_
          exact ⟨rfl, u59, h5.tr f59⟩
      · refine z_aload_n (pc := 24) C dX3_search_24 rfl 0 rfl ?_
        refine z_getR (pc := 25) C (102) fl_X3_14 dX3_search_25 (by first | rfl | assumption) (by omega) rfl (Or.inl rfl) ?_
        refine z_iload_n (pc := 28) C dX3_search_28 rfl 2 rfl ?_
        refine z_bipush (pc := 29) C dX3_search_29 (by decide +kernel) ?_
        refine z_Vv (pc := 31) C (c_X6_put l G _ _ _ (i) _ _ (by first | assumption | omega | decide) (rfl) (by first | assumption | omega | decide) (by first | assumption | omega | decide)) ml_X3_35 yw_X6_put dX3_search_31 (by first | rfl | assumption) (by omega) rfl rfl rfl (Nat.le_of_ble_eq_true rfl) ⟨by omega, by decide⟩ (fun t31 q31 => ?_)
        obtain rfl := q31
        refine z_iinc (pc := 34) (lv' := [(2, _), (0, _), (1, _)]) C dX3_search_34 2 rfl (by decide) rfl ?_
        refine z_goto (pc := 37) (tgt := 16) C dX3_search_37 (by decide) ?_
        refine z_sub C [1, 2, 0] rfl ?_
        exact ih (i + 1) _ (by omega) ⟨by omega, fun h hh => by by_cases e : h = i; (rw [e, if_pos (by omega)]; exact zU_at); exact (zU_k e).trans ((h2 h hh).trans (by by_cases e2 : h < i; (rw [if_pos e2, if_pos (by omega)]); rw [if_neg e2, if_neg (by omega)])), (zU_o (by omega)).trans h3, fun h hh => (zU_o (by omega)).trans (h4 h hh), h5.put (by omega) (by omega)⟩
  refine z_aload_n (pc := 0) C dX3_search_0 rfl 0 rfl ?_
  refine z_bipush (pc := 1) C dX3_search_1 (by decide +kernel) ?_
  refine z_putIe (pc := 3) C fl_X3_23 dX3_search_3 (by first | rfl | assumption) (by omega) (by omega) (fun m3 em3 => ?_)
  refine z_aload_n (pc := 6) C dX3_search_6 rfl 0 rfl ?_
  refine z_getR (pc := 7) C (102) fl_X3_14 dX3_search_7 (by first | rfl | assumption) (by omega) rfl (Or.inl rfl) ?_
  refine z_iconst (pc := 10) C dX3_search_10 ?_
  refine z_Vv (pc := 11) C (c_X6_fill l G _ _ _ _ (by first | assumption | omega | decide) (by first | assumption | omega | decide)) ml_X3_27 yw_X6_fill dX3_search_11 (by first | rfl | assumption) (by omega) rfl rfl rfl (Nat.le_of_ble_eq_true rfl) ⟨by omega, by decide⟩ (fun t11 q11 => ?_)
  refine z_iconst (pc := 14) C dX3_search_14 ?_
  refine z_istore_n (pc := 15) (lv' := [(2, _), (0, _), (1, _)]) C dX3_search_15 rfl (by decide) rfl ?_
  refine z_sub C [1, 2, 0] rfl ?_
  exact L16 _ 0 _ (Nat.lt_succ_self _) ⟨by omega, fun h hh => by rw [q11, if_pos ⟨rfl, hh⟩]; rfl, by rw [q11, if_neg (by omega), em3]; exact zU_at, fun h hh => by rw [q11, if_neg (by omega), em3, zU_o (by omega)], fun a k ha => by rw [q11, if_neg (by omega), em3, zU_o (by omega)]⟩
